theorem dX10_meets_121 : decode cX10_meets 121 = .ok (.if_icmp .ne 7, 3) := by decide +kernel
theorem dX10_meets_124 : decode cX10_meets 124 = .ok (.iconst 1, 1) := by decide +kernel
theorem dX10_meets_125 : decode cX10_meets 125 = .ok (.goto 4, 3) := by decide +kernel
theorem dX10_meets_128 : decode cX10_meets 128 = .ok (.iconst 0, 1) := by decide +kernel
theorem dX10_meets_129 : decode cX10_meets 129 = .ok (.istore_n 2, 1) := by decide +kernel
theorem dX10_meets_130 : decode cX10_meets 130 = .ok (.goto 18, 3) := by decide +kernel
theorem dX10_meets_133 : decode cX10_meets 133 = .ok (.aload_n 0, 1) := by decide +kernel
theorem dX10_meets_134 : decode cX10_meets 134 = .ok (.getfield 141, 3) := by decide +kernel
theorem dX10_meets_137 : decode cX10_meets 137 = .ok (.iload 4, 2) := by decide +kernel
theorem dX10_meets_139 : decode cX10_meets 139 = .ok (.if_icmp .ne 7, 3) := by decide +kernel
theorem dX10_meets_142 : decode cX10_meets 142 = .ok (.iconst 1, 1) := by decide +kernel
theorem dX10_meets_143 : decode cX10_meets 143 = .ok (.goto 4, 3) := by decide +kernel
theorem dX10_meets_146 : decode cX10_meets 146 = .ok (.iconst 0, 1) := by decide +kernel
theorem dX10_meets_147 : decode cX10_meets 147 = .ok (.istore_n 2, 1) := by decide +kernel
theorem dX10_meets_148 : decode cX10_meets 148 = .ok (.iinc 3 1, 3) := by decide +kernel
theorem dX10_meets_151 : decode cX10_meets 151 = .ok (.goto (-136), 3) := by decide +kernel
theorem dX10_meets_154 : decode cX10_meets 154 = .ok (.iload_n 2, 1) := by decide +kernel
theorem dX10_meets_155 : decode cX10_meets 155 = .ok (.ireturn, 1) := by decide +kernel
theorem dX10_packed_0 : decode cX10_packed 0 = .ok (.lconst 0, 1) := by decide +kernel
theorem dX10_packed_1 : decode cX10_packed 1 = .ok (.lstore_n 1, 1) := by decide +kernel
theorem dX10_packed_2 : decode cX10_packed 2 = .ok (.aload_n 0, 1) := by decide +kernel
theorem dX10_packed_3 : decode cX10_packed 3 = .ok (.getfield 115, 3) := by decide +kernel
theorem dX10_packed_6 : decode cX10_packed 6 = .ok (.iconst 1, 1) := by decide +kernel
theorem dX10_packed_7 : decode cX10_packed 7 = .ok (.isub, 1) := by decide +kernel
theorem dX10_packed_8 : decode cX10_packed 8 = .ok (.istore_n 3, 1) := by decide +kernel
theorem dX10_packed_9 : decode cX10_packed 9 = .ok (.iload_n 3, 1) := by decide +kernel
theorem dX10_packed_10 : decode cX10_packed 10 = .ok (.ifCond .lt 21, 3) := by decide +kernel
theorem dX10_packed_13 : decode cX10_packed 13 = .ok (.lload_n 1, 1) := by decide +kernel
theorem dX10_packed_14 : decode cX10_packed 14 = .ok (.iconst 4, 1) := by decide +kernel
theorem dX10_packed_15 : decode cX10_packed 15 = .ok (.lshl, 1) := by decide +kernel
theorem dX10_packed_16 : decode cX10_packed 16 = .ok (.aload_n 0, 1) := by decide +kernel
theorem dX10_packed_17 : decode cX10_packed 17 = .ok (.getfield 68, 3) := by decide +kernel
theorem dX10_packed_20 : decode cX10_packed 20 = .ok (.iload_n 3, 1) := by decide +kernel
theorem dX10_packed_21 : decode cX10_packed 21 = .ok (.iaload, 1) := by decide +kernel
theorem dX10_packed_22 : decode cX10_packed 22 = .ok (.i2l, 1) := by decide +kernel
theorem dX10_packed_23 : decode cX10_packed 23 = .ok (.lor, 1) := by decide +kernel
theorem dX10_packed_24 : decode cX10_packed 24 = .ok (.lstore_n 1, 1) := by decide +kernel
theorem dX10_packed_25 : decode cX10_packed 25 = .ok (.iinc 3 (-1), 3) := by decide +kernel
theorem dX10_packed_28 : decode cX10_packed 28 = .ok (.goto (-19), 3) := by decide +kernel
theorem dX10_packed_31 : decode cX10_packed 31 = .ok (.lload_n 1, 1) := by decide +kernel
theorem dX10_packed_32 : decode cX10_packed 32 = .ok (.lreturn, 1) := by decide +kernel
theorem dX10_unpack_0 : decode cX10_unpack 0 = .ok (.iconst 0, 1) := by decide +kernel
theorem dX10_unpack_1 : decode cX10_unpack 1 = .ok (.istore_n 3, 1) := by decide +kernel
theorem dX10_unpack_2 : decode cX10_unpack 2 = .ok (.iload_n 3, 1) := by decide +kernel
theorem dX10_unpack_3 : decode cX10_unpack 3 = .ok (.aload_n 0, 1) := by decide +kernel
theorem dX10_unpack_4 : decode cX10_unpack 4 = .ok (.getfield 115, 3) := by decide +kernel
theorem dX10_unpack_7 : decode cX10_unpack 7 = .ok (.if_icmp .ge 24, 3) := by decide +kernel
theorem dX10_unpack_10 : decode cX10_unpack 10 = .ok (.aload_n 0, 1) := by decide +kernel
theorem dX10_unpack_11 : decode cX10_unpack 11 = .ok (.getfield 68, 3) := by decide +kernel
theorem dX10_unpack_14 : decode cX10_unpack 14 = .ok (.iload_n 3, 1) := by decide +kernel
theorem dX10_unpack_15 : decode cX10_unpack 15 = .ok (.lload_n 1, 1) := by decide +kernel
theorem dX10_unpack_16 : decode cX10_unpack 16 = .ok (.iconst 4, 1) := by decide +kernel
theorem dX10_unpack_17 : decode cX10_unpack 17 = .ok (.iload_n 3, 1) := by decide +kernel
theorem dX10_unpack_18 : decode cX10_unpack 18 = .ok (.imul, 1) := by decide +kernel
theorem dX10_unpack_19 : decode cX10_unpack 19 = .ok (.lshr, 1) := by decide +kernel
theorem dX10_unpack_20 : decode cX10_unpack 20 = .ok (.l2i, 1) := by decide +kernel
theorem dX10_unpack_21 : decode cX10_unpack 21 = .ok (.bipush 15, 2) := by decide +kernel
theorem dX10_unpack_23 : decode cX10_unpack 23 = .ok (.iand, 1) := by decide +kernel
theorem dX10_unpack_24 : decode cX10_unpack 24 = .ok (.iastore, 1) := by decide +kernel
theorem dX10_unpack_25 : decode cX10_unpack 25 = .ok (.iinc 3 1, 3) := by decide +kernel
theorem dX10_unpack_28 : decode cX10_unpack 28 = .ok (.goto (-26), 3) := by decide +kernel
theorem dX10_unpack_31 : decode cX10_unpack 31 = .ok (.return_, 1) := by decide +kernel
theorem dX10_placeOf_0 : decode cX10_placeOf 0 = .ok (.lload_n 1, 1) := by decide +kernel
theorem dX10_placeOf_1 : decode cX10_placeOf 1 = .ok (.aload_n 0, 1) := by decide +kernel
theorem dX10_placeOf_2 : decode cX10_placeOf 2 = .ok (.getfield 169, 3) := by decide +kernel
theorem dX10_placeOf_5 : decode cX10_placeOf 5 = .ok (.land, 1) := by decide +kernel
theorem dX10_placeOf_6 : decode cX10_placeOf 6 = .ok (.ldc2_w 173, 3) := by decide +kernel
theorem dX10_placeOf_9 : decode cX10_placeOf 9 = .ok (.lmul, 1) := by decide +kernel
theorem dX10_placeOf_10 : decode cX10_placeOf 10 = .ok (.iload_n 3, 1) := by decide +kernel
theorem dX10_placeOf_11 : decode cX10_placeOf 11 = .ok (.i2l, 1) := by decide +kernel
theorem dX10_placeOf_12 : decode cX10_placeOf 12 = .ok (.ladd, 1) := by decide +kernel
theorem dX10_placeOf_13 : decode cX10_placeOf 13 = .ok (.ldc2_w 175, 3) := by decide +kernel
theorem dX10_placeOf_16 : decode cX10_placeOf 16 = .ok (.lmul, 1) := by decide +kernel
theorem dX10_placeOf_17 : decode cX10_placeOf 17 = .ok (.lstore 4, 2) := by decide +kernel
theorem dX10_placeOf_19 : decode cX10_placeOf 19 = .ok (.lload 4, 2) := by decide +kernel
theorem dX10_placeOf_21 : decode cX10_placeOf 21 = .ok (.bipush 52, 2) := by decide +kernel
theorem dX10_placeOf_23 : decode cX10_placeOf 23 = .ok (.lushr, 1) := by decide +kernel
theorem dX10_placeOf_24 : decode cX10_placeOf 24 = .ok (.l2i, 1) := by decide +kernel
theorem dX10_placeOf_25 : decode cX10_placeOf 25 = .ok (.istore 6, 2) := by decide +kernel
theorem dX10_placeOf_27 : decode cX10_placeOf 27 = .ok (.aload_n 0, 1) := by decide +kernel
theorem dX10_placeOf_28 : decode cX10_placeOf 28 = .ok (.getfield 102, 3) := by decide +kernel
theorem dX10_placeOf_31 : decode cX10_placeOf 31 = .ok (.iload 6, 2) := by decide +kernel
theorem dX10_placeOf_33 : decode cX10_placeOf 33 = .ok (.iaload, 1) := by decide +kernel
theorem dX10_placeOf_34 : decode cX10_placeOf 34 = .ok (.iconst (-1), 1) := by decide +kernel
theorem dX10_placeOf_35 : decode cX10_placeOf 35 = .ok (.if_icmp .eq 59, 3) := by decide +kernel
theorem dX10_placeOf_38 : decode cX10_placeOf 38 = .ok (.aload_n 0, 1) := by decide +kernel
theorem dX10_placeOf_39 : decode cX10_placeOf 39 = .ok (.getfield 74, 3) := by decide +kernel
theorem dX10_placeOf_42 : decode cX10_placeOf 42 = .ok (.aload_n 0, 1) := by decide +kernel
theorem dX10_placeOf_43 : decode cX10_placeOf 43 = .ok (.getfield 102, 3) := by decide +kernel
theorem dX10_placeOf_46 : decode cX10_placeOf 46 = .ok (.iload 6, 2) := by decide +kernel
theorem dX10_placeOf_48 : decode cX10_placeOf 48 = .ok (.iaload, 1) := by decide +kernel
theorem dX10_placeOf_49 : decode cX10_placeOf 49 = .ok (.laload, 1) := by decide +kernel
theorem dX10_placeOf_50 : decode cX10_placeOf 50 = .ok (.aload_n 0, 1) := by decide +kernel
theorem dX10_placeOf_51 : decode cX10_placeOf 51 = .ok (.getfield 169, 3) := by decide +kernel
theorem dX10_placeOf_54 : decode cX10_placeOf 54 = .ok (.land, 1) := by decide +kernel
theorem dX10_placeOf_55 : decode cX10_placeOf 55 = .ok (.lload_n 1, 1) := by decide +kernel
theorem dX10_placeOf_56 : decode cX10_placeOf 56 = .ok (.aload_n 0, 1) := by decide +kernel
theorem dX10_placeOf_57 : decode cX10_placeOf 57 = .ok (.getfield 169, 3) := by decide +kernel
theorem dX10_placeOf_60 : decode cX10_placeOf 60 = .ok (.land, 1) := by decide +kernel
theorem dX10_placeOf_61 : decode cX10_placeOf 61 = .ok (.lcmp, 1) := by decide +kernel
theorem dX10_placeOf_62 : decode cX10_placeOf 62 = .ok (.ifCond .ne 19, 3) := by decide +kernel
theorem dX10_placeOf_65 : decode cX10_placeOf 65 = .ok (.aload_n 0, 1) := by decide +kernel
theorem dX10_placeOf_66 : decode cX10_placeOf 66 = .ok (.getfield 78, 3) := by decide +kernel
theorem dX10_placeOf_69 : decode cX10_placeOf 69 = .ok (.aload_n 0, 1) := by decide +kernel
theorem dX10_placeOf_70 : decode cX10_placeOf 70 = .ok (.getfield 102, 3) := by decide +kernel
theorem dX10_placeOf_73 : decode cX10_placeOf 73 = .ok (.iload 6, 2) := by decide +kernel
theorem dX10_placeOf_75 : decode cX10_placeOf 75 = .ok (.iaload, 1) := by decide +kernel
theorem dX10_placeOf_76 : decode cX10_placeOf 76 = .ok (.iaload, 1) := by decide +kernel
theorem dX10_placeOf_77 : decode cX10_placeOf 77 = .ok (.iload_n 3, 1) := by decide +kernel
theorem dX10_placeOf_78 : decode cX10_placeOf 78 = .ok (.if_icmp .eq 16, 3) := by decide +kernel
theorem dX10_placeOf_81 : decode cX10_placeOf 81 = .ok (.iload 6, 2) := by decide +kernel
theorem dX10_placeOf_83 : decode cX10_placeOf 83 = .ok (.iconst 1, 1) := by decide +kernel
theorem dX10_placeOf_84 : decode cX10_placeOf 84 = .ok (.iadd, 1) := by decide +kernel
theorem dX10_placeOf_85 : decode cX10_placeOf 85 = .ok (.sipush 4096, 3) := by decide +kernel
theorem dX10_placeOf_88 : decode cX10_placeOf 88 = .ok (.irem, 1) := by decide +kernel
theorem dX10_placeOf_89 : decode cX10_placeOf 89 = .ok (.istore 6, 2) := by decide +kernel
theorem dX10_placeOf_91 : decode cX10_placeOf 91 = .ok (.goto (-64), 3) := by decide +kernel
theorem dX10_placeOf_94 : decode cX10_placeOf 94 = .ok (.iload 6, 2) := by decide +kernel
theorem dX10_placeOf_96 : decode cX10_placeOf 96 = .ok (.ireturn, 1) := by decide +kernel
theorem dX10_addNode_0 : decode cX10_addNode 0 = .ok (.aload_n 0, 1) := by decide +kernel
theorem dX10_addNode_1 : decode cX10_addNode 1 = .ok (.invokevirtual 177, 3) := by decide +kernel
theorem dX10_addNode_4 : decode cX10_addNode 4 = .ok (.lstore_n 3, 1) := by decide +kernel
theorem dX10_addNode_5 : decode cX10_addNode 5 = .ok (.aload_n 0, 1) := by decide +kernel
theorem dX10_addNode_6 : decode cX10_addNode 6 = .ok (.lload_n 3, 1) := by decide +kernel
theorem dX10_addNode_7 : decode cX10_addNode 7 = .ok (.aload_n 0, 1) := by decide +kernel
theorem dX10_addNode_8 : decode cX10_addNode 8 = .ok (.getfield 141, 3) := by decide +kernel
theorem dX10_addNode_11 : decode cX10_addNode 11 = .ok (.invokevirtual 181, 3) := by decide +kernel
theorem dX10_addNode_14 : decode cX10_addNode 14 = .ok (.istore 5, 2) := by decide +kernel
theorem dX10_addNode_16 : decode cX10_addNode 16 = .ok (.aload_n 0, 1) := by decide +kernel
theorem dX10_addNode_17 : decode cX10_addNode 17 = .ok (.getfield 74, 3) := by decide +kernel
theorem dX10_addNode_20 : decode cX10_addNode 20 = .ok (.aload_n 0, 1) := by decide +kernel
theorem dX10_addNode_21 : decode cX10_addNode 21 = .ok (.getfield 185, 3) := by decide +kernel
theorem dX10_addNode_24 : decode cX10_addNode 24 = .ok (.lload_n 3, 1) := by decide +kernel
theorem dX10_addNode_25 : decode cX10_addNode 25 = .ok (.lastore, 1) := by decide +kernel
theorem dX10_addNode_26 : decode cX10_addNode 26 = .ok (.aload_n 0, 1) := by decide +kernel
theorem dX10_addNode_27 : decode cX10_addNode 27 = .ok (.getfield 78, 3) := by decide +kernel
theorem dX10_addNode_30 : decode cX10_addNode 30 = .ok (.aload_n 0, 1) := by decide +kernel
theorem dX10_addNode_31 : decode cX10_addNode 31 = .ok (.getfield 185, 3) := by decide +kernel
theorem dX10_addNode_34 : decode cX10_addNode 34 = .ok (.aload_n 0, 1) := by decide +kernel
theorem dX10_addNode_35 : decode cX10_addNode 35 = .ok (.getfield 141, 3) := by decide +kernel
theorem dX10_addNode_38 : decode cX10_addNode 38 = .ok (.iastore, 1) := by decide +kernel
theorem dX10_addNode_39 : decode cX10_addNode 39 = .ok (.aload_n 0, 1) := by decide +kernel
theorem dX10_addNode_40 : decode cX10_addNode 40 = .ok (.getfield 81, 3) := by decide +kernel
theorem dX10_addNode_43 : decode cX10_addNode 43 = .ok (.aload_n 0, 1) := by decide +kernel
theorem dX10_addNode_44 : decode cX10_addNode 44 = .ok (.getfield 185, 3) := by decide +kernel
theorem dX10_addNode_47 : decode cX10_addNode 47 = .ok (.iload_n 1, 1) := by decide +kernel
theorem dX10_addNode_48 : decode cX10_addNode 48 = .ok (.iastore, 1) := by decide +kernel
theorem dX10_addNode_49 : decode cX10_addNode 49 = .ok (.aload_n 0, 1) := by decide +kernel
theorem dX10_addNode_50 : decode cX10_addNode 50 = .ok (.getfield 84, 3) := by decide +kernel
theorem dX10_addNode_53 : decode cX10_addNode 53 = .ok (.aload_n 0, 1) := by decide +kernel
theorem dX10_addNode_54 : decode cX10_addNode 54 = .ok (.getfield 185, 3) := by decide +kernel
theorem dX10_addNode_57 : decode cX10_addNode 57 = .ok (.iload_n 2, 1) := by decide +kernel
theorem dX10_addNode_58 : decode cX10_addNode 58 = .ok (.iastore, 1) := by decide +kernel
theorem dX10_addNode_59 : decode cX10_addNode 59 = .ok (.aload_n 0, 1) := by decide +kernel
theorem dX10_addNode_60 : decode cX10_addNode 60 = .ok (.getfield 87, 3) := by decide +kernel
theorem dX10_addNode_63 : decode cX10_addNode 63 = .ok (.aload_n 0, 1) := by decide +kernel
theorem dX10_addNode_64 : decode cX10_addNode 64 = .ok (.getfield 185, 3) := by decide +kernel
theorem dX10_addNode_67 : decode cX10_addNode 67 = .ok (.aload_n 0, 1) := by decide +kernel
theorem dX10_addNode_68 : decode cX10_addNode 68 = .ok (.invokevirtual 165, 3) := by decide +kernel
theorem dX10_addNode_71 : decode cX10_addNode 71 = .ok (.iastore, 1) := by decide +kernel
theorem dX10_addNode_72 : decode cX10_addNode 72 = .ok (.aload_n 0, 1) := by decide +kernel
theorem dX10_addNode_73 : decode cX10_addNode 73 = .ok (.getfield 90, 3) := by decide +kernel
theorem dX10_addNode_76 : decode cX10_addNode 76 = .ok (.aload_n 0, 1) := by decide +kernel
theorem dX10_addNode_77 : decode cX10_addNode 77 = .ok (.getfield 185, 3) := by decide +kernel
theorem dX10_addNode_80 : decode cX10_addNode 80 = .ok (.iload_n 1, 1) := by decide +kernel
theorem dX10_addNode_81 : decode cX10_addNode 81 = .ok (.ifCond .ge 7, 3) := by decide +kernel
theorem dX10_addNode_84 : decode cX10_addNode 84 = .ok (.iconst 0, 1) := by decide +kernel
theorem dX10_addNode_85 : decode cX10_addNode 85 = .ok (.goto 11, 3) := by decide +kernel
theorem dX10_addNode_88 : decode cX10_addNode 88 = .ok (.aload_n 0, 1) := by decide +kernel
theorem dX10_addNode_89 : decode cX10_addNode 89 = .ok (.getfield 90, 3) := by decide +kernel
theorem dX10_addNode_92 : decode cX10_addNode 92 = .ok (.iload_n 1, 1) := by decide +kernel
theorem dX10_addNode_93 : decode cX10_addNode 93 = .ok (.iaload, 1) := by decide +kernel
theorem dX10_addNode_94 : decode cX10_addNode 94 = .ok (.iconst 1, 1) := by decide +kernel
theorem dX10_addNode_95 : decode cX10_addNode 95 = .ok (.iadd, 1) := by decide +kernel
theorem dX10_addNode_96 : decode cX10_addNode 96 = .ok (.iastore, 1) := by decide +kernel
theorem dX10_addNode_97 : decode cX10_addNode 97 = .ok (.aload_n 0, 1) := by decide +kernel
theorem dX10_addNode_98 : decode cX10_addNode 98 = .ok (.getfield 93, 3) := by decide +kernel
theorem dX10_addNode_101 : decode cX10_addNode 101 = .ok (.aload_n 0, 1) := by decide +kernel
theorem dX10_addNode_102 : decode cX10_addNode 102 = .ok (.getfield 185, 3) := by decide +kernel
theorem dX10_addNode_105 : decode cX10_addNode 105 = .ok (.iconst 0, 1) := by decide +kernel
theorem dX10_addNode_106 : decode cX10_addNode 106 = .ok (.bastore, 1) := by decide +kernel
theorem dX10_addNode_107 : decode cX10_addNode 107 = .ok (.aload_n 0, 1) := by decide +kernel
theorem dX10_addNode_108 : decode cX10_addNode 108 = .ok (.getfield 96, 3) := by decide +kernel
theorem dX10_addNode_111 : decode cX10_addNode 111 = .ok (.aload_n 0, 1) := by decide +kernel
theorem dX10_addNode_112 : decode cX10_addNode 112 = .ok (.getfield 185, 3) := by decide +kernel
theorem dX10_addNode_115 : decode cX10_addNode 115 = .ok (.iconst 0, 1) := by decide +kernel
theorem dX10_addNode_116 : decode cX10_addNode 116 = .ok (.bastore, 1) := by decide +kernel
theorem dX10_addNode_117 : decode cX10_addNode 117 = .ok (.aload_n 0, 1) := by decide +kernel
theorem dX10_addNode_118 : decode cX10_addNode 118 = .ok (.getfield 102, 3) := by decide +kernel
theorem dX10_addNode_121 : decode cX10_addNode 121 = .ok (.iload 5, 2) := by decide +kernel
theorem dX10_addNode_123 : decode cX10_addNode 123 = .ok (.iaload, 1) := by decide +kernel
theorem dX10_addNode_124 : decode cX10_addNode 124 = .ok (.iconst (-1), 1) := by decide +kernel
theorem dX10_addNode_125 : decode cX10_addNode 125 = .ok (.if_icmp .ne 14, 3) := by decide +kernel
theorem dX10_addNode_128 : decode cX10_addNode 128 = .ok (.aload_n 0, 1) := by decide +kernel
theorem dX10_addNode_129 : decode cX10_addNode 129 = .ok (.getfield 102, 3) := by decide +kernel
theorem dX10_addNode_132 : decode cX10_addNode 132 = .ok (.iload 5, 2) := by decide +kernel
theorem dX10_addNode_134 : decode cX10_addNode 134 = .ok (.aload_n 0, 1) := by decide +kernel
theorem dX10_addNode_135 : decode cX10_addNode 135 = .ok (.getfield 185, 3) := by decide +kernel
theorem dX10_addNode_138 : decode cX10_addNode 138 = .ok (.iastore, 1) := by decide +kernel
theorem dX10_addNode_139 : decode cX10_addNode 139 = .ok (.aload_n 0, 1) := by decide +kernel
theorem dX10_addNode_140 : decode cX10_addNode 140 = .ok (.dup, 1) := by decide +kernel
theorem dX10_addNode_141 : decode cX10_addNode 141 = .ok (.getfield 185, 3) := by decide +kernel
theorem dX10_addNode_144 : decode cX10_addNode 144 = .ok (.iconst 1, 1) := by decide +kernel
theorem dX10_addNode_145 : decode cX10_addNode 145 = .ok (.iadd, 1) := by decide +kernel
theorem dX10_addNode_146 : decode cX10_addNode 146 = .ok (.putfield 185, 3) := by decide +kernel
theorem dX10_addNode_149 : decode cX10_addNode 149 = .ok (.return_, 1) := by decide +kernel
theorem dX10_nextNode_0 : decode cX10_nextNode 0 = .ok (.iconst (-1), 1) := by decide +kernel
theorem dX10_nextNode_1 : decode cX10_nextNode 1 = .ok (.istore_n 2, 1) := by decide +kernel
theorem dX10_nextNode_2 : decode cX10_nextNode 2 = .ok (.iconst 0, 1) := by decide +kernel
theorem dX10_nextNode_3 : decode cX10_nextNode 3 = .ok (.istore_n 3, 1) := by decide +kernel
theorem dX10_nextNode_4 : decode cX10_nextNode 4 = .ok (.iload_n 3, 1) := by decide +kernel
theorem dX10_nextNode_5 : decode cX10_nextNode 5 = .ok (.aload_n 0, 1) := by decide +kernel
theorem dX10_nextNode_6 : decode cX10_nextNode 6 = .ok (.getfield 185, 3) := by decide +kernel
theorem dX10_nextNode_9 : decode cX10_nextNode 9 = .ok (.if_icmp .ge 53, 3) := by decide +kernel
theorem dX10_nextNode_12 : decode cX10_nextNode 12 = .ok (.aload_n 0, 1) := by decide +kernel
theorem dX10_nextNode_13 : decode cX10_nextNode 13 = .ok (.getfield 93, 3) := by decide +kernel
theorem dX10_nextNode_16 : decode cX10_nextNode 16 = .ok (.iload_n 3, 1) := by decide +kernel
theorem dX10_nextNode_17 : decode cX10_nextNode 17 = .ok (.baload, 1) := by decide +kernel
theorem dX10_nextNode_18 : decode cX10_nextNode 18 = .ok (.ifCond .ne 38, 3) := by decide +kernel
theorem dX10_nextNode_21 : decode cX10_nextNode 21 = .ok (.aload_n 0, 1) := by decide +kernel
theorem dX10_nextNode_22 : decode cX10_nextNode 22 = .ok (.getfield 78, 3) := by decide +kernel
theorem dX10_nextNode_25 : decode cX10_nextNode 25 = .ok (.iload_n 3, 1) := by decide +kernel
theorem dX10_nextNode_26 : decode cX10_nextNode 26 = .ok (.iaload, 1) := by decide +kernel
theorem dX10_nextNode_27 : decode cX10_nextNode 27 = .ok (.ifCond .ne 29, 3) := by decide +kernel
theorem dX10_nextNode_30 : decode cX10_nextNode 30 = .ok (.iload_n 2, 1) := by decide +kernel
theorem dX10_nextNode_31 : decode cX10_nextNode 31 = .ok (.ifCond .lt 23, 3) := by decide +kernel
theorem dX10_nextNode_34 : decode cX10_nextNode 34 = .ok (.iload_n 1, 1) := by decide +kernel
theorem dX10_nextNode_35 : decode cX10_nextNode 35 = .ok (.iconst 1, 1) := by decide +kernel
theorem dX10_nextNode_36 : decode cX10_nextNode 36 = .ok (.if_icmp .ne 20, 3) := by decide +kernel
theorem dX10_nextNode_39 : decode cX10_nextNode 39 = .ok (.aload_n 0, 1) := by decide +kernel
theorem dX10_nextNode_40 : decode cX10_nextNode 40 = .ok (.getfield 87, 3) := by decide +kernel
theorem dX10_nextNode_43 : decode cX10_nextNode 43 = .ok (.iload_n 3, 1) := by decide +kernel
theorem dX10_nextNode_44 : decode cX10_nextNode 44 = .ok (.iaload, 1) := by decide +kernel
theorem dX10_nextNode_45 : decode cX10_nextNode 45 = .ok (.aload_n 0, 1) := by decide +kernel
theorem dX10_nextNode_46 : decode cX10_nextNode 46 = .ok (.getfield 87, 3) := by decide +kernel
theorem dX10_nextNode_49 : decode cX10_nextNode 49 = .ok (.iload_n 2, 1) := by decide +kernel
theorem dX10_nextNode_50 : decode cX10_nextNode 50 = .ok (.iaload, 1) := by decide +kernel
theorem dX10_nextNode_51 : decode cX10_nextNode 51 = .ok (.if_icmp .le 5, 3) := by decide +kernel
theorem dX10_nextNode_54 : decode cX10_nextNode 54 = .ok (.iload_n 3, 1) := by decide +kernel
theorem dX10_nextNode_55 : decode cX10_nextNode 55 = .ok (.istore_n 2, 1) := by decide +kernel
theorem dX10_nextNode_56 : decode cX10_nextNode 56 = .ok (.iinc 3 1, 3) := by decide +kernel
theorem dX10_nextNode_59 : decode cX10_nextNode 59 = .ok (.goto (-55), 3) := by decide +kernel
theorem dX10_nextNode_62 : decode cX10_nextNode 62 = .ok (.iload_n 2, 1) := by decide +kernel
theorem dX10_nextNode_63 : decode cX10_nextNode 63 = .ok (.ireturn, 1) := by decide +kernel
theorem dX10_beginSearch_0 : decode cX10_beginSearch 0 = .ok (.iconst 0, 1) := by decide +kernel
theorem dX10_beginSearch_1 : decode cX10_beginSearch 1 = .ok (.istore_n 1, 1) := by decide +kernel
theorem dX10_beginSearch_2 : decode cX10_beginSearch 2 = .ok (.iload_n 1, 1) := by decide +kernel
theorem dX10_beginSearch_3 : decode cX10_beginSearch 3 = .ok (.sipush 4096, 3) := by decide +kernel
theorem dX10_beginSearch_6 : decode cX10_beginSearch 6 = .ok (.if_icmp .ge 16, 3) := by decide +kernel
theorem dX10_beginSearch_9 : decode cX10_beginSearch 9 = .ok (.aload_n 0, 1) := by decide +kernel
theorem dX10_beginSearch_10 : decode cX10_beginSearch 10 = .ok (.getfield 102, 3) := by decide +kernel
theorem dX10_beginSearch_13 : decode cX10_beginSearch 13 = .ok (.iload_n 1, 1) := by decide +kernel
theorem dX10_beginSearch_14 : decode cX10_beginSearch 14 = .ok (.iconst (-1), 1) := by decide +kernel
theorem dX10_beginSearch_15 : decode cX10_beginSearch 15 = .ok (.iastore, 1) := by decide +kernel
theorem dX10_beginSearch_16 : decode cX10_beginSearch 16 = .ok (.iinc 1 1, 3) := by decide +kernel
theorem dX10_beginSearch_19 : decode cX10_beginSearch 19 = .ok (.goto (-17), 3) := by decide +kernel
theorem dX10_beginSearch_22 : decode cX10_beginSearch 22 = .ok (.aload_n 0, 1) := by decide +kernel
theorem dX10_beginSearch_23 : decode cX10_beginSearch 23 = .ok (.iconst 0, 1) := by decide +kernel
theorem dX10_beginSearch_24 : decode cX10_beginSearch 24 = .ok (.putfield 185, 3) := by decide +kernel
theorem dX10_beginSearch_27 : decode cX10_beginSearch 27 = .ok (.aload_n 0, 1) := by decide +kernel
theorem dX10_beginSearch_28 : decode cX10_beginSearch 28 = .ok (.iconst 0, 1) := by decide +kernel
theorem dX10_beginSearch_29 : decode cX10_beginSearch 29 = .ok (.putfield 188, 3) := by decide +kernel
theorem dX10_beginSearch_32 : decode cX10_beginSearch 32 = .ok (.aload_n 0, 1) := by decide +kernel
theorem dX10_beginSearch_33 : decode cX10_beginSearch 33 = .ok (.iconst 0, 1) := by decide +kernel
theorem dX10_beginSearch_34 : decode cX10_beginSearch 34 = .ok (.putfield 191, 3) := by decide +kernel
theorem dX10_beginSearch_37 : decode cX10_beginSearch 37 = .ok (.aload_n 0, 1) := by decide +kernel
theorem dX10_beginSearch_38 : decode cX10_beginSearch 38 = .ok (.iconst 0, 1) := by decide +kernel
theorem dX10_beginSearch_39 : decode cX10_beginSearch 39 = .ok (.putfield 195, 3) := by decide +kernel
theorem dX10_beginSearch_42 : decode cX10_beginSearch 42 = .ok (.aload_n 0, 1) := by decide +kernel
theorem dX10_beginSearch_43 : decode cX10_beginSearch 43 = .ok (.iconst 0, 1) := by decide +kernel
theorem dX10_beginSearch_44 : decode cX10_beginSearch 44 = .ok (.putfield 198, 3) := by decide +kernel
theorem dX10_beginSearch_47 : decode cX10_beginSearch 47 = .ok (.aload_n 0, 1) := by decide +kernel
theorem dX10_beginSearch_48 : decode cX10_beginSearch 48 = .ok (.aload_n 0, 1) := by decide +kernel
theorem dX10_beginSearch_49 : decode cX10_beginSearch 49 = .ok (.getfield 115, 3) := by decide +kernel
theorem dX10_beginSearch_52 : decode cX10_beginSearch 52 = .ok (.putfield 201, 3) := by decide +kernel
theorem dX10_beginSearch_55 : decode cX10_beginSearch 55 = .ok (.aload_n 0, 1) := by decide +kernel
theorem dX10_beginSearch_56 : decode cX10_beginSearch 56 = .ok (.lconst 0, 1) := by decide +kernel
theorem dX10_beginSearch_57 : decode cX10_beginSearch 57 = .ok (.putfield 169, 3) := by decide +kernel
theorem dX10_beginSearch_60 : decode cX10_beginSearch 60 = .ok (.iconst 0, 1) := by decide +kernel
theorem dX10_beginSearch_61 : decode cX10_beginSearch 61 = .ok (.istore_n 1, 1) := by decide +kernel
theorem dX10_beginSearch_62 : decode cX10_beginSearch 62 = .ok (.iload_n 1, 1) := by decide +kernel
theorem dX10_beginSearch_63 : decode cX10_beginSearch 63 = .ok (.aload_n 0, 1) := by decide +kernel
theorem dX10_beginSearch_64 : decode cX10_beginSearch 64 = .ok (.getfield 115, 3) := by decide +kernel
theorem dX10_beginSearch_67 : decode cX10_beginSearch 67 = .ok (.if_icmp .ge 50, 3) := by decide +kernel
theorem dX10_beginSearch_70 : decode cX10_beginSearch 70 = .ok (.aload_n 0, 1) := by decide +kernel
theorem dX10_beginSearch_71 : decode cX10_beginSearch 71 = .ok (.getfield 68, 3) := by decide +kernel
theorem dX10_beginSearch_74 : decode cX10_beginSearch 74 = .ok (.iload_n 1, 1) := by decide +kernel
theorem dX10_beginSearch_75 : decode cX10_beginSearch 75 = .ok (.aload_n 0, 1) := by decide +kernel
theorem dX10_beginSearch_76 : decode cX10_beginSearch 76 = .ok (.getfield 7, 3) := by decide +kernel
theorem dX10_beginSearch_79 : decode cX10_beginSearch 79 = .ok (.iload_n 1, 1) := by decide +kernel
theorem dX10_beginSearch_80 : decode cX10_beginSearch 80 = .ok (.iaload, 1) := by decide +kernel
theorem dX10_beginSearch_81 : decode cX10_beginSearch 81 = .ok (.iastore, 1) := by decide +kernel
theorem dX10_beginSearch_82 : decode cX10_beginSearch 82 = .ok (.aload_n 0, 1) := by decide +kernel
theorem dX10_beginSearch_83 : decode cX10_beginSearch 83 = .ok (.dup, 1) := by decide +kernel
theorem dX10_beginSearch_84 : decode cX10_beginSearch 84 = .ok (.getfield 169, 3) := by decide +kernel
theorem dX10_beginSearch_87 : decode cX10_beginSearch 87 = .ok (.aload_n 0, 1) := by decide +kernel
theorem dX10_beginSearch_88 : decode cX10_beginSearch 88 = .ok (.getfield 13, 3) := by decide +kernel
theorem dX10_beginSearch_91 : decode cX10_beginSearch 91 = .ok (.iload_n 1, 1) := by decide +kernel
theorem dX10_beginSearch_92 : decode cX10_beginSearch 92 = .ok (.baload, 1) := by decide +kernel
theorem dX10_beginSearch_93 : decode cX10_beginSearch 93 = .ok (.ifCond .eq 7, 3) := by decide +kernel
theorem dX10_beginSearch_96 : decode cX10_beginSearch 96 = .ok (.lconst 0, 1) := by decide +kernel
theorem dX10_beginSearch_97 : decode cX10_beginSearch 97 = .ok (.goto 10, 3) := by decide +kernel
theorem dX10_beginSearch_100 : decode cX10_beginSearch 100 = .ok (.ldc2_w 204, 3) := by decide +kernel
theorem dX10_beginSearch_103 : decode cX10_beginSearch 103 = .ok (.iconst 4, 1) := by decide +kernel
theorem dX10_beginSearch_104 : decode cX10_beginSearch 104 = .ok (.iload_n 1, 1) := by decide +kernel
theorem dX10_beginSearch_105 : decode cX10_beginSearch 105 = .ok (.imul, 1) := by decide +kernel
theorem dX10_beginSearch_106 : decode cX10_beginSearch 106 = .ok (.lshl, 1) := by decide +kernel
theorem dX10_beginSearch_107 : decode cX10_beginSearch 107 = .ok (.lor, 1) := by decide +kernel
theorem dX10_beginSearch_108 : decode cX10_beginSearch 108 = .ok (.putfield 169, 3) := by decide +kernel
theorem dX10_beginSearch_111 : decode cX10_beginSearch 111 = .ok (.iinc 1 1, 3) := by decide +kernel
theorem dX10_beginSearch_114 : decode cX10_beginSearch 114 = .ok (.goto (-52), 3) := by decide +kernel
theorem dX10_beginSearch_117 : decode cX10_beginSearch 117 = .ok (.iconst 0, 1) := by decide +kernel
theorem dX10_beginSearch_118 : decode cX10_beginSearch 118 = .ok (.istore_n 1, 1) := by decide +kernel
theorem dX10_beginSearch_119 : decode cX10_beginSearch 119 = .ok (.iload_n 1, 1) := by decide +kernel
theorem dX10_beginSearch_120 : decode cX10_beginSearch 120 = .ok (.aload_n 0, 1) := by decide +kernel
theorem dX10_beginSearch_121 : decode cX10_beginSearch 121 = .ok (.getfield 118, 3) := by decide +kernel
theorem dX10_beginSearch_124 : decode cX10_beginSearch 124 = .ok (.if_icmp .ge 39, 3) := by decide +kernel
theorem dX10_beginSearch_127 : decode cX10_beginSearch 127 = .ok (.aload_n 0, 1) := by decide +kernel
theorem dX10_beginSearch_128 : decode cX10_beginSearch 128 = .ok (.dup, 1) := by decide +kernel
theorem dX10_beginSearch_129 : decode cX10_beginSearch 129 = .ok (.getfield 198, 3) := by decide +kernel
theorem dX10_beginSearch_132 : decode cX10_beginSearch 132 = .ok (.aload_n 0, 1) := by decide +kernel
theorem dX10_beginSearch_133 : decode cX10_beginSearch 133 = .ok (.getfield 44, 3) := by decide +kernel
theorem dX10_beginSearch_136 : decode cX10_beginSearch 136 = .ok (.iload_n 1, 1) := by decide +kernel
theorem dX10_beginSearch_137 : decode cX10_beginSearch 137 = .ok (.iaload, 1) := by decide +kernel
theorem dX10_beginSearch_138 : decode cX10_beginSearch 138 = .ok (.ifCond .lt 14, 3) := by decide +kernel
theorem dX10_beginSearch_141 : decode cX10_beginSearch 141 = .ok (.iconst 1, 1) := by decide +kernel
theorem dX10_beginSearch_142 : decode cX10_beginSearch 142 = .ok (.aload_n 0, 1) := by decide +kernel
theorem dX10_beginSearch_143 : decode cX10_beginSearch 143 = .ok (.getfield 44, 3) := by decide +kernel
theorem dX10_beginSearch_146 : decode cX10_beginSearch 146 = .ok (.iload_n 1, 1) := by decide +kernel
theorem dX10_beginSearch_147 : decode cX10_beginSearch 147 = .ok (.iaload, 1) := by decide +kernel
theorem dX10_beginSearch_148 : decode cX10_beginSearch 148 = .ok (.ishl, 1) := by decide +kernel
theorem dX10_beginSearch_149 : decode cX10_beginSearch 149 = .ok (.goto 4, 3) := by decide +kernel
theorem dX10_beginSearch_152 : decode cX10_beginSearch 152 = .ok (.iconst 0, 1) := by decide +kernel
theorem dX10_beginSearch_153 : decode cX10_beginSearch 153 = .ok (.ior, 1) := by decide +kernel
theorem dX10_beginSearch_154 : decode cX10_beginSearch 154 = .ok (.putfield 198, 3) := by decide +kernel
theorem dX10_beginSearch_157 : decode cX10_beginSearch 157 = .ok (.iinc 1 1, 3) := by decide +kernel
theorem dX10_beginSearch_160 : decode cX10_beginSearch 160 = .ok (.goto (-41), 3) := by decide +kernel
theorem dX10_beginSearch_163 : decode cX10_beginSearch 163 = .ok (.aload_n 0, 1) := by decide +kernel
theorem dX10_beginSearch_164 : decode cX10_beginSearch 164 = .ok (.iconst 0, 1) := by decide +kernel
theorem dX10_beginSearch_165 : decode cX10_beginSearch 165 = .ok (.putfield 141, 3) := by decide +kernel
theorem dX10_beginSearch_168 : decode cX10_beginSearch 168 = .ok (.aload_n 0, 1) := by decide +kernel
theorem dX10_beginSearch_169 : decode cX10_beginSearch 169 = .ok (.iconst (-1), 1) := by decide +kernel
theorem dX10_beginSearch_170 : decode cX10_beginSearch 170 = .ok (.iconst (-1), 1) := by decide +kernel
theorem dX10_beginSearch_171 : decode cX10_beginSearch 171 = .ok (.invokevirtual 206, 3) := by decide +kernel
theorem dX10_beginSearch_174 : decode cX10_beginSearch 174 = .ok (.return_, 1) := by decide +kernel
theorem dX10_tellPlay_0 : decode cX10_tellPlay 0 = .ok (.aload_n 0, 1) := by decide +kernel
theorem dX10_tellPlay_1 : decode cX10_tellPlay 1 = .ok (.iconst 1, 1) := by decide +kernel
theorem dX10_tellPlay_2 : decode cX10_tellPlay 2 = .ok (.putfield 191, 3) := by decide +kernel
theorem dX10_tellPlay_5 : decode cX10_tellPlay 5 = .ok (.aload_n 0, 1) := by decide +kernel
theorem dX10_tellPlay_6 : decode cX10_tellPlay 6 = .ok (.iload_n 1, 1) := by decide +kernel
theorem dX10_tellPlay_7 : decode cX10_tellPlay 7 = .ok (.ifCond .ne 7, 3) := by decide +kernel
theorem dX10_tellPlay_10 : decode cX10_tellPlay 10 = .ok (.iconst 1, 1) := by decide +kernel
theorem dX10_tellPlay_11 : decode cX10_tellPlay 11 = .ok (.goto 4, 3) := by decide +kernel
theorem dX10_tellPlay_14 : decode cX10_tellPlay 14 = .ok (.iconst 0, 1) := by decide +kernel
theorem dX10_tellPlay_15 : decode cX10_tellPlay 15 = .ok (.putfield 210, 3) := by decide +kernel
theorem dX10_tellPlay_18 : decode cX10_tellPlay 18 = .ok (.iconst 0, 1) := by decide +kernel
theorem dX10_tellPlay_19 : decode cX10_tellPlay 19 = .ok (.istore_n 2, 1) := by decide +kernel
theorem dX10_tellPlay_20 : decode cX10_tellPlay 20 = .ok (.iload_n 2, 1) := by decide +kernel
theorem dX10_tellPlay_21 : decode cX10_tellPlay 21 = .ok (.aload_n 0, 1) := by decide +kernel
theorem dX10_tellPlay_22 : decode cX10_tellPlay 22 = .ok (.getfield 115, 3) := by decide +kernel
theorem dX10_tellPlay_25 : decode cX10_tellPlay 25 = .ok (.if_icmp .ge 32, 3) := by decide +kernel
theorem dX10_tellPlay_28 : decode cX10_tellPlay 28 = .ok (.aload_n 0, 1) := by decide +kernel
theorem dX10_tellPlay_29 : decode cX10_tellPlay 29 = .ok (.dup, 1) := by decide +kernel
theorem dX10_tellPlay_30 : decode cX10_tellPlay 30 = .ok (.getfield 210, 3) := by decide +kernel
theorem dX10_tellPlay_33 : decode cX10_tellPlay 33 = .ok (.aload_n 0, 1) := by decide +kernel
theorem dX10_tellPlay_34 : decode cX10_tellPlay 34 = .ok (.getfield 13, 3) := by decide +kernel
theorem dX10_tellPlay_37 : decode cX10_tellPlay 37 = .ok (.iload_n 2, 1) := by decide +kernel
theorem dX10_tellPlay_38 : decode cX10_tellPlay 38 = .ok (.baload, 1) := by decide +kernel
theorem dX10_tellPlay_39 : decode cX10_tellPlay 39 = .ok (.ifCond .ne 7, 3) := by decide +kernel
theorem dX10_tellPlay_42 : decode cX10_tellPlay 42 = .ok (.iconst 1, 1) := by decide +kernel
theorem dX10_tellPlay_43 : decode cX10_tellPlay 43 = .ok (.goto 4, 3) := by decide +kernel
theorem dX10_tellPlay_46 : decode cX10_tellPlay 46 = .ok (.iconst 0, 1) := by decide +kernel
theorem dX10_tellPlay_47 : decode cX10_tellPlay 47 = .ok (.iand, 1) := by decide +kernel
theorem dX10_tellPlay_48 : decode cX10_tellPlay 48 = .ok (.putfield 210, 3) := by decide +kernel
theorem dX10_tellPlay_51 : decode cX10_tellPlay 51 = .ok (.iinc 2 1, 3) := by decide +kernel
theorem dX10_tellPlay_54 : decode cX10_tellPlay 54 = .ok (.goto (-34), 3) := by decide +kernel
theorem dX10_tellPlay_57 : decode cX10_tellPlay 57 = .ok (.iconst 0, 1) := by decide +kernel
theorem dX10_tellPlay_58 : decode cX10_tellPlay 58 = .ok (.istore_n 2, 1) := by decide +kernel
theorem dX10_tellPlay_59 : decode cX10_tellPlay 59 = .ok (.aload_n 0, 1) := by decide +kernel
theorem dX10_tellPlay_60 : decode cX10_tellPlay 60 = .ok (.getfield 185, 3) := by decide +kernel
theorem dX10_tellPlay_63 : decode cX10_tellPlay 63 = .ok (.iconst 1, 1) := by decide +kernel
theorem dX10_tellPlay_64 : decode cX10_tellPlay 64 = .ok (.isub, 1) := by decide +kernel
theorem dX10_tellPlay_65 : decode cX10_tellPlay 65 = .ok (.istore_n 3, 1) := by decide +kernel
theorem dX10_tellPlay_66 : decode cX10_tellPlay 66 = .ok (.iload_n 3, 1) := by decide +kernel
theorem dX10_tellPlay_67 : decode cX10_tellPlay 67 = .ok (.ifCond .le 28, 3) := by decide +kernel
theorem dX10_tellPlay_70 : decode cX10_tellPlay 70 = .ok (.aload_n 0, 1) := by decide +kernel
theorem dX10_tellPlay_71 : decode cX10_tellPlay 71 = .ok (.getfield 108, 3) := by decide +kernel
theorem dX10_tellPlay_74 : decode cX10_tellPlay 74 = .ok (.iload_n 2, 1) := by decide +kernel
theorem dX10_tellPlay_75 : decode cX10_tellPlay 75 = .ok (.aload_n 0, 1) := by decide +kernel
theorem dX10_tellPlay_76 : decode cX10_tellPlay 76 = .ok (.getfield 84, 3) := by decide +kernel
theorem dX10_tellPlay_79 : decode cX10_tellPlay 79 = .ok (.iload_n 3, 1) := by decide +kernel
theorem dX10_tellPlay_80 : decode cX10_tellPlay 80 = .ok (.iaload, 1) := by decide +kernel
theorem dX10_tellPlay_81 : decode cX10_tellPlay 81 = .ok (.iastore, 1) := by decide +kernel
theorem dX10_tellPlay_82 : decode cX10_tellPlay 82 = .ok (.iinc 2 1, 3) := by decide +kernel
theorem dX10_tellPlay_85 : decode cX10_tellPlay 85 = .ok (.aload_n 0, 1) := by decide +kernel
theorem dX10_tellPlay_86 : decode cX10_tellPlay 86 = .ok (.getfield 81, 3) := by decide +kernel
theorem dX10_tellPlay_89 : decode cX10_tellPlay 89 = .ok (.iload_n 3, 1) := by decide +kernel
theorem dX10_tellPlay_90 : decode cX10_tellPlay 90 = .ok (.iaload, 1) := by decide +kernel
theorem dX10_tellPlay_91 : decode cX10_tellPlay 91 = .ok (.istore_n 3, 1) := by decide +kernel
theorem dX10_tellPlay_92 : decode cX10_tellPlay 92 = .ok (.goto (-26), 3) := by decide +kernel
theorem dX10_tellPlay_95 : decode cX10_tellPlay 95 = .ok (.aload_n 0, 1) := by decide +kernel
theorem dX10_tellPlay_96 : decode cX10_tellPlay 96 = .ok (.iconst 0, 1) := by decide +kernel
theorem dX10_tellPlay_97 : decode cX10_tellPlay 97 = .ok (.putfield 213, 3) := by decide +kernel
theorem dX10_tellPlay_100 : decode cX10_tellPlay 100 = .ok (.iload_n 2, 1) := by decide +kernel
theorem dX10_tellPlay_101 : decode cX10_tellPlay 101 = .ok (.iconst 1, 1) := by decide +kernel
theorem dX10_tellPlay_102 : decode cX10_tellPlay 102 = .ok (.isub, 1) := by decide +kernel
theorem dX10_tellPlay_103 : decode cX10_tellPlay 103 = .ok (.istore_n 3, 1) := by decide +kernel
theorem dX10_tellPlay_104 : decode cX10_tellPlay 104 = .ok (.iload_n 3, 1) := by decide +kernel
theorem dX10_tellPlay_105 : decode cX10_tellPlay 105 = .ok (.ifCond .lt 103, 3) := by decide +kernel
theorem dX10_tellPlay_108 : decode cX10_tellPlay 108 = .ok (.aload_n 0, 1) := by decide +kernel
theorem dX10_tellPlay_109 : decode cX10_tellPlay 109 = .ok (.getfield 108, 3) := by decide +kernel
theorem dX10_tellPlay_112 : decode cX10_tellPlay 112 = .ok (.iload_n 3, 1) := by decide +kernel
theorem dX10_tellPlay_113 : decode cX10_tellPlay 113 = .ok (.iaload, 1) := by decide +kernel
theorem dX10_tellPlay_114 : decode cX10_tellPlay 114 = .ok (.istore 4, 2) := by decide +kernel
theorem dX10_tellPlay_116 : decode cX10_tellPlay 116 = .ok (.iload 4, 2) := by decide +kernel
theorem dX10_tellPlay_118 : decode cX10_tellPlay 118 = .ok (.bipush 100, 2) := by decide +kernel
theorem dX10_tellPlay_120 : decode cX10_tellPlay 120 = .ok (.if_icmp .ge 7, 3) := by decide +kernel
theorem dX10_tellPlay_123 : decode cX10_tellPlay 123 = .ok (.iconst 1, 1) := by decide +kernel
theorem dX10_tellPlay_124 : decode cX10_tellPlay 124 = .ok (.goto 13, 3) := by decide +kernel
theorem dX10_tellPlay_127 : decode cX10_tellPlay 127 = .ok (.aload_n 0, 1) := by decide +kernel
theorem dX10_tellPlay_128 : decode cX10_tellPlay 128 = .ok (.getfield 50, 3) := by decide +kernel
theorem dX10_tellPlay_131 : decode cX10_tellPlay 131 = .ok (.iload 4, 2) := by decide +kernel
theorem dX10_tellPlay_133 : decode cX10_tellPlay 133 = .ok (.bipush 100, 2) := by decide +kernel
theorem dX10_tellPlay_135 : decode cX10_tellPlay 135 = .ok (.isub, 1) := by decide +kernel
theorem dX10_tellPlay_136 : decode cX10_tellPlay 136 = .ok (.iaload, 1) := by decide +kernel
theorem dX10_tellPlay_137 : decode cX10_tellPlay 137 = .ok (.istore 5, 2) := by decide +kernel
theorem dX10_tellPlay_139 : decode cX10_tellPlay 139 = .ok (.iconst 0, 1) := by decide +kernel
theorem dX10_tellPlay_140 : decode cX10_tellPlay 140 = .ok (.istore 6, 2) := by decide +kernel
theorem dX10_tellPlay_142 : decode cX10_tellPlay 142 = .ok (.iload 6, 2) := by decide +kernel
theorem dX10_tellPlay_144 : decode cX10_tellPlay 144 = .ok (.iload 5, 2) := by decide +kernel
theorem dX10_tellPlay_146 : decode cX10_tellPlay 146 = .ok (.if_icmp .ge 56, 3) := by decide +kernel
theorem dX10_tellPlay_149 : decode cX10_tellPlay 149 = .ok (.aload_n 0, 1) := by decide +kernel
theorem dX10_tellPlay_150 : decode cX10_tellPlay 150 = .ok (.getfield 105, 3) := by decide +kernel
theorem dX10_tellPlay_153 : decode cX10_tellPlay 153 = .ok (.aload_n 0, 1) := by decide +kernel
theorem dX10_tellPlay_154 : decode cX10_tellPlay 154 = .ok (.getfield 213, 3) := by decide +kernel
theorem dX10_tellPlay_157 : decode cX10_tellPlay 157 = .ok (.iload 4, 2) := by decide +kernel
theorem dX10_tellPlay_159 : decode cX10_tellPlay 159 = .ok (.bipush 100, 2) := by decide +kernel
theorem dX10_tellPlay_161 : decode cX10_tellPlay 161 = .ok (.if_icmp .ge 8, 3) := by decide +kernel
theorem dX10_tellPlay_164 : decode cX10_tellPlay 164 = .ok (.iload 4, 2) := by decide +kernel
theorem dX10_tellPlay_166 : decode cX10_tellPlay 166 = .ok (.goto 19, 3) := by decide +kernel
theorem dX10_tellPlay_169 : decode cX10_tellPlay 169 = .ok (.aload_n 0, 1) := by decide +kernel
theorem dX10_tellPlay_170 : decode cX10_tellPlay 170 = .ok (.getfield 53, 3) := by decide +kernel
theorem dX10_tellPlay_173 : decode cX10_tellPlay 173 = .ok (.bipush 6, 2) := by decide +kernel
theorem dX10_tellPlay_175 : decode cX10_tellPlay 175 = .ok (.iload 4, 2) := by decide +kernel
theorem dX10_tellPlay_177 : decode cX10_tellPlay 177 = .ok (.bipush 100, 2) := by decide +kernel
theorem dX10_tellPlay_179 : decode cX10_tellPlay 179 = .ok (.isub, 1) := by decide +kernel
theorem dX10_tellPlay_180 : decode cX10_tellPlay 180 = .ok (.imul, 1) := by decide +kernel
theorem dX10_tellPlay_181 : decode cX10_tellPlay 181 = .ok (.iload 6, 2) := by decide +kernel
theorem dX10_tellPlay_183 : decode cX10_tellPlay 183 = .ok (.iadd, 1) := by decide +kernel
theorem dX10_tellPlay_184 : decode cX10_tellPlay 184 = .ok (.iaload, 1) := by decide +kernel
theorem dX10_tellPlay_185 : decode cX10_tellPlay 185 = .ok (.iastore, 1) := by decide +kernel
theorem dX10_tellPlay_186 : decode cX10_tellPlay 186 = .ok (.aload_n 0, 1) := by decide +kernel
theorem dX10_tellPlay_187 : decode cX10_tellPlay 187 = .ok (.dup, 1) := by decide +kernel
theorem dX10_tellPlay_188 : decode cX10_tellPlay 188 = .ok (.getfield 213, 3) := by decide +kernel
theorem dX10_tellPlay_191 : decode cX10_tellPlay 191 = .ok (.iconst 1, 1) := by decide +kernel
theorem dX10_tellPlay_192 : decode cX10_tellPlay 192 = .ok (.iadd, 1) := by decide +kernel
theorem dX10_tellPlay_193 : decode cX10_tellPlay 193 = .ok (.putfield 213, 3) := by decide +kernel
theorem dX10_tellPlay_196 : decode cX10_tellPlay 196 = .ok (.iinc 6 1, 3) := by decide +kernel
theorem dX10_tellPlay_199 : decode cX10_tellPlay 199 = .ok (.goto (-57), 3) := by decide +kernel
theorem dX10_tellPlay_202 : decode cX10_tellPlay 202 = .ok (.iinc 3 (-1), 3) := by decide +kernel
theorem dX10_tellPlay_205 : decode cX10_tellPlay 205 = .ok (.goto (-101), 3) := by decide +kernel
theorem dX10_tellPlay_208 : decode cX10_tellPlay 208 = .ok (.return_, 1) := by decide +kernel
theorem dX10_stepAt_0 : decode cX10_stepAt 0 = .ok (.iload_n 1, 1) := by decide +kernel
theorem dX10_stepAt_1 : decode cX10_stepAt 1 = .ok (.aload_n 0, 1) := by decide +kernel
theorem dX10_stepAt_2 : decode cX10_stepAt 2 = .ok (.getfield 118, 3) := by decide +kernel
theorem dX10_stepAt_5 : decode cX10_stepAt 5 = .ok (.if_icmp .ge 7, 3) := by decide +kernel
theorem dX10_stepAt_8 : decode cX10_stepAt 8 = .ok (.iload_n 1, 1) := by decide +kernel
theorem dX10_stepAt_9 : decode cX10_stepAt 9 = .ok (.goto 12, 3) := by decide +kernel
theorem dX10_stepAt_12 : decode cX10_stepAt 12 = .ok (.bipush 100, 2) := by decide +kernel
theorem dX10_stepAt_14 : decode cX10_stepAt 14 = .ok (.iload_n 1, 1) := by decide +kernel
theorem dX10_stepAt_15 : decode cX10_stepAt 15 = .ok (.iadd, 1) := by decide +kernel
theorem dX10_stepAt_16 : decode cX10_stepAt 16 = .ok (.aload_n 0, 1) := by decide +kernel
theorem dX10_stepAt_17 : decode cX10_stepAt 17 = .ok (.getfield 118, 3) := by decide +kernel
theorem dX10_stepAt_20 : decode cX10_stepAt 20 = .ok (.isub, 1) := by decide +kernel
theorem dX10_stepAt_21 : decode cX10_stepAt 21 = .ok (.ireturn, 1) := by decide +kernel
theorem dX10_tryAll_0 : decode cX10_tryAll 0 = .ok (.iconst 0, 1) := by decide +kernel
theorem dX10_tryAll_1 : decode cX10_tryAll 1 = .ok (.istore 4, 2) := by decide +kernel
theorem dX10_tryAll_3 : decode cX10_tryAll 3 = .ok (.iconst 0, 1) := by decide +kernel
theorem dX10_tryAll_4 : decode cX10_tryAll 4 = .ok (.istore 5, 2) := by decide +kernel
theorem dX10_tryAll_6 : decode cX10_tryAll 6 = .ok (.iload 5, 2) := by decide +kernel
theorem dX10_tryAll_8 : decode cX10_tryAll 8 = .ok (.aload_n 0, 1) := by decide +kernel
theorem dX10_tryAll_9 : decode cX10_tryAll 9 = .ok (.getfield 118, 3) := by decide +kernel
theorem dX10_tryAll_12 : decode cX10_tryAll 12 = .ok (.aload_n 0, 1) := by decide +kernel
theorem dX10_tryAll_13 : decode cX10_tryAll 13 = .ok (.getfield 135, 3) := by decide +kernel
theorem dX10_tryAll_16 : decode cX10_tryAll 16 = .ok (.iadd, 1) := by decide +kernel
theorem dX10_tryAll_17 : decode cX10_tryAll 17 = .ok (.if_icmp .ge 124, 3) := by decide +kernel
theorem dX10_tryAll_20 : decode cX10_tryAll 20 = .ok (.aload_n 0, 1) := by decide +kernel
theorem dX10_tryAll_21 : decode cX10_tryAll 21 = .ok (.aload_n 0, 1) := by decide +kernel
theorem dX10_tryAll_22 : decode cX10_tryAll 22 = .ok (.getfield 74, 3) := by decide +kernel
theorem dX10_tryAll_25 : decode cX10_tryAll 25 = .ok (.iload_n 1, 1) := by decide +kernel
theorem dX10_tryAll_26 : decode cX10_tryAll 26 = .ok (.laload, 1) := by decide +kernel
theorem dX10_tryAll_27 : decode cX10_tryAll 27 = .ok (.invokevirtual 216, 3) := by decide +kernel
theorem dX10_tryAll_30 : decode cX10_tryAll 30 = .ok (.aload_n 0, 1) := by decide +kernel
theorem dX10_tryAll_31 : decode cX10_tryAll 31 = .ok (.aload_n 0, 1) := by decide +kernel
theorem dX10_tryAll_32 : decode cX10_tryAll 32 = .ok (.getfield 78, 3) := by decide +kernel
theorem dX10_tryAll_35 : decode cX10_tryAll 35 = .ok (.iload_n 1, 1) := by decide +kernel
theorem dX10_tryAll_36 : decode cX10_tryAll 36 = .ok (.iaload, 1) := by decide +kernel
theorem dX10_tryAll_37 : decode cX10_tryAll 37 = .ok (.putfield 141, 3) := by decide +kernel
theorem dX10_tryAll_40 : decode cX10_tryAll 40 = .ok (.aload_n 0, 1) := by decide +kernel
theorem dX10_tryAll_41 : decode cX10_tryAll 41 = .ok (.aload_n 0, 1) := by decide +kernel
theorem dX10_tryAll_42 : decode cX10_tryAll 42 = .ok (.iload 5, 2) := by decide +kernel
theorem dX10_tryAll_44 : decode cX10_tryAll 44 = .ok (.invokevirtual 220, 3) := by decide +kernel
theorem dX10_tryAll_47 : decode cX10_tryAll 47 = .ok (.invokevirtual 224, 3) := by decide +kernel
theorem dX10_tryAll_50 : decode cX10_tryAll 50 = .ok (.ifCond .eq 85, 3) := by decide +kernel
theorem dX10_tryAll_53 : decode cX10_tryAll 53 = .ok (.iconst 1, 1) := by decide +kernel
theorem dX10_tryAll_54 : decode cX10_tryAll 54 = .ok (.istore 4, 2) := by decide +kernel
theorem dX10_tryAll_56 : decode cX10_tryAll 56 = .ok (.aload_n 0, 1) := by decide +kernel
theorem dX10_tryAll_57 : decode cX10_tryAll 57 = .ok (.dup, 1) := by decide +kernel
theorem dX10_tryAll_58 : decode cX10_tryAll 58 = .ok (.getfield 195, 3) := by decide +kernel
theorem dX10_tryAll_61 : decode cX10_tryAll 61 = .ok (.aload_n 0, 1) := by decide +kernel
theorem dX10_tryAll_62 : decode cX10_tryAll 62 = .ok (.getfield 155, 3) := by decide +kernel
theorem dX10_tryAll_65 : decode cX10_tryAll 65 = .ok (.ior, 1) := by decide +kernel
theorem dX10_tryAll_66 : decode cX10_tryAll 66 = .ok (.putfield 195, 3) := by decide +kernel
theorem dX10_tryAll_69 : decode cX10_tryAll 69 = .ok (.aload_n 0, 1) := by decide +kernel
theorem dX10_tryAll_70 : decode cX10_tryAll 70 = .ok (.iconst 1, 1) := by decide +kernel
theorem dX10_tryAll_71 : decode cX10_tryAll 71 = .ok (.invokevirtual 227, 3) := by decide +kernel
theorem dX10_tryAll_74 : decode cX10_tryAll 74 = .ok (.istore 6, 2) := by decide +kernel
theorem dX10_tryAll_76 : decode cX10_tryAll 76 = .ok (.iload 6, 2) := by decide +kernel
theorem dX10_tryAll_78 : decode cX10_tryAll 78 = .ok (.ifCond .ne 24, 3) := by decide +kernel
theorem dX10_tryAll_81 : decode cX10_tryAll 81 = .ok (.aload_n 0, 1) := by decide +kernel
theorem dX10_tryAll_82 : decode cX10_tryAll 82 = .ok (.getfield 102, 3) := by decide +kernel
theorem dX10_tryAll_85 : decode cX10_tryAll 85 = .ok (.aload_n 0, 1) := by decide +kernel
theorem dX10_tryAll_86 : decode cX10_tryAll 86 = .ok (.aload_n 0, 1) := by decide +kernel
theorem dX10_tryAll_87 : decode cX10_tryAll 87 = .ok (.invokevirtual 177, 3) := by decide +kernel
theorem dX10_tryAll_90 : decode cX10_tryAll 90 = .ok (.aload_n 0, 1) := by decide +kernel
theorem dX10_tryAll_91 : decode cX10_tryAll 91 = .ok (.getfield 141, 3) := by decide +kernel
theorem dX10_tryAll_94 : decode cX10_tryAll 94 = .ok (.invokevirtual 181, 3) := by decide +kernel
theorem dX10_tryAll_97 : decode cX10_tryAll 97 = .ok (.iaload, 1) := by decide +kernel
theorem dX10_tryAll_98 : decode cX10_tryAll 98 = .ok (.iconst (-1), 1) := by decide +kernel
theorem dX10_tryAll_99 : decode cX10_tryAll 99 = .ok (.if_icmp .ne 36, 3) := by decide +kernel
theorem dX10_tryAll_102 : decode cX10_tryAll 102 = .ok (.aload_n 0, 1) := by decide +kernel
theorem dX10_tryAll_103 : decode cX10_tryAll 103 = .ok (.getfield 185, 3) := by decide +kernel
theorem dX10_tryAll_106 : decode cX10_tryAll 106 = .ok (.iload_n 3, 1) := by decide +kernel
theorem dX10_tryAll_107 : decode cX10_tryAll 107 = .ok (.if_icmp .ne 5, 3) := by decide +kernel
theorem dX10_tryAll_110 : decode cX10_tryAll 110 = .ok (.iconst (-1), 1) := by decide +kernel
theorem dX10_tryAll_111 : decode cX10_tryAll 111 = .ok (.ireturn, 1) := by decide +kernel
theorem dX10_tryAll_112 : decode cX10_tryAll 112 = .ok (.aload_n 0, 1) := by decide +kernel
theorem dX10_tryAll_113 : decode cX10_tryAll 113 = .ok (.iload_n 1, 1) := by decide +kernel
theorem dX10_tryAll_114 : decode cX10_tryAll 114 = .ok (.aload_n 0, 1) := by decide +kernel
theorem dX10_tryAll_115 : decode cX10_tryAll 115 = .ok (.iload 5, 2) := by decide +kernel
theorem dX10_tryAll_117 : decode cX10_tryAll 117 = .ok (.invokevirtual 220, 3) := by decide +kernel
theorem dX10_tryAll_120 : decode cX10_tryAll 120 = .ok (.invokevirtual 206, 3) := by decide +kernel
theorem dX10_tryAll_123 : decode cX10_tryAll 123 = .ok (.iload 6, 2) := by decide +kernel
theorem dX10_tryAll_125 : decode cX10_tryAll 125 = .ok (.ifCond .eq 10, 3) := by decide +kernel
theorem dX10_tryAll_128 : decode cX10_tryAll 128 = .ok (.aload_n 0, 1) := by decide +kernel
theorem dX10_tryAll_129 : decode cX10_tryAll 129 = .ok (.iload_n 2, 1) := by decide +kernel
theorem dX10_tryAll_130 : decode cX10_tryAll 130 = .ok (.invokevirtual 231, 3) := by decide +kernel
theorem dX10_tryAll_133 : decode cX10_tryAll 133 = .ok (.iconst 1, 1) := by decide +kernel
theorem dX10_tryAll_134 : decode cX10_tryAll 134 = .ok (.ireturn, 1) := by decide +kernel
theorem dX10_tryAll_135 : decode cX10_tryAll 135 = .ok (.iinc 5 1, 3) := by decide +kernel
theorem dX10_tryAll_138 : decode cX10_tryAll 138 = .ok (.goto (-132), 3) := by decide +kernel
theorem dX10_tryAll_141 : decode cX10_tryAll 141 = .ok (.aload_n 0, 1) := by decide +kernel
theorem dX10_tryAll_142 : decode cX10_tryAll 142 = .ok (.getfield 96, 3) := by decide +kernel
theorem dX10_tryAll_145 : decode cX10_tryAll 145 = .ok (.iload_n 1, 1) := by decide +kernel
theorem dX10_tryAll_146 : decode cX10_tryAll 146 = .ok (.iload 4, 2) := by decide +kernel
theorem dX10_tryAll_148 : decode cX10_tryAll 148 = .ok (.ifCond .ne 7, 3) := by decide +kernel
theorem dX10_tryAll_151 : decode cX10_tryAll 151 = .ok (.iconst 1, 1) := by decide +kernel
theorem dX10_tryAll_152 : decode cX10_tryAll 152 = .ok (.goto 4, 3) := by decide +kernel
theorem dX10_tryAll_155 : decode cX10_tryAll 155 = .ok (.iconst 0, 1) := by decide +kernel
theorem dX10_tryAll_156 : decode cX10_tryAll 156 = .ok (.bastore, 1) := by decide +kernel
theorem dX10_tryAll_157 : decode cX10_tryAll 157 = .ok (.iconst 0, 1) := by decide +kernel
theorem dX10_tryAll_158 : decode cX10_tryAll 158 = .ok (.ireturn, 1) := by decide +kernel
theorem dX10_search_0 : decode cX10_search 0 = .ok (.aload_n 0, 1) := by decide +kernel
theorem dX10_search_1 : decode cX10_search 1 = .ok (.iconst 0, 1) := by decide +kernel
theorem dX10_search_2 : decode cX10_search 2 = .ok (.putfield 111, 3) := by decide +kernel
theorem dX10_search_5 : decode cX10_search 5 = .ok (.iload_n 1, 1) := by decide +kernel
theorem dX10_search_6 : decode cX10_search 6 = .ok (.ifCond .lt 27, 3) := by decide +kernel
theorem dX10_search_9 : decode cX10_search 9 = .ok (.iload_n 1, 1) := by decide +kernel
theorem dX10_search_10 : decode cX10_search 10 = .ok (.iconst 1, 1) := by decide +kernel
theorem dX10_search_11 : decode cX10_search 11 = .ok (.if_icmp .gt 22, 3) := by decide +kernel
theorem dX10_search_14 : decode cX10_search 14 = .ok (.iload_n 2, 1) := by decide +kernel
theorem dX10_search_15 : decode cX10_search 15 = .ok (.iconst 1, 1) := by decide +kernel
theorem dX10_search_16 : decode cX10_search 16 = .ok (.if_icmp .lt 17, 3) := by decide +kernel
theorem dX10_search_19 : decode cX10_search 19 = .ok (.iload_n 2, 1) := by decide +kernel
theorem dX10_search_20 : decode cX10_search 20 = .ok (.sipush 1500, 3) := by decide +kernel
theorem dX10_search_23 : decode cX10_search 23 = .ok (.if_icmp .gt 10, 3) := by decide +kernel
theorem dX10_search_26 : decode cX10_search 26 = .ok (.aload_n 0, 1) := by decide +kernel
theorem dX10_search_27 : decode cX10_search 27 = .ok (.getfield 138, 3) := by decide +kernel
theorem dX10_search_30 : decode cX10_search 30 = .ok (.ifCond .ne 6, 3) := by decide +kernel
theorem dX10_search_33 : decode cX10_search 33 = .ok (.bipush (-2), 2) := by decide +kernel
theorem dX10_search_35 : decode cX10_search 35 = .ok (.ireturn, 1) := by decide +kernel
theorem dX10_search_36 : decode cX10_search 36 = .ok (.aload_n 0, 1) := by decide +kernel
theorem dX10_search_37 : decode cX10_search 37 = .ok (.invokevirtual 234, 3) := by decide +kernel
theorem dX10_search_40 : decode cX10_search 40 = .ok (.aload_n 0, 1) := by decide +kernel
theorem dX10_search_41 : decode cX10_search 41 = .ok (.iload_n 1, 1) := by decide +kernel
theorem dX10_search_42 : decode cX10_search 42 = .ok (.invokevirtual 237, 3) := by decide +kernel
theorem dX10_search_45 : decode cX10_search 45 = .ok (.istore_n 3, 1) := by decide +kernel
theorem dX10_search_46 : decode cX10_search 46 = .ok (.iconst 0, 1) := by decide +kernel
theorem dX10_search_47 : decode cX10_search 47 = .ok (.istore 4, 2) := by decide +kernel
theorem dX10_search_49 : decode cX10_search 49 = .ok (.iload_n 3, 1) := by decide +kernel
theorem dX10_search_50 : decode cX10_search 50 = .ok (.ifCond .lt 53, 3) := by decide +kernel
theorem dX10_search_53 : decode cX10_search 53 = .ok (.iload 4, 2) := by decide +kernel
theorem dX10_search_55 : decode cX10_search 55 = .ok (.ifCond .ne 48, 3) := by decide +kernel
theorem dX10_search_58 : decode cX10_search 58 = .ok (.aload_n 0, 1) := by decide +kernel
theorem dX10_search_59 : decode cX10_search 59 = .ok (.getfield 93, 3) := by decide +kernel
theorem dX10_search_62 : decode cX10_search 62 = .ok (.iload_n 3, 1) := by decide +kernel
theorem dX10_search_63 : decode cX10_search 63 = .ok (.iconst 1, 1) := by decide +kernel
theorem dX10_search_64 : decode cX10_search 64 = .ok (.bastore, 1) := by decide +kernel
theorem dX10_search_65 : decode cX10_search 65 = .ok (.aload_n 0, 1) := by decide +kernel
theorem dX10_search_66 : decode cX10_search 66 = .ok (.getfield 99, 3) := by decide +kernel
theorem dX10_search_69 : decode cX10_search 69 = .ok (.aload_n 0, 1) := by decide +kernel
theorem dX10_search_70 : decode cX10_search 70 = .ok (.getfield 188, 3) := by decide +kernel
theorem dX10_search_73 : decode cX10_search 73 = .ok (.iload_n 3, 1) := by decide +kernel
theorem dX10_search_74 : decode cX10_search 74 = .ok (.iastore, 1) := by decide +kernel
theorem dX10_search_75 : decode cX10_search 75 = .ok (.aload_n 0, 1) := by decide +kernel
theorem dX10_search_76 : decode cX10_search 76 = .ok (.dup, 1) := by decide +kernel
theorem dX10_search_77 : decode cX10_search 77 = .ok (.getfield 188, 3) := by decide +kernel
theorem dX10_search_80 : decode cX10_search 80 = .ok (.iconst 1, 1) := by decide +kernel
theorem dX10_search_81 : decode cX10_search 81 = .ok (.iadd, 1) := by decide +kernel
theorem dX10_search_82 : decode cX10_search 82 = .ok (.putfield 188, 3) := by decide +kernel
theorem dX10_search_85 : decode cX10_search 85 = .ok (.aload_n 0, 1) := by decide +kernel
theorem dX10_search_86 : decode cX10_search 86 = .ok (.iload_n 3, 1) := by decide +kernel
theorem dX10_search_87 : decode cX10_search 87 = .ok (.iload_n 1, 1) := by decide +kernel
theorem dX10_search_88 : decode cX10_search 88 = .ok (.iload_n 2, 1) := by decide +kernel
theorem dX10_search_89 : decode cX10_search 89 = .ok (.invokevirtual 240, 3) := by decide +kernel
theorem dX10_search_92 : decode cX10_search 92 = .ok (.istore 4, 2) := by decide +kernel
theorem dX10_search_94 : decode cX10_search 94 = .ok (.aload_n 0, 1) := by decide +kernel
theorem dX10_search_95 : decode cX10_search 95 = .ok (.iload_n 1, 1) := by decide +kernel
theorem dX10_search_96 : decode cX10_search 96 = .ok (.invokevirtual 237, 3) := by decide +kernel
theorem dX10_search_99 : decode cX10_search 99 = .ok (.istore_n 3, 1) := by decide +kernel
theorem dX10_search_100 : decode cX10_search 100 = .ok (.goto (-51), 3) := by decide +kernel
theorem dX10_search_103 : decode cX10_search 103 = .ok (.iload 4, 2) := by decide +kernel
theorem dX10_search_105 : decode cX10_search 105 = .ok (.ireturn, 1) := by decide +kernel
theorem dX10_length_0 : decode cX10_length 0 = .ok (.aload_n 0, 1) := by decide +kernel
theorem dX10_length_1 : decode cX10_length 1 = .ok (.iconst 0, 1) := by decide +kernel
theorem dX10_length_2 : decode cX10_length 2 = .ok (.putfield 111, 3) := by decide +kernel
theorem dX10_length_5 : decode cX10_length 5 = .ok (.aload_n 0, 1) := by decide +kernel
theorem dX10_length_6 : decode cX10_length 6 = .ok (.getfield 191, 3) := by decide +kernel
theorem dX10_length_9 : decode cX10_length 9 = .ok (.ifCond .eq 10, 3) := by decide +kernel
theorem dX10_length_12 : decode cX10_length 12 = .ok (.aload_n 0, 1) := by decide +kernel
theorem dX10_length_13 : decode cX10_length 13 = .ok (.getfield 213, 3) := by decide +kernel
theorem dX10_length_16 : decode cX10_length 16 = .ok (.goto 4, 3) := by decide +kernel
theorem dX10_length_19 : decode cX10_length 19 = .ok (.iconst (-1), 1) := by decide +kernel
theorem dX10_length_20 : decode cX10_length 20 = .ok (.ireturn, 1) := by decide +kernel
theorem dX10_at_0 : decode cX10_at 0 = .ok (.aload_n 0, 1) := by decide +kernel
theorem dX10_at_1 : decode cX10_at 1 = .ok (.iconst 0, 1) := by decide +kernel
theorem dX10_at_2 : decode cX10_at 2 = .ok (.putfield 111, 3) := by decide +kernel
theorem dX10_at_5 : decode cX10_at 5 = .ok (.aload_n 0, 1) := by decide +kernel
theorem dX10_at_6 : decode cX10_at 6 = .ok (.getfield 191, 3) := by decide +kernel
theorem dX10_at_9 : decode cX10_at 9 = .ok (.ifCond .eq 15, 3) := by decide +kernel
theorem dX10_at_12 : decode cX10_at 12 = .ok (.iload_n 1, 1) := by decide +kernel
theorem dX10_at_13 : decode cX10_at 13 = .ok (.ifCond .lt 11, 3) := by decide +kernel
theorem dX10_at_16 : decode cX10_at 16 = .ok (.iload_n 1, 1) := by decide +kernel
theorem dX10_at_17 : decode cX10_at 17 = .ok (.aload_n 0, 1) := by decide +kernel
theorem dX10_at_18 : decode cX10_at 18 = .ok (.getfield 213, 3) := by decide +kernel
theorem dX10_at_21 : decode cX10_at 21 = .ok (.if_icmp .lt 7, 3) := by decide +kernel
theorem dX10_at_24 : decode cX10_at 24 = .ok (.iconst (-1), 1) := by decide +kernel
theorem dX10_at_25 : decode cX10_at 25 = .ok (.goto 9, 3) := by decide +kernel
theorem dX10_at_28 : decode cX10_at 28 = .ok (.aload_n 0, 1) := by decide +kernel
theorem dX10_at_29 : decode cX10_at 29 = .ok (.getfield 105, 3) := by decide +kernel
theorem dX10_at_32 : decode cX10_at 32 = .ok (.iload_n 1, 1) := by decide +kernel
theorem dX10_at_33 : decode cX10_at 33 = .ok (.iaload, 1) := by decide +kernel
theorem dX10_at_34 : decode cX10_at 34 = .ok (.ireturn, 1) := by decide +kernel
theorem dX10_shortest_0 : decode cX10_shortest 0 = .ok (.aload_n 0, 1) := by decide +kernel
theorem dX10_shortest_1 : decode cX10_shortest 1 = .ok (.iconst 0, 1) := by decide +kernel
theorem dX10_shortest_2 : decode cX10_shortest 2 = .ok (.putfield 111, 3) := by decide +kernel
theorem dX10_shortest_5 : decode cX10_shortest 5 = .ok (.aload_n 0, 1) := by decide +kernel
theorem dX10_shortest_6 : decode cX10_shortest 6 = .ok (.getfield 191, 3) := by decide +kernel
theorem dX10_shortest_9 : decode cX10_shortest 9 = .ok (.ifCond .eq 14, 3) := by decide +kernel
theorem dX10_shortest_12 : decode cX10_shortest 12 = .ok (.aload_n 0, 1) := by decide +kernel
theorem dX10_shortest_13 : decode cX10_shortest 13 = .ok (.getfield 210, 3) := by decide +kernel
theorem dX10_shortest_16 : decode cX10_shortest 16 = .ok (.ifCond .eq 7, 3) := by decide +kernel
theorem dX10_shortest_19 : decode cX10_shortest 19 = .ok (.iconst 1, 1) := by decide +kernel
theorem dX10_shortest_20 : decode cX10_shortest 20 = .ok (.goto 4, 3) := by decide +kernel
theorem dX10_shortest_23 : decode cX10_shortest 23 = .ok (.iconst 0, 1) := by decide +kernel
theorem dX10_shortest_24 : decode cX10_shortest 24 = .ok (.ireturn, 1) := by decide +kernel
theorem dX10_replays_0 : decode cX10_replays 0 = .ok (.aload_n 0, 1) := by decide +kernel
theorem dX10_replays_1 : decode cX10_replays 1 = .ok (.iconst 0, 1) := by decide +kernel
theorem dX10_replays_2 : decode cX10_replays 2 = .ok (.putfield 111, 3) := by decide +kernel
theorem dX10_replays_5 : decode cX10_replays 5 = .ok (.aload_n 0, 1) := by decide +kernel
theorem dX10_replays_6 : decode cX10_replays 6 = .ok (.getfield 191, 3) := by decide +kernel
theorem dX10_replays_9 : decode cX10_replays 9 = .ok (.ifCond .eq 10, 3) := by decide +kernel
theorem dX10_replays_12 : decode cX10_replays 12 = .ok (.aload_n 0, 1) := by decide +kernel
theorem dX10_replays_13 : decode cX10_replays 13 = .ok (.getfield 138, 3) := by decide +kernel
theorem dX10_replays_16 : decode cX10_replays 16 = .ok (.ifCond .ne 5, 3) := by decide +kernel
theorem dX10_replays_19 : decode cX10_replays 19 = .ok (.iconst (-1), 1) := by decide +kernel
theorem dX10_replays_20 : decode cX10_replays 20 = .ok (.ireturn, 1) := by decide +kernel
theorem dX10_replays_21 : decode cX10_replays 21 = .ok (.iconst 0, 1) := by decide +kernel
theorem dX10_replays_22 : decode cX10_replays 22 = .ok (.istore_n 1, 1) := by decide +kernel
theorem dX10_replays_23 : decode cX10_replays 23 = .ok (.iload_n 1, 1) := by decide +kernel
theorem dX10_replays_24 : decode cX10_replays 24 = .ok (.aload_n 0, 1) := by decide +kernel
theorem dX10_replays_25 : decode cX10_replays 25 = .ok (.getfield 115, 3) := by decide +kernel
theorem dX10_replays_28 : decode cX10_replays 28 = .ok (.if_icmp .ge 21, 3) := by decide +kernel
theorem dX10_replays_31 : decode cX10_replays 31 = .ok (.aload_n 0, 1) := by decide +kernel
theorem dX10_replays_32 : decode cX10_replays 32 = .ok (.getfield 68, 3) := by decide +kernel
theorem dX10_replays_35 : decode cX10_replays 35 = .ok (.iload_n 1, 1) := by decide +kernel
theorem dX10_replays_36 : decode cX10_replays 36 = .ok (.aload_n 0, 1) := by decide +kernel
theorem dX10_replays_37 : decode cX10_replays 37 = .ok (.getfield 7, 3) := by decide +kernel
theorem dX10_replays_40 : decode cX10_replays 40 = .ok (.iload_n 1, 1) := by decide +kernel
theorem dX10_replays_41 : decode cX10_replays 41 = .ok (.iaload, 1) := by decide +kernel
theorem dX10_replays_42 : decode cX10_replays 42 = .ok (.iastore, 1) := by decide +kernel
theorem dX10_replays_43 : decode cX10_replays 43 = .ok (.iinc 1 1, 3) := by decide +kernel
theorem dX10_replays_46 : decode cX10_replays 46 = .ok (.goto (-23), 3) := by decide +kernel
theorem dX10_replays_49 : decode cX10_replays 49 = .ok (.aload_n 0, 1) := by decide +kernel
theorem dX10_replays_50 : decode cX10_replays 50 = .ok (.iconst 0, 1) := by decide +kernel
theorem dX10_replays_51 : decode cX10_replays 51 = .ok (.putfield 141, 3) := by decide +kernel
theorem dX10_replays_54 : decode cX10_replays 54 = .ok (.iconst 0, 1) := by decide +kernel
theorem dX10_replays_55 : decode cX10_replays 55 = .ok (.istore_n 1, 1) := by decide +kernel
theorem dX10_replays_56 : decode cX10_replays 56 = .ok (.iload_n 1, 1) := by decide +kernel
theorem dX10_replays_57 : decode cX10_replays 57 = .ok (.aload_n 0, 1) := by decide +kernel
theorem dX10_replays_58 : decode cX10_replays 58 = .ok (.getfield 213, 3) := by decide +kernel
theorem dX10_replays_61 : decode cX10_replays 61 = .ok (.if_icmp .ge 34, 3) := by decide +kernel
theorem dX10_replays_64 : decode cX10_replays 64 = .ok (.aload_n 0, 1) := by decide +kernel
theorem dX10_replays_65 : decode cX10_replays 65 = .ok (.aload_n 0, 1) := by decide +kernel
theorem dX10_replays_66 : decode cX10_replays 66 = .ok (.getfield 105, 3) := by decide +kernel
theorem dX10_replays_69 : decode cX10_replays 69 = .ok (.iload_n 1, 1) := by decide +kernel
theorem dX10_replays_70 : decode cX10_replays 70 = .ok (.iaload, 1) := by decide +kernel
theorem dX10_replays_71 : decode cX10_replays 71 = .ok (.invokevirtual 158, 3) := by decide +kernel
theorem dX10_replays_74 : decode cX10_replays 74 = .ok (.ifCond .ne 5, 3) := by decide +kernel
theorem dX10_replays_77 : decode cX10_replays 77 = .ok (.iconst 0, 1) := by decide +kernel
theorem dX10_replays_78 : decode cX10_replays 78 = .ok (.ireturn, 1) := by decide +kernel
theorem dX10_replays_79 : decode cX10_replays 79 = .ok (.aload_n 0, 1) := by decide +kernel
theorem dX10_replays_80 : decode cX10_replays 80 = .ok (.aload_n 0, 1) := by decide +kernel
theorem dX10_replays_81 : decode cX10_replays 81 = .ok (.getfield 105, 3) := by decide +kernel
theorem dX10_replays_84 : decode cX10_replays 84 = .ok (.iload_n 1, 1) := by decide +kernel
theorem dX10_replays_85 : decode cX10_replays 85 = .ok (.iaload, 1) := by decide +kernel
theorem dX10_replays_86 : decode cX10_replays 86 = .ok (.invokevirtual 161, 3) := by decide +kernel
theorem dX10_replays_89 : decode cX10_replays 89 = .ok (.iinc 1 1, 3) := by decide +kernel
theorem dX10_replays_92 : decode cX10_replays 92 = .ok (.goto (-36), 3) := by decide +kernel
theorem dX10_replays_95 : decode cX10_replays 95 = .ok (.aload_n 0, 1) := by decide +kernel
theorem dX10_replays_96 : decode cX10_replays 96 = .ok (.iconst 1, 1) := by decide +kernel
theorem dX10_replays_97 : decode cX10_replays 97 = .ok (.invokevirtual 227, 3) := by decide +kernel
theorem dX10_replays_100 : decode cX10_replays 100 = .ok (.ifCond .eq 7, 3) := by decide +kernel
theorem dX10_replays_103 : decode cX10_replays 103 = .ok (.iconst 1, 1) := by decide +kernel
theorem dX10_replays_104 : decode cX10_replays 104 = .ok (.goto 4, 3) := by decide +kernel
theorem dX10_replays_107 : decode cX10_replays 107 = .ok (.iconst 0, 1) := by decide +kernel
theorem dX10_replays_108 : decode cX10_replays 108 = .ok (.ireturn, 1) := by decide +kernel
theorem dX10_noNode_0 : decode cX10_noNode 0 = .ok (.iload_n 1, 1) := by decide +kernel
theorem dX10_noNode_1 : decode cX10_noNode 1 = .ok (.ifCond .lt 11, 3) := by decide +kernel
theorem dX10_noNode_4 : decode cX10_noNode 4 = .ok (.iload_n 1, 1) := by decide +kernel
theorem dX10_noNode_5 : decode cX10_noNode 5 = .ok (.aload_n 0, 1) := by decide +kernel
theorem dX10_noNode_6 : decode cX10_noNode 6 = .ok (.getfield 185, 3) := by decide +kernel
theorem dX10_noNode_9 : decode cX10_noNode 9 = .ok (.if_icmp .lt 7, 3) := by decide +kernel
theorem dX10_noNode_12 : decode cX10_noNode 12 = .ok (.iconst 1, 1) := by decide +kernel
theorem dX10_noNode_13 : decode cX10_noNode 13 = .ok (.goto 4, 3) := by decide +kernel
theorem dX10_noNode_16 : decode cX10_noNode 16 = .ok (.iconst 0, 1) := by decide +kernel
theorem dX10_noNode_17 : decode cX10_noNode 17 = .ok (.ireturn, 1) := by decide +kernel
theorem dX10_node_0 : decode cX10_node 0 = .ok (.aload_n 0, 1) := by decide +kernel
theorem dX10_node_1 : decode cX10_node 1 = .ok (.iconst 0, 1) := by decide +kernel
theorem dX10_node_2 : decode cX10_node 2 = .ok (.putfield 111, 3) := by decide +kernel
theorem dX10_node_5 : decode cX10_node 5 = .ok (.aload_n 0, 1) := by decide +kernel
theorem dX10_node_6 : decode cX10_node 6 = .ok (.iload_n 1, 1) := by decide +kernel
theorem dX10_node_7 : decode cX10_node 7 = .ok (.invokevirtual 244, 3) := by decide +kernel
theorem dX10_node_10 : decode cX10_node 10 = .ok (.ifCond .eq 5, 3) := by decide +kernel
theorem dX10_node_13 : decode cX10_node 13 = .ok (.iconst (-1), 1) := by decide +kernel
theorem dX10_node_14 : decode cX10_node 14 = .ok (.ireturn, 1) := by decide +kernel
theorem dX10_node_15 : decode cX10_node 15 = .ok (.iload_n 2, 1) := by decide +kernel
theorem dX10_node_16 : decode cX10_node 16 = .ok (.tableswitch 109 0 6 #[44, 51, 58, 65, 72, 87, 102], 44) := by decide +kernel
theorem dX10_node_60 : decode cX10_node 60 = .ok (.aload_n 0, 1) := by decide +kernel
theorem dX10_node_61 : decode cX10_node 61 = .ok (.getfield 81, 3) := by decide +kernel
theorem dX10_node_64 : decode cX10_node 64 = .ok (.iload_n 1, 1) := by decide +kernel
theorem dX10_node_65 : decode cX10_node 65 = .ok (.iaload, 1) := by decide +kernel
theorem dX10_node_66 : decode cX10_node 66 = .ok (.ireturn, 1) := by decide +kernel
theorem dX10_node_67 : decode cX10_node 67 = .ok (.aload_n 0, 1) := by decide +kernel
theorem dX10_node_68 : decode cX10_node 68 = .ok (.getfield 84, 3) := by decide +kernel
theorem dX10_node_71 : decode cX10_node 71 = .ok (.iload_n 1, 1) := by decide +kernel
theorem dX10_node_72 : decode cX10_node 72 = .ok (.iaload, 1) := by decide +kernel
theorem dX10_node_73 : decode cX10_node 73 = .ok (.ireturn, 1) := by decide +kernel
theorem dX10_node_74 : decode cX10_node 74 = .ok (.aload_n 0, 1) := by decide +kernel
theorem dX10_node_75 : decode cX10_node 75 = .ok (.getfield 87, 3) := by decide +kernel
theorem dX10_node_78 : decode cX10_node 78 = .ok (.iload_n 1, 1) := by decide +kernel
theorem dX10_node_79 : decode cX10_node 79 = .ok (.iaload, 1) := by decide +kernel
theorem dX10_node_80 : decode cX10_node 80 = .ok (.ireturn, 1) := by decide +kernel
theorem dX10_node_81 : decode cX10_node 81 = .ok (.aload_n 0, 1) := by decide +kernel
theorem dX10_node_82 : decode cX10_node 82 = .ok (.getfield 78, 3) := by decide +kernel
theorem dX10_node_85 : decode cX10_node 85 = .ok (.iload_n 1, 1) := by decide +kernel
theorem dX10_node_86 : decode cX10_node 86 = .ok (.iaload, 1) := by decide +kernel
theorem dX10_node_87 : decode cX10_node 87 = .ok (.ireturn, 1) := by decide +kernel
theorem dX10_node_88 : decode cX10_node 88 = .ok (.aload_n 0, 1) := by decide +kernel
theorem dX10_node_89 : decode cX10_node 89 = .ok (.getfield 93, 3) := by decide +kernel
theorem dX10_node_92 : decode cX10_node 92 = .ok (.iload_n 1, 1) := by decide +kernel
theorem dX10_node_93 : decode cX10_node 93 = .ok (.baload, 1) := by decide +kernel
theorem dX10_node_94 : decode cX10_node 94 = .ok (.ifCond .eq 7, 3) := by decide +kernel
theorem dX10_node_97 : decode cX10_node 97 = .ok (.iconst 1, 1) := by decide +kernel
theorem dX10_node_98 : decode cX10_node 98 = .ok (.goto 4, 3) := by decide +kernel
theorem dX10_node_101 : decode cX10_node 101 = .ok (.iconst 0, 1) := by decide +kernel
theorem dX10_node_102 : decode cX10_node 102 = .ok (.ireturn, 1) := by decide +kernel
theorem dX10_node_103 : decode cX10_node 103 = .ok (.aload_n 0, 1) := by decide +kernel
theorem dX10_node_104 : decode cX10_node 104 = .ok (.getfield 96, 3) := by decide +kernel
theorem dX10_node_107 : decode cX10_node 107 = .ok (.iload_n 1, 1) := by decide +kernel
theorem dX10_node_108 : decode cX10_node 108 = .ok (.baload, 1) := by decide +kernel
theorem dX10_node_109 : decode cX10_node 109 = .ok (.ifCond .eq 7, 3) := by decide +kernel
theorem dX10_node_112 : decode cX10_node 112 = .ok (.iconst 1, 1) := by decide +kernel
theorem dX10_node_113 : decode cX10_node 113 = .ok (.goto 4, 3) := by decide +kernel
theorem dX10_node_116 : decode cX10_node 116 = .ok (.iconst 0, 1) := by decide +kernel
theorem dX10_node_117 : decode cX10_node 117 = .ok (.ireturn, 1) := by decide +kernel
theorem dX10_node_118 : decode cX10_node 118 = .ok (.aload_n 0, 1) := by decide +kernel
theorem dX10_node_119 : decode cX10_node 119 = .ok (.getfield 90, 3) := by decide +kernel
theorem dX10_node_122 : decode cX10_node 122 = .ok (.iload_n 1, 1) := by decide +kernel
theorem dX10_node_123 : decode cX10_node 123 = .ok (.iaload, 1) := by decide +kernel
theorem dX10_node_124 : decode cX10_node 124 = .ok (.ireturn, 1) := by decide +kernel
theorem dX10_node_125 : decode cX10_node 125 = .ok (.iload_n 2, 1) := by decide +kernel
theorem dX10_node_126 : decode cX10_node 126 = .ok (.bipush 10, 2) := by decide +kernel
theorem dX10_node_128 : decode cX10_node 128 = .ok (.if_icmp .lt 14, 3) := by decide +kernel
theorem dX10_node_131 : decode cX10_node 131 = .ok (.iload_n 2, 1) := by decide +kernel
theorem dX10_node_132 : decode cX10_node 132 = .ok (.bipush 10, 2) := by decide +kernel
theorem dX10_node_134 : decode cX10_node 134 = .ok (.isub, 1) := by decide +kernel
theorem dX10_node_135 : decode cX10_node 135 = .ok (.aload_n 0, 1) := by decide +kernel
theorem dX10_node_136 : decode cX10_node 136 = .ok (.getfield 201, 3) := by decide +kernel
theorem dX10_node_139 : decode cX10_node 139 = .ok (.if_icmp .lt 7, 3) := by decide +kernel
theorem dX10_node_142 : decode cX10_node 142 = .ok (.iconst (-1), 1) := by decide +kernel
theorem dX10_node_143 : decode cX10_node 143 = .ok (.goto 20, 3) := by decide +kernel
theorem dX10_node_146 : decode cX10_node 146 = .ok (.aload_n 0, 1) := by decide +kernel
theorem dX10_node_147 : decode cX10_node 147 = .ok (.getfield 74, 3) := by decide +kernel
theorem dX10_node_150 : decode cX10_node 150 = .ok (.iload_n 1, 1) := by decide +kernel
theorem dX10_node_151 : decode cX10_node 151 = .ok (.laload, 1) := by decide +kernel
theorem dX10_node_152 : decode cX10_node 152 = .ok (.iconst 4, 1) := by decide +kernel
theorem dX10_node_153 : decode cX10_node 153 = .ok (.iload_n 2, 1) := by decide +kernel
theorem dX10_node_154 : decode cX10_node 154 = .ok (.bipush 10, 2) := by decide +kernel
theorem dX10_node_156 : decode cX10_node 156 = .ok (.isub, 1) := by decide +kernel
theorem dX10_node_157 : decode cX10_node 157 = .ok (.imul, 1) := by decide +kernel
theorem dX10_node_158 : decode cX10_node 158 = .ok (.lshr, 1) := by decide +kernel
theorem dX10_node_159 : decode cX10_node 159 = .ok (.l2i, 1) := by decide +kernel
theorem dX10_node_160 : decode cX10_node 160 = .ok (.bipush 15, 2) := by decide +kernel
theorem dX10_node_162 : decode cX10_node 162 = .ok (.iand, 1) := by decide +kernel
theorem dX10_node_163 : decode cX10_node 163 = .ok (.ireturn, 1) := by decide +kernel
theorem dX10_meet_0 : decode cX10_meet 0 = .ok (.aload_n 0, 1) := by decide +kernel
theorem dX10_meet_1 : decode cX10_meet 1 = .ok (.iconst 0, 1) := by decide +kernel
theorem dX10_meet_2 : decode cX10_meet 2 = .ok (.putfield 111, 3) := by decide +kernel
theorem dX10_meet_5 : decode cX10_meet 5 = .ok (.aload_n 0, 1) := by decide +kernel
theorem dX10_meet_6 : decode cX10_meet 6 = .ok (.iload_n 1, 1) := by decide +kernel
theorem dX10_meet_7 : decode cX10_meet 7 = .ok (.invokevirtual 244, 3) := by decide +kernel
theorem dX10_meet_10 : decode cX10_meet 10 = .ok (.ifCond .ne 11, 3) := by decide +kernel
theorem dX10_meet_13 : decode cX10_meet 13 = .ok (.aload_n 0, 1) := by decide +kernel
theorem dX10_meet_14 : decode cX10_meet 14 = .ok (.iload_n 2, 1) := by decide +kernel
theorem dX10_meet_15 : decode cX10_meet 15 = .ok (.invokevirtual 244, 3) := by decide +kernel
theorem dX10_meet_18 : decode cX10_meet 18 = .ok (.ifCond .eq 5, 3) := by decide +kernel
theorem dX10_meet_21 : decode cX10_meet 21 = .ok (.iconst (-1), 1) := by decide +kernel
theorem dX10_meet_22 : decode cX10_meet 22 = .ok (.ireturn, 1) := by decide +kernel
theorem dX10_meet_23 : decode cX10_meet 23 = .ok (.aload_n 0, 1) := by decide +kernel
theorem dX10_meet_24 : decode cX10_meet 24 = .ok (.getfield 74, 3) := by decide +kernel
theorem dX10_meet_27 : decode cX10_meet 27 = .ok (.iload_n 1, 1) := by decide +kernel
theorem dX10_meet_28 : decode cX10_meet 28 = .ok (.laload, 1) := by decide +kernel
theorem dX10_meet_29 : decode cX10_meet 29 = .ok (.aload_n 0, 1) := by decide +kernel
theorem dX10_meet_30 : decode cX10_meet 30 = .ok (.getfield 74, 3) := by decide +kernel
theorem dX10_meet_33 : decode cX10_meet 33 = .ok (.iload_n 2, 1) := by decide +kernel
theorem dX10_meet_34 : decode cX10_meet 34 = .ok (.laload, 1) := by decide +kernel
theorem dX10_meet_35 : decode cX10_meet 35 = .ok (.lcmp, 1) := by decide +kernel
theorem dX10_meet_36 : decode cX10_meet 36 = .ok (.ifCond .ne 7, 3) := by decide +kernel
theorem dX10_meet_39 : decode cX10_meet 39 = .ok (.iconst 1, 1) := by decide +kernel
theorem dX10_meet_40 : decode cX10_meet 40 = .ok (.goto 4, 3) := by decide +kernel
theorem dX10_meet_43 : decode cX10_meet 43 = .ok (.iconst 0, 1) := by decide +kernel
theorem dX10_meet_44 : decode cX10_meet 44 = .ok (.ireturn, 1) := by decide +kernel
theorem dX10_seen_0 : decode cX10_seen 0 = .ok (.aload_n 0, 1) := by decide +kernel
theorem dX10_seen_1 : decode cX10_seen 1 = .ok (.iconst 0, 1) := by decide +kernel
theorem dX10_seen_2 : decode cX10_seen 2 = .ok (.putfield 111, 3) := by decide +kernel
theorem dX10_seen_5 : decode cX10_seen 5 = .ok (.iload_n 1, 1) := by decide +kernel
theorem dX10_seen_6 : decode cX10_seen 6 = .ok (.ifCond .lt 25, 3) := by decide +kernel
theorem dX10_seen_9 : decode cX10_seen 9 = .ok (.iload_n 1, 1) := by decide +kernel
theorem dX10_seen_10 : decode cX10_seen 10 = .ok (.bipush 32, 2) := by decide +kernel
theorem dX10_seen_12 : decode cX10_seen 12 = .ok (.if_icmp .ge 19, 3) := by decide +kernel
theorem dX10_seen_15 : decode cX10_seen 15 = .ok (.aload_n 0, 1) := by decide +kernel
theorem dX10_seen_16 : decode cX10_seen 16 = .ok (.getfield 195, 3) := by decide +kernel
theorem dX10_seen_19 : decode cX10_seen 19 = .ok (.iload_n 1, 1) := by decide +kernel
theorem dX10_seen_20 : decode cX10_seen 20 = .ok (.ishr, 1) := by decide +kernel
theorem dX10_seen_21 : decode cX10_seen 21 = .ok (.iconst 1, 1) := by decide +kernel
theorem dX10_seen_22 : decode cX10_seen 22 = .ok (.iand, 1) := by decide +kernel
theorem dX10_seen_23 : decode cX10_seen 23 = .ok (.iconst 1, 1) := by decide +kernel
theorem dX10_seen_24 : decode cX10_seen 24 = .ok (.if_icmp .ne 7, 3) := by decide +kernel
theorem dX10_seen_27 : decode cX10_seen 27 = .ok (.iconst 1, 1) := by decide +kernel
theorem dX10_seen_28 : decode cX10_seen 28 = .ok (.goto 4, 3) := by decide +kernel
theorem dX10_seen_31 : decode cX10_seen 31 = .ok (.iconst 0, 1) := by decide +kernel
theorem dX10_seen_32 : decode cX10_seen 32 = .ok (.ireturn, 1) := by decide +kernel
theorem dX10_never_0 : decode cX10_never 0 = .ok (.aload_n 0, 1) := by decide +kernel
theorem dX10_never_1 : decode cX10_never 1 = .ok (.iconst 0, 1) := by decide +kernel
theorem dX10_never_2 : decode cX10_never 2 = .ok (.putfield 111, 3) := by decide +kernel
theorem dX10_never_5 : decode cX10_never 5 = .ok (.iload_n 1, 1) := by decide +kernel
theorem dX10_never_6 : decode cX10_never 6 = .ok (.istore_n 2, 1) := by decide +kernel
theorem dX10_never_7 : decode cX10_never 7 = .ok (.iconst 0, 1) := by decide +kernel
theorem dX10_never_8 : decode cX10_never 8 = .ok (.istore_n 3, 1) := by decide +kernel
theorem dX10_never_9 : decode cX10_never 9 = .ok (.iload_n 3, 1) := by decide +kernel
theorem dX10_never_10 : decode cX10_never 10 = .ok (.bipush 32, 2) := by decide +kernel
theorem dX10_never_12 : decode cX10_never 12 = .ok (.if_icmp .ge 45, 3) := by decide +kernel
theorem dX10_never_15 : decode cX10_never 15 = .ok (.iload_n 1, 1) := by decide +kernel
theorem dX10_never_16 : decode cX10_never 16 = .ok (.ifCond .lt 41, 3) := by decide +kernel
theorem dX10_never_19 : decode cX10_never 19 = .ok (.aload_n 0, 1) := by decide +kernel
theorem dX10_never_20 : decode cX10_never 20 = .ok (.getfield 198, 3) := by decide +kernel
theorem dX10_never_23 : decode cX10_never 23 = .ok (.iload_n 3, 1) := by decide +kernel
theorem dX10_never_24 : decode cX10_never 24 = .ok (.ishr, 1) := by decide +kernel
theorem dX10_never_25 : decode cX10_never 25 = .ok (.iconst 1, 1) := by decide +kernel
theorem dX10_never_26 : decode cX10_never 26 = .ok (.iand, 1) := by decide +kernel
theorem dX10_never_27 : decode cX10_never 27 = .ok (.iconst 1, 1) := by decide +kernel
theorem dX10_never_28 : decode cX10_never 28 = .ok (.if_icmp .ne 23, 3) := by decide +kernel
theorem dX10_never_31 : decode cX10_never 31 = .ok (.aload_n 0, 1) := by decide +kernel
theorem dX10_never_32 : decode cX10_never 32 = .ok (.getfield 195, 3) := by decide +kernel
theorem dX10_never_35 : decode cX10_never 35 = .ok (.iload_n 3, 1) := by decide +kernel
theorem dX10_never_36 : decode cX10_never 36 = .ok (.ishr, 1) := by decide +kernel
theorem dX10_never_37 : decode cX10_never 37 = .ok (.iconst 1, 1) := by decide +kernel
theorem dX10_never_38 : decode cX10_never 38 = .ok (.iand, 1) := by decide +kernel
theorem dX10_never_39 : decode cX10_never 39 = .ok (.ifCond .ne 12, 3) := by decide +kernel
theorem dX10_never_42 : decode cX10_never 42 = .ok (.iload_n 2, 1) := by decide +kernel
theorem dX10_never_43 : decode cX10_never 43 = .ok (.ifCond .ne 5, 3) := by decide +kernel
theorem dX10_never_46 : decode cX10_never 46 = .ok (.iload_n 3, 1) := by decide +kernel
theorem dX10_never_47 : decode cX10_never 47 = .ok (.ireturn, 1) := by decide +kernel
theorem dX10_never_48 : decode cX10_never 48 = .ok (.iinc 2 (-1), 3) := by decide +kernel
theorem dX10_never_51 : decode cX10_never 51 = .ok (.iinc 3 1, 3) := by decide +kernel
theorem dX10_never_54 : decode cX10_never 54 = .ok (.goto (-45), 3) := by decide +kernel
theorem dX10_never_57 : decode cX10_never 57 = .ok (.iconst (-1), 1) := by decide +kernel
theorem dX10_never_58 : decode cX10_never 58 = .ok (.ireturn, 1) := by decide +kernel
theorem dX10_queue_0 : decode cX10_queue 0 = .ok (.aload_n 0, 1) := by decide +kernel
theorem dX10_queue_1 : decode cX10_queue 1 = .ok (.iload_n 1, 1) := by decide +kernel
theorem dX10_queue_2 : decode cX10_queue 2 = .ok (.ifCond .lt 11, 3) := by decide +kernel
theorem dX10_queue_5 : decode cX10_queue 5 = .ok (.iload_n 1, 1) := by decide +kernel
theorem dX10_queue_6 : decode cX10_queue 6 = .ok (.aload_n 0, 1) := by decide +kernel
theorem dX10_queue_7 : decode cX10_queue 7 = .ok (.getfield 188, 3) := by decide +kernel
theorem dX10_queue_10 : decode cX10_queue 10 = .ok (.if_icmp .lt 7, 3) := by decide +kernel
theorem dX10_queue_13 : decode cX10_queue 13 = .ok (.iconst 1, 1) := by decide +kernel
theorem dX10_queue_14 : decode cX10_queue 14 = .ok (.goto 4, 3) := by decide +kernel
theorem dX10_queue_17 : decode cX10_queue 17 = .ok (.iconst 0, 1) := by decide +kernel
theorem dX10_queue_18 : decode cX10_queue 18 = .ok (.putfield 111, 3) := by decide +kernel
theorem dX10_queue_21 : decode cX10_queue 21 = .ok (.aload_n 0, 1) := by decide +kernel
theorem dX10_queue_22 : decode cX10_queue 22 = .ok (.getfield 111, 3) := by decide +kernel
theorem dX10_queue_25 : decode cX10_queue 25 = .ok (.ifCond .le 7, 3) := by decide +kernel
theorem dX10_queue_28 : decode cX10_queue 28 = .ok (.iconst 0, 1) := by decide +kernel
theorem dX10_queue_29 : decode cX10_queue 29 = .ok (.goto 9, 3) := by decide +kernel
theorem dX10_queue_32 : decode cX10_queue 32 = .ok (.aload_n 0, 1) := by decide +kernel
theorem dX10_queue_33 : decode cX10_queue 33 = .ok (.getfield 99, 3) := by decide +kernel
theorem dX10_queue_36 : decode cX10_queue 36 = .ok (.iload_n 1, 1) := by decide +kernel
theorem dX10_queue_37 : decode cX10_queue 37 = .ok (.iaload, 1) := by decide +kernel
theorem dX10_queue_38 : decode cX10_queue 38 = .ok (.ireturn, 1) := by decide +kernel
theorem dX10_begin_0 : decode cX10_begin 0 = .ok (.aload_n 0, 1) := by decide +kernel
theorem dX10_begin_1 : decode cX10_begin 1 = .ok (.iconst 0, 1) := by decide +kernel
theorem dX10_begin_2 : decode cX10_begin 2 = .ok (.putfield 111, 3) := by decide +kernel
theorem dX10_begin_5 : decode cX10_begin 5 = .ok (.iconst 0, 1) := by decide +kernel
theorem dX10_begin_6 : decode cX10_begin 6 = .ok (.istore_n 1, 1) := by decide +kernel
theorem dX10_begin_7 : decode cX10_begin 7 = .ok (.iload_n 1, 1) := by decide +kernel
theorem dX10_begin_8 : decode cX10_begin 8 = .ok (.aload_n 0, 1) := by decide +kernel
theorem dX10_begin_9 : decode cX10_begin 9 = .ok (.getfield 115, 3) := by decide +kernel
theorem dX10_begin_12 : decode cX10_begin 12 = .ok (.if_icmp .ge 21, 3) := by decide +kernel
theorem dX10_begin_15 : decode cX10_begin 15 = .ok (.aload_n 0, 1) := by decide +kernel
theorem dX10_begin_16 : decode cX10_begin 16 = .ok (.getfield 71, 3) := by decide +kernel
theorem dX10_begin_19 : decode cX10_begin 19 = .ok (.iload_n 1, 1) := by decide +kernel
theorem dX10_begin_20 : decode cX10_begin 20 = .ok (.aload_n 0, 1) := by decide +kernel
theorem dX10_begin_21 : decode cX10_begin 21 = .ok (.getfield 7, 3) := by decide +kernel
theorem dX10_begin_24 : decode cX10_begin 24 = .ok (.iload_n 1, 1) := by decide +kernel
theorem dX10_begin_25 : decode cX10_begin 25 = .ok (.iaload, 1) := by decide +kernel
theorem dX10_begin_26 : decode cX10_begin 26 = .ok (.iastore, 1) := by decide +kernel
theorem dX10_begin_27 : decode cX10_begin 27 = .ok (.iinc 1 1, 3) := by decide +kernel
theorem dX10_begin_30 : decode cX10_begin 30 = .ok (.goto (-23), 3) := by decide +kernel
theorem dX10_begin_33 : decode cX10_begin 33 = .ok (.aload_n 0, 1) := by decide +kernel
theorem dX10_begin_34 : decode cX10_begin 34 = .ok (.iconst 0, 1) := by decide +kernel
theorem dX10_begin_35 : decode cX10_begin 35 = .ok (.putfield 247, 3) := by decide +kernel
theorem dX10_begin_38 : decode cX10_begin 38 = .ok (.return_, 1) := by decide +kernel
theorem dX10_takeNow_0 : decode cX10_takeNow 0 = .ok (.iconst 0, 1) := by decide +kernel
theorem dX10_takeNow_1 : decode cX10_takeNow 1 = .ok (.istore_n 1, 1) := by decide +kernel
theorem dX10_takeNow_2 : decode cX10_takeNow 2 = .ok (.iload_n 1, 1) := by decide +kernel
theorem dX10_takeNow_3 : decode cX10_takeNow 3 = .ok (.aload_n 0, 1) := by decide +kernel
theorem dX10_takeNow_4 : decode cX10_takeNow 4 = .ok (.getfield 115, 3) := by decide +kernel
theorem dX10_takeNow_7 : decode cX10_takeNow 7 = .ok (.if_icmp .ge 21, 3) := by decide +kernel
theorem dX10_takeNow_10 : decode cX10_takeNow 10 = .ok (.aload_n 0, 1) := by decide +kernel
theorem dX10_takeNow_11 : decode cX10_takeNow 11 = .ok (.getfield 68, 3) := by decide +kernel
theorem dX10_takeNow_14 : decode cX10_takeNow 14 = .ok (.iload_n 1, 1) := by decide +kernel
theorem dX10_takeNow_15 : decode cX10_takeNow 15 = .ok (.aload_n 0, 1) := by decide +kernel
theorem dX10_takeNow_16 : decode cX10_takeNow 16 = .ok (.getfield 71, 3) := by decide +kernel
theorem dX10_takeNow_19 : decode cX10_takeNow 19 = .ok (.iload_n 1, 1) := by decide +kernel
theorem dX10_takeNow_20 : decode cX10_takeNow 20 = .ok (.iaload, 1) := by decide +kernel
theorem dX10_takeNow_21 : decode cX10_takeNow 21 = .ok (.iastore, 1) := by decide +kernel
theorem dX10_takeNow_22 : decode cX10_takeNow 22 = .ok (.iinc 1 1, 3) := by decide +kernel
theorem dX10_takeNow_25 : decode cX10_takeNow 25 = .ok (.goto (-23), 3) := by decide +kernel
theorem dX10_takeNow_28 : decode cX10_takeNow 28 = .ok (.aload_n 0, 1) := by decide +kernel
theorem dX10_takeNow_29 : decode cX10_takeNow 29 = .ok (.aload_n 0, 1) := by decide +kernel
theorem dX10_takeNow_30 : decode cX10_takeNow 30 = .ok (.getfield 247, 3) := by decide +kernel
theorem dX10_takeNow_33 : decode cX10_takeNow 33 = .ok (.putfield 141, 3) := by decide +kernel
theorem dX10_takeNow_36 : decode cX10_takeNow 36 = .ok (.return_, 1) := by decide +kernel
theorem dX10_step_0 : decode cX10_step 0 = .ok (.aload_n 0, 1) := by decide +kernel
theorem dX10_step_1 : decode cX10_step 1 = .ok (.iconst 0, 1) := by decide +kernel
theorem dX10_step_2 : decode cX10_step 2 = .ok (.putfield 111, 3) := by decide +kernel
theorem dX10_step_5 : decode cX10_step 5 = .ok (.iload_n 1, 1) := by decide +kernel
theorem dX10_step_6 : decode cX10_step 6 = .ok (.ifCond .lt 11, 3) := by decide +kernel
theorem dX10_step_9 : decode cX10_step 9 = .ok (.iload_n 1, 1) := by decide +kernel
theorem dX10_step_10 : decode cX10_step 10 = .ok (.aload_n 0, 1) := by decide +kernel
theorem dX10_step_11 : decode cX10_step 11 = .ok (.getfield 118, 3) := by decide +kernel
theorem dX10_step_14 : decode cX10_step 14 = .ok (.if_icmp .lt 20, 3) := by decide +kernel
theorem dX10_step_17 : decode cX10_step 17 = .ok (.iload_n 1, 1) := by decide +kernel
theorem dX10_step_18 : decode cX10_step 18 = .ok (.bipush 100, 2) := by decide +kernel
theorem dX10_step_20 : decode cX10_step 20 = .ok (.if_icmp .lt 18, 3) := by decide +kernel
theorem dX10_step_23 : decode cX10_step 23 = .ok (.iload_n 1, 1) := by decide +kernel
theorem dX10_step_24 : decode cX10_step 24 = .ok (.bipush 100, 2) := by decide +kernel
theorem dX10_step_26 : decode cX10_step 26 = .ok (.aload_n 0, 1) := by decide +kernel
theorem dX10_step_27 : decode cX10_step 27 = .ok (.getfield 135, 3) := by decide +kernel
theorem dX10_step_30 : decode cX10_step 30 = .ok (.iadd, 1) := by decide +kernel
theorem dX10_step_31 : decode cX10_step 31 = .ok (.if_icmp .ge 7, 3) := by decide +kernel
theorem dX10_step_34 : decode cX10_step 34 = .ok (.iconst 1, 1) := by decide +kernel
theorem dX10_step_35 : decode cX10_step 35 = .ok (.goto 4, 3) := by decide +kernel
theorem dX10_step_38 : decode cX10_step 38 = .ok (.iconst 0, 1) := by decide +kernel
theorem dX10_step_39 : decode cX10_step 39 = .ok (.istore_n 2, 1) := by decide +kernel
theorem dX10_step_40 : decode cX10_step 40 = .ok (.iload_n 2, 1) := by decide +kernel
theorem dX10_step_41 : decode cX10_step 41 = .ok (.ifCond .ne 5, 3) := by decide +kernel
theorem dX10_step_44 : decode cX10_step 44 = .ok (.iconst (-1), 1) := by decide +kernel
theorem dX10_step_45 : decode cX10_step 45 = .ok (.ireturn, 1) := by decide +kernel
theorem dX10_step_46 : decode cX10_step 46 = .ok (.aload_n 0, 1) := by decide +kernel
theorem dX10_step_47 : decode cX10_step 47 = .ok (.invokevirtual 250, 3) := by decide +kernel
theorem dX10_step_50 : decode cX10_step 50 = .ok (.aload_n 0, 1) := by decide +kernel
theorem dX10_step_51 : decode cX10_step 51 = .ok (.iload_n 1, 1) := by decide +kernel
theorem dX10_step_52 : decode cX10_step 52 = .ok (.invokevirtual 224, 3) := by decide +kernel
theorem dX10_step_55 : decode cX10_step 55 = .ok (.ifCond .ne 5, 3) := by decide +kernel
theorem dX10_step_58 : decode cX10_step 58 = .ok (.iconst 0, 1) := by decide +kernel
theorem dX10_step_59 : decode cX10_step 59 = .ok (.ireturn, 1) := by decide +kernel
theorem dX10_step_60 : decode cX10_step 60 = .ok (.iconst 0, 1) := by decide +kernel
theorem dX10_step_61 : decode cX10_step 61 = .ok (.istore_n 3, 1) := by decide +kernel
theorem dX10_step_62 : decode cX10_step 62 = .ok (.iload_n 3, 1) := by decide +kernel
theorem dX10_step_63 : decode cX10_step 63 = .ok (.aload_n 0, 1) := by decide +kernel
theorem dX10_step_64 : decode cX10_step 64 = .ok (.getfield 115, 3) := by decide +kernel
theorem dX10_step_67 : decode cX10_step 67 = .ok (.if_icmp .ge 21, 3) := by decide +kernel
theorem dX10_step_70 : decode cX10_step 70 = .ok (.aload_n 0, 1) := by decide +kernel
theorem dX10_step_71 : decode cX10_step 71 = .ok (.getfield 71, 3) := by decide +kernel
theorem dX10_step_74 : decode cX10_step 74 = .ok (.iload_n 3, 1) := by decide +kernel
theorem dX10_step_75 : decode cX10_step 75 = .ok (.aload_n 0, 1) := by decide +kernel
theorem dX10_step_76 : decode cX10_step 76 = .ok (.getfield 68, 3) := by decide +kernel
theorem dX10_step_79 : decode cX10_step 79 = .ok (.iload_n 3, 1) := by decide +kernel
theorem dX10_step_80 : decode cX10_step 80 = .ok (.iaload, 1) := by decide +kernel
theorem dX10_step_81 : decode cX10_step 81 = .ok (.iastore, 1) := by decide +kernel
theorem dX10_step_82 : decode cX10_step 82 = .ok (.iinc 3 1, 3) := by decide +kernel
theorem dX10_step_85 : decode cX10_step 85 = .ok (.goto (-23), 3) := by decide +kernel
theorem dX10_step_88 : decode cX10_step 88 = .ok (.aload_n 0, 1) := by decide +kernel
theorem dX10_step_89 : decode cX10_step 89 = .ok (.aload_n 0, 1) := by decide +kernel
theorem dX10_step_90 : decode cX10_step 90 = .ok (.getfield 141, 3) := by decide +kernel
theorem dX10_step_93 : decode cX10_step 93 = .ok (.putfield 247, 3) := by decide +kernel
theorem dX10_step_96 : decode cX10_step 96 = .ok (.iconst 1, 1) := by decide +kernel
theorem dX10_step_97 : decode cX10_step 97 = .ok (.ireturn, 1) := by decide +kernel
theorem dX10_steps_0 : decode cX10_steps 0 = .ok (.iconst 0, 1) := by decide +kernel
theorem dX10_steps_1 : decode cX10_steps 1 = .ok (.istore_n 1, 1) := by decide +kernel
theorem dX10_steps_2 : decode cX10_steps 2 = .ok (.iconst 0, 1) := by decide +kernel
theorem dX10_steps_3 : decode cX10_steps 3 = .ok (.istore_n 2, 1) := by decide +kernel
theorem dX10_steps_4 : decode cX10_steps 4 = .ok (.iload_n 2, 1) := by decide +kernel
theorem dX10_steps_5 : decode cX10_steps 5 = .ok (.aload_n 0, 1) := by decide +kernel
theorem dX10_steps_6 : decode cX10_steps 6 = .ok (.getfield 118, 3) := by decide +kernel
theorem dX10_steps_9 : decode cX10_steps 9 = .ok (.aload_n 0, 1) := by decide +kernel
theorem dX10_steps_10 : decode cX10_steps 10 = .ok (.getfield 135, 3) := by decide +kernel
theorem dX10_steps_13 : decode cX10_steps 13 = .ok (.iadd, 1) := by decide +kernel
theorem dX10_steps_14 : decode cX10_steps 14 = .ok (.if_icmp .ge 33, 3) := by decide +kernel
theorem dX10_steps_17 : decode cX10_steps 17 = .ok (.aload_n 0, 1) := by decide +kernel
theorem dX10_steps_18 : decode cX10_steps 18 = .ok (.invokevirtual 250, 3) := by decide +kernel
theorem dX10_steps_21 : decode cX10_steps 21 = .ok (.iload_n 1, 1) := by decide +kernel
theorem dX10_steps_22 : decode cX10_steps 22 = .ok (.aload_n 0, 1) := by decide +kernel
theorem dX10_steps_23 : decode cX10_steps 23 = .ok (.aload_n 0, 1) := by decide +kernel
theorem dX10_steps_24 : decode cX10_steps 24 = .ok (.iload_n 2, 1) := by decide +kernel
theorem dX10_steps_25 : decode cX10_steps 25 = .ok (.invokevirtual 220, 3) := by decide +kernel
theorem dX10_steps_28 : decode cX10_steps 28 = .ok (.invokevirtual 224, 3) := by decide +kernel
theorem dX10_steps_31 : decode cX10_steps 31 = .ok (.ifCond .eq 7, 3) := by decide +kernel
theorem dX10_steps_34 : decode cX10_steps 34 = .ok (.iconst 1, 1) := by decide +kernel
theorem dX10_steps_35 : decode cX10_steps 35 = .ok (.goto 4, 3) := by decide +kernel
theorem dX10_steps_38 : decode cX10_steps 38 = .ok (.iconst 0, 1) := by decide +kernel
theorem dX10_steps_39 : decode cX10_steps 39 = .ok (.iadd, 1) := by decide +kernel
theorem dX10_steps_40 : decode cX10_steps 40 = .ok (.istore_n 1, 1) := by decide +kernel
theorem dX10_steps_41 : decode cX10_steps 41 = .ok (.iinc 2 1, 3) := by decide +kernel
theorem dX10_steps_44 : decode cX10_steps 44 = .ok (.goto (-40), 3) := by decide +kernel
theorem dX10_steps_47 : decode cX10_steps 47 = .ok (.iload_n 1, 1) := by decide +kernel
theorem dX10_steps_48 : decode cX10_steps 48 = .ok (.ireturn, 1) := by decide +kernel
theorem dX10_now_0 : decode cX10_now 0 = .ok (.aload_n 0, 1) := by decide +kernel
theorem dX10_now_1 : decode cX10_now 1 = .ok (.iconst 0, 1) := by decide +kernel
theorem dX10_now_2 : decode cX10_now 2 = .ok (.putfield 111, 3) := by decide +kernel
theorem dX10_now_5 : decode cX10_now 5 = .ok (.aload_n 0, 1) := by decide +kernel
theorem dX10_now_6 : decode cX10_now 6 = .ok (.invokevirtual 250, 3) := by decide +kernel
theorem dX10_now_9 : decode cX10_now 9 = .ok (.iload_n 1, 1) := by decide +kernel
theorem dX10_now_10 : decode cX10_now 10 = .ok (.tableswitch 59 0 3 #[30, 35, 40, 45], 30) := by decide +kernel
theorem dX10_now_40 : decode cX10_now 40 = .ok (.aload_n 0, 1) := by decide +kernel
theorem dX10_now_41 : decode cX10_now 41 = .ok (.invokevirtual 165, 3) := by decide +kernel
theorem dX10_now_44 : decode cX10_now 44 = .ok (.ireturn, 1) := by decide +kernel
theorem dX10_now_45 : decode cX10_now 45 = .ok (.aload_n 0, 1) := by decide +kernel
theorem dX10_now_46 : decode cX10_now 46 = .ok (.getfield 247, 3) := by decide +kernel
theorem dX10_now_49 : decode cX10_now 49 = .ok (.ireturn, 1) := by decide +kernel
theorem dX10_now_50 : decode cX10_now 50 = .ok (.aload_n 0, 1) := by decide +kernel
theorem dX10_now_51 : decode cX10_now 51 = .ok (.invokevirtual 253, 3) := by decide +kernel
theorem dX10_now_54 : decode cX10_now 54 = .ok (.ireturn, 1) := by decide +kernel
theorem dX10_now_55 : decode cX10_now 55 = .ok (.aload_n 0, 1) := by decide +kernel
theorem dX10_now_56 : decode cX10_now 56 = .ok (.iconst 0, 1) := by decide +kernel
theorem dX10_now_57 : decode cX10_now 57 = .ok (.invokevirtual 227, 3) := by decide +kernel
theorem dX10_now_60 : decode cX10_now 60 = .ok (.ifCond .eq 7, 3) := by decide +kernel
theorem dX10_now_63 : decode cX10_now 63 = .ok (.iconst 1, 1) := by decide +kernel
theorem dX10_now_64 : decode cX10_now 64 = .ok (.goto 4, 3) := by decide +kernel
theorem dX10_now_67 : decode cX10_now 67 = .ok (.iconst 0, 1) := by decide +kernel
theorem dX10_now_68 : decode cX10_now 68 = .ok (.ireturn, 1) := by decide +kernel
theorem dX10_now_69 : decode cX10_now 69 = .ok (.iload_n 1, 1) := by decide +kernel
theorem dX10_now_70 : decode cX10_now 70 = .ok (.bipush 10, 2) := by decide +kernel
theorem dX10_now_72 : decode cX10_now 72 = .ok (.if_icmp .lt 14, 3) := by decide +kernel
theorem dX10_now_75 : decode cX10_now 75 = .ok (.iload_n 1, 1) := by decide +kernel
theorem dX10_now_76 : decode cX10_now 76 = .ok (.bipush 10, 2) := by decide +kernel
theorem dX10_now_78 : decode cX10_now 78 = .ok (.isub, 1) := by decide +kernel
theorem dX10_now_79 : decode cX10_now 79 = .ok (.aload_n 0, 1) := by decide +kernel
theorem dX10_now_80 : decode cX10_now 80 = .ok (.getfield 115, 3) := by decide +kernel
theorem dX10_now_83 : decode cX10_now 83 = .ok (.if_icmp .lt 7, 3) := by decide +kernel
theorem dX10_now_86 : decode cX10_now 86 = .ok (.iconst (-1), 1) := by decide +kernel
theorem dX10_now_87 : decode cX10_now 87 = .ok (.goto 12, 3) := by decide +kernel
theorem dX10_now_90 : decode cX10_now 90 = .ok (.aload_n 0, 1) := by decide +kernel
theorem dX10_now_91 : decode cX10_now 91 = .ok (.getfield 71, 3) := by decide +kernel
theorem dX10_now_94 : decode cX10_now 94 = .ok (.iload_n 1, 1) := by decide +kernel
theorem dX10_now_95 : decode cX10_now 95 = .ok (.bipush 10, 2) := by decide +kernel
theorem dX10_now_97 : decode cX10_now 97 = .ok (.isub, 1) := by decide +kernel
theorem dX10_now_98 : decode cX10_now 98 = .ok (.iaload, 1) := by decide +kernel
theorem dX10_now_99 : decode cX10_now 99 = .ok (.ireturn, 1) := by decide +kernel
theorem dX10_told_0 : decode cX10_told 0 = .ok (.aload_n 0, 1) := by decide +kernel
theorem dX10_told_1 : decode cX10_told 1 = .ok (.iconst 0, 1) := by decide +kernel
theorem dX10_told_2 : decode cX10_told 2 = .ok (.putfield 111, 3) := by decide +kernel
theorem dX10_told_5 : decode cX10_told 5 = .ok (.iconst 0, 1) := by decide +kernel
theorem dX10_told_6 : decode cX10_told 6 = .ok (.istore_n 2, 1) := by decide +kernel
theorem dX10_told_7 : decode cX10_told 7 = .ok (.iconst 0, 1) := by decide +kernel
theorem dX10_told_8 : decode cX10_told 8 = .ok (.istore_n 3, 1) := by decide +kernel
theorem dX10_told_9 : decode cX10_told 9 = .ok (.iload_n 3, 1) := by decide +kernel
theorem dX10_told_10 : decode cX10_told 10 = .ok (.aload_n 0, 1) := by decide +kernel
theorem dX10_told_11 : decode cX10_told 11 = .ok (.getfield 185, 3) := by decide +kernel
theorem dX10_told_14 : decode cX10_told 14 = .ok (.if_icmp .ge 26, 3) := by decide +kernel
theorem dX10_told_17 : decode cX10_told 17 = .ok (.iload_n 2, 1) := by decide +kernel
theorem dX10_told_18 : decode cX10_told 18 = .ok (.aload_n 0, 1) := by decide +kernel
theorem dX10_told_19 : decode cX10_told 19 = .ok (.getfield 96, 3) := by decide +kernel
theorem dX10_told_22 : decode cX10_told 22 = .ok (.iload_n 3, 1) := by decide +kernel
theorem dX10_told_23 : decode cX10_told 23 = .ok (.baload, 1) := by decide +kernel
theorem dX10_told_24 : decode cX10_told 24 = .ok (.ifCond .eq 7, 3) := by decide +kernel
theorem dX10_told_27 : decode cX10_told 27 = .ok (.iconst 1, 1) := by decide +kernel
theorem dX10_told_28 : decode cX10_told 28 = .ok (.goto 4, 3) := by decide +kernel
theorem dX10_told_31 : decode cX10_told 31 = .ok (.iconst 0, 1) := by decide +kernel
theorem dX10_told_32 : decode cX10_told 32 = .ok (.iadd, 1) := by decide +kernel
theorem dX10_told_33 : decode cX10_told 33 = .ok (.istore_n 2, 1) := by decide +kernel
theorem dX10_told_34 : decode cX10_told 34 = .ok (.iinc 3 1, 3) := by decide +kernel
theorem dX10_told_37 : decode cX10_told 37 = .ok (.goto (-28), 3) := by decide +kernel
theorem dX10_told_40 : decode cX10_told 40 = .ok (.iload_n 1, 1) := by decide +kernel
theorem dX10_told_41 : decode cX10_told 41 = .ok (.tableswitch 84 0 7 #[47, 52, 57, 62, 67, 72, 77, 82], 47) := by decide +kernel
theorem dX10_told_88 : decode cX10_told 88 = .ok (.aload_n 0, 1) := by decide +kernel
theorem dX10_told_89 : decode cX10_told 89 = .ok (.getfield 115, 3) := by decide +kernel
theorem dX10_told_92 : decode cX10_told 92 = .ok (.ireturn, 1) := by decide +kernel
theorem dX10_told_93 : decode cX10_told 93 = .ok (.aload_n 0, 1) := by decide +kernel
theorem dX10_told_94 : decode cX10_told 94 = .ok (.getfield 118, 3) := by decide +kernel
theorem dX10_told_97 : decode cX10_told 97 = .ok (.ireturn, 1) := by decide +kernel
theorem dX10_told_98 : decode cX10_told 98 = .ok (.aload_n 0, 1) := by decide +kernel
theorem dX10_told_99 : decode cX10_told 99 = .ok (.getfield 135, 3) := by decide +kernel
theorem dX10_told_102 : decode cX10_told 102 = .ok (.ireturn, 1) := by decide +kernel
theorem dX10_told_103 : decode cX10_told 103 = .ok (.aload_n 0, 1) := by decide +kernel
theorem dX10_told_104 : decode cX10_told 104 = .ok (.getfield 138, 3) := by decide +kernel
theorem dX10_told_107 : decode cX10_told 107 = .ok (.ireturn, 1) := by decide +kernel
theorem dX10_told_108 : decode cX10_told 108 = .ok (.aload_n 0, 1) := by decide +kernel
theorem dX10_told_109 : decode cX10_told 109 = .ok (.getfield 132, 3) := by decide +kernel
theorem dX10_told_112 : decode cX10_told 112 = .ok (.ireturn, 1) := by decide +kernel
theorem dX10_told_113 : decode cX10_told 113 = .ok (.aload_n 0, 1) := by decide +kernel
theorem dX10_told_114 : decode cX10_told 114 = .ok (.getfield 185, 3) := by decide +kernel
theorem dX10_told_117 : decode cX10_told 117 = .ok (.ireturn, 1) := by decide +kernel
theorem dX10_told_118 : decode cX10_told 118 = .ok (.aload_n 0, 1) := by decide +kernel
theorem dX10_told_119 : decode cX10_told 119 = .ok (.getfield 188, 3) := by decide +kernel
theorem dX10_told_122 : decode cX10_told 122 = .ok (.ireturn, 1) := by decide +kernel
theorem dX10_told_123 : decode cX10_told 123 = .ok (.iload_n 2, 1) := by decide +kernel
theorem dX10_told_124 : decode cX10_told 124 = .ok (.ireturn, 1) := by decide +kernel
theorem dX10_told_125 : decode cX10_told 125 = .ok (.iconst (-1), 1) := by decide +kernel
theorem dX10_told_126 : decode cX10_told 126 = .ok (.ireturn, 1) := by decide +kernel
