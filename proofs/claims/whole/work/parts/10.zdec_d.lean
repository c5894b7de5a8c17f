theorem dX5_init_0 : decode cX5_init 0 = .ok (.aload_n 0, 1) := by decide +kernel
theorem dX5_init_1 : decode cX5_init 1 = .ok (.invokespecial 3, 3) := by decide +kernel
theorem dX5_init_4 : decode cX5_init 4 = .ok (.aload_n 0, 1) := by decide +kernel
theorem dX5_init_5 : decode cX5_init 5 = .ok (.sipush 1500, 3) := by decide +kernel
theorem dX5_init_8 : decode cX5_init 8 = .ok (.newarray .long, 2) := by decide +kernel
theorem dX5_init_10 : decode cX5_init 10 = .ok (.putfield 9, 3) := by decide +kernel
theorem dX5_init_13 : decode cX5_init 13 = .ok (.aload_n 0, 1) := by decide +kernel
theorem dX5_init_14 : decode cX5_init 14 = .ok (.sipush 1500, 3) := by decide +kernel
theorem dX5_init_17 : decode cX5_init 17 = .ok (.newarray .int, 2) := by decide +kernel
theorem dX5_init_19 : decode cX5_init 19 = .ok (.putfield 15, 3) := by decide +kernel
theorem dX5_init_22 : decode cX5_init 22 = .ok (.aload_n 0, 1) := by decide +kernel
theorem dX5_init_23 : decode cX5_init 23 = .ok (.sipush 1500, 3) := by decide +kernel
theorem dX5_init_26 : decode cX5_init 26 = .ok (.newarray .int, 2) := by decide +kernel
theorem dX5_init_28 : decode cX5_init 28 = .ok (.putfield 19, 3) := by decide +kernel
theorem dX5_init_31 : decode cX5_init 31 = .ok (.aload_n 0, 1) := by decide +kernel
theorem dX5_init_32 : decode cX5_init 32 = .ok (.sipush 1500, 3) := by decide +kernel
theorem dX5_init_35 : decode cX5_init 35 = .ok (.newarray .int, 2) := by decide +kernel
theorem dX5_init_37 : decode cX5_init 37 = .ok (.putfield 22, 3) := by decide +kernel
theorem dX5_init_40 : decode cX5_init 40 = .ok (.aload_n 0, 1) := by decide +kernel
theorem dX5_init_41 : decode cX5_init 41 = .ok (.sipush 1500, 3) := by decide +kernel
theorem dX5_init_44 : decode cX5_init 44 = .ok (.newarray .int, 2) := by decide +kernel
theorem dX5_init_46 : decode cX5_init 46 = .ok (.putfield 25, 3) := by decide +kernel
theorem dX5_init_49 : decode cX5_init 49 = .ok (.aload_n 0, 1) := by decide +kernel
theorem dX5_init_50 : decode cX5_init 50 = .ok (.sipush 1500, 3) := by decide +kernel
theorem dX5_init_53 : decode cX5_init 53 = .ok (.newarray .int, 2) := by decide +kernel
theorem dX5_init_55 : decode cX5_init 55 = .ok (.putfield 28, 3) := by decide +kernel
theorem dX5_init_58 : decode cX5_init 58 = .ok (.aload_n 0, 1) := by decide +kernel
theorem dX5_init_59 : decode cX5_init 59 = .ok (.sipush 1500, 3) := by decide +kernel
theorem dX5_init_62 : decode cX5_init 62 = .ok (.newarray .boolean, 2) := by decide +kernel
theorem dX5_init_64 : decode cX5_init 64 = .ok (.putfield 31, 3) := by decide +kernel
theorem dX5_init_67 : decode cX5_init 67 = .ok (.aload_n 0, 1) := by decide +kernel
theorem dX5_init_68 : decode cX5_init 68 = .ok (.sipush 1500, 3) := by decide +kernel
theorem dX5_init_71 : decode cX5_init 71 = .ok (.newarray .boolean, 2) := by decide +kernel
theorem dX5_init_73 : decode cX5_init 73 = .ok (.putfield 35, 3) := by decide +kernel
theorem dX5_init_76 : decode cX5_init 76 = .ok (.aload_n 0, 1) := by decide +kernel
theorem dX5_init_77 : decode cX5_init 77 = .ok (.sipush 4096, 3) := by decide +kernel
theorem dX5_init_80 : decode cX5_init 80 = .ok (.newarray .int, 2) := by decide +kernel
theorem dX5_init_82 : decode cX5_init 82 = .ok (.putfield 38, 3) := by decide +kernel
theorem dX5_init_85 : decode cX5_init 85 = .ok (.return_, 1) := by decide +kernel
theorem dX5_has_0 : decode cX5_has 0 = .ok (.iload_n 1, 1) := by decide +kernel
theorem dX5_has_1 : decode cX5_has 1 = .ok (.iconst 0, 1) := by decide +kernel
theorem dX5_has_2 : decode cX5_has 2 = .ok (.aload_n 0, 1) := by decide +kernel
theorem dX5_has_3 : decode cX5_has 3 = .ok (.getfield 41, 3) := by decide +kernel
theorem dX5_has_6 : decode cX5_has 6 = .ok (.iconst 1, 1) := by decide +kernel
theorem dX5_has_7 : decode cX5_has 7 = .ok (.isub, 1) := by decide +kernel
theorem dX5_has_8 : decode cX5_has 8 = .ok (.invokestatic 45, 3) := by decide +kernel
theorem dX5_has_11 : decode cX5_has 11 = .ok (.ireturn, 1) := by decide +kernel
theorem dX5_startWith_0 : decode cX5_startWith 0 = .ok (.aload_n 0, 1) := by decide +kernel
theorem dX5_startWith_1 : decode cX5_startWith 1 = .ok (.getfield 38, 3) := by decide +kernel
theorem dX5_startWith_4 : decode cX5_startWith 4 = .ok (.iconst (-1), 1) := by decide +kernel
theorem dX5_startWith_5 : decode cX5_startWith 5 = .ok (.invokestatic 49, 3) := by decide +kernel
theorem dX5_startWith_8 : decode cX5_startWith 8 = .ok (.aload_n 0, 1) := by decide +kernel
theorem dX5_startWith_9 : decode cX5_startWith 9 = .ok (.iconst 0, 1) := by decide +kernel
theorem dX5_startWith_10 : decode cX5_startWith 10 = .ok (.putfield 41, 3) := by decide +kernel
theorem dX5_startWith_13 : decode cX5_startWith 13 = .ok (.aload_n 0, 1) := by decide +kernel
theorem dX5_startWith_14 : decode cX5_startWith 14 = .ok (.iconst 0, 1) := by decide +kernel
theorem dX5_startWith_15 : decode cX5_startWith 15 = .ok (.putfield 55, 3) := by decide +kernel
theorem dX5_startWith_18 : decode cX5_startWith 18 = .ok (.aload_n 0, 1) := by decide +kernel
theorem dX5_startWith_19 : decode cX5_startWith 19 = .ok (.aload_n 1, 1) := by decide +kernel
theorem dX5_startWith_20 : decode cX5_startWith 20 = .ok (.getfield 58, 3) := by decide +kernel
theorem dX5_startWith_23 : decode cX5_startWith 23 = .ok (.putfield 61, 3) := by decide +kernel
theorem dX5_startWith_26 : decode cX5_startWith 26 = .ok (.aload_n 0, 1) := by decide +kernel
theorem dX5_startWith_27 : decode cX5_startWith 27 = .ok (.aload_n 1, 1) := by decide +kernel
theorem dX5_startWith_28 : decode cX5_startWith 28 = .ok (.getfield 64, 3) := by decide +kernel
theorem dX5_startWith_31 : decode cX5_startWith 31 = .ok (.putfield 68, 3) := by decide +kernel
theorem dX5_startWith_34 : decode cX5_startWith 34 = .ok (.return_, 1) := by decide +kernel
theorem dX5_add_0 : decode cX5_add 0 = .ok (.aload_n 0, 1) := by decide +kernel
theorem dX5_add_1 : decode cX5_add 1 = .ok (.aload_n 3, 1) := by decide +kernel
theorem dX5_add_2 : decode cX5_add 2 = .ok (.invokevirtual 69, 3) := by decide +kernel
theorem dX5_add_5 : decode cX5_add 5 = .ok (.istore 5, 2) := by decide +kernel
theorem dX5_add_7 : decode cX5_add 7 = .ok (.aload_n 0, 1) := by decide +kernel
theorem dX5_add_8 : decode cX5_add 8 = .ok (.getfield 38, 3) := by decide +kernel
theorem dX5_add_11 : decode cX5_add 11 = .ok (.iload 5, 2) := by decide +kernel
theorem dX5_add_13 : decode cX5_add 13 = .ok (.iaload, 1) := by decide +kernel
theorem dX5_add_14 : decode cX5_add 14 = .ok (.iconst (-1), 1) := by decide +kernel
theorem dX5_add_15 : decode cX5_add 15 = .ok (.if_icmp .ne 14, 3) := by decide +kernel
theorem dX5_add_18 : decode cX5_add 18 = .ok (.aload_n 0, 1) := by decide +kernel
theorem dX5_add_19 : decode cX5_add 19 = .ok (.getfield 38, 3) := by decide +kernel
theorem dX5_add_22 : decode cX5_add 22 = .ok (.iload 5, 2) := by decide +kernel
theorem dX5_add_24 : decode cX5_add 24 = .ok (.aload_n 0, 1) := by decide +kernel
theorem dX5_add_25 : decode cX5_add 25 = .ok (.getfield 41, 3) := by decide +kernel
theorem dX5_add_28 : decode cX5_add 28 = .ok (.iastore, 1) := by decide +kernel
theorem dX5_add_29 : decode cX5_add 29 = .ok (.aload_n 0, 1) := by decide +kernel
theorem dX5_add_30 : decode cX5_add 30 = .ok (.getfield 9, 3) := by decide +kernel
theorem dX5_add_33 : decode cX5_add 33 = .ok (.aload_n 0, 1) := by decide +kernel
theorem dX5_add_34 : decode cX5_add 34 = .ok (.getfield 41, 3) := by decide +kernel
theorem dX5_add_37 : decode cX5_add 37 = .ok (.aload_n 3, 1) := by decide +kernel
theorem dX5_add_38 : decode cX5_add 38 = .ok (.getfield 73, 3) := by decide +kernel
theorem dX5_add_41 : decode cX5_add 41 = .ok (.lastore, 1) := by decide +kernel
theorem dX5_add_42 : decode cX5_add 42 = .ok (.aload_n 0, 1) := by decide +kernel
theorem dX5_add_43 : decode cX5_add 43 = .ok (.getfield 25, 3) := by decide +kernel
theorem dX5_add_46 : decode cX5_add 46 = .ok (.aload_n 0, 1) := by decide +kernel
theorem dX5_add_47 : decode cX5_add 47 = .ok (.getfield 41, 3) := by decide +kernel
theorem dX5_add_50 : decode cX5_add 50 = .ok (.aload_n 3, 1) := by decide +kernel
theorem dX5_add_51 : decode cX5_add 51 = .ok (.getfield 78, 3) := by decide +kernel
theorem dX5_add_54 : decode cX5_add 54 = .ok (.iastore, 1) := by decide +kernel
theorem dX5_add_55 : decode cX5_add 55 = .ok (.aload_n 0, 1) := by decide +kernel
theorem dX5_add_56 : decode cX5_add 56 = .ok (.getfield 15, 3) := by decide +kernel
theorem dX5_add_59 : decode cX5_add 59 = .ok (.aload_n 0, 1) := by decide +kernel
theorem dX5_add_60 : decode cX5_add 60 = .ok (.getfield 41, 3) := by decide +kernel
theorem dX5_add_63 : decode cX5_add 63 = .ok (.iload_n 1, 1) := by decide +kernel
theorem dX5_add_64 : decode cX5_add 64 = .ok (.iastore, 1) := by decide +kernel
theorem dX5_add_65 : decode cX5_add 65 = .ok (.aload_n 0, 1) := by decide +kernel
theorem dX5_add_66 : decode cX5_add 66 = .ok (.getfield 19, 3) := by decide +kernel
theorem dX5_add_69 : decode cX5_add 69 = .ok (.aload_n 0, 1) := by decide +kernel
theorem dX5_add_70 : decode cX5_add 70 = .ok (.getfield 41, 3) := by decide +kernel
theorem dX5_add_73 : decode cX5_add 73 = .ok (.iload_n 2, 1) := by decide +kernel
theorem dX5_add_74 : decode cX5_add 74 = .ok (.iastore, 1) := by decide +kernel
theorem dX5_add_75 : decode cX5_add 75 = .ok (.aload_n 0, 1) := by decide +kernel
theorem dX5_add_76 : decode cX5_add 76 = .ok (.getfield 22, 3) := by decide +kernel
theorem dX5_add_79 : decode cX5_add 79 = .ok (.aload_n 0, 1) := by decide +kernel
theorem dX5_add_80 : decode cX5_add 80 = .ok (.getfield 41, 3) := by decide +kernel
theorem dX5_add_83 : decode cX5_add 83 = .ok (.iload_n 1, 1) := by decide +kernel
theorem dX5_add_84 : decode cX5_add 84 = .ok (.iconst (-1), 1) := by decide +kernel
theorem dX5_add_85 : decode cX5_add 85 = .ok (.if_icmp .ne 7, 3) := by decide +kernel
theorem dX5_add_88 : decode cX5_add 88 = .ok (.iconst 0, 1) := by decide +kernel
theorem dX5_add_89 : decode cX5_add 89 = .ok (.goto 11, 3) := by decide +kernel
theorem dX5_add_92 : decode cX5_add 92 = .ok (.aload_n 0, 1) := by decide +kernel
theorem dX5_add_93 : decode cX5_add 93 = .ok (.getfield 22, 3) := by decide +kernel
theorem dX5_add_96 : decode cX5_add 96 = .ok (.iload_n 1, 1) := by decide +kernel
theorem dX5_add_97 : decode cX5_add 97 = .ok (.iaload, 1) := by decide +kernel
theorem dX5_add_98 : decode cX5_add 98 = .ok (.iconst 1, 1) := by decide +kernel
theorem dX5_add_99 : decode cX5_add 99 = .ok (.iadd, 1) := by decide +kernel
theorem dX5_add_100 : decode cX5_add 100 = .ok (.iastore, 1) := by decide +kernel
theorem dX5_add_101 : decode cX5_add 101 = .ok (.aload_n 0, 1) := by decide +kernel
theorem dX5_add_102 : decode cX5_add 102 = .ok (.getfield 28, 3) := by decide +kernel
theorem dX5_add_105 : decode cX5_add 105 = .ok (.aload_n 0, 1) := by decide +kernel
theorem dX5_add_106 : decode cX5_add 106 = .ok (.getfield 41, 3) := by decide +kernel
theorem dX5_add_109 : decode cX5_add 109 = .ok (.iload 4, 2) := by decide +kernel
theorem dX5_add_111 : decode cX5_add 111 = .ok (.iastore, 1) := by decide +kernel
theorem dX5_add_112 : decode cX5_add 112 = .ok (.aload_n 0, 1) := by decide +kernel
theorem dX5_add_113 : decode cX5_add 113 = .ok (.getfield 31, 3) := by decide +kernel
theorem dX5_add_116 : decode cX5_add 116 = .ok (.aload_n 0, 1) := by decide +kernel
theorem dX5_add_117 : decode cX5_add 117 = .ok (.getfield 41, 3) := by decide +kernel
theorem dX5_add_120 : decode cX5_add 120 = .ok (.iconst 0, 1) := by decide +kernel
theorem dX5_add_121 : decode cX5_add 121 = .ok (.bastore, 1) := by decide +kernel
theorem dX5_add_122 : decode cX5_add 122 = .ok (.aload_n 0, 1) := by decide +kernel
theorem dX5_add_123 : decode cX5_add 123 = .ok (.getfield 35, 3) := by decide +kernel
theorem dX5_add_126 : decode cX5_add 126 = .ok (.aload_n 0, 1) := by decide +kernel
theorem dX5_add_127 : decode cX5_add 127 = .ok (.getfield 41, 3) := by decide +kernel
theorem dX5_add_130 : decode cX5_add 130 = .ok (.iconst 0, 1) := by decide +kernel
theorem dX5_add_131 : decode cX5_add 131 = .ok (.bastore, 1) := by decide +kernel
theorem dX5_add_132 : decode cX5_add 132 = .ok (.aload_n 0, 1) := by decide +kernel
theorem dX5_add_133 : decode cX5_add 133 = .ok (.dup, 1) := by decide +kernel
theorem dX5_add_134 : decode cX5_add 134 = .ok (.getfield 41, 3) := by decide +kernel
theorem dX5_add_137 : decode cX5_add 137 = .ok (.iconst 1, 1) := by decide +kernel
theorem dX5_add_138 : decode cX5_add 138 = .ok (.iadd, 1) := by decide +kernel
theorem dX5_add_139 : decode cX5_add 139 = .ok (.putfield 41, 3) := by decide +kernel
theorem dX5_add_142 : decode cX5_add 142 = .ok (.return_, 1) := by decide +kernel
theorem dX5_hasAlike_0 : decode cX5_hasAlike 0 = .ok (.aload_n 0, 1) := by decide +kernel
theorem dX5_hasAlike_1 : decode cX5_hasAlike 1 = .ok (.getfield 38, 3) := by decide +kernel
theorem dX5_hasAlike_4 : decode cX5_hasAlike 4 = .ok (.aload_n 0, 1) := by decide +kernel
theorem dX5_hasAlike_5 : decode cX5_hasAlike 5 = .ok (.aload_n 1, 1) := by decide +kernel
theorem dX5_hasAlike_6 : decode cX5_hasAlike 6 = .ok (.invokevirtual 69, 3) := by decide +kernel
theorem dX5_hasAlike_9 : decode cX5_hasAlike 9 = .ok (.iaload, 1) := by decide +kernel
theorem dX5_hasAlike_10 : decode cX5_hasAlike 10 = .ok (.iconst (-1), 1) := by decide +kernel
theorem dX5_hasAlike_11 : decode cX5_hasAlike 11 = .ok (.if_icmp .eq 7, 3) := by decide +kernel
theorem dX5_hasAlike_14 : decode cX5_hasAlike 14 = .ok (.iconst 1, 1) := by decide +kernel
theorem dX5_hasAlike_15 : decode cX5_hasAlike 15 = .ok (.goto 4, 3) := by decide +kernel
theorem dX5_hasAlike_18 : decode cX5_hasAlike 18 = .ok (.iconst 0, 1) := by decide +kernel
theorem dX5_hasAlike_19 : decode cX5_hasAlike 19 = .ok (.ireturn, 1) := by decide +kernel
theorem dX5_slotFor_0 : decode cX5_slotFor 0 = .ok (.aload_n 1, 1) := by decide +kernel
theorem dX5_slotFor_1 : decode cX5_slotFor 1 = .ok (.getfield 73, 3) := by decide +kernel
theorem dX5_slotFor_4 : decode cX5_slotFor 4 = .ok (.aload_n 0, 1) := by decide +kernel
theorem dX5_slotFor_5 : decode cX5_slotFor 5 = .ok (.getfield 68, 3) := by decide +kernel
theorem dX5_slotFor_8 : decode cX5_slotFor 8 = .ok (.land, 1) := by decide +kernel
theorem dX5_slotFor_9 : decode cX5_slotFor 9 = .ok (.aload_n 1, 1) := by decide +kernel
theorem dX5_slotFor_10 : decode cX5_slotFor 10 = .ok (.getfield 78, 3) := by decide +kernel
theorem dX5_slotFor_13 : decode cX5_slotFor 13 = .ok (.i2l, 1) := by decide +kernel
theorem dX5_slotFor_14 : decode cX5_slotFor 14 = .ok (.bipush 40, 2) := by decide +kernel
theorem dX5_slotFor_16 : decode cX5_slotFor 16 = .ok (.lshl, 1) := by decide +kernel
theorem dX5_slotFor_17 : decode cX5_slotFor 17 = .ok (.lor, 1) := by decide +kernel
theorem dX5_slotFor_18 : decode cX5_slotFor 18 = .ok (.lstore_n 2, 1) := by decide +kernel
theorem dX5_slotFor_19 : decode cX5_slotFor 19 = .ok (.lload_n 2, 1) := by decide +kernel
theorem dX5_slotFor_20 : decode cX5_slotFor 20 = .ok (.ldc2_w 81, 3) := by decide +kernel
theorem dX5_slotFor_23 : decode cX5_slotFor 23 = .ok (.lmul, 1) := by decide +kernel
theorem dX5_slotFor_24 : decode cX5_slotFor 24 = .ok (.bipush 52, 2) := by decide +kernel
theorem dX5_slotFor_26 : decode cX5_slotFor 26 = .ok (.lushr, 1) := by decide +kernel
theorem dX5_slotFor_27 : decode cX5_slotFor 27 = .ok (.l2i, 1) := by decide +kernel
theorem dX5_slotFor_28 : decode cX5_slotFor 28 = .ok (.istore 4, 2) := by decide +kernel
theorem dX5_slotFor_30 : decode cX5_slotFor 30 = .ok (.iconst 0, 1) := by decide +kernel
theorem dX5_slotFor_31 : decode cX5_slotFor 31 = .ok (.istore 5, 2) := by decide +kernel
theorem dX5_slotFor_33 : decode cX5_slotFor 33 = .ok (.iload 5, 2) := by decide +kernel
theorem dX5_slotFor_35 : decode cX5_slotFor 35 = .ok (.sipush 4096, 3) := by decide +kernel
theorem dX5_slotFor_38 : decode cX5_slotFor 38 = .ok (.if_icmp .ge 47, 3) := by decide +kernel
theorem dX5_slotFor_41 : decode cX5_slotFor 41 = .ok (.aload_n 0, 1) := by decide +kernel
theorem dX5_slotFor_42 : decode cX5_slotFor 42 = .ok (.getfield 38, 3) := by decide +kernel
theorem dX5_slotFor_45 : decode cX5_slotFor 45 = .ok (.iload 4, 2) := by decide +kernel
theorem dX5_slotFor_47 : decode cX5_slotFor 47 = .ok (.iaload, 1) := by decide +kernel
theorem dX5_slotFor_48 : decode cX5_slotFor 48 = .ok (.istore 6, 2) := by decide +kernel
theorem dX5_slotFor_50 : decode cX5_slotFor 50 = .ok (.iload 6, 2) := by decide +kernel
theorem dX5_slotFor_52 : decode cX5_slotFor 52 = .ok (.iconst (-1), 1) := by decide +kernel
theorem dX5_slotFor_53 : decode cX5_slotFor 53 = .ok (.if_icmp .eq 13, 3) := by decide +kernel
theorem dX5_slotFor_56 : decode cX5_slotFor 56 = .ok (.aload_n 0, 1) := by decide +kernel
theorem dX5_slotFor_57 : decode cX5_slotFor 57 = .ok (.iload 6, 2) := by decide +kernel
theorem dX5_slotFor_59 : decode cX5_slotFor 59 = .ok (.aload_n 1, 1) := by decide +kernel
theorem dX5_slotFor_60 : decode cX5_slotFor 60 = .ok (.invokevirtual 83, 3) := by decide +kernel
theorem dX5_slotFor_63 : decode cX5_slotFor 63 = .ok (.ifCond .eq 6, 3) := by decide +kernel
theorem dX5_slotFor_66 : decode cX5_slotFor 66 = .ok (.iload 4, 2) := by decide +kernel
theorem dX5_slotFor_68 : decode cX5_slotFor 68 = .ok (.ireturn, 1) := by decide +kernel
theorem dX5_slotFor_69 : decode cX5_slotFor 69 = .ok (.iload 4, 2) := by decide +kernel
theorem dX5_slotFor_71 : decode cX5_slotFor 71 = .ok (.iconst 1, 1) := by decide +kernel
theorem dX5_slotFor_72 : decode cX5_slotFor 72 = .ok (.iadd, 1) := by decide +kernel
theorem dX5_slotFor_73 : decode cX5_slotFor 73 = .ok (.sipush 4096, 3) := by decide +kernel
theorem dX5_slotFor_76 : decode cX5_slotFor 76 = .ok (.irem, 1) := by decide +kernel
theorem dX5_slotFor_77 : decode cX5_slotFor 77 = .ok (.istore 4, 2) := by decide +kernel
theorem dX5_slotFor_79 : decode cX5_slotFor 79 = .ok (.iinc 5 1, 3) := by decide +kernel
theorem dX5_slotFor_82 : decode cX5_slotFor 82 = .ok (.goto (-49), 3) := by decide +kernel
theorem dX5_slotFor_85 : decode cX5_slotFor 85 = .ok (.iload 4, 2) := by decide +kernel
theorem dX5_slotFor_87 : decode cX5_slotFor 87 = .ok (.ireturn, 1) := by decide +kernel
theorem dX5_isAlike_0 : decode cX5_isAlike 0 = .ok (.aload_n 0, 1) := by decide +kernel
theorem dX5_isAlike_1 : decode cX5_isAlike 1 = .ok (.getfield 9, 3) := by decide +kernel
theorem dX5_isAlike_4 : decode cX5_isAlike 4 = .ok (.iload_n 1, 1) := by decide +kernel
theorem dX5_isAlike_5 : decode cX5_isAlike 5 = .ok (.laload, 1) := by decide +kernel
theorem dX5_isAlike_6 : decode cX5_isAlike 6 = .ok (.aload_n 2, 1) := by decide +kernel
theorem dX5_isAlike_7 : decode cX5_isAlike 7 = .ok (.getfield 73, 3) := by decide +kernel
theorem dX5_isAlike_10 : decode cX5_isAlike 10 = .ok (.lxor, 1) := by decide +kernel
theorem dX5_isAlike_11 : decode cX5_isAlike 11 = .ok (.aload_n 0, 1) := by decide +kernel
theorem dX5_isAlike_12 : decode cX5_isAlike 12 = .ok (.getfield 68, 3) := by decide +kernel
theorem dX5_isAlike_15 : decode cX5_isAlike 15 = .ok (.land, 1) := by decide +kernel
theorem dX5_isAlike_16 : decode cX5_isAlike 16 = .ok (.lconst 0, 1) := by decide +kernel
theorem dX5_isAlike_17 : decode cX5_isAlike 17 = .ok (.lcmp, 1) := by decide +kernel
theorem dX5_isAlike_18 : decode cX5_isAlike 18 = .ok (.ifCond .ne 20, 3) := by decide +kernel
theorem dX5_isAlike_21 : decode cX5_isAlike 21 = .ok (.aload_n 0, 1) := by decide +kernel
theorem dX5_isAlike_22 : decode cX5_isAlike 22 = .ok (.getfield 25, 3) := by decide +kernel
theorem dX5_isAlike_25 : decode cX5_isAlike 25 = .ok (.iload_n 1, 1) := by decide +kernel
theorem dX5_isAlike_26 : decode cX5_isAlike 26 = .ok (.iaload, 1) := by decide +kernel
theorem dX5_isAlike_27 : decode cX5_isAlike 27 = .ok (.aload_n 2, 1) := by decide +kernel
theorem dX5_isAlike_28 : decode cX5_isAlike 28 = .ok (.getfield 78, 3) := by decide +kernel
theorem dX5_isAlike_31 : decode cX5_isAlike 31 = .ok (.if_icmp .ne 7, 3) := by decide +kernel
theorem dX5_isAlike_34 : decode cX5_isAlike 34 = .ok (.iconst 1, 1) := by decide +kernel
theorem dX5_isAlike_35 : decode cX5_isAlike 35 = .ok (.goto 4, 3) := by decide +kernel
theorem dX5_isAlike_38 : decode cX5_isAlike 38 = .ok (.iconst 0, 1) := by decide +kernel
theorem dX5_isAlike_39 : decode cX5_isAlike 39 = .ok (.ireturn, 1) := by decide +kernel
theorem dX5_isOpen_0 : decode cX5_isOpen 0 = .ok (.aload_n 0, 1) := by decide +kernel
theorem dX5_isOpen_1 : decode cX5_isOpen 1 = .ok (.getfield 31, 3) := by decide +kernel
theorem dX5_isOpen_4 : decode cX5_isOpen 4 = .ok (.iload_n 1, 1) := by decide +kernel
theorem dX5_isOpen_5 : decode cX5_isOpen 5 = .ok (.baload, 1) := by decide +kernel
theorem dX5_isOpen_6 : decode cX5_isOpen 6 = .ok (.ifCond .ne 16, 3) := by decide +kernel
theorem dX5_isOpen_9 : decode cX5_isOpen 9 = .ok (.aload_n 0, 1) := by decide +kernel
theorem dX5_isOpen_10 : decode cX5_isOpen 10 = .ok (.getfield 25, 3) := by decide +kernel
theorem dX5_isOpen_13 : decode cX5_isOpen 13 = .ok (.iload_n 1, 1) := by decide +kernel
theorem dX5_isOpen_14 : decode cX5_isOpen 14 = .ok (.iaload, 1) := by decide +kernel
theorem dX5_isOpen_15 : decode cX5_isOpen 15 = .ok (.ifCond .ne 7, 3) := by decide +kernel
theorem dX5_isOpen_18 : decode cX5_isOpen 18 = .ok (.iconst 1, 1) := by decide +kernel
theorem dX5_isOpen_19 : decode cX5_isOpen 19 = .ok (.goto 4, 3) := by decide +kernel
theorem dX5_isOpen_22 : decode cX5_isOpen 22 = .ok (.iconst 0, 1) := by decide +kernel
theorem dX5_isOpen_23 : decode cX5_isOpen 23 = .ok (.ireturn, 1) := by decide +kernel
theorem dX5_leastOpen_0 : decode cX5_leastOpen 0 = .ok (.iload_n 1, 1) := by decide +kernel
theorem dX5_leastOpen_1 : decode cX5_leastOpen 1 = .ok (.istore_n 2, 1) := by decide +kernel
theorem dX5_leastOpen_2 : decode cX5_leastOpen 2 = .ok (.iload_n 2, 1) := by decide +kernel
theorem dX5_leastOpen_3 : decode cX5_leastOpen 3 = .ok (.aload_n 0, 1) := by decide +kernel
theorem dX5_leastOpen_4 : decode cX5_leastOpen 4 = .ok (.getfield 41, 3) := by decide +kernel
theorem dX5_leastOpen_7 : decode cX5_leastOpen 7 = .ok (.if_icmp .ge 19, 3) := by decide +kernel
theorem dX5_leastOpen_10 : decode cX5_leastOpen 10 = .ok (.aload_n 0, 1) := by decide +kernel
theorem dX5_leastOpen_11 : decode cX5_leastOpen 11 = .ok (.iload_n 2, 1) := by decide +kernel
theorem dX5_leastOpen_12 : decode cX5_leastOpen 12 = .ok (.invokevirtual 87, 3) := by decide +kernel
theorem dX5_leastOpen_15 : decode cX5_leastOpen 15 = .ok (.ifCond .eq 5, 3) := by decide +kernel
theorem dX5_leastOpen_18 : decode cX5_leastOpen 18 = .ok (.iload_n 2, 1) := by decide +kernel
theorem dX5_leastOpen_19 : decode cX5_leastOpen 19 = .ok (.ireturn, 1) := by decide +kernel
theorem dX5_leastOpen_20 : decode cX5_leastOpen 20 = .ok (.iinc 2 1, 3) := by decide +kernel
theorem dX5_leastOpen_23 : decode cX5_leastOpen 23 = .ok (.goto (-21), 3) := by decide +kernel
theorem dX5_leastOpen_26 : decode cX5_leastOpen 26 = .ok (.iconst (-1), 1) := by decide +kernel
theorem dX5_leastOpen_27 : decode cX5_leastOpen 27 = .ok (.ireturn, 1) := by decide +kernel
theorem dX5_bestOpen_0 : decode cX5_bestOpen 0 = .ok (.iconst (-1), 1) := by decide +kernel
theorem dX5_bestOpen_1 : decode cX5_bestOpen 1 = .ok (.istore_n 1, 1) := by decide +kernel
theorem dX5_bestOpen_2 : decode cX5_bestOpen 2 = .ok (.iconst 0, 1) := by decide +kernel
theorem dX5_bestOpen_3 : decode cX5_bestOpen 3 = .ok (.istore_n 2, 1) := by decide +kernel
theorem dX5_bestOpen_4 : decode cX5_bestOpen 4 = .ok (.iload_n 2, 1) := by decide +kernel
theorem dX5_bestOpen_5 : decode cX5_bestOpen 5 = .ok (.aload_n 0, 1) := by decide +kernel
theorem dX5_bestOpen_6 : decode cX5_bestOpen 6 = .ok (.getfield 41, 3) := by decide +kernel
theorem dX5_bestOpen_9 : decode cX5_bestOpen 9 = .ok (.if_icmp .ge 39, 3) := by decide +kernel
theorem dX5_bestOpen_12 : decode cX5_bestOpen 12 = .ok (.aload_n 0, 1) := by decide +kernel
theorem dX5_bestOpen_13 : decode cX5_bestOpen 13 = .ok (.iload_n 2, 1) := by decide +kernel
theorem dX5_bestOpen_14 : decode cX5_bestOpen 14 = .ok (.invokevirtual 87, 3) := by decide +kernel
theorem dX5_bestOpen_17 : decode cX5_bestOpen 17 = .ok (.ifCond .eq 25, 3) := by decide +kernel
theorem dX5_bestOpen_20 : decode cX5_bestOpen 20 = .ok (.iload_n 1, 1) := by decide +kernel
theorem dX5_bestOpen_21 : decode cX5_bestOpen 21 = .ok (.iconst (-1), 1) := by decide +kernel
theorem dX5_bestOpen_22 : decode cX5_bestOpen 22 = .ok (.if_icmp .eq 18, 3) := by decide +kernel
theorem dX5_bestOpen_25 : decode cX5_bestOpen 25 = .ok (.aload_n 0, 1) := by decide +kernel
theorem dX5_bestOpen_26 : decode cX5_bestOpen 26 = .ok (.getfield 28, 3) := by decide +kernel
theorem dX5_bestOpen_29 : decode cX5_bestOpen 29 = .ok (.iload_n 2, 1) := by decide +kernel
theorem dX5_bestOpen_30 : decode cX5_bestOpen 30 = .ok (.iaload, 1) := by decide +kernel
theorem dX5_bestOpen_31 : decode cX5_bestOpen 31 = .ok (.aload_n 0, 1) := by decide +kernel
theorem dX5_bestOpen_32 : decode cX5_bestOpen 32 = .ok (.getfield 28, 3) := by decide +kernel
theorem dX5_bestOpen_35 : decode cX5_bestOpen 35 = .ok (.iload_n 1, 1) := by decide +kernel
theorem dX5_bestOpen_36 : decode cX5_bestOpen 36 = .ok (.iaload, 1) := by decide +kernel
theorem dX5_bestOpen_37 : decode cX5_bestOpen 37 = .ok (.if_icmp .le 5, 3) := by decide +kernel
theorem dX5_bestOpen_40 : decode cX5_bestOpen 40 = .ok (.iload_n 2, 1) := by decide +kernel
theorem dX5_bestOpen_41 : decode cX5_bestOpen 41 = .ok (.istore_n 1, 1) := by decide +kernel
theorem dX5_bestOpen_42 : decode cX5_bestOpen 42 = .ok (.iinc 2 1, 3) := by decide +kernel
theorem dX5_bestOpen_45 : decode cX5_bestOpen 45 = .ok (.goto (-41), 3) := by decide +kernel
theorem dX5_bestOpen_48 : decode cX5_bestOpen 48 = .ok (.iload_n 1, 1) := by decide +kernel
theorem dX5_bestOpen_49 : decode cX5_bestOpen 49 = .ok (.ireturn, 1) := by decide +kernel
theorem dX5_take_0 : decode cX5_take 0 = .ok (.aload_n 0, 1) := by decide +kernel
theorem dX5_take_1 : decode cX5_take 1 = .ok (.getfield 31, 3) := by decide +kernel
theorem dX5_take_4 : decode cX5_take 4 = .ok (.iload_n 1, 1) := by decide +kernel
theorem dX5_take_5 : decode cX5_take 5 = .ok (.iconst 1, 1) := by decide +kernel
theorem dX5_take_6 : decode cX5_take 6 = .ok (.bastore, 1) := by decide +kernel
theorem dX5_take_7 : decode cX5_take 7 = .ok (.return_, 1) := by decide +kernel
theorem dX5_markDead_0 : decode cX5_markDead 0 = .ok (.aload_n 0, 1) := by decide +kernel
theorem dX5_markDead_1 : decode cX5_markDead 1 = .ok (.getfield 35, 3) := by decide +kernel
theorem dX5_markDead_4 : decode cX5_markDead 4 = .ok (.iload_n 1, 1) := by decide +kernel
theorem dX5_markDead_5 : decode cX5_markDead 5 = .ok (.iconst 1, 1) := by decide +kernel
theorem dX5_markDead_6 : decode cX5_markDead 6 = .ok (.bastore, 1) := by decide +kernel
theorem dX5_markDead_7 : decode cX5_markDead 7 = .ok (.aload_n 0, 1) := by decide +kernel
theorem dX5_markDead_8 : decode cX5_markDead 8 = .ok (.dup, 1) := by decide +kernel
theorem dX5_markDead_9 : decode cX5_markDead 9 = .ok (.getfield 55, 3) := by decide +kernel
theorem dX5_markDead_12 : decode cX5_markDead 12 = .ok (.iconst 1, 1) := by decide +kernel
theorem dX5_markDead_13 : decode cX5_markDead 13 = .ok (.iadd, 1) := by decide +kernel
theorem dX5_markDead_14 : decode cX5_markDead 14 = .ok (.putfield 55, 3) := by decide +kernel
theorem dX5_markDead_17 : decode cX5_markDead 17 = .ok (.return_, 1) := by decide +kernel
theorem dX5_tell_0 : decode cX5_tell 0 = .ok (.iload_n 2, 1) := by decide +kernel
theorem dX5_tell_1 : decode cX5_tell 1 = .ok (.tableswitch 108 0 6 #[43, 50, 57, 64, 71, 86, 101], 43) := by decide +kernel
theorem dX5_tell_44 : decode cX5_tell 44 = .ok (.aload_n 0, 1) := by decide +kernel
theorem dX5_tell_45 : decode cX5_tell 45 = .ok (.getfield 15, 3) := by decide +kernel
theorem dX5_tell_48 : decode cX5_tell 48 = .ok (.iload_n 1, 1) := by decide +kernel
theorem dX5_tell_49 : decode cX5_tell 49 = .ok (.iaload, 1) := by decide +kernel
theorem dX5_tell_50 : decode cX5_tell 50 = .ok (.ireturn, 1) := by decide +kernel
theorem dX5_tell_51 : decode cX5_tell 51 = .ok (.aload_n 0, 1) := by decide +kernel
theorem dX5_tell_52 : decode cX5_tell 52 = .ok (.getfield 19, 3) := by decide +kernel
theorem dX5_tell_55 : decode cX5_tell 55 = .ok (.iload_n 1, 1) := by decide +kernel
theorem dX5_tell_56 : decode cX5_tell 56 = .ok (.iaload, 1) := by decide +kernel
theorem dX5_tell_57 : decode cX5_tell 57 = .ok (.ireturn, 1) := by decide +kernel
theorem dX5_tell_58 : decode cX5_tell 58 = .ok (.aload_n 0, 1) := by decide +kernel
theorem dX5_tell_59 : decode cX5_tell 59 = .ok (.getfield 28, 3) := by decide +kernel
theorem dX5_tell_62 : decode cX5_tell 62 = .ok (.iload_n 1, 1) := by decide +kernel
theorem dX5_tell_63 : decode cX5_tell 63 = .ok (.iaload, 1) := by decide +kernel
theorem dX5_tell_64 : decode cX5_tell 64 = .ok (.ireturn, 1) := by decide +kernel
theorem dX5_tell_65 : decode cX5_tell 65 = .ok (.aload_n 0, 1) := by decide +kernel
theorem dX5_tell_66 : decode cX5_tell 66 = .ok (.getfield 25, 3) := by decide +kernel
theorem dX5_tell_69 : decode cX5_tell 69 = .ok (.iload_n 1, 1) := by decide +kernel
theorem dX5_tell_70 : decode cX5_tell 70 = .ok (.iaload, 1) := by decide +kernel
theorem dX5_tell_71 : decode cX5_tell 71 = .ok (.ireturn, 1) := by decide +kernel
theorem dX5_tell_72 : decode cX5_tell 72 = .ok (.aload_n 0, 1) := by decide +kernel
theorem dX5_tell_73 : decode cX5_tell 73 = .ok (.getfield 31, 3) := by decide +kernel
theorem dX5_tell_76 : decode cX5_tell 76 = .ok (.iload_n 1, 1) := by decide +kernel
theorem dX5_tell_77 : decode cX5_tell 77 = .ok (.baload, 1) := by decide +kernel
theorem dX5_tell_78 : decode cX5_tell 78 = .ok (.ifCond .eq 7, 3) := by decide +kernel
theorem dX5_tell_81 : decode cX5_tell 81 = .ok (.iconst 1, 1) := by decide +kernel
theorem dX5_tell_82 : decode cX5_tell 82 = .ok (.goto 4, 3) := by decide +kernel
theorem dX5_tell_85 : decode cX5_tell 85 = .ok (.iconst 0, 1) := by decide +kernel
theorem dX5_tell_86 : decode cX5_tell 86 = .ok (.ireturn, 1) := by decide +kernel
theorem dX5_tell_87 : decode cX5_tell 87 = .ok (.aload_n 0, 1) := by decide +kernel
theorem dX5_tell_88 : decode cX5_tell 88 = .ok (.getfield 35, 3) := by decide +kernel
theorem dX5_tell_91 : decode cX5_tell 91 = .ok (.iload_n 1, 1) := by decide +kernel
theorem dX5_tell_92 : decode cX5_tell 92 = .ok (.baload, 1) := by decide +kernel
theorem dX5_tell_93 : decode cX5_tell 93 = .ok (.ifCond .eq 7, 3) := by decide +kernel
theorem dX5_tell_96 : decode cX5_tell 96 = .ok (.iconst 1, 1) := by decide +kernel
theorem dX5_tell_97 : decode cX5_tell 97 = .ok (.goto 4, 3) := by decide +kernel
theorem dX5_tell_100 : decode cX5_tell 100 = .ok (.iconst 0, 1) := by decide +kernel
theorem dX5_tell_101 : decode cX5_tell 101 = .ok (.ireturn, 1) := by decide +kernel
theorem dX5_tell_102 : decode cX5_tell 102 = .ok (.aload_n 0, 1) := by decide +kernel
theorem dX5_tell_103 : decode cX5_tell 103 = .ok (.getfield 22, 3) := by decide +kernel
theorem dX5_tell_106 : decode cX5_tell 106 = .ok (.iload_n 1, 1) := by decide +kernel
theorem dX5_tell_107 : decode cX5_tell 107 = .ok (.iaload, 1) := by decide +kernel
theorem dX5_tell_108 : decode cX5_tell 108 = .ok (.ireturn, 1) := by decide +kernel
theorem dX5_tell_109 : decode cX5_tell 109 = .ok (.aload_n 0, 1) := by decide +kernel
theorem dX5_tell_110 : decode cX5_tell 110 = .ok (.getfield 9, 3) := by decide +kernel
theorem dX5_tell_113 : decode cX5_tell 113 = .ok (.iload_n 1, 1) := by decide +kernel
theorem dX5_tell_114 : decode cX5_tell 114 = .ok (.laload, 1) := by decide +kernel
theorem dX5_tell_115 : decode cX5_tell 115 = .ok (.iload_n 2, 1) := by decide +kernel
theorem dX5_tell_116 : decode cX5_tell 116 = .ok (.aload_n 0, 1) := by decide +kernel
theorem dX5_tell_117 : decode cX5_tell 117 = .ok (.getfield 61, 3) := by decide +kernel
theorem dX5_tell_120 : decode cX5_tell 120 = .ok (.invokestatic 91, 3) := by decide +kernel
theorem dX5_tell_123 : decode cX5_tell 123 = .ok (.ireturn, 1) := by decide +kernel
theorem dX6_init_0 : decode cX6_init 0 = .ok (.aload_n 0, 1) := by decide +kernel
theorem dX6_init_1 : decode cX6_init 1 = .ok (.invokespecial 3, 3) := by decide +kernel
theorem dX6_init_4 : decode cX6_init 4 = .ok (.aload_n 0, 1) := by decide +kernel
theorem dX6_init_5 : decode cX6_init 5 = .ok (.iconst (-1), 1) := by decide +kernel
theorem dX6_init_6 : decode cX6_init 6 = .ok (.putfield 9, 3) := by decide +kernel
theorem dX6_init_9 : decode cX6_init 9 = .ok (.aload_n 0, 1) := by decide +kernel
theorem dX6_init_10 : decode cX6_init 10 = .ok (.sipush 9000, 3) := by decide +kernel
theorem dX6_init_13 : decode cX6_init 13 = .ok (.newarray .int, 2) := by decide +kernel
theorem dX6_init_15 : decode cX6_init 15 = .ok (.putfield 15, 3) := by decide +kernel
theorem dX6_init_18 : decode cX6_init 18 = .ok (.return_, 1) := by decide +kernel
theorem dX6_forget_0 : decode cX6_forget 0 = .ok (.aload_n 0, 1) := by decide +kernel
theorem dX6_forget_1 : decode cX6_forget 1 = .ok (.iconst (-1), 1) := by decide +kernel
theorem dX6_forget_2 : decode cX6_forget 2 = .ok (.putfield 9, 3) := by decide +kernel
theorem dX6_forget_5 : decode cX6_forget 5 = .ok (.return_, 1) := by decide +kernel
theorem dX6_take_0 : decode cX6_take 0 = .ok (.aload_n 0, 1) := by decide +kernel
theorem dX6_take_1 : decode cX6_take 1 = .ok (.aload_n 0, 1) := by decide +kernel
theorem dX6_take_2 : decode cX6_take 2 = .ok (.getfield 15, 3) := by decide +kernel
theorem dX6_take_5 : decode cX6_take 5 = .ok (.arraylength, 1) := by decide +kernel
theorem dX6_take_6 : decode cX6_take 6 = .ok (.putfield 19, 3) := by decide +kernel
theorem dX6_take_9 : decode cX6_take 9 = .ok (.iload_n 2, 1) := by decide +kernel
theorem dX6_take_10 : decode cX6_take 10 = .ok (.istore 4, 2) := by decide +kernel
theorem dX6_take_12 : decode cX6_take 12 = .ok (.aload_n 1, 1) := by decide +kernel
theorem dX6_take_13 : decode cX6_take 13 = .ok (.getfield 22, 3) := by decide +kernel
theorem dX6_take_16 : decode cX6_take 16 = .ok (.iload_n 2, 1) := by decide +kernel
theorem dX6_take_17 : decode cX6_take 17 = .ok (.iaload, 1) := by decide +kernel
theorem dX6_take_18 : decode cX6_take 18 = .ok (.istore 5, 2) := by decide +kernel
theorem dX6_take_20 : decode cX6_take 20 = .ok (.iload 5, 2) := by decide +kernel
theorem dX6_take_22 : decode cX6_take 22 = .ok (.ifCond .le 82, 3) := by decide +kernel
theorem dX6_take_25 : decode cX6_take 25 = .ok (.aload_n 1, 1) := by decide +kernel
theorem dX6_take_26 : decode cX6_take 26 = .ok (.getfield 27, 3) := by decide +kernel
theorem dX6_take_29 : decode cX6_take 29 = .ok (.iload 4, 2) := by decide +kernel
theorem dX6_take_31 : decode cX6_take 31 = .ok (.iaload, 1) := by decide +kernel
theorem dX6_take_32 : decode cX6_take 32 = .ok (.istore 6, 2) := by decide +kernel
theorem dX6_take_34 : decode cX6_take 34 = .ok (.aload_n 3, 1) := by decide +kernel
theorem dX6_take_35 : decode cX6_take 35 = .ok (.iload 6, 2) := by decide +kernel
theorem dX6_take_37 : decode cX6_take 37 = .ok (.invokevirtual 30, 3) := by decide +kernel
theorem dX6_take_40 : decode cX6_take 40 = .ok (.istore 7, 2) := by decide +kernel
theorem dX6_take_42 : decode cX6_take 42 = .ok (.aload_n 0, 1) := by decide +kernel
theorem dX6_take_43 : decode cX6_take 43 = .ok (.dup, 1) := by decide +kernel
theorem dX6_take_44 : decode cX6_take 44 = .ok (.getfield 19, 3) := by decide +kernel
theorem dX6_take_47 : decode cX6_take 47 = .ok (.iload 7, 2) := by decide +kernel
theorem dX6_take_49 : decode cX6_take 49 = .ok (.isub, 1) := by decide +kernel
theorem dX6_take_50 : decode cX6_take 50 = .ok (.putfield 19, 3) := by decide +kernel
theorem dX6_take_53 : decode cX6_take 53 = .ok (.iconst 0, 1) := by decide +kernel
theorem dX6_take_54 : decode cX6_take 54 = .ok (.istore 8, 2) := by decide +kernel
theorem dX6_take_56 : decode cX6_take 56 = .ok (.iload 8, 2) := by decide +kernel
theorem dX6_take_58 : decode cX6_take 58 = .ok (.iload 7, 2) := by decide +kernel
theorem dX6_take_60 : decode cX6_take 60 = .ok (.if_icmp .ge 29, 3) := by decide +kernel
theorem dX6_take_63 : decode cX6_take 63 = .ok (.aload_n 0, 1) := by decide +kernel
theorem dX6_take_64 : decode cX6_take 64 = .ok (.getfield 15, 3) := by decide +kernel
theorem dX6_take_67 : decode cX6_take 67 = .ok (.aload_n 0, 1) := by decide +kernel
theorem dX6_take_68 : decode cX6_take 68 = .ok (.getfield 19, 3) := by decide +kernel
theorem dX6_take_71 : decode cX6_take 71 = .ok (.iload 8, 2) := by decide +kernel
theorem dX6_take_73 : decode cX6_take 73 = .ok (.iadd, 1) := by decide +kernel
theorem dX6_take_74 : decode cX6_take 74 = .ok (.aload_n 3, 1) := by decide +kernel
theorem dX6_take_75 : decode cX6_take 75 = .ok (.iload 6, 2) := by decide +kernel
theorem dX6_take_77 : decode cX6_take 77 = .ok (.iload 8, 2) := by decide +kernel
theorem dX6_take_79 : decode cX6_take 79 = .ok (.invokevirtual 36, 3) := by decide +kernel
theorem dX6_take_82 : decode cX6_take 82 = .ok (.iastore, 1) := by decide +kernel
theorem dX6_take_83 : decode cX6_take 83 = .ok (.iinc 8 1, 3) := by decide +kernel
theorem dX6_take_86 : decode cX6_take 86 = .ok (.goto (-30), 3) := by decide +kernel
theorem dX6_take_89 : decode cX6_take 89 = .ok (.aload_n 1, 1) := by decide +kernel
theorem dX6_take_90 : decode cX6_take 90 = .ok (.getfield 40, 3) := by decide +kernel
theorem dX6_take_93 : decode cX6_take 93 = .ok (.iload 4, 2) := by decide +kernel
theorem dX6_take_95 : decode cX6_take 95 = .ok (.iaload, 1) := by decide +kernel
theorem dX6_take_96 : decode cX6_take 96 = .ok (.istore 4, 2) := by decide +kernel
theorem dX6_take_98 : decode cX6_take 98 = .ok (.iinc 5 (-1), 3) := by decide +kernel
theorem dX6_take_101 : decode cX6_take 101 = .ok (.goto (-81), 3) := by decide +kernel
theorem dX6_take_104 : decode cX6_take 104 = .ok (.aload_n 0, 1) := by decide +kernel
theorem dX6_take_105 : decode cX6_take 105 = .ok (.aload_n 0, 1) := by decide +kernel
theorem dX6_take_106 : decode cX6_take 106 = .ok (.getfield 15, 3) := by decide +kernel
theorem dX6_take_109 : decode cX6_take 109 = .ok (.arraylength, 1) := by decide +kernel
theorem dX6_take_110 : decode cX6_take 110 = .ok (.aload_n 0, 1) := by decide +kernel
theorem dX6_take_111 : decode cX6_take 111 = .ok (.getfield 19, 3) := by decide +kernel
theorem dX6_take_114 : decode cX6_take 114 = .ok (.isub, 1) := by decide +kernel
theorem dX6_take_115 : decode cX6_take 115 = .ok (.putfield 9, 3) := by decide +kernel
theorem dX6_take_118 : decode cX6_take 118 = .ok (.return_, 1) := by decide +kernel
theorem dX6_moveAt_0 : decode cX6_moveAt 0 = .ok (.iload_n 1, 1) := by decide +kernel
theorem dX6_moveAt_1 : decode cX6_moveAt 1 = .ok (.iconst 0, 1) := by decide +kernel
theorem dX6_moveAt_2 : decode cX6_moveAt 2 = .ok (.aload_n 0, 1) := by decide +kernel
theorem dX6_moveAt_3 : decode cX6_moveAt 3 = .ok (.getfield 9, 3) := by decide +kernel
theorem dX6_moveAt_6 : decode cX6_moveAt 6 = .ok (.iconst 1, 1) := by decide +kernel
theorem dX6_moveAt_7 : decode cX6_moveAt 7 = .ok (.isub, 1) := by decide +kernel
theorem dX6_moveAt_8 : decode cX6_moveAt 8 = .ok (.invokestatic 43, 3) := by decide +kernel
theorem dX6_moveAt_11 : decode cX6_moveAt 11 = .ok (.ifCond .eq 17, 3) := by decide +kernel
theorem dX6_moveAt_14 : decode cX6_moveAt 14 = .ok (.aload_n 0, 1) := by decide +kernel
theorem dX6_moveAt_15 : decode cX6_moveAt 15 = .ok (.getfield 15, 3) := by decide +kernel
theorem dX6_moveAt_18 : decode cX6_moveAt 18 = .ok (.aload_n 0, 1) := by decide +kernel
theorem dX6_moveAt_19 : decode cX6_moveAt 19 = .ok (.getfield 19, 3) := by decide +kernel
theorem dX6_moveAt_22 : decode cX6_moveAt 22 = .ok (.iload_n 1, 1) := by decide +kernel
theorem dX6_moveAt_23 : decode cX6_moveAt 23 = .ok (.iadd, 1) := by decide +kernel
theorem dX6_moveAt_24 : decode cX6_moveAt 24 = .ok (.iaload, 1) := by decide +kernel
theorem dX6_moveAt_25 : decode cX6_moveAt 25 = .ok (.goto 4, 3) := by decide +kernel
theorem dX6_moveAt_28 : decode cX6_moveAt 28 = .ok (.iconst (-1), 1) := by decide +kernel
theorem dX6_moveAt_29 : decode cX6_moveAt 29 = .ok (.ireturn, 1) := by decide +kernel
theorem dX7_init_0 : decode cX7_init 0 = .ok (.aload_n 0, 1) := by decide +kernel
theorem dX7_init_1 : decode cX7_init 1 = .ok (.invokespecial 3, 3) := by decide +kernel
theorem dX7_init_4 : decode cX7_init 4 = .ok (.aload_n 0, 1) := by decide +kernel
theorem dX7_init_5 : decode cX7_init 5 = .ok (.new 9, 3) := by decide +kernel
theorem dX7_init_8 : decode cX7_init 8 = .ok (.dup, 1) := by decide +kernel
theorem dX7_init_9 : decode cX7_init 9 = .ok (.invokespecial 11, 3) := by decide +kernel
theorem dX7_init_12 : decode cX7_init 12 = .ok (.putfield 12, 3) := by decide +kernel
theorem dX7_init_15 : decode cX7_init 15 = .ok (.aload_n 0, 1) := by decide +kernel
theorem dX7_init_16 : decode cX7_init 16 = .ok (.new 18, 3) := by decide +kernel
theorem dX7_init_19 : decode cX7_init 19 = .ok (.dup, 1) := by decide +kernel
theorem dX7_init_20 : decode cX7_init 20 = .ok (.invokespecial 20, 3) := by decide +kernel
theorem dX7_init_23 : decode cX7_init 23 = .ok (.putfield 21, 3) := by decide +kernel
theorem dX7_init_26 : decode cX7_init 26 = .ok (.aload_n 0, 1) := by decide +kernel
theorem dX7_init_27 : decode cX7_init 27 = .ok (.sipush 1500, 3) := by decide +kernel
theorem dX7_init_30 : decode cX7_init 30 = .ok (.newarray .int, 2) := by decide +kernel
theorem dX7_init_32 : decode cX7_init 32 = .ok (.putfield 25, 3) := by decide +kernel
theorem dX7_init_35 : decode cX7_init 35 = .ok (.aload_n 0, 1) := by decide +kernel
theorem dX7_init_36 : decode cX7_init 36 = .ok (.new 29, 3) := by decide +kernel
theorem dX7_init_39 : decode cX7_init 39 = .ok (.dup, 1) := by decide +kernel
theorem dX7_init_40 : decode cX7_init 40 = .ok (.invokespecial 31, 3) := by decide +kernel
theorem dX7_init_43 : decode cX7_init 43 = .ok (.putfield 32, 3) := by decide +kernel
theorem dX7_init_46 : decode cX7_init 46 = .ok (.return_, 1) := by decide +kernel
theorem dX7_run_0 : decode cX7_run 0 = .ok (.aload_n 0, 1) := by decide +kernel
theorem dX7_run_1 : decode cX7_run 1 = .ok (.aload_n 1, 1) := by decide +kernel
theorem dX7_run_2 : decode cX7_run 2 = .ok (.invokevirtual 36, 3) := by decide +kernel
theorem dX7_run_5 : decode cX7_run 5 = .ok (.iconst 2, 1) := by decide +kernel
theorem dX7_run_6 : decode cX7_run 6 = .ok (.istore 4, 2) := by decide +kernel
theorem dX7_run_8 : decode cX7_run 8 = .ok (.iconst 0, 1) := by decide +kernel
theorem dX7_run_9 : decode cX7_run 9 = .ok (.istore 5, 2) := by decide +kernel
theorem dX7_run_11 : decode cX7_run 11 = .ok (.iconst 0, 1) := by decide +kernel
theorem dX7_run_12 : decode cX7_run 12 = .ok (.istore 6, 2) := by decide +kernel
theorem dX7_run_14 : decode cX7_run 14 = .ok (.iload 6, 2) := by decide +kernel
theorem dX7_run_16 : decode cX7_run 16 = .ok (.sipush 1500, 3) := by decide +kernel
theorem dX7_run_19 : decode cX7_run 19 = .ok (.if_icmp .gt 60, 3) := by decide +kernel
theorem dX7_run_22 : decode cX7_run 22 = .ok (.iload 4, 2) := by decide +kernel
theorem dX7_run_24 : decode cX7_run 24 = .ok (.iconst 2, 1) := by decide +kernel
theorem dX7_run_25 : decode cX7_run 25 = .ok (.if_icmp .ne 54, 3) := by decide +kernel
theorem dX7_run_28 : decode cX7_run 28 = .ok (.iload_n 2, 1) := by decide +kernel
theorem dX7_run_29 : decode cX7_run 29 = .ok (.ifCond .eq 13, 3) := by decide +kernel
theorem dX7_run_32 : decode cX7_run 32 = .ok (.aload_n 0, 1) := by decide +kernel
theorem dX7_run_33 : decode cX7_run 33 = .ok (.getfield 12, 3) := by decide +kernel
theorem dX7_run_36 : decode cX7_run 36 = .ok (.invokevirtual 40, 3) := by decide +kernel
theorem dX7_run_39 : decode cX7_run 39 = .ok (.goto 12, 3) := by decide +kernel
theorem dX7_run_42 : decode cX7_run 42 = .ok (.aload_n 0, 1) := by decide +kernel
theorem dX7_run_43 : decode cX7_run 43 = .ok (.getfield 12, 3) := by decide +kernel
theorem dX7_run_46 : decode cX7_run 46 = .ok (.iload 5, 2) := by decide +kernel
theorem dX7_run_48 : decode cX7_run 48 = .ok (.invokevirtual 44, 3) := by decide +kernel
theorem dX7_run_51 : decode cX7_run 51 = .ok (.istore 5, 2) := by decide +kernel
theorem dX7_run_53 : decode cX7_run 53 = .ok (.iload 5, 2) := by decide +kernel
theorem dX7_run_55 : decode cX7_run 55 = .ok (.iconst (-1), 1) := by decide +kernel
theorem dX7_run_56 : decode cX7_run 56 = .ok (.if_icmp .ne 7, 3) := by decide +kernel
theorem dX7_run_59 : decode cX7_run 59 = .ok (.iconst 0, 1) := by decide +kernel
theorem dX7_run_60 : decode cX7_run 60 = .ok (.goto 11, 3) := by decide +kernel
theorem dX7_run_63 : decode cX7_run 63 = .ok (.aload_n 0, 1) := by decide +kernel
theorem dX7_run_64 : decode cX7_run 64 = .ok (.aload_n 1, 1) := by decide +kernel
theorem dX7_run_65 : decode cX7_run 65 = .ok (.iload 5, 2) := by decide +kernel
theorem dX7_run_67 : decode cX7_run 67 = .ok (.iload_n 3, 1) := by decide +kernel
theorem dX7_run_68 : decode cX7_run 68 = .ok (.invokevirtual 48, 3) := by decide +kernel
theorem dX7_run_71 : decode cX7_run 71 = .ok (.istore 4, 2) := by decide +kernel
theorem dX7_run_73 : decode cX7_run 73 = .ok (.iinc 6 1, 3) := by decide +kernel
theorem dX7_run_76 : decode cX7_run 76 = .ok (.goto (-62), 3) := by decide +kernel
theorem dX7_run_79 : decode cX7_run 79 = .ok (.iload 4, 2) := by decide +kernel
theorem dX7_run_81 : decode cX7_run 81 = .ok (.iconst 1, 1) := by decide +kernel
theorem dX7_run_82 : decode cX7_run 82 = .ok (.if_icmp .ne 50, 3) := by decide +kernel
theorem dX7_run_85 : decode cX7_run 85 = .ok (.aload_n 0, 1) := by decide +kernel
theorem dX7_run_86 : decode cX7_run 86 = .ok (.getfield 21, 3) := by decide +kernel
theorem dX7_run_89 : decode cX7_run 89 = .ok (.aload_n 0, 1) := by decide +kernel
theorem dX7_run_90 : decode cX7_run 90 = .ok (.getfield 12, 3) := by decide +kernel
theorem dX7_run_93 : decode cX7_run 93 = .ok (.aload_n 0, 1) := by decide +kernel
theorem dX7_run_94 : decode cX7_run 94 = .ok (.getfield 12, 3) := by decide +kernel
theorem dX7_run_97 : decode cX7_run 97 = .ok (.getfield 52, 3) := by decide +kernel
theorem dX7_run_100 : decode cX7_run 100 = .ok (.iconst 1, 1) := by decide +kernel
theorem dX7_run_101 : decode cX7_run 101 = .ok (.isub, 1) := by decide +kernel
theorem dX7_run_102 : decode cX7_run 102 = .ok (.aload_n 1, 1) := by decide +kernel
theorem dX7_run_103 : decode cX7_run 103 = .ok (.getfield 56, 3) := by decide +kernel
theorem dX7_run_106 : decode cX7_run 106 = .ok (.invokevirtual 62, 3) := by decide +kernel
theorem dX7_run_109 : decode cX7_run 109 = .ok (.aload_n 0, 1) := by decide +kernel
theorem dX7_run_110 : decode cX7_run 110 = .ok (.iload_n 2, 1) := by decide +kernel
theorem dX7_run_111 : decode cX7_run 111 = .ok (.ifCond .ne 17, 3) := by decide +kernel
theorem dX7_run_114 : decode cX7_run 114 = .ok (.aload_n 1, 1) := by decide +kernel
theorem dX7_run_115 : decode cX7_run 115 = .ok (.getfield 66, 3) := by decide +kernel
theorem dX7_run_118 : decode cX7_run 118 = .ok (.getfield 70, 3) := by decide +kernel
theorem dX7_run_121 : decode cX7_run 121 = .ok (.ifCond .ne 7, 3) := by decide +kernel
theorem dX7_run_124 : decode cX7_run 124 = .ok (.iconst 1, 1) := by decide +kernel
theorem dX7_run_125 : decode cX7_run 125 = .ok (.goto 4, 3) := by decide +kernel
theorem dX7_run_128 : decode cX7_run 128 = .ok (.iconst 0, 1) := by decide +kernel
theorem dX7_run_129 : decode cX7_run 129 = .ok (.putfield 76, 3) := by decide +kernel
theorem dX7_run_132 : decode cX7_run 132 = .ok (.iload 4, 2) := by decide +kernel
theorem dX7_run_134 : decode cX7_run 134 = .ok (.ireturn, 1) := by decide +kernel
theorem dX7_startWith_0 : decode cX7_startWith 0 = .ok (.aload_n 0, 1) := by decide +kernel
theorem dX7_startWith_1 : decode cX7_startWith 1 = .ok (.getfield 21, 3) := by decide +kernel
theorem dX7_startWith_4 : decode cX7_startWith 4 = .ok (.invokevirtual 79, 3) := by decide +kernel
theorem dX7_startWith_7 : decode cX7_startWith 7 = .ok (.aload_n 0, 1) := by decide +kernel
theorem dX7_startWith_8 : decode cX7_startWith 8 = .ok (.iconst 0, 1) := by decide +kernel
theorem dX7_startWith_9 : decode cX7_startWith 9 = .ok (.putfield 82, 3) := by decide +kernel
theorem dX7_startWith_12 : decode cX7_startWith 12 = .ok (.aload_n 0, 1) := by decide +kernel
theorem dX7_startWith_13 : decode cX7_startWith 13 = .ok (.iconst 0, 1) := by decide +kernel
theorem dX7_startWith_14 : decode cX7_startWith 14 = .ok (.putfield 85, 3) := by decide +kernel
theorem dX7_startWith_17 : decode cX7_startWith 17 = .ok (.aload_n 0, 1) := by decide +kernel
theorem dX7_startWith_18 : decode cX7_startWith 18 = .ok (.aload_n 1, 1) := by decide +kernel
theorem dX7_startWith_19 : decode cX7_startWith 19 = .ok (.getfield 88, 3) := by decide +kernel
theorem dX7_startWith_22 : decode cX7_startWith 22 = .ok (.invokevirtual 92, 3) := by decide +kernel
theorem dX7_startWith_25 : decode cX7_startWith 25 = .ok (.putfield 97, 3) := by decide +kernel
theorem dX7_startWith_28 : decode cX7_startWith 28 = .ok (.aload_n 0, 1) := by decide +kernel
theorem dX7_startWith_29 : decode cX7_startWith 29 = .ok (.iconst 0, 1) := by decide +kernel
theorem dX7_startWith_30 : decode cX7_startWith 30 = .ok (.putfield 76, 3) := by decide +kernel
theorem dX7_startWith_33 : decode cX7_startWith 33 = .ok (.aload_n 0, 1) := by decide +kernel
theorem dX7_startWith_34 : decode cX7_startWith 34 = .ok (.getfield 32, 3) := by decide +kernel
theorem dX7_startWith_37 : decode cX7_startWith 37 = .ok (.aload_n 1, 1) := by decide +kernel
theorem dX7_startWith_38 : decode cX7_startWith 38 = .ok (.getfield 66, 3) := by decide +kernel
theorem dX7_startWith_41 : decode cX7_startWith 41 = .ok (.getfield 100, 3) := by decide +kernel
theorem dX7_startWith_44 : decode cX7_startWith 44 = .ok (.invokevirtual 104, 3) := by decide +kernel
theorem dX7_startWith_47 : decode cX7_startWith 47 = .ok (.aload_n 0, 1) := by decide +kernel
theorem dX7_startWith_48 : decode cX7_startWith 48 = .ok (.getfield 12, 3) := by decide +kernel
theorem dX7_startWith_51 : decode cX7_startWith 51 = .ok (.aload_n 1, 1) := by decide +kernel
theorem dX7_startWith_52 : decode cX7_startWith 52 = .ok (.getfield 66, 3) := by decide +kernel
theorem dX7_startWith_55 : decode cX7_startWith 55 = .ok (.invokevirtual 108, 3) := by decide +kernel
theorem dX7_startWith_58 : decode cX7_startWith 58 = .ok (.aload_n 0, 1) := by decide +kernel
theorem dX7_startWith_59 : decode cX7_startWith 59 = .ok (.getfield 12, 3) := by decide +kernel
theorem dX7_startWith_62 : decode cX7_startWith 62 = .ok (.iconst (-1), 1) := by decide +kernel
theorem dX7_startWith_63 : decode cX7_startWith 63 = .ok (.iconst (-1), 1) := by decide +kernel
theorem dX7_startWith_64 : decode cX7_startWith 64 = .ok (.aload_n 0, 1) := by decide +kernel
theorem dX7_startWith_65 : decode cX7_startWith 65 = .ok (.getfield 32, 3) := by decide +kernel
theorem dX7_startWith_68 : decode cX7_startWith 68 = .ok (.aload_n 1, 1) := by decide +kernel
theorem dX7_startWith_69 : decode cX7_startWith 69 = .ok (.getfield 66, 3) := by decide +kernel
theorem dX7_startWith_72 : decode cX7_startWith 72 = .ok (.aload_n 0, 1) := by decide +kernel
theorem dX7_startWith_73 : decode cX7_startWith 73 = .ok (.getfield 32, 3) := by decide +kernel
theorem dX7_startWith_76 : decode cX7_startWith 76 = .ok (.getfield 111, 3) := by decide +kernel
theorem dX7_startWith_79 : decode cX7_startWith 79 = .ok (.invokevirtual 114, 3) := by decide +kernel
theorem dX7_startWith_82 : decode cX7_startWith 82 = .ok (.invokevirtual 118, 3) := by decide +kernel
theorem dX7_startWith_85 : decode cX7_startWith 85 = .ok (.return_, 1) := by decide +kernel
theorem dX7_takeNode_0 : decode cX7_takeNode 0 = .ok (.aload_n 0, 1) := by decide +kernel
theorem dX7_takeNode_1 : decode cX7_takeNode 1 = .ok (.getfield 12, 3) := by decide +kernel
theorem dX7_takeNode_4 : decode cX7_takeNode 4 = .ok (.iload_n 2, 1) := by decide +kernel
theorem dX7_takeNode_5 : decode cX7_takeNode 5 = .ok (.invokevirtual 122, 3) := by decide +kernel
theorem dX7_takeNode_8 : decode cX7_takeNode 8 = .ok (.aload_n 0, 1) := by decide +kernel
theorem dX7_takeNode_9 : decode cX7_takeNode 9 = .ok (.getfield 25, 3) := by decide +kernel
theorem dX7_takeNode_12 : decode cX7_takeNode 12 = .ok (.aload_n 0, 1) := by decide +kernel
theorem dX7_takeNode_13 : decode cX7_takeNode 13 = .ok (.dup, 1) := by decide +kernel
theorem dX7_takeNode_14 : decode cX7_takeNode 14 = .ok (.getfield 82, 3) := by decide +kernel
theorem dX7_takeNode_17 : decode cX7_takeNode 17 = .ok (.dup_x1, 1) := by decide +kernel
theorem dX7_takeNode_18 : decode cX7_takeNode 18 = .ok (.iconst 1, 1) := by decide +kernel
theorem dX7_takeNode_19 : decode cX7_takeNode 19 = .ok (.iadd, 1) := by decide +kernel
theorem dX7_takeNode_20 : decode cX7_takeNode 20 = .ok (.putfield 82, 3) := by decide +kernel
theorem dX7_takeNode_23 : decode cX7_takeNode 23 = .ok (.iload_n 2, 1) := by decide +kernel
theorem dX7_takeNode_24 : decode cX7_takeNode 24 = .ok (.iastore, 1) := by decide +kernel
theorem dX7_takeNode_25 : decode cX7_takeNode 25 = .ok (.aload_n 0, 1) := by decide +kernel
theorem dX7_takeNode_26 : decode cX7_takeNode 26 = .ok (.getfield 32, 3) := by decide +kernel
theorem dX7_takeNode_29 : decode cX7_takeNode 29 = .ok (.aload_n 0, 1) := by decide +kernel
theorem dX7_takeNode_30 : decode cX7_takeNode 30 = .ok (.getfield 12, 3) := by decide +kernel
theorem dX7_takeNode_33 : decode cX7_takeNode 33 = .ok (.getfield 125, 3) := by decide +kernel
theorem dX7_takeNode_36 : decode cX7_takeNode 36 = .ok (.iload_n 2, 1) := by decide +kernel
theorem dX7_takeNode_37 : decode cX7_takeNode 37 = .ok (.laload, 1) := by decide +kernel
theorem dX7_takeNode_38 : decode cX7_takeNode 38 = .ok (.invokevirtual 104, 3) := by decide +kernel
theorem dX7_takeNode_41 : decode cX7_takeNode 41 = .ok (.iconst 1, 1) := by decide +kernel
theorem dX7_takeNode_42 : decode cX7_takeNode 42 = .ok (.istore 4, 2) := by decide +kernel
theorem dX7_takeNode_44 : decode cX7_takeNode 44 = .ok (.iconst 0, 1) := by decide +kernel
theorem dX7_takeNode_45 : decode cX7_takeNode 45 = .ok (.istore 5, 2) := by decide +kernel
theorem dX7_takeNode_47 : decode cX7_takeNode 47 = .ok (.iload 5, 2) := by decide +kernel
theorem dX7_takeNode_49 : decode cX7_takeNode 49 = .ok (.aload_n 1, 1) := by decide +kernel
theorem dX7_takeNode_50 : decode cX7_takeNode 50 = .ok (.invokevirtual 129, 3) := by decide +kernel
theorem dX7_takeNode_53 : decode cX7_takeNode 53 = .ok (.if_icmp .ge 53, 3) := by decide +kernel
theorem dX7_takeNode_56 : decode cX7_takeNode 56 = .ok (.aload_n 1, 1) := by decide +kernel
theorem dX7_takeNode_57 : decode cX7_takeNode 57 = .ok (.iload 5, 2) := by decide +kernel
theorem dX7_takeNode_59 : decode cX7_takeNode 59 = .ok (.invokevirtual 132, 3) := by decide +kernel
theorem dX7_takeNode_62 : decode cX7_takeNode 62 = .ok (.istore 6, 2) := by decide +kernel
theorem dX7_takeNode_64 : decode cX7_takeNode 64 = .ok (.aload_n 1, 1) := by decide +kernel
theorem dX7_takeNode_65 : decode cX7_takeNode 65 = .ok (.iload 6, 2) := by decide +kernel
theorem dX7_takeNode_67 : decode cX7_takeNode 67 = .ok (.aload_n 0, 1) := by decide +kernel
theorem dX7_takeNode_68 : decode cX7_takeNode 68 = .ok (.getfield 32, 3) := by decide +kernel
theorem dX7_takeNode_71 : decode cX7_takeNode 71 = .ok (.invokevirtual 135, 3) := by decide +kernel
theorem dX7_takeNode_74 : decode cX7_takeNode 74 = .ok (.ifCond .eq 26, 3) := by decide +kernel
theorem dX7_takeNode_77 : decode cX7_takeNode 77 = .ok (.iconst 0, 1) := by decide +kernel
theorem dX7_takeNode_78 : decode cX7_takeNode 78 = .ok (.istore 4, 2) := by decide +kernel
theorem dX7_takeNode_80 : decode cX7_takeNode 80 = .ok (.aload_n 0, 1) := by decide +kernel
theorem dX7_takeNode_81 : decode cX7_takeNode 81 = .ok (.aload_n 1, 1) := by decide +kernel
theorem dX7_takeNode_82 : decode cX7_takeNode 82 = .ok (.iload_n 2, 1) := by decide +kernel
theorem dX7_takeNode_83 : decode cX7_takeNode 83 = .ok (.iload 6, 2) := by decide +kernel
theorem dX7_takeNode_85 : decode cX7_takeNode 85 = .ok (.iload_n 3, 1) := by decide +kernel
theorem dX7_takeNode_86 : decode cX7_takeNode 86 = .ok (.invokevirtual 139, 3) := by decide +kernel
theorem dX7_takeNode_89 : decode cX7_takeNode 89 = .ok (.istore 7, 2) := by decide +kernel
theorem dX7_takeNode_91 : decode cX7_takeNode 91 = .ok (.iload 7, 2) := by decide +kernel
theorem dX7_takeNode_93 : decode cX7_takeNode 93 = .ok (.iconst 2, 1) := by decide +kernel
theorem dX7_takeNode_94 : decode cX7_takeNode 94 = .ok (.if_icmp .eq 6, 3) := by decide +kernel
theorem dX7_takeNode_97 : decode cX7_takeNode 97 = .ok (.iload 7, 2) := by decide +kernel
theorem dX7_takeNode_99 : decode cX7_takeNode 99 = .ok (.ireturn, 1) := by decide +kernel
theorem dX7_takeNode_100 : decode cX7_takeNode 100 = .ok (.iinc 5 1, 3) := by decide +kernel
theorem dX7_takeNode_103 : decode cX7_takeNode 103 = .ok (.goto (-56), 3) := by decide +kernel
theorem dX7_takeNode_106 : decode cX7_takeNode 106 = .ok (.iload 4, 2) := by decide +kernel
theorem dX7_takeNode_108 : decode cX7_takeNode 108 = .ok (.ifCond .eq 11, 3) := by decide +kernel
theorem dX7_takeNode_111 : decode cX7_takeNode 111 = .ok (.aload_n 0, 1) := by decide +kernel
theorem dX7_takeNode_112 : decode cX7_takeNode 112 = .ok (.getfield 12, 3) := by decide +kernel
theorem dX7_takeNode_115 : decode cX7_takeNode 115 = .ok (.iload_n 2, 1) := by decide +kernel
theorem dX7_takeNode_116 : decode cX7_takeNode 116 = .ok (.invokevirtual 143, 3) := by decide +kernel
theorem dX7_takeNode_119 : decode cX7_takeNode 119 = .ok (.iconst 2, 1) := by decide +kernel
theorem dX7_takeNode_120 : decode cX7_takeNode 120 = .ok (.ireturn, 1) := by decide +kernel
theorem dX7_takeOutcome_0 : decode cX7_takeOutcome 0 = .ok (.aload_n 1, 1) := by decide +kernel
theorem dX7_takeOutcome_1 : decode cX7_takeOutcome 1 = .ok (.getfield 146, 3) := by decide +kernel
theorem dX7_takeOutcome_4 : decode cX7_takeOutcome 4 = .ok (.astore 5, 2) := by decide +kernel
theorem dX7_takeOutcome_6 : decode cX7_takeOutcome 6 = .ok (.aload_n 0, 1) := by decide +kernel
theorem dX7_takeOutcome_7 : decode cX7_takeOutcome 7 = .ok (.dup, 1) := by decide +kernel
theorem dX7_takeOutcome_8 : decode cX7_takeOutcome 8 = .ok (.getfield 85, 3) := by decide +kernel
theorem dX7_takeOutcome_11 : decode cX7_takeOutcome 11 = .ok (.aload 5, 2) := by decide +kernel
theorem dX7_takeOutcome_13 : decode cX7_takeOutcome 13 = .ok (.getfield 149, 3) := by decide +kernel
theorem dX7_takeOutcome_16 : decode cX7_takeOutcome 16 = .ok (.ior, 1) := by decide +kernel
theorem dX7_takeOutcome_17 : decode cX7_takeOutcome 17 = .ok (.putfield 85, 3) := by decide +kernel
theorem dX7_takeOutcome_20 : decode cX7_takeOutcome 20 = .ok (.aload_n 1, 1) := by decide +kernel
theorem dX7_takeOutcome_21 : decode cX7_takeOutcome 21 = .ok (.getfield 66, 3) := by decide +kernel
theorem dX7_takeOutcome_24 : decode cX7_takeOutcome 24 = .ok (.aload 5, 2) := by decide +kernel
theorem dX7_takeOutcome_26 : decode cX7_takeOutcome 26 = .ok (.getfield 111, 3) := by decide +kernel
theorem dX7_takeOutcome_29 : decode cX7_takeOutcome 29 = .ok (.invokevirtual 114, 3) := by decide +kernel
theorem dX7_takeOutcome_32 : decode cX7_takeOutcome 32 = .ok (.istore 6, 2) := by decide +kernel
theorem dX7_takeOutcome_34 : decode cX7_takeOutcome 34 = .ok (.aload_n 1, 1) := by decide +kernel
theorem dX7_takeOutcome_35 : decode cX7_takeOutcome 35 = .ok (.getfield 152, 3) := by decide +kernel
theorem dX7_takeOutcome_38 : decode cX7_takeOutcome 38 = .ok (.aload 5, 2) := by decide +kernel
theorem dX7_takeOutcome_40 : decode cX7_takeOutcome 40 = .ok (.iload 6, 2) := by decide +kernel
theorem dX7_takeOutcome_42 : decode cX7_takeOutcome 42 = .ok (.iconst 1, 1) := by decide +kernel
theorem dX7_takeOutcome_43 : decode cX7_takeOutcome 43 = .ok (.invokevirtual 156, 3) := by decide +kernel
theorem dX7_takeOutcome_46 : decode cX7_takeOutcome 46 = .ok (.istore 7, 2) := by decide +kernel
theorem dX7_takeOutcome_48 : decode cX7_takeOutcome 48 = .ok (.iload 7, 2) := by decide +kernel
theorem dX7_takeOutcome_50 : decode cX7_takeOutcome 50 = .ok (.ifCond .ne 17, 3) := by decide +kernel
theorem dX7_takeOutcome_53 : decode cX7_takeOutcome 53 = .ok (.aload_n 0, 1) := by decide +kernel
theorem dX7_takeOutcome_54 : decode cX7_takeOutcome 54 = .ok (.getfield 12, 3) := by decide +kernel
theorem dX7_takeOutcome_57 : decode cX7_takeOutcome 57 = .ok (.aload 5, 2) := by decide +kernel
theorem dX7_takeOutcome_59 : decode cX7_takeOutcome 59 = .ok (.invokevirtual 162, 3) := by decide +kernel
theorem dX7_takeOutcome_62 : decode cX7_takeOutcome 62 = .ok (.ifCond .eq 5, 3) := by decide +kernel
theorem dX7_takeOutcome_65 : decode cX7_takeOutcome 65 = .ok (.iconst 2, 1) := by decide +kernel
theorem dX7_takeOutcome_66 : decode cX7_takeOutcome 66 = .ok (.ireturn, 1) := by decide +kernel
theorem dX7_takeOutcome_67 : decode cX7_takeOutcome 67 = .ok (.aload_n 0, 1) := by decide +kernel
theorem dX7_takeOutcome_68 : decode cX7_takeOutcome 68 = .ok (.getfield 12, 3) := by decide +kernel
theorem dX7_takeOutcome_71 : decode cX7_takeOutcome 71 = .ok (.getfield 52, 3) := by decide +kernel
theorem dX7_takeOutcome_74 : decode cX7_takeOutcome 74 = .ok (.iload 4, 2) := by decide +kernel
theorem dX7_takeOutcome_76 : decode cX7_takeOutcome 76 = .ok (.if_icmp .lt 5, 3) := by decide +kernel
theorem dX7_takeOutcome_79 : decode cX7_takeOutcome 79 = .ok (.iconst (-1), 1) := by decide +kernel
theorem dX7_takeOutcome_80 : decode cX7_takeOutcome 80 = .ok (.ireturn, 1) := by decide +kernel
theorem dX7_takeOutcome_81 : decode cX7_takeOutcome 81 = .ok (.aload_n 0, 1) := by decide +kernel
theorem dX7_takeOutcome_82 : decode cX7_takeOutcome 82 = .ok (.getfield 12, 3) := by decide +kernel
theorem dX7_takeOutcome_85 : decode cX7_takeOutcome 85 = .ok (.iload_n 2, 1) := by decide +kernel
theorem dX7_takeOutcome_86 : decode cX7_takeOutcome 86 = .ok (.iload_n 3, 1) := by decide +kernel
theorem dX7_takeOutcome_87 : decode cX7_takeOutcome 87 = .ok (.aload 5, 2) := by decide +kernel
theorem dX7_takeOutcome_89 : decode cX7_takeOutcome 89 = .ok (.iload 6, 2) := by decide +kernel
theorem dX7_takeOutcome_91 : decode cX7_takeOutcome 91 = .ok (.invokevirtual 118, 3) := by decide +kernel
theorem dX7_takeOutcome_94 : decode cX7_takeOutcome 94 = .ok (.iload 7, 2) := by decide +kernel
theorem dX7_takeOutcome_96 : decode cX7_takeOutcome 96 = .ok (.ifCond .eq 7, 3) := by decide +kernel
theorem dX7_takeOutcome_99 : decode cX7_takeOutcome 99 = .ok (.iconst 1, 1) := by decide +kernel
theorem dX7_takeOutcome_100 : decode cX7_takeOutcome 100 = .ok (.goto 4, 3) := by decide +kernel
theorem dX7_takeOutcome_103 : decode cX7_takeOutcome 103 = .ok (.iconst 2, 1) := by decide +kernel
theorem dX7_takeOutcome_104 : decode cX7_takeOutcome 104 = .ok (.ireturn, 1) := by decide +kernel
theorem dX8_init_0 : decode cX8_init 0 = .ok (.aload_n 0, 1) := by decide +kernel
theorem dX8_init_1 : decode cX8_init 1 = .ok (.invokespecial 3, 3) := by decide +kernel
theorem dX8_init_4 : decode cX8_init 4 = .ok (.aload_n 0, 1) := by decide +kernel
theorem dX8_init_5 : decode cX8_init 5 = .ok (.new 9, 3) := by decide +kernel
theorem dX8_init_8 : decode cX8_init 8 = .ok (.dup, 1) := by decide +kernel
theorem dX8_init_9 : decode cX8_init 9 = .ok (.invokespecial 11, 3) := by decide +kernel
theorem dX8_init_12 : decode cX8_init 12 = .ok (.putfield 12, 3) := by decide +kernel
theorem dX8_init_15 : decode cX8_init 15 = .ok (.aload_n 0, 1) := by decide +kernel
theorem dX8_init_16 : decode cX8_init 16 = .ok (.new 18, 3) := by decide +kernel
theorem dX8_init_19 : decode cX8_init 19 = .ok (.dup, 1) := by decide +kernel
theorem dX8_init_20 : decode cX8_init 20 = .ok (.invokespecial 20, 3) := by decide +kernel
theorem dX8_init_23 : decode cX8_init 23 = .ok (.putfield 21, 3) := by decide +kernel
theorem dX8_init_26 : decode cX8_init 26 = .ok (.aload_n 0, 1) := by decide +kernel
theorem dX8_init_27 : decode cX8_init 27 = .ok (.new 25, 3) := by decide +kernel
theorem dX8_init_30 : decode cX8_init 30 = .ok (.dup, 1) := by decide +kernel
theorem dX8_init_31 : decode cX8_init 31 = .ok (.invokespecial 27, 3) := by decide +kernel
theorem dX8_init_34 : decode cX8_init 34 = .ok (.putfield 28, 3) := by decide +kernel
theorem dX8_init_37 : decode cX8_init 37 = .ok (.aload_n 0, 1) := by decide +kernel
theorem dX8_init_38 : decode cX8_init 38 = .ok (.new 32, 3) := by decide +kernel
theorem dX8_init_41 : decode cX8_init 41 = .ok (.dup, 1) := by decide +kernel
theorem dX8_init_42 : decode cX8_init 42 = .ok (.invokespecial 34, 3) := by decide +kernel
theorem dX8_init_45 : decode cX8_init 45 = .ok (.putfield 35, 3) := by decide +kernel
theorem dX8_init_48 : decode cX8_init 48 = .ok (.aload_n 0, 1) := by decide +kernel
theorem dX8_init_49 : decode cX8_init 49 = .ok (.new 39, 3) := by decide +kernel
theorem dX8_init_52 : decode cX8_init 52 = .ok (.dup, 1) := by decide +kernel
theorem dX8_init_53 : decode cX8_init 53 = .ok (.invokespecial 41, 3) := by decide +kernel
theorem dX8_init_56 : decode cX8_init 56 = .ok (.putfield 42, 3) := by decide +kernel
theorem dX8_init_59 : decode cX8_init 59 = .ok (.return_, 1) := by decide +kernel
theorem dX8_stepCount_0 : decode cX8_stepCount 0 = .ok (.aload_n 0, 1) := by decide +kernel
theorem dX8_stepCount_1 : decode cX8_stepCount 1 = .ok (.getfield 21, 3) := by decide +kernel
theorem dX8_stepCount_4 : decode cX8_stepCount 4 = .ok (.getfield 46, 3) := by decide +kernel
theorem dX8_stepCount_7 : decode cX8_stepCount 7 = .ok (.aload_n 0, 1) := by decide +kernel
theorem dX8_stepCount_8 : decode cX8_stepCount 8 = .ok (.getfield 28, 3) := by decide +kernel
theorem dX8_stepCount_11 : decode cX8_stepCount 11 = .ok (.getfield 50, 3) := by decide +kernel
theorem dX8_stepCount_14 : decode cX8_stepCount 14 = .ok (.iadd, 1) := by decide +kernel
theorem dX8_stepCount_15 : decode cX8_stepCount 15 = .ok (.ireturn, 1) := by decide +kernel
theorem dX8_stepBy_0 : decode cX8_stepBy 0 = .ok (.iload_n 1, 1) := by decide +kernel
theorem dX8_stepBy_1 : decode cX8_stepBy 1 = .ok (.aload_n 0, 1) := by decide +kernel
theorem dX8_stepBy_2 : decode cX8_stepBy 2 = .ok (.getfield 21, 3) := by decide +kernel
theorem dX8_stepBy_5 : decode cX8_stepBy 5 = .ok (.getfield 46, 3) := by decide +kernel
theorem dX8_stepBy_8 : decode cX8_stepBy 8 = .ok (.if_icmp .ge 7, 3) := by decide +kernel
theorem dX8_stepBy_11 : decode cX8_stepBy 11 = .ok (.iload_n 1, 1) := by decide +kernel
theorem dX8_stepBy_12 : decode cX8_stepBy 12 = .ok (.goto 15, 3) := by decide +kernel
theorem dX8_stepBy_15 : decode cX8_stepBy 15 = .ok (.bipush 100, 2) := by decide +kernel
theorem dX8_stepBy_17 : decode cX8_stepBy 17 = .ok (.iload_n 1, 1) := by decide +kernel
theorem dX8_stepBy_18 : decode cX8_stepBy 18 = .ok (.iadd, 1) := by decide +kernel
theorem dX8_stepBy_19 : decode cX8_stepBy 19 = .ok (.aload_n 0, 1) := by decide +kernel
theorem dX8_stepBy_20 : decode cX8_stepBy 20 = .ok (.getfield 21, 3) := by decide +kernel
theorem dX8_stepBy_23 : decode cX8_stepBy 23 = .ok (.getfield 46, 3) := by decide +kernel
theorem dX8_stepBy_26 : decode cX8_stepBy 26 = .ok (.isub, 1) := by decide +kernel
theorem dX8_stepBy_27 : decode cX8_stepBy 27 = .ok (.ireturn, 1) := by decide +kernel
theorem dX8_hasStep_0 : decode cX8_hasStep 0 = .ok (.aload_n 0, 1) := by decide +kernel
theorem dX8_hasStep_1 : decode cX8_hasStep 1 = .ok (.getfield 21, 3) := by decide +kernel
theorem dX8_hasStep_4 : decode cX8_hasStep 4 = .ok (.iload_n 1, 1) := by decide +kernel
theorem dX8_hasStep_5 : decode cX8_hasStep 5 = .ok (.invokevirtual 51, 3) := by decide +kernel
theorem dX8_hasStep_8 : decode cX8_hasStep 8 = .ok (.ifCond .ne 24, 3) := by decide +kernel
theorem dX8_hasStep_11 : decode cX8_hasStep 11 = .ok (.iload_n 1, 1) := by decide +kernel
theorem dX8_hasStep_12 : decode cX8_hasStep 12 = .ok (.bipush 100, 2) := by decide +kernel
theorem dX8_hasStep_14 : decode cX8_hasStep 14 = .ok (.bipush 100, 2) := by decide +kernel
theorem dX8_hasStep_16 : decode cX8_hasStep 16 = .ok (.aload_n 0, 1) := by decide +kernel
theorem dX8_hasStep_17 : decode cX8_hasStep 17 = .ok (.getfield 28, 3) := by decide +kernel
theorem dX8_hasStep_20 : decode cX8_hasStep 20 = .ok (.getfield 50, 3) := by decide +kernel
theorem dX8_hasStep_23 : decode cX8_hasStep 23 = .ok (.iadd, 1) := by decide +kernel
theorem dX8_hasStep_24 : decode cX8_hasStep 24 = .ok (.iconst 1, 1) := by decide +kernel
theorem dX8_hasStep_25 : decode cX8_hasStep 25 = .ok (.isub, 1) := by decide +kernel
theorem dX8_hasStep_26 : decode cX8_hasStep 26 = .ok (.invokestatic 55, 3) := by decide +kernel
theorem dX8_hasStep_29 : decode cX8_hasStep 29 = .ok (.ifCond .eq 7, 3) := by decide +kernel
theorem dX8_hasStep_32 : decode cX8_hasStep 32 = .ok (.iconst 1, 1) := by decide +kernel
theorem dX8_hasStep_33 : decode cX8_hasStep 33 = .ok (.goto 4, 3) := by decide +kernel
theorem dX8_hasStep_36 : decode cX8_hasStep 36 = .ok (.iconst 0, 1) := by decide +kernel
theorem dX8_hasStep_37 : decode cX8_hasStep 37 = .ok (.ireturn, 1) := by decide +kernel
theorem dX8_tries_0 : decode cX8_tries 0 = .ok (.aload_n 0, 1) := by decide +kernel
theorem dX8_tries_1 : decode cX8_tries 1 = .ok (.getfield 42, 3) := by decide +kernel
theorem dX8_tries_4 : decode cX8_tries 4 = .ok (.aload_n 2, 1) := by decide +kernel
theorem dX8_tries_5 : decode cX8_tries 5 = .ok (.invokevirtual 59, 3) := by decide +kernel
theorem dX8_tries_8 : decode cX8_tries 8 = .ok (.aload_n 0, 1) := by decide +kernel
theorem dX8_tries_9 : decode cX8_tries 9 = .ok (.getfield 28, 3) := by decide +kernel
theorem dX8_tries_12 : decode cX8_tries 12 = .ok (.iload_n 1, 1) := by decide +kernel
theorem dX8_tries_13 : decode cX8_tries 13 = .ok (.invokevirtual 63, 3) := by decide +kernel
theorem dX8_tries_16 : decode cX8_tries 16 = .ok (.istore_n 3, 1) := by decide +kernel
theorem dX8_tries_17 : decode cX8_tries 17 = .ok (.iconst 0, 1) := by decide +kernel
theorem dX8_tries_18 : decode cX8_tries 18 = .ok (.istore 4, 2) := by decide +kernel
theorem dX8_tries_20 : decode cX8_tries 20 = .ok (.iload 4, 2) := by decide +kernel
theorem dX8_tries_22 : decode cX8_tries 22 = .ok (.iload_n 3, 1) := by decide +kernel
theorem dX8_tries_23 : decode cX8_tries 23 = .ok (.if_icmp .ge 42, 3) := by decide +kernel
theorem dX8_tries_26 : decode cX8_tries 26 = .ok (.aload_n 0, 1) := by decide +kernel
theorem dX8_tries_27 : decode cX8_tries 27 = .ok (.getfield 21, 3) := by decide +kernel
theorem dX8_tries_30 : decode cX8_tries 30 = .ok (.aload_n 0, 1) := by decide +kernel
theorem dX8_tries_31 : decode cX8_tries 31 = .ok (.getfield 28, 3) := by decide +kernel
theorem dX8_tries_34 : decode cX8_tries 34 = .ok (.iload_n 1, 1) := by decide +kernel
theorem dX8_tries_35 : decode cX8_tries 35 = .ok (.iload 4, 2) := by decide +kernel
theorem dX8_tries_37 : decode cX8_tries 37 = .ok (.invokevirtual 67, 3) := by decide +kernel
theorem dX8_tries_40 : decode cX8_tries 40 = .ok (.aload_n 0, 1) := by decide +kernel
theorem dX8_tries_41 : decode cX8_tries 41 = .ok (.getfield 42, 3) := by decide +kernel
theorem dX8_tries_44 : decode cX8_tries 44 = .ok (.aload_n 0, 1) := by decide +kernel
theorem dX8_tries_45 : decode cX8_tries 45 = .ok (.getfield 12, 3) := by decide +kernel
theorem dX8_tries_48 : decode cX8_tries 48 = .ok (.getfield 71, 3) := by decide +kernel
theorem dX8_tries_51 : decode cX8_tries 51 = .ok (.invokevirtual 72, 3) := by decide +kernel
theorem dX8_tries_54 : decode cX8_tries 54 = .ok (.ifCond .ne 5, 3) := by decide +kernel
theorem dX8_tries_57 : decode cX8_tries 57 = .ok (.iconst 0, 1) := by decide +kernel
theorem dX8_tries_58 : decode cX8_tries 58 = .ok (.ireturn, 1) := by decide +kernel
theorem dX8_tries_59 : decode cX8_tries 59 = .ok (.iinc 4 1, 3) := by decide +kernel
theorem dX8_tries_62 : decode cX8_tries 62 = .ok (.goto (-42), 3) := by decide +kernel
theorem dX8_tries_65 : decode cX8_tries 65 = .ok (.iconst 1, 1) := by decide +kernel
theorem dX8_tries_66 : decode cX8_tries 66 = .ok (.ireturn, 1) := by decide +kernel
theorem dX8_countSteps_0 : decode cX8_countSteps 0 = .ok (.iconst 0, 1) := by decide +kernel
theorem dX8_countSteps_1 : decode cX8_countSteps 1 = .ok (.istore_n 2, 1) := by decide +kernel
theorem dX8_countSteps_2 : decode cX8_countSteps 2 = .ok (.iconst 0, 1) := by decide +kernel
theorem dX8_countSteps_3 : decode cX8_countSteps 3 = .ok (.istore_n 3, 1) := by decide +kernel
theorem dX8_countSteps_4 : decode cX8_countSteps 4 = .ok (.iload_n 3, 1) := by decide +kernel
theorem dX8_countSteps_5 : decode cX8_countSteps 5 = .ok (.aload_n 0, 1) := by decide +kernel
theorem dX8_countSteps_6 : decode cX8_countSteps 6 = .ok (.invokevirtual 76, 3) := by decide +kernel
theorem dX8_countSteps_9 : decode cX8_countSteps 9 = .ok (.if_icmp .ge 25, 3) := by decide +kernel
theorem dX8_countSteps_12 : decode cX8_countSteps 12 = .ok (.aload_n 0, 1) := by decide +kernel
theorem dX8_countSteps_13 : decode cX8_countSteps 13 = .ok (.aload_n 0, 1) := by decide +kernel
theorem dX8_countSteps_14 : decode cX8_countSteps 14 = .ok (.iload_n 3, 1) := by decide +kernel
theorem dX8_countSteps_15 : decode cX8_countSteps 15 = .ok (.invokevirtual 80, 3) := by decide +kernel
theorem dX8_countSteps_18 : decode cX8_countSteps 18 = .ok (.aload_n 1, 1) := by decide +kernel
theorem dX8_countSteps_19 : decode cX8_countSteps 19 = .ok (.invokevirtual 83, 3) := by decide +kernel
theorem dX8_countSteps_22 : decode cX8_countSteps 22 = .ok (.ifCond .eq 6, 3) := by decide +kernel
theorem dX8_countSteps_25 : decode cX8_countSteps 25 = .ok (.iinc 2 1, 3) := by decide +kernel
theorem dX8_countSteps_28 : decode cX8_countSteps 28 = .ok (.iinc 3 1, 3) := by decide +kernel
theorem dX8_countSteps_31 : decode cX8_countSteps 31 = .ok (.goto (-27), 3) := by decide +kernel
theorem dX8_countSteps_34 : decode cX8_countSteps 34 = .ok (.iload_n 2, 1) := by decide +kernel
theorem dX8_countSteps_35 : decode cX8_countSteps 35 = .ok (.ireturn, 1) := by decide +kernel
theorem dX8_isGoal_0 : decode cX8_isGoal 0 = .ok (.aload_n 0, 1) := by decide +kernel
theorem dX8_isGoal_1 : decode cX8_isGoal 1 = .ok (.getfield 35, 3) := by decide +kernel
theorem dX8_isGoal_4 : decode cX8_isGoal 4 = .ok (.aload_n 1, 1) := by decide +kernel
theorem dX8_isGoal_5 : decode cX8_isGoal 5 = .ok (.aload_n 0, 1) := by decide +kernel
theorem dX8_isGoal_6 : decode cX8_isGoal 6 = .ok (.getfield 12, 3) := by decide +kernel
theorem dX8_isGoal_9 : decode cX8_isGoal 9 = .ok (.aload_n 1, 1) := by decide +kernel
theorem dX8_isGoal_10 : decode cX8_isGoal 10 = .ok (.getfield 87, 3) := by decide +kernel
theorem dX8_isGoal_13 : decode cX8_isGoal 13 = .ok (.invokevirtual 91, 3) := by decide +kernel
theorem dX8_isGoal_16 : decode cX8_isGoal 16 = .ok (.iload_n 2, 1) := by decide +kernel
theorem dX8_isGoal_17 : decode cX8_isGoal 17 = .ok (.invokevirtual 95, 3) := by decide +kernel
theorem dX8_isGoal_20 : decode cX8_isGoal 20 = .ok (.ireturn, 1) := by decide +kernel
