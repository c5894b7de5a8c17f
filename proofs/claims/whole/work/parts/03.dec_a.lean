theorem dX0_init_0 : decode cX0_init 0 = .ok (.aload_n 0, 1) := by decide +kernel
theorem dX0_init_1 : decode cX0_init 1 = .ok (.invokespecial 3, 3) := by decide +kernel
theorem dX0_init_4 : decode cX0_init 4 = .ok (.aload_n 0, 1) := by decide +kernel
theorem dX0_init_5 : decode cX0_init 5 = .ok (.bipush 10, 2) := by decide +kernel
theorem dX0_init_7 : decode cX0_init 7 = .ok (.newarray .int, 2) := by decide +kernel
theorem dX0_init_9 : decode cX0_init 9 = .ok (.putfield 9, 3) := by decide +kernel
theorem dX0_init_12 : decode cX0_init 12 = .ok (.return_, 1) := by decide +kernel
theorem dX0_has_0 : decode cX0_has 0 = .ok (.iload_n 1, 1) := by decide +kernel
theorem dX0_has_1 : decode cX0_has 1 = .ok (.iconst 0, 1) := by decide +kernel
theorem dX0_has_2 : decode cX0_has 2 = .ok (.aload_n 0, 1) := by decide +kernel
theorem dX0_has_3 : decode cX0_has 3 = .ok (.getfield 15, 3) := by decide +kernel
theorem dX0_has_6 : decode cX0_has 6 = .ok (.iconst 1, 1) := by decide +kernel
theorem dX0_has_7 : decode cX0_has 7 = .ok (.isub, 1) := by decide +kernel
theorem dX0_has_8 : decode cX0_has 8 = .ok (.invokestatic 19, 3) := by decide +kernel
theorem dX0_has_11 : decode cX0_has 11 = .ok (.ireturn, 1) := by decide +kernel
theorem dX0_add_0 : decode cX0_add 0 = .ok (.aload_n 0, 1) := by decide +kernel
theorem dX0_add_1 : decode cX0_add 1 = .ok (.aload_n 0, 1) := by decide +kernel
theorem dX0_add_2 : decode cX0_add 2 = .ok (.getfield 23, 3) := by decide +kernel
theorem dX0_add_5 : decode cX0_add 5 = .ok (.aload_n 0, 1) := by decide +kernel
theorem dX0_add_6 : decode cX0_add 6 = .ok (.getfield 15, 3) := by decide +kernel
theorem dX0_add_9 : decode cX0_add 9 = .ok (.iload_n 1, 1) := by decide +kernel
theorem dX0_add_10 : decode cX0_add 10 = .ok (.invokestatic 27, 3) := by decide +kernel
theorem dX0_add_13 : decode cX0_add 13 = .ok (.putfield 23, 3) := by decide +kernel
theorem dX0_add_16 : decode cX0_add 16 = .ok (.iload_n 2, 1) := by decide +kernel
theorem dX0_add_17 : decode cX0_add 17 = .ok (.ifCond .eq 11, 3) := by decide +kernel
theorem dX0_add_20 : decode cX0_add 20 = .ok (.aload_n 0, 1) := by decide +kernel
theorem dX0_add_21 : decode cX0_add 21 = .ok (.iconst 1, 1) := by decide +kernel
theorem dX0_add_22 : decode cX0_add 22 = .ok (.putfield 31, 3) := by decide +kernel
theorem dX0_add_25 : decode cX0_add 25 = .ok (.goto 22, 3) := by decide +kernel
theorem dX0_add_28 : decode cX0_add 28 = .ok (.aload_n 0, 1) := by decide +kernel
theorem dX0_add_29 : decode cX0_add 29 = .ok (.dup, 1) := by decide +kernel
theorem dX0_add_30 : decode cX0_add 30 = .ok (.getfield 35, 3) := by decide +kernel
theorem dX0_add_33 : decode cX0_add 33 = .ok (.ldc2_w 38, 3) := by decide +kernel
theorem dX0_add_36 : decode cX0_add 36 = .ok (.iconst 4, 1) := by decide +kernel
theorem dX0_add_37 : decode cX0_add 37 = .ok (.aload_n 0, 1) := by decide +kernel
theorem dX0_add_38 : decode cX0_add 38 = .ok (.getfield 15, 3) := by decide +kernel
theorem dX0_add_41 : decode cX0_add 41 = .ok (.imul, 1) := by decide +kernel
theorem dX0_add_42 : decode cX0_add 42 = .ok (.lshl, 1) := by decide +kernel
theorem dX0_add_43 : decode cX0_add 43 = .ok (.lor, 1) := by decide +kernel
theorem dX0_add_44 : decode cX0_add 44 = .ok (.putfield 35, 3) := by decide +kernel
theorem dX0_add_47 : decode cX0_add 47 = .ok (.aload_n 0, 1) := by decide +kernel
theorem dX0_add_48 : decode cX0_add 48 = .ok (.dup, 1) := by decide +kernel
theorem dX0_add_49 : decode cX0_add 49 = .ok (.getfield 15, 3) := by decide +kernel
theorem dX0_add_52 : decode cX0_add 52 = .ok (.dup_x1, 1) := by decide +kernel
theorem dX0_add_53 : decode cX0_add 53 = .ok (.iconst 1, 1) := by decide +kernel
theorem dX0_add_54 : decode cX0_add 54 = .ok (.iadd, 1) := by decide +kernel
theorem dX0_add_55 : decode cX0_add 55 = .ok (.putfield 15, 3) := by decide +kernel
theorem dX0_add_58 : decode cX0_add 58 = .ok (.ireturn, 1) := by decide +kernel
theorem dX0_score_0 : decode cX0_score 0 = .ok (.iconst 0, 1) := by decide +kernel
theorem dX0_score_1 : decode cX0_score 1 = .ok (.istore_n 3, 1) := by decide +kernel
theorem dX0_score_2 : decode cX0_score 2 = .ok (.iconst 0, 1) := by decide +kernel
theorem dX0_score_3 : decode cX0_score 3 = .ok (.istore 4, 2) := by decide +kernel
theorem dX0_score_5 : decode cX0_score 5 = .ok (.iload 4, 2) := by decide +kernel
theorem dX0_score_7 : decode cX0_score 7 = .ok (.aload_n 0, 1) := by decide +kernel
theorem dX0_score_8 : decode cX0_score 8 = .ok (.getfield 15, 3) := by decide +kernel
theorem dX0_score_11 : decode cX0_score 11 = .ok (.if_icmp .ge 26, 3) := by decide +kernel
theorem dX0_score_14 : decode cX0_score 14 = .ok (.iload_n 3, 1) := by decide +kernel
theorem dX0_score_15 : decode cX0_score 15 = .ok (.lload_n 1, 1) := by decide +kernel
theorem dX0_score_16 : decode cX0_score 16 = .ok (.iload 4, 2) := by decide +kernel
theorem dX0_score_18 : decode cX0_score 18 = .ok (.invokestatic 40, 3) := by decide +kernel
theorem dX0_score_21 : decode cX0_score 21 = .ok (.aload_n 0, 1) := by decide +kernel
theorem dX0_score_22 : decode cX0_score 22 = .ok (.getfield 9, 3) := by decide +kernel
theorem dX0_score_25 : decode cX0_score 25 = .ok (.iload 4, 2) := by decide +kernel
theorem dX0_score_27 : decode cX0_score 27 = .ok (.iaload, 1) := by decide +kernel
theorem dX0_score_28 : decode cX0_score 28 = .ok (.imul, 1) := by decide +kernel
theorem dX0_score_29 : decode cX0_score 29 = .ok (.iadd, 1) := by decide +kernel
theorem dX0_score_30 : decode cX0_score 30 = .ok (.istore_n 3, 1) := by decide +kernel
theorem dX0_score_31 : decode cX0_score 31 = .ok (.iinc 4 1, 3) := by decide +kernel
theorem dX0_score_34 : decode cX0_score 34 = .ok (.goto (-29), 3) := by decide +kernel
theorem dX0_score_37 : decode cX0_score 37 = .ok (.iload_n 3, 1) := by decide +kernel
theorem dX0_score_38 : decode cX0_score 38 = .ok (.ireturn, 1) := by decide +kernel
theorem dX1_init_0 : decode cX1_init 0 = .ok (.aload_n 0, 1) := by decide +kernel
theorem dX1_init_1 : decode cX1_init 1 = .ok (.invokespecial 3, 3) := by decide +kernel
theorem dX1_init_4 : decode cX1_init 4 = .ok (.aload_n 0, 1) := by decide +kernel
theorem dX1_init_5 : decode cX1_init 5 = .ok (.iconst 4, 1) := by decide +kernel
theorem dX1_init_6 : decode cX1_init 6 = .ok (.newarray .int, 2) := by decide +kernel
theorem dX1_init_8 : decode cX1_init 8 = .ok (.putfield 9, 3) := by decide +kernel
theorem dX1_init_11 : decode cX1_init 11 = .ok (.aload_n 0, 1) := by decide +kernel
theorem dX1_init_12 : decode cX1_init 12 = .ok (.iconst 4, 1) := by decide +kernel
theorem dX1_init_13 : decode cX1_init 13 = .ok (.newarray .int, 2) := by decide +kernel
theorem dX1_init_15 : decode cX1_init 15 = .ok (.putfield 15, 3) := by decide +kernel
theorem dX1_init_18 : decode cX1_init 18 = .ok (.aload_n 0, 1) := by decide +kernel
theorem dX1_init_19 : decode cX1_init 19 = .ok (.iconst 4, 1) := by decide +kernel
theorem dX1_init_20 : decode cX1_init 20 = .ok (.newarray .int, 2) := by decide +kernel
theorem dX1_init_22 : decode cX1_init 22 = .ok (.putfield 18, 3) := by decide +kernel
theorem dX1_init_25 : decode cX1_init 25 = .ok (.return_, 1) := by decide +kernel
theorem dX1_isPart_0 : decode cX1_isPart 0 = .ok (.iload_n 0, 1) := by decide +kernel
theorem dX1_isPart_1 : decode cX1_isPart 1 = .ok (.tableswitch 70 0 3 #[31, 55, 57, 62], 31) := by decide +kernel
theorem dX1_isPart_32 : decode cX1_isPart 32 = .ok (.iload_n 1, 1) := by decide +kernel
theorem dX1_isPart_33 : decode cX1_isPart 33 = .ok (.iconst 0, 1) := by decide +kernel
theorem dX1_isPart_34 : decode cX1_isPart 34 = .ok (.iload_n 3, 1) := by decide +kernel
theorem dX1_isPart_35 : decode cX1_isPart 35 = .ok (.iconst 1, 1) := by decide +kernel
theorem dX1_isPart_36 : decode cX1_isPart 36 = .ok (.isub, 1) := by decide +kernel
theorem dX1_isPart_37 : decode cX1_isPart 37 = .ok (.invokestatic 21, 3) := by decide +kernel
theorem dX1_isPart_40 : decode cX1_isPart 40 = .ok (.ifCond .eq 14, 3) := by decide +kernel
theorem dX1_isPart_43 : decode cX1_isPart 43 = .ok (.iload_n 2, 1) := by decide +kernel
theorem dX1_isPart_44 : decode cX1_isPart 44 = .ok (.invokestatic 25, 3) := by decide +kernel
theorem dX1_isPart_47 : decode cX1_isPart 47 = .ok (.ifCond .eq 7, 3) := by decide +kernel
theorem dX1_isPart_50 : decode cX1_isPart 50 = .ok (.iconst 1, 1) := by decide +kernel
theorem dX1_isPart_51 : decode cX1_isPart 51 = .ok (.goto 4, 3) := by decide +kernel
theorem dX1_isPart_54 : decode cX1_isPart 54 = .ok (.iconst 0, 1) := by decide +kernel
theorem dX1_isPart_55 : decode cX1_isPart 55 = .ok (.ireturn, 1) := by decide +kernel
theorem dX1_isPart_56 : decode cX1_isPart 56 = .ok (.iconst 1, 1) := by decide +kernel
theorem dX1_isPart_57 : decode cX1_isPart 57 = .ok (.ireturn, 1) := by decide +kernel
theorem dX1_isPart_58 : decode cX1_isPart 58 = .ok (.iload_n 1, 1) := by decide +kernel
theorem dX1_isPart_59 : decode cX1_isPart 59 = .ok (.invokestatic 29, 3) := by decide +kernel
theorem dX1_isPart_62 : decode cX1_isPart 62 = .ok (.ireturn, 1) := by decide +kernel
theorem dX1_isPart_63 : decode cX1_isPart 63 = .ok (.iload_n 1, 1) := by decide +kernel
theorem dX1_isPart_64 : decode cX1_isPart 64 = .ok (.iconst 1, 1) := by decide +kernel
theorem dX1_isPart_65 : decode cX1_isPart 65 = .ok (.bipush 9, 2) := by decide +kernel
theorem dX1_isPart_67 : decode cX1_isPart 67 = .ok (.invokestatic 21, 3) := by decide +kernel
theorem dX1_isPart_70 : decode cX1_isPart 70 = .ok (.ireturn, 1) := by decide +kernel
theorem dX1_isPart_71 : decode cX1_isPart 71 = .ok (.iconst 0, 1) := by decide +kernel
theorem dX1_isPart_72 : decode cX1_isPart 72 = .ok (.ireturn, 1) := by decide +kernel
theorem dX1_add_0 : decode cX1_add 0 = .ok (.aload_n 0, 1) := by decide +kernel
theorem dX1_add_1 : decode cX1_add 1 = .ok (.getfield 32, 3) := by decide +kernel
theorem dX1_add_4 : decode cX1_add 4 = .ok (.iconst 4, 1) := by decide +kernel
theorem dX1_add_5 : decode cX1_add 5 = .ok (.if_icmp .lt 5, 3) := by decide +kernel
theorem dX1_add_8 : decode cX1_add 8 = .ok (.iconst (-1), 1) := by decide +kernel
theorem dX1_add_9 : decode cX1_add 9 = .ok (.ireturn, 1) := by decide +kernel
theorem dX1_add_10 : decode cX1_add 10 = .ok (.aload_n 0, 1) := by decide +kernel
theorem dX1_add_11 : decode cX1_add 11 = .ok (.getfield 9, 3) := by decide +kernel
theorem dX1_add_14 : decode cX1_add 14 = .ok (.aload_n 0, 1) := by decide +kernel
theorem dX1_add_15 : decode cX1_add 15 = .ok (.getfield 32, 3) := by decide +kernel
theorem dX1_add_18 : decode cX1_add 18 = .ok (.iload_n 1, 1) := by decide +kernel
theorem dX1_add_19 : decode cX1_add 19 = .ok (.iastore, 1) := by decide +kernel
theorem dX1_add_20 : decode cX1_add 20 = .ok (.aload_n 0, 1) := by decide +kernel
theorem dX1_add_21 : decode cX1_add 21 = .ok (.getfield 15, 3) := by decide +kernel
theorem dX1_add_24 : decode cX1_add 24 = .ok (.aload_n 0, 1) := by decide +kernel
theorem dX1_add_25 : decode cX1_add 25 = .ok (.getfield 32, 3) := by decide +kernel
theorem dX1_add_28 : decode cX1_add 28 = .ok (.iload_n 2, 1) := by decide +kernel
theorem dX1_add_29 : decode cX1_add 29 = .ok (.iastore, 1) := by decide +kernel
theorem dX1_add_30 : decode cX1_add 30 = .ok (.aload_n 0, 1) := by decide +kernel
theorem dX1_add_31 : decode cX1_add 31 = .ok (.getfield 18, 3) := by decide +kernel
theorem dX1_add_34 : decode cX1_add 34 = .ok (.aload_n 0, 1) := by decide +kernel
theorem dX1_add_35 : decode cX1_add 35 = .ok (.getfield 32, 3) := by decide +kernel
theorem dX1_add_38 : decode cX1_add 38 = .ok (.iload_n 3, 1) := by decide +kernel
theorem dX1_add_39 : decode cX1_add 39 = .ok (.iastore, 1) := by decide +kernel
theorem dX1_add_40 : decode cX1_add 40 = .ok (.aload_n 0, 1) := by decide +kernel
theorem dX1_add_41 : decode cX1_add 41 = .ok (.dup, 1) := by decide +kernel
theorem dX1_add_42 : decode cX1_add 42 = .ok (.getfield 32, 3) := by decide +kernel
theorem dX1_add_45 : decode cX1_add 45 = .ok (.iconst 1, 1) := by decide +kernel
theorem dX1_add_46 : decode cX1_add 46 = .ok (.iadd, 1) := by decide +kernel
theorem dX1_add_47 : decode cX1_add 47 = .ok (.dup_x1, 1) := by decide +kernel
theorem dX1_add_48 : decode cX1_add 48 = .ok (.putfield 32, 3) := by decide +kernel
theorem dX1_add_51 : decode cX1_add 51 = .ok (.ireturn, 1) := by decide +kernel
theorem dX1_isMet_0 : decode cX1_isMet 0 = .ok (.iconst 0, 1) := by decide +kernel
theorem dX1_isMet_1 : decode cX1_isMet 1 = .ok (.istore 4, 2) := by decide +kernel
theorem dX1_isMet_3 : decode cX1_isMet 3 = .ok (.iload 4, 2) := by decide +kernel
theorem dX1_isMet_5 : decode cX1_isMet 5 = .ok (.aload_n 0, 1) := by decide +kernel
theorem dX1_isMet_6 : decode cX1_isMet 6 = .ok (.getfield 32, 3) := by decide +kernel
theorem dX1_isMet_9 : decode cX1_isMet 9 = .ok (.if_icmp .ge 23, 3) := by decide +kernel
theorem dX1_isMet_12 : decode cX1_isMet 12 = .ok (.aload_n 0, 1) := by decide +kernel
theorem dX1_isMet_13 : decode cX1_isMet 13 = .ok (.iload 4, 2) := by decide +kernel
theorem dX1_isMet_15 : decode cX1_isMet 15 = .ok (.aload_n 1, 1) := by decide +kernel
theorem dX1_isMet_16 : decode cX1_isMet 16 = .ok (.iload_n 2, 1) := by decide +kernel
theorem dX1_isMet_17 : decode cX1_isMet 17 = .ok (.iload_n 3, 1) := by decide +kernel
theorem dX1_isMet_18 : decode cX1_isMet 18 = .ok (.invokevirtual 36, 3) := by decide +kernel
theorem dX1_isMet_21 : decode cX1_isMet 21 = .ok (.ifCond .ne 5, 3) := by decide +kernel
theorem dX1_isMet_24 : decode cX1_isMet 24 = .ok (.iconst 0, 1) := by decide +kernel
theorem dX1_isMet_25 : decode cX1_isMet 25 = .ok (.ireturn, 1) := by decide +kernel
theorem dX1_isMet_26 : decode cX1_isMet 26 = .ok (.iinc 4 1, 3) := by decide +kernel
theorem dX1_isMet_29 : decode cX1_isMet 29 = .ok (.goto (-26), 3) := by decide +kernel
theorem dX1_isMet_32 : decode cX1_isMet 32 = .ok (.iconst 1, 1) := by decide +kernel
theorem dX1_isMet_33 : decode cX1_isMet 33 = .ok (.ireturn, 1) := by decide +kernel
theorem dX1_isPartMet_0 : decode cX1_isPartMet 0 = .ok (.aload_n 0, 1) := by decide +kernel
theorem dX1_isPartMet_1 : decode cX1_isPartMet 1 = .ok (.getfield 15, 3) := by decide +kernel
theorem dX1_isPartMet_4 : decode cX1_isPartMet 4 = .ok (.iload_n 1, 1) := by decide +kernel
theorem dX1_isPartMet_5 : decode cX1_isPartMet 5 = .ok (.iaload, 1) := by decide +kernel
theorem dX1_isPartMet_6 : decode cX1_isPartMet 6 = .ok (.istore 5, 2) := by decide +kernel
theorem dX1_isPartMet_8 : decode cX1_isPartMet 8 = .ok (.aload_n 0, 1) := by decide +kernel
theorem dX1_isPartMet_9 : decode cX1_isPartMet 9 = .ok (.getfield 9, 3) := by decide +kernel
theorem dX1_isPartMet_12 : decode cX1_isPartMet 12 = .ok (.iload_n 1, 1) := by decide +kernel
theorem dX1_isPartMet_13 : decode cX1_isPartMet 13 = .ok (.iaload, 1) := by decide +kernel
theorem dX1_isPartMet_14 : decode cX1_isPartMet 14 = .ok (.tableswitch 82 0 2 #[26, 50, 62], 26) := by decide +kernel
theorem dX1_isPartMet_40 : decode cX1_isPartMet 40 = .ok (.aload_n 2, 1) := by decide +kernel
theorem dX1_isPartMet_41 : decode cX1_isPartMet 41 = .ok (.getfield 40, 3) := by decide +kernel
theorem dX1_isPartMet_44 : decode cX1_isPartMet 44 = .ok (.iload 5, 2) := by decide +kernel
theorem dX1_isPartMet_46 : decode cX1_isPartMet 46 = .ok (.invokestatic 46, 3) := by decide +kernel
theorem dX1_isPartMet_49 : decode cX1_isPartMet 49 = .ok (.aload_n 0, 1) := by decide +kernel
theorem dX1_isPartMet_50 : decode cX1_isPartMet 50 = .ok (.getfield 18, 3) := by decide +kernel
theorem dX1_isPartMet_53 : decode cX1_isPartMet 53 = .ok (.iload_n 1, 1) := by decide +kernel
theorem dX1_isPartMet_54 : decode cX1_isPartMet 54 = .ok (.iaload, 1) := by decide +kernel
theorem dX1_isPartMet_55 : decode cX1_isPartMet 55 = .ok (.if_icmp .ne 7, 3) := by decide +kernel
theorem dX1_isPartMet_58 : decode cX1_isPartMet 58 = .ok (.iconst 1, 1) := by decide +kernel
theorem dX1_isPartMet_59 : decode cX1_isPartMet 59 = .ok (.goto 4, 3) := by decide +kernel
theorem dX1_isPartMet_62 : decode cX1_isPartMet 62 = .ok (.iconst 0, 1) := by decide +kernel
theorem dX1_isPartMet_63 : decode cX1_isPartMet 63 = .ok (.ireturn, 1) := by decide +kernel
theorem dX1_isPartMet_64 : decode cX1_isPartMet 64 = .ok (.iload_n 3, 1) := by decide +kernel
theorem dX1_isPartMet_65 : decode cX1_isPartMet 65 = .ok (.iload 5, 2) := by decide +kernel
theorem dX1_isPartMet_67 : decode cX1_isPartMet 67 = .ok (.if_icmp .lt 7, 3) := by decide +kernel
theorem dX1_isPartMet_70 : decode cX1_isPartMet 70 = .ok (.iconst 1, 1) := by decide +kernel
theorem dX1_isPartMet_71 : decode cX1_isPartMet 71 = .ok (.goto 4, 3) := by decide +kernel
theorem dX1_isPartMet_74 : decode cX1_isPartMet 74 = .ok (.iconst 0, 1) := by decide +kernel
theorem dX1_isPartMet_75 : decode cX1_isPartMet 75 = .ok (.ireturn, 1) := by decide +kernel
theorem dX1_isPartMet_76 : decode cX1_isPartMet 76 = .ok (.iload 4, 2) := by decide +kernel
theorem dX1_isPartMet_78 : decode cX1_isPartMet 78 = .ok (.ifCond .eq 12, 3) := by decide +kernel
theorem dX1_isPartMet_81 : decode cX1_isPartMet 81 = .ok (.aload_n 2, 1) := by decide +kernel
theorem dX1_isPartMet_82 : decode cX1_isPartMet 82 = .ok (.getfield 50, 3) := by decide +kernel
theorem dX1_isPartMet_85 : decode cX1_isPartMet 85 = .ok (.iload 5, 2) := by decide +kernel
theorem dX1_isPartMet_87 : decode cX1_isPartMet 87 = .ok (.if_icmp .ne 7, 3) := by decide +kernel
theorem dX1_isPartMet_90 : decode cX1_isPartMet 90 = .ok (.iconst 1, 1) := by decide +kernel
theorem dX1_isPartMet_91 : decode cX1_isPartMet 91 = .ok (.goto 4, 3) := by decide +kernel
theorem dX1_isPartMet_94 : decode cX1_isPartMet 94 = .ok (.iconst 0, 1) := by decide +kernel
theorem dX1_isPartMet_95 : decode cX1_isPartMet 95 = .ok (.ireturn, 1) := by decide +kernel
theorem dX1_isPartMet_96 : decode cX1_isPartMet 96 = .ok (.aload_n 2, 1) := by decide +kernel
theorem dX1_isPartMet_97 : decode cX1_isPartMet 97 = .ok (.getfield 53, 3) := by decide +kernel
theorem dX1_isPartMet_100 : decode cX1_isPartMet 100 = .ok (.iload 5, 2) := by decide +kernel
theorem dX1_isPartMet_102 : decode cX1_isPartMet 102 = .ok (.if_icmp .ne 7, 3) := by decide +kernel
theorem dX1_isPartMet_105 : decode cX1_isPartMet 105 = .ok (.iconst 1, 1) := by decide +kernel
theorem dX1_isPartMet_106 : decode cX1_isPartMet 106 = .ok (.goto 4, 3) := by decide +kernel
theorem dX1_isPartMet_109 : decode cX1_isPartMet 109 = .ok (.iconst 0, 1) := by decide +kernel
theorem dX1_isPartMet_110 : decode cX1_isPartMet 110 = .ok (.ireturn, 1) := by decide +kernel
theorem dX2_init_0 : decode cX2_init 0 = .ok (.aload_n 0, 1) := by decide +kernel
theorem dX2_init_1 : decode cX2_init 1 = .ok (.invokespecial 3, 3) := by decide +kernel
theorem dX2_init_4 : decode cX2_init 4 = .ok (.aload_n 0, 1) := by decide +kernel
theorem dX2_init_5 : decode cX2_init 5 = .ok (.bipush 6, 2) := by decide +kernel
theorem dX2_init_7 : decode cX2_init 7 = .ok (.newarray .int, 2) := by decide +kernel
theorem dX2_init_9 : decode cX2_init 9 = .ok (.putfield 9, 3) := by decide +kernel
theorem dX2_init_12 : decode cX2_init 12 = .ok (.aload_n 0, 1) := by decide +kernel
theorem dX2_init_13 : decode cX2_init 13 = .ok (.bipush 8, 2) := by decide +kernel
theorem dX2_init_15 : decode cX2_init 15 = .ok (.newarray .int, 2) := by decide +kernel
theorem dX2_init_17 : decode cX2_init 17 = .ok (.putfield 15, 3) := by decide +kernel
theorem dX2_init_20 : decode cX2_init 20 = .ok (.aload_n 0, 1) := by decide +kernel
theorem dX2_init_21 : decode cX2_init 21 = .ok (.bipush 48, 2) := by decide +kernel
theorem dX2_init_23 : decode cX2_init 23 = .ok (.newarray .int, 2) := by decide +kernel
theorem dX2_init_25 : decode cX2_init 25 = .ok (.putfield 18, 3) := by decide +kernel
theorem dX2_init_28 : decode cX2_init 28 = .ok (.return_, 1) := by decide +kernel
theorem dX2_addToDraft_0 : decode cX2_addToDraft 0 = .ok (.aload_n 0, 1) := by decide +kernel
theorem dX2_addToDraft_1 : decode cX2_addToDraft 1 = .ok (.getfield 21, 3) := by decide +kernel
theorem dX2_addToDraft_4 : decode cX2_addToDraft 4 = .ok (.bipush 6, 2) := by decide +kernel
theorem dX2_addToDraft_6 : decode cX2_addToDraft 6 = .ok (.if_icmp .lt 5, 3) := by decide +kernel
theorem dX2_addToDraft_9 : decode cX2_addToDraft 9 = .ok (.iconst (-1), 1) := by decide +kernel
theorem dX2_addToDraft_10 : decode cX2_addToDraft 10 = .ok (.ireturn, 1) := by decide +kernel
theorem dX2_addToDraft_11 : decode cX2_addToDraft 11 = .ok (.aload_n 0, 1) := by decide +kernel
theorem dX2_addToDraft_12 : decode cX2_addToDraft 12 = .ok (.getfield 9, 3) := by decide +kernel
theorem dX2_addToDraft_15 : decode cX2_addToDraft 15 = .ok (.aload_n 0, 1) := by decide +kernel
theorem dX2_addToDraft_16 : decode cX2_addToDraft 16 = .ok (.dup, 1) := by decide +kernel
theorem dX2_addToDraft_17 : decode cX2_addToDraft 17 = .ok (.getfield 21, 3) := by decide +kernel
theorem dX2_addToDraft_20 : decode cX2_addToDraft 20 = .ok (.dup_x1, 1) := by decide +kernel
theorem dX2_addToDraft_21 : decode cX2_addToDraft 21 = .ok (.iconst 1, 1) := by decide +kernel
theorem dX2_addToDraft_22 : decode cX2_addToDraft 22 = .ok (.iadd, 1) := by decide +kernel
theorem dX2_addToDraft_23 : decode cX2_addToDraft 23 = .ok (.putfield 21, 3) := by decide +kernel
theorem dX2_addToDraft_26 : decode cX2_addToDraft 26 = .ok (.iload_n 1, 1) := by decide +kernel
theorem dX2_addToDraft_27 : decode cX2_addToDraft 27 = .ok (.iastore, 1) := by decide +kernel
theorem dX2_addToDraft_28 : decode cX2_addToDraft 28 = .ok (.aload_n 0, 1) := by decide +kernel
theorem dX2_addToDraft_29 : decode cX2_addToDraft 29 = .ok (.getfield 21, 3) := by decide +kernel
theorem dX2_addToDraft_32 : decode cX2_addToDraft 32 = .ok (.ireturn, 1) := by decide +kernel
theorem dX2_addDraft_0 : decode cX2_addDraft 0 = .ok (.aload_n 0, 1) := by decide +kernel
theorem dX2_addDraft_1 : decode cX2_addDraft 1 = .ok (.getfield 21, 3) := by decide +kernel
theorem dX2_addDraft_4 : decode cX2_addDraft 4 = .ok (.iconst 2, 1) := by decide +kernel
theorem dX2_addDraft_5 : decode cX2_addDraft 5 = .ok (.if_icmp .lt 12, 3) := by decide +kernel
theorem dX2_addDraft_8 : decode cX2_addDraft 8 = .ok (.aload_n 0, 1) := by decide +kernel
theorem dX2_addDraft_9 : decode cX2_addDraft 9 = .ok (.getfield 25, 3) := by decide +kernel
theorem dX2_addDraft_12 : decode cX2_addDraft 12 = .ok (.bipush 8, 2) := by decide +kernel
theorem dX2_addDraft_14 : decode cX2_addDraft 14 = .ok (.if_icmp .lt 5, 3) := by decide +kernel
theorem dX2_addDraft_17 : decode cX2_addDraft 17 = .ok (.iconst (-1), 1) := by decide +kernel
theorem dX2_addDraft_18 : decode cX2_addDraft 18 = .ok (.ireturn, 1) := by decide +kernel
theorem dX2_addDraft_19 : decode cX2_addDraft 19 = .ok (.aload_n 0, 1) := by decide +kernel
theorem dX2_addDraft_20 : decode cX2_addDraft 20 = .ok (.getfield 9, 3) := by decide +kernel
theorem dX2_addDraft_23 : decode cX2_addDraft 23 = .ok (.iconst 0, 1) := by decide +kernel
theorem dX2_addDraft_24 : decode cX2_addDraft 24 = .ok (.aload_n 0, 1) := by decide +kernel
theorem dX2_addDraft_25 : decode cX2_addDraft 25 = .ok (.getfield 18, 3) := by decide +kernel
theorem dX2_addDraft_28 : decode cX2_addDraft 28 = .ok (.aload_n 0, 1) := by decide +kernel
theorem dX2_addDraft_29 : decode cX2_addDraft 29 = .ok (.getfield 25, 3) := by decide +kernel
theorem dX2_addDraft_32 : decode cX2_addDraft 32 = .ok (.bipush 6, 2) := by decide +kernel
theorem dX2_addDraft_34 : decode cX2_addDraft 34 = .ok (.imul, 1) := by decide +kernel
theorem dX2_addDraft_35 : decode cX2_addDraft 35 = .ok (.aload_n 0, 1) := by decide +kernel
theorem dX2_addDraft_36 : decode cX2_addDraft 36 = .ok (.getfield 21, 3) := by decide +kernel
theorem dX2_addDraft_39 : decode cX2_addDraft 39 = .ok (.invokestatic 28, 3) := by decide +kernel
theorem dX2_addDraft_42 : decode cX2_addDraft 42 = .ok (.aload_n 0, 1) := by decide +kernel
theorem dX2_addDraft_43 : decode cX2_addDraft 43 = .ok (.getfield 15, 3) := by decide +kernel
theorem dX2_addDraft_46 : decode cX2_addDraft 46 = .ok (.aload_n 0, 1) := by decide +kernel
theorem dX2_addDraft_47 : decode cX2_addDraft 47 = .ok (.getfield 25, 3) := by decide +kernel
theorem dX2_addDraft_50 : decode cX2_addDraft 50 = .ok (.aload_n 0, 1) := by decide +kernel
theorem dX2_addDraft_51 : decode cX2_addDraft 51 = .ok (.getfield 21, 3) := by decide +kernel
theorem dX2_addDraft_54 : decode cX2_addDraft 54 = .ok (.iastore, 1) := by decide +kernel
theorem dX2_addDraft_55 : decode cX2_addDraft 55 = .ok (.aload_n 0, 1) := by decide +kernel
theorem dX2_addDraft_56 : decode cX2_addDraft 56 = .ok (.iconst 0, 1) := by decide +kernel
theorem dX2_addDraft_57 : decode cX2_addDraft 57 = .ok (.putfield 21, 3) := by decide +kernel
theorem dX2_addDraft_60 : decode cX2_addDraft 60 = .ok (.aload_n 0, 1) := by decide +kernel
theorem dX2_addDraft_61 : decode cX2_addDraft 61 = .ok (.dup, 1) := by decide +kernel
theorem dX2_addDraft_62 : decode cX2_addDraft 62 = .ok (.getfield 25, 3) := by decide +kernel
theorem dX2_addDraft_65 : decode cX2_addDraft 65 = .ok (.dup_x1, 1) := by decide +kernel
theorem dX2_addDraft_66 : decode cX2_addDraft 66 = .ok (.iconst 1, 1) := by decide +kernel
theorem dX2_addDraft_67 : decode cX2_addDraft 67 = .ok (.iadd, 1) := by decide +kernel
theorem dX2_addDraft_68 : decode cX2_addDraft 68 = .ok (.putfield 25, 3) := by decide +kernel
theorem dX2_addDraft_71 : decode cX2_addDraft 71 = .ok (.ireturn, 1) := by decide +kernel
theorem dX2_sizeOf_0 : decode cX2_sizeOf 0 = .ok (.iload_n 1, 1) := by decide +kernel
theorem dX2_sizeOf_1 : decode cX2_sizeOf 1 = .ok (.bipush 100, 2) := by decide +kernel
theorem dX2_sizeOf_3 : decode cX2_sizeOf 3 = .ok (.if_icmp .ge 7, 3) := by decide +kernel
theorem dX2_sizeOf_6 : decode cX2_sizeOf 6 = .ok (.iconst 1, 1) := by decide +kernel
theorem dX2_sizeOf_7 : decode cX2_sizeOf 7 = .ok (.goto 12, 3) := by decide +kernel
theorem dX2_sizeOf_10 : decode cX2_sizeOf 10 = .ok (.aload_n 0, 1) := by decide +kernel
theorem dX2_sizeOf_11 : decode cX2_sizeOf 11 = .ok (.getfield 15, 3) := by decide +kernel
theorem dX2_sizeOf_14 : decode cX2_sizeOf 14 = .ok (.iload_n 1, 1) := by decide +kernel
theorem dX2_sizeOf_15 : decode cX2_sizeOf 15 = .ok (.bipush 100, 2) := by decide +kernel
theorem dX2_sizeOf_17 : decode cX2_sizeOf 17 = .ok (.isub, 1) := by decide +kernel
theorem dX2_sizeOf_18 : decode cX2_sizeOf 18 = .ok (.iaload, 1) := by decide +kernel
theorem dX2_sizeOf_19 : decode cX2_sizeOf 19 = .ok (.ireturn, 1) := by decide +kernel
theorem dX2_moveOf_0 : decode cX2_moveOf 0 = .ok (.iload_n 1, 1) := by decide +kernel
theorem dX2_moveOf_1 : decode cX2_moveOf 1 = .ok (.bipush 100, 2) := by decide +kernel
theorem dX2_moveOf_3 : decode cX2_moveOf 3 = .ok (.if_icmp .ge 7, 3) := by decide +kernel
theorem dX2_moveOf_6 : decode cX2_moveOf 6 = .ok (.iload_n 1, 1) := by decide +kernel
theorem dX2_moveOf_7 : decode cX2_moveOf 7 = .ok (.goto 17, 3) := by decide +kernel
theorem dX2_moveOf_10 : decode cX2_moveOf 10 = .ok (.aload_n 0, 1) := by decide +kernel
theorem dX2_moveOf_11 : decode cX2_moveOf 11 = .ok (.getfield 18, 3) := by decide +kernel
theorem dX2_moveOf_14 : decode cX2_moveOf 14 = .ok (.iload_n 1, 1) := by decide +kernel
theorem dX2_moveOf_15 : decode cX2_moveOf 15 = .ok (.bipush 100, 2) := by decide +kernel
theorem dX2_moveOf_17 : decode cX2_moveOf 17 = .ok (.isub, 1) := by decide +kernel
theorem dX2_moveOf_18 : decode cX2_moveOf 18 = .ok (.bipush 6, 2) := by decide +kernel
theorem dX2_moveOf_20 : decode cX2_moveOf 20 = .ok (.imul, 1) := by decide +kernel
theorem dX2_moveOf_21 : decode cX2_moveOf 21 = .ok (.iload_n 2, 1) := by decide +kernel
theorem dX2_moveOf_22 : decode cX2_moveOf 22 = .ok (.iadd, 1) := by decide +kernel
theorem dX2_moveOf_23 : decode cX2_moveOf 23 = .ok (.iaload, 1) := by decide +kernel
theorem dX2_moveOf_24 : decode cX2_moveOf 24 = .ok (.ireturn, 1) := by decide +kernel
theorem dX3_init_0 : decode cX3_init 0 = .ok (.aload_n 0, 1) := by decide +kernel
theorem dX3_init_1 : decode cX3_init 1 = .ok (.invokespecial 3, 3) := by decide +kernel
theorem dX3_init_4 : decode cX3_init 4 = .ok (.aload_n 0, 1) := by decide +kernel
theorem dX3_init_5 : decode cX3_init 5 = .ok (.iconst (-1), 1) := by decide +kernel
theorem dX3_init_6 : decode cX3_init 6 = .ok (.putfield 9, 3) := by decide +kernel
theorem dX3_init_9 : decode cX3_init 9 = .ok (.return_, 1) := by decide +kernel
theorem dX3_start_0 : decode cX3_start 0 = .ok (.aload_n 0, 1) := by decide +kernel
theorem dX3_start_1 : decode cX3_start 1 = .ok (.lload_n 1, 1) := by decide +kernel
theorem dX3_start_2 : decode cX3_start 2 = .ok (.putfield 15, 3) := by decide +kernel
theorem dX3_start_5 : decode cX3_start 5 = .ok (.aload_n 0, 1) := by decide +kernel
theorem dX3_start_6 : decode cX3_start 6 = .ok (.iconst 0, 1) := by decide +kernel
theorem dX3_start_7 : decode cX3_start 7 = .ok (.putfield 19, 3) := by decide +kernel
theorem dX3_start_10 : decode cX3_start 10 = .ok (.aload_n 0, 1) := by decide +kernel
theorem dX3_start_11 : decode cX3_start 11 = .ok (.iconst (-1), 1) := by decide +kernel
theorem dX3_start_12 : decode cX3_start 12 = .ok (.putfield 9, 3) := by decide +kernel
theorem dX3_start_15 : decode cX3_start 15 = .ok (.aload_n 0, 1) := by decide +kernel
theorem dX3_start_16 : decode cX3_start 16 = .ok (.iconst 0, 1) := by decide +kernel
theorem dX3_start_17 : decode cX3_start 17 = .ok (.putfield 22, 3) := by decide +kernel
theorem dX3_start_20 : decode cX3_start 20 = .ok (.return_, 1) := by decide +kernel
theorem dX3_become_0 : decode cX3_become 0 = .ok (.aload_n 0, 1) := by decide +kernel
theorem dX3_become_1 : decode cX3_become 1 = .ok (.aload_n 1, 1) := by decide +kernel
theorem dX3_become_2 : decode cX3_become 2 = .ok (.getfield 15, 3) := by decide +kernel
theorem dX3_become_5 : decode cX3_become 5 = .ok (.putfield 15, 3) := by decide +kernel
theorem dX3_become_8 : decode cX3_become 8 = .ok (.aload_n 0, 1) := by decide +kernel
theorem dX3_become_9 : decode cX3_become 9 = .ok (.aload_n 1, 1) := by decide +kernel
theorem dX3_become_10 : decode cX3_become 10 = .ok (.getfield 19, 3) := by decide +kernel
theorem dX3_become_13 : decode cX3_become 13 = .ok (.putfield 19, 3) := by decide +kernel
theorem dX3_become_16 : decode cX3_become 16 = .ok (.aload_n 0, 1) := by decide +kernel
theorem dX3_become_17 : decode cX3_become 17 = .ok (.aload_n 1, 1) := by decide +kernel
theorem dX3_become_18 : decode cX3_become 18 = .ok (.getfield 9, 3) := by decide +kernel
theorem dX3_become_21 : decode cX3_become 21 = .ok (.putfield 9, 3) := by decide +kernel
theorem dX3_become_24 : decode cX3_become 24 = .ok (.aload_n 0, 1) := by decide +kernel
theorem dX3_become_25 : decode cX3_become 25 = .ok (.aload_n 1, 1) := by decide +kernel
theorem dX3_become_26 : decode cX3_become 26 = .ok (.getfield 22, 3) := by decide +kernel
theorem dX3_become_29 : decode cX3_become 29 = .ok (.putfield 22, 3) := by decide +kernel
theorem dX3_become_32 : decode cX3_become 32 = .ok (.return_, 1) := by decide +kernel
theorem dX3_hear_0 : decode cX3_hear 0 = .ok (.aload_n 0, 1) := by decide +kernel
theorem dX3_hear_1 : decode cX3_hear 1 = .ok (.iload_n 1, 1) := by decide +kernel
theorem dX3_hear_2 : decode cX3_hear 2 = .ok (.putfield 9, 3) := by decide +kernel
theorem dX3_hear_5 : decode cX3_hear 5 = .ok (.iload_n 1, 1) := by decide +kernel
theorem dX3_hear_6 : decode cX3_hear 6 = .ok (.iconst (-1), 1) := by decide +kernel
theorem dX3_hear_7 : decode cX3_hear 7 = .ok (.if_icmp .eq 15, 3) := by decide +kernel
theorem dX3_hear_10 : decode cX3_hear 10 = .ok (.aload_n 0, 1) := by decide +kernel
theorem dX3_hear_11 : decode cX3_hear 11 = .ok (.dup, 1) := by decide +kernel
theorem dX3_hear_12 : decode cX3_hear 12 = .ok (.getfield 22, 3) := by decide +kernel
theorem dX3_hear_15 : decode cX3_hear 15 = .ok (.iconst 1, 1) := by decide +kernel
theorem dX3_hear_16 : decode cX3_hear 16 = .ok (.iload_n 1, 1) := by decide +kernel
theorem dX3_hear_17 : decode cX3_hear 17 = .ok (.ishl, 1) := by decide +kernel
theorem dX3_hear_18 : decode cX3_hear 18 = .ok (.ior, 1) := by decide +kernel
theorem dX3_hear_19 : decode cX3_hear 19 = .ok (.putfield 22, 3) := by decide +kernel
theorem dX3_hear_22 : decode cX3_hear 22 = .ok (.return_, 1) := by decide +kernel
