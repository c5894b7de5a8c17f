theorem dX4_init_0 : decode cX4_init 0 = .ok (.aload_n 0, 1) := by decide +kernel
theorem dX4_init_1 : decode cX4_init 1 = .ok (.invokespecial 3, 3) := by decide +kernel
theorem dX4_init_4 : decode cX4_init 4 = .ok (.aload_n 0, 1) := by decide +kernel
theorem dX4_init_5 : decode cX4_init 5 = .ok (.bipush 24, 2) := by decide +kernel
theorem dX4_init_7 : decode cX4_init 7 = .ok (.newarray .int, 2) := by decide +kernel
theorem dX4_init_9 : decode cX4_init 9 = .ok (.putfield 9, 3) := by decide +kernel
theorem dX4_init_12 : decode cX4_init 12 = .ok (.aload_n 0, 1) := by decide +kernel
theorem dX4_init_13 : decode cX4_init 13 = .ok (.bipush 24, 2) := by decide +kernel
theorem dX4_init_15 : decode cX4_init 15 = .ok (.newarray .int, 2) := by decide +kernel
theorem dX4_init_17 : decode cX4_init 17 = .ok (.putfield 15, 3) := by decide +kernel
theorem dX4_init_20 : decode cX4_init 20 = .ok (.aload_n 0, 1) := by decide +kernel
theorem dX4_init_21 : decode cX4_init 21 = .ok (.bipush 24, 2) := by decide +kernel
theorem dX4_init_23 : decode cX4_init 23 = .ok (.newarray .int, 2) := by decide +kernel
theorem dX4_init_25 : decode cX4_init 25 = .ok (.putfield 18, 3) := by decide +kernel
theorem dX4_init_28 : decode cX4_init 28 = .ok (.aload_n 0, 1) := by decide +kernel
theorem dX4_init_29 : decode cX4_init 29 = .ok (.sipush 144, 3) := by decide +kernel
theorem dX4_init_32 : decode cX4_init 32 = .ok (.newarray .int, 2) := by decide +kernel
theorem dX4_init_34 : decode cX4_init 34 = .ok (.putfield 21, 3) := by decide +kernel
theorem dX4_init_37 : decode cX4_init 37 = .ok (.aload_n 0, 1) := by decide +kernel
theorem dX4_init_38 : decode cX4_init 38 = .ok (.sipush 144, 3) := by decide +kernel
theorem dX4_init_41 : decode cX4_init 41 = .ok (.newarray .int, 2) := by decide +kernel
theorem dX4_init_43 : decode cX4_init 43 = .ok (.putfield 24, 3) := by decide +kernel
theorem dX4_init_46 : decode cX4_init 46 = .ok (.aload_n 0, 1) := by decide +kernel
theorem dX4_init_47 : decode cX4_init 47 = .ok (.sipush 144, 3) := by decide +kernel
theorem dX4_init_50 : decode cX4_init 50 = .ok (.newarray .int, 2) := by decide +kernel
theorem dX4_init_52 : decode cX4_init 52 = .ok (.putfield 27, 3) := by decide +kernel
theorem dX4_init_55 : decode cX4_init 55 = .ok (.aload_n 0, 1) := by decide +kernel
theorem dX4_init_56 : decode cX4_init 56 = .ok (.bipush 24, 2) := by decide +kernel
theorem dX4_init_58 : decode cX4_init 58 = .ok (.newarray .int, 2) := by decide +kernel
theorem dX4_init_60 : decode cX4_init 60 = .ok (.putfield 30, 3) := by decide +kernel
theorem dX4_init_63 : decode cX4_init 63 = .ok (.aload_n 0, 1) := by decide +kernel
theorem dX4_init_64 : decode cX4_init 64 = .ok (.sipush 144, 3) := by decide +kernel
theorem dX4_init_67 : decode cX4_init 67 = .ok (.newarray .int, 2) := by decide +kernel
theorem dX4_init_69 : decode cX4_init 69 = .ok (.putfield 33, 3) := by decide +kernel
theorem dX4_init_72 : decode cX4_init 72 = .ok (.aload_n 0, 1) := by decide +kernel
theorem dX4_init_73 : decode cX4_init 73 = .ok (.sipush 144, 3) := by decide +kernel
theorem dX4_init_76 : decode cX4_init 76 = .ok (.newarray .int, 2) := by decide +kernel
theorem dX4_init_78 : decode cX4_init 78 = .ok (.putfield 36, 3) := by decide +kernel
theorem dX4_init_81 : decode cX4_init 81 = .ok (.aload_n 0, 1) := by decide +kernel
theorem dX4_init_82 : decode cX4_init 82 = .ok (.sipush 144, 3) := by decide +kernel
theorem dX4_init_85 : decode cX4_init 85 = .ok (.newarray .int, 2) := by decide +kernel
theorem dX4_init_87 : decode cX4_init 87 = .ok (.putfield 39, 3) := by decide +kernel
theorem dX4_init_90 : decode cX4_init 90 = .ok (.return_, 1) := by decide +kernel
theorem dX4_isRelation_0 : decode cX4_isRelation 0 = .ok (.iload_n 0, 1) := by decide +kernel
theorem dX4_isRelation_1 : decode cX4_isRelation 1 = .ok (.iconst 0, 1) := by decide +kernel
theorem dX4_isRelation_2 : decode cX4_isRelation 2 = .ok (.iconst 3, 1) := by decide +kernel
theorem dX4_isRelation_3 : decode cX4_isRelation 3 = .ok (.invokestatic 42, 3) := by decide +kernel
theorem dX4_isRelation_6 : decode cX4_isRelation 6 = .ok (.ireturn, 1) := by decide +kernel
theorem dX4_isEffect_0 : decode cX4_isEffect 0 = .ok (.iload_n 0, 1) := by decide +kernel
theorem dX4_isEffect_1 : decode cX4_isEffect 1 = .ok (.tableswitch 62 0 3 #[31, 36, 45, 54], 31) := by decide +kernel
theorem dX4_isEffect_32 : decode cX4_isEffect 32 = .ok (.iload_n 1, 1) := by decide +kernel
theorem dX4_isEffect_33 : decode cX4_isEffect 33 = .ok (.invokestatic 46, 3) := by decide +kernel
theorem dX4_isEffect_36 : decode cX4_isEffect 36 = .ok (.ireturn, 1) := by decide +kernel
theorem dX4_isEffect_37 : decode cX4_isEffect 37 = .ok (.iload_n 1, 1) := by decide +kernel
theorem dX4_isEffect_38 : decode cX4_isEffect 38 = .ok (.bipush (-9), 2) := by decide +kernel
theorem dX4_isEffect_40 : decode cX4_isEffect 40 = .ok (.bipush 9, 2) := by decide +kernel
theorem dX4_isEffect_42 : decode cX4_isEffect 42 = .ok (.invokestatic 42, 3) := by decide +kernel
theorem dX4_isEffect_45 : decode cX4_isEffect 45 = .ok (.ireturn, 1) := by decide +kernel
theorem dX4_isEffect_46 : decode cX4_isEffect 46 = .ok (.iload_n 1, 1) := by decide +kernel
theorem dX4_isEffect_47 : decode cX4_isEffect 47 = .ok (.iconst 0, 1) := by decide +kernel
theorem dX4_isEffect_48 : decode cX4_isEffect 48 = .ok (.iload_n 2, 1) := by decide +kernel
theorem dX4_isEffect_49 : decode cX4_isEffect 49 = .ok (.iconst 1, 1) := by decide +kernel
theorem dX4_isEffect_50 : decode cX4_isEffect 50 = .ok (.isub, 1) := by decide +kernel
theorem dX4_isEffect_51 : decode cX4_isEffect 51 = .ok (.invokestatic 42, 3) := by decide +kernel
theorem dX4_isEffect_54 : decode cX4_isEffect 54 = .ok (.ireturn, 1) := by decide +kernel
theorem dX4_isEffect_55 : decode cX4_isEffect 55 = .ok (.iload_n 1, 1) := by decide +kernel
theorem dX4_isEffect_56 : decode cX4_isEffect 56 = .ok (.iconst 1, 1) := by decide +kernel
theorem dX4_isEffect_57 : decode cX4_isEffect 57 = .ok (.bipush 10, 2) := by decide +kernel
theorem dX4_isEffect_59 : decode cX4_isEffect 59 = .ok (.invokestatic 42, 3) := by decide +kernel
theorem dX4_isEffect_62 : decode cX4_isEffect 62 = .ok (.ireturn, 1) := by decide +kernel
theorem dX4_isEffect_63 : decode cX4_isEffect 63 = .ok (.iconst 0, 1) := by decide +kernel
theorem dX4_isEffect_64 : decode cX4_isEffect 64 = .ok (.ireturn, 1) := by decide +kernel
theorem dX4_has_0 : decode cX4_has 0 = .ok (.iload_n 1, 1) := by decide +kernel
theorem dX4_has_1 : decode cX4_has 1 = .ok (.iconst 0, 1) := by decide +kernel
theorem dX4_has_2 : decode cX4_has 2 = .ok (.aload_n 0, 1) := by decide +kernel
theorem dX4_has_3 : decode cX4_has 3 = .ok (.getfield 50, 3) := by decide +kernel
theorem dX4_has_6 : decode cX4_has 6 = .ok (.iconst 1, 1) := by decide +kernel
theorem dX4_has_7 : decode cX4_has 7 = .ok (.isub, 1) := by decide +kernel
theorem dX4_has_8 : decode cX4_has 8 = .ok (.invokestatic 42, 3) := by decide +kernel
theorem dX4_has_11 : decode cX4_has 11 = .ok (.ireturn, 1) := by decide +kernel
theorem dX4_add_0 : decode cX4_add 0 = .ok (.aload_n 0, 1) := by decide +kernel
theorem dX4_add_1 : decode cX4_add 1 = .ok (.getfield 9, 3) := by decide +kernel
theorem dX4_add_4 : decode cX4_add 4 = .ok (.aload_n 0, 1) := by decide +kernel
theorem dX4_add_5 : decode cX4_add 5 = .ok (.getfield 50, 3) := by decide +kernel
theorem dX4_add_8 : decode cX4_add 8 = .ok (.iconst (-1), 1) := by decide +kernel
theorem dX4_add_9 : decode cX4_add 9 = .ok (.iastore, 1) := by decide +kernel
theorem dX4_add_10 : decode cX4_add 10 = .ok (.aload_n 0, 1) := by decide +kernel
theorem dX4_add_11 : decode cX4_add 11 = .ok (.dup, 1) := by decide +kernel
theorem dX4_add_12 : decode cX4_add 12 = .ok (.getfield 50, 3) := by decide +kernel
theorem dX4_add_15 : decode cX4_add 15 = .ok (.dup_x1, 1) := by decide +kernel
theorem dX4_add_16 : decode cX4_add 16 = .ok (.iconst 1, 1) := by decide +kernel
theorem dX4_add_17 : decode cX4_add 17 = .ok (.iadd, 1) := by decide +kernel
theorem dX4_add_18 : decode cX4_add 18 = .ok (.putfield 50, 3) := by decide +kernel
theorem dX4_add_21 : decode cX4_add 21 = .ok (.ireturn, 1) := by decide +kernel
theorem dX4_addCondition_0 : decode cX4_addCondition 0 = .ok (.aload_n 0, 1) := by decide +kernel
theorem dX4_addCondition_1 : decode cX4_addCondition 1 = .ok (.getfield 18, 3) := by decide +kernel
theorem dX4_addCondition_4 : decode cX4_addCondition 4 = .ok (.iload_n 1, 1) := by decide +kernel
theorem dX4_addCondition_5 : decode cX4_addCondition 5 = .ok (.iaload, 1) := by decide +kernel
theorem dX4_addCondition_6 : decode cX4_addCondition 6 = .ok (.bipush 6, 2) := by decide +kernel
theorem dX4_addCondition_8 : decode cX4_addCondition 8 = .ok (.if_icmp .lt 5, 3) := by decide +kernel
theorem dX4_addCondition_11 : decode cX4_addCondition 11 = .ok (.iconst 0, 1) := by decide +kernel
theorem dX4_addCondition_12 : decode cX4_addCondition 12 = .ok (.ireturn, 1) := by decide +kernel
theorem dX4_addCondition_13 : decode cX4_addCondition 13 = .ok (.iload_n 1, 1) := by decide +kernel
theorem dX4_addCondition_14 : decode cX4_addCondition 14 = .ok (.bipush 6, 2) := by decide +kernel
theorem dX4_addCondition_16 : decode cX4_addCondition 16 = .ok (.imul, 1) := by decide +kernel
theorem dX4_addCondition_17 : decode cX4_addCondition 17 = .ok (.aload_n 0, 1) := by decide +kernel
theorem dX4_addCondition_18 : decode cX4_addCondition 18 = .ok (.getfield 18, 3) := by decide +kernel
theorem dX4_addCondition_21 : decode cX4_addCondition 21 = .ok (.iload_n 1, 1) := by decide +kernel
theorem dX4_addCondition_22 : decode cX4_addCondition 22 = .ok (.iaload, 1) := by decide +kernel
theorem dX4_addCondition_23 : decode cX4_addCondition 23 = .ok (.iadd, 1) := by decide +kernel
theorem dX4_addCondition_24 : decode cX4_addCondition 24 = .ok (.istore 5, 2) := by decide +kernel
theorem dX4_addCondition_26 : decode cX4_addCondition 26 = .ok (.aload_n 0, 1) := by decide +kernel
theorem dX4_addCondition_27 : decode cX4_addCondition 27 = .ok (.getfield 21, 3) := by decide +kernel
theorem dX4_addCondition_30 : decode cX4_addCondition 30 = .ok (.iload 5, 2) := by decide +kernel
theorem dX4_addCondition_32 : decode cX4_addCondition 32 = .ok (.iload_n 2, 1) := by decide +kernel
theorem dX4_addCondition_33 : decode cX4_addCondition 33 = .ok (.iastore, 1) := by decide +kernel
theorem dX4_addCondition_34 : decode cX4_addCondition 34 = .ok (.aload_n 0, 1) := by decide +kernel
theorem dX4_addCondition_35 : decode cX4_addCondition 35 = .ok (.getfield 24, 3) := by decide +kernel
theorem dX4_addCondition_38 : decode cX4_addCondition 38 = .ok (.iload 5, 2) := by decide +kernel
theorem dX4_addCondition_40 : decode cX4_addCondition 40 = .ok (.iload_n 3, 1) := by decide +kernel
theorem dX4_addCondition_41 : decode cX4_addCondition 41 = .ok (.iastore, 1) := by decide +kernel
theorem dX4_addCondition_42 : decode cX4_addCondition 42 = .ok (.aload_n 0, 1) := by decide +kernel
theorem dX4_addCondition_43 : decode cX4_addCondition 43 = .ok (.getfield 27, 3) := by decide +kernel
theorem dX4_addCondition_46 : decode cX4_addCondition 46 = .ok (.iload 5, 2) := by decide +kernel
theorem dX4_addCondition_48 : decode cX4_addCondition 48 = .ok (.iload 4, 2) := by decide +kernel
theorem dX4_addCondition_50 : decode cX4_addCondition 50 = .ok (.iastore, 1) := by decide +kernel
theorem dX4_addCondition_51 : decode cX4_addCondition 51 = .ok (.aload_n 0, 1) := by decide +kernel
theorem dX4_addCondition_52 : decode cX4_addCondition 52 = .ok (.getfield 18, 3) := by decide +kernel
theorem dX4_addCondition_55 : decode cX4_addCondition 55 = .ok (.iload_n 1, 1) := by decide +kernel
theorem dX4_addCondition_56 : decode cX4_addCondition 56 = .ok (.dup2, 1) := by decide +kernel
theorem dX4_addCondition_57 : decode cX4_addCondition 57 = .ok (.iaload, 1) := by decide +kernel
theorem dX4_addCondition_58 : decode cX4_addCondition 58 = .ok (.iconst 1, 1) := by decide +kernel
theorem dX4_addCondition_59 : decode cX4_addCondition 59 = .ok (.iadd, 1) := by decide +kernel
theorem dX4_addCondition_60 : decode cX4_addCondition 60 = .ok (.iastore, 1) := by decide +kernel
theorem dX4_addCondition_61 : decode cX4_addCondition 61 = .ok (.iconst 1, 1) := by decide +kernel
theorem dX4_addCondition_62 : decode cX4_addCondition 62 = .ok (.ireturn, 1) := by decide +kernel
theorem dX4_addEffect_0 : decode cX4_addEffect 0 = .ok (.aload_n 0, 1) := by decide +kernel
theorem dX4_addEffect_1 : decode cX4_addEffect 1 = .ok (.getfield 30, 3) := by decide +kernel
theorem dX4_addEffect_4 : decode cX4_addEffect 4 = .ok (.iload_n 1, 1) := by decide +kernel
theorem dX4_addEffect_5 : decode cX4_addEffect 5 = .ok (.iaload, 1) := by decide +kernel
theorem dX4_addEffect_6 : decode cX4_addEffect 6 = .ok (.bipush 6, 2) := by decide +kernel
theorem dX4_addEffect_8 : decode cX4_addEffect 8 = .ok (.if_icmp .lt 5, 3) := by decide +kernel
theorem dX4_addEffect_11 : decode cX4_addEffect 11 = .ok (.iconst 0, 1) := by decide +kernel
theorem dX4_addEffect_12 : decode cX4_addEffect 12 = .ok (.ireturn, 1) := by decide +kernel
theorem dX4_addEffect_13 : decode cX4_addEffect 13 = .ok (.iload_n 1, 1) := by decide +kernel
theorem dX4_addEffect_14 : decode cX4_addEffect 14 = .ok (.bipush 6, 2) := by decide +kernel
theorem dX4_addEffect_16 : decode cX4_addEffect 16 = .ok (.imul, 1) := by decide +kernel
theorem dX4_addEffect_17 : decode cX4_addEffect 17 = .ok (.aload_n 0, 1) := by decide +kernel
theorem dX4_addEffect_18 : decode cX4_addEffect 18 = .ok (.getfield 30, 3) := by decide +kernel
theorem dX4_addEffect_21 : decode cX4_addEffect 21 = .ok (.iload_n 1, 1) := by decide +kernel
theorem dX4_addEffect_22 : decode cX4_addEffect 22 = .ok (.iaload, 1) := by decide +kernel
theorem dX4_addEffect_23 : decode cX4_addEffect 23 = .ok (.iadd, 1) := by decide +kernel
theorem dX4_addEffect_24 : decode cX4_addEffect 24 = .ok (.istore 5, 2) := by decide +kernel
theorem dX4_addEffect_26 : decode cX4_addEffect 26 = .ok (.aload_n 0, 1) := by decide +kernel
theorem dX4_addEffect_27 : decode cX4_addEffect 27 = .ok (.getfield 33, 3) := by decide +kernel
theorem dX4_addEffect_30 : decode cX4_addEffect 30 = .ok (.iload 5, 2) := by decide +kernel
theorem dX4_addEffect_32 : decode cX4_addEffect 32 = .ok (.iload_n 2, 1) := by decide +kernel
theorem dX4_addEffect_33 : decode cX4_addEffect 33 = .ok (.iastore, 1) := by decide +kernel
theorem dX4_addEffect_34 : decode cX4_addEffect 34 = .ok (.aload_n 0, 1) := by decide +kernel
theorem dX4_addEffect_35 : decode cX4_addEffect 35 = .ok (.getfield 36, 3) := by decide +kernel
theorem dX4_addEffect_38 : decode cX4_addEffect 38 = .ok (.iload 5, 2) := by decide +kernel
theorem dX4_addEffect_40 : decode cX4_addEffect 40 = .ok (.iload_n 3, 1) := by decide +kernel
theorem dX4_addEffect_41 : decode cX4_addEffect 41 = .ok (.iastore, 1) := by decide +kernel
theorem dX4_addEffect_42 : decode cX4_addEffect 42 = .ok (.aload_n 0, 1) := by decide +kernel
theorem dX4_addEffect_43 : decode cX4_addEffect 43 = .ok (.getfield 39, 3) := by decide +kernel
theorem dX4_addEffect_46 : decode cX4_addEffect 46 = .ok (.iload 5, 2) := by decide +kernel
theorem dX4_addEffect_48 : decode cX4_addEffect 48 = .ok (.iload 4, 2) := by decide +kernel
theorem dX4_addEffect_50 : decode cX4_addEffect 50 = .ok (.iastore, 1) := by decide +kernel
theorem dX4_addEffect_51 : decode cX4_addEffect 51 = .ok (.aload_n 0, 1) := by decide +kernel
theorem dX4_addEffect_52 : decode cX4_addEffect 52 = .ok (.getfield 30, 3) := by decide +kernel
theorem dX4_addEffect_55 : decode cX4_addEffect 55 = .ok (.iload_n 1, 1) := by decide +kernel
theorem dX4_addEffect_56 : decode cX4_addEffect 56 = .ok (.dup2, 1) := by decide +kernel
theorem dX4_addEffect_57 : decode cX4_addEffect 57 = .ok (.iaload, 1) := by decide +kernel
theorem dX4_addEffect_58 : decode cX4_addEffect 58 = .ok (.iconst 1, 1) := by decide +kernel
theorem dX4_addEffect_59 : decode cX4_addEffect 59 = .ok (.iadd, 1) := by decide +kernel
theorem dX4_addEffect_60 : decode cX4_addEffect 60 = .ok (.iastore, 1) := by decide +kernel
theorem dX4_addEffect_61 : decode cX4_addEffect 61 = .ok (.iconst 1, 1) := by decide +kernel
theorem dX4_addEffect_62 : decode cX4_addEffect 62 = .ok (.ireturn, 1) := by decide +kernel
theorem dX4_textsOfAll_0 : decode cX4_textsOfAll 0 = .ok (.iconst 0, 1) := by decide +kernel
theorem dX4_textsOfAll_1 : decode cX4_textsOfAll 1 = .ok (.istore_n 1, 1) := by decide +kernel
theorem dX4_textsOfAll_2 : decode cX4_textsOfAll 2 = .ok (.iconst 0, 1) := by decide +kernel
theorem dX4_textsOfAll_3 : decode cX4_textsOfAll 3 = .ok (.istore_n 2, 1) := by decide +kernel
theorem dX4_textsOfAll_4 : decode cX4_textsOfAll 4 = .ok (.iload_n 2, 1) := by decide +kernel
theorem dX4_textsOfAll_5 : decode cX4_textsOfAll 5 = .ok (.aload_n 0, 1) := by decide +kernel
theorem dX4_textsOfAll_6 : decode cX4_textsOfAll 6 = .ok (.getfield 50, 3) := by decide +kernel
theorem dX4_textsOfAll_9 : decode cX4_textsOfAll 9 = .ok (.if_icmp .ge 30, 3) := by decide +kernel
theorem dX4_textsOfAll_12 : decode cX4_textsOfAll 12 = .ok (.aload_n 0, 1) := by decide +kernel
theorem dX4_textsOfAll_13 : decode cX4_textsOfAll 13 = .ok (.getfield 9, 3) := by decide +kernel
theorem dX4_textsOfAll_16 : decode cX4_textsOfAll 16 = .ok (.iload_n 2, 1) := by decide +kernel
theorem dX4_textsOfAll_17 : decode cX4_textsOfAll 17 = .ok (.iaload, 1) := by decide +kernel
theorem dX4_textsOfAll_18 : decode cX4_textsOfAll 18 = .ok (.iconst (-1), 1) := by decide +kernel
theorem dX4_textsOfAll_19 : decode cX4_textsOfAll 19 = .ok (.if_icmp .eq 14, 3) := by decide +kernel
theorem dX4_textsOfAll_22 : decode cX4_textsOfAll 22 = .ok (.iload_n 1, 1) := by decide +kernel
theorem dX4_textsOfAll_23 : decode cX4_textsOfAll 23 = .ok (.iconst 1, 1) := by decide +kernel
theorem dX4_textsOfAll_24 : decode cX4_textsOfAll 24 = .ok (.aload_n 0, 1) := by decide +kernel
theorem dX4_textsOfAll_25 : decode cX4_textsOfAll 25 = .ok (.getfield 9, 3) := by decide +kernel
theorem dX4_textsOfAll_28 : decode cX4_textsOfAll 28 = .ok (.iload_n 2, 1) := by decide +kernel
theorem dX4_textsOfAll_29 : decode cX4_textsOfAll 29 = .ok (.iaload, 1) := by decide +kernel
theorem dX4_textsOfAll_30 : decode cX4_textsOfAll 30 = .ok (.ishl, 1) := by decide +kernel
theorem dX4_textsOfAll_31 : decode cX4_textsOfAll 31 = .ok (.ior, 1) := by decide +kernel
theorem dX4_textsOfAll_32 : decode cX4_textsOfAll 32 = .ok (.istore_n 1, 1) := by decide +kernel
theorem dX4_textsOfAll_33 : decode cX4_textsOfAll 33 = .ok (.iinc 2 1, 3) := by decide +kernel
theorem dX4_textsOfAll_36 : decode cX4_textsOfAll 36 = .ok (.goto (-32), 3) := by decide +kernel
theorem dX4_textsOfAll_39 : decode cX4_textsOfAll 39 = .ok (.iload_n 1, 1) := by decide +kernel
theorem dX4_textsOfAll_40 : decode cX4_textsOfAll 40 = .ok (.ireturn, 1) := by decide +kernel
theorem dX4_carryOut_0 : decode cX4_carryOut 0 = .ok (.aload_n 2, 1) := by decide +kernel
theorem dX4_carryOut_1 : decode cX4_carryOut 1 = .ok (.getfield 54, 3) := by decide +kernel
theorem dX4_carryOut_4 : decode cX4_carryOut 4 = .ok (.ifCond .ne 15, 3) := by decide +kernel
theorem dX4_carryOut_7 : decode cX4_carryOut 7 = .ok (.aload_n 0, 1) := by decide +kernel
theorem dX4_carryOut_8 : decode cX4_carryOut 8 = .ok (.iload_n 1, 1) := by decide +kernel
theorem dX4_carryOut_9 : decode cX4_carryOut 9 = .ok (.aload_n 2, 1) := by decide +kernel
theorem dX4_carryOut_10 : decode cX4_carryOut 10 = .ok (.getfield 59, 3) := by decide +kernel
theorem dX4_carryOut_13 : decode cX4_carryOut 13 = .ok (.invokevirtual 63, 3) := by decide +kernel
theorem dX4_carryOut_16 : decode cX4_carryOut 16 = .ok (.ifCond .ne 5, 3) := by decide +kernel
theorem dX4_carryOut_19 : decode cX4_carryOut 19 = .ok (.iconst 0, 1) := by decide +kernel
theorem dX4_carryOut_20 : decode cX4_carryOut 20 = .ok (.ireturn, 1) := by decide +kernel
theorem dX4_carryOut_21 : decode cX4_carryOut 21 = .ok (.aload_n 2, 1) := by decide +kernel
theorem dX4_carryOut_22 : decode cX4_carryOut 22 = .ok (.aload_n 0, 1) := by decide +kernel
theorem dX4_carryOut_23 : decode cX4_carryOut 23 = .ok (.iload_n 1, 1) := by decide +kernel
theorem dX4_carryOut_24 : decode cX4_carryOut 24 = .ok (.aload_n 2, 1) := by decide +kernel
theorem dX4_carryOut_25 : decode cX4_carryOut 25 = .ok (.getfield 59, 3) := by decide +kernel
theorem dX4_carryOut_28 : decode cX4_carryOut 28 = .ok (.iload_n 3, 1) := by decide +kernel
theorem dX4_carryOut_29 : decode cX4_carryOut 29 = .ok (.invokevirtual 67, 3) := by decide +kernel
theorem dX4_carryOut_32 : decode cX4_carryOut 32 = .ok (.putfield 59, 3) := by decide +kernel
theorem dX4_carryOut_35 : decode cX4_carryOut 35 = .ok (.aload_n 2, 1) := by decide +kernel
theorem dX4_carryOut_36 : decode cX4_carryOut 36 = .ok (.aload_n 0, 1) := by decide +kernel
theorem dX4_carryOut_37 : decode cX4_carryOut 37 = .ok (.getfield 15, 3) := by decide +kernel
theorem dX4_carryOut_40 : decode cX4_carryOut 40 = .ok (.iload_n 1, 1) := by decide +kernel
theorem dX4_carryOut_41 : decode cX4_carryOut 41 = .ok (.iaload, 1) := by decide +kernel
theorem dX4_carryOut_42 : decode cX4_carryOut 42 = .ok (.putfield 54, 3) := by decide +kernel
theorem dX4_carryOut_45 : decode cX4_carryOut 45 = .ok (.aload_n 2, 1) := by decide +kernel
theorem dX4_carryOut_46 : decode cX4_carryOut 46 = .ok (.aload_n 0, 1) := by decide +kernel
theorem dX4_carryOut_47 : decode cX4_carryOut 47 = .ok (.getfield 9, 3) := by decide +kernel
theorem dX4_carryOut_50 : decode cX4_carryOut 50 = .ok (.iload_n 1, 1) := by decide +kernel
theorem dX4_carryOut_51 : decode cX4_carryOut 51 = .ok (.iaload, 1) := by decide +kernel
theorem dX4_carryOut_52 : decode cX4_carryOut 52 = .ok (.invokevirtual 71, 3) := by decide +kernel
theorem dX4_carryOut_55 : decode cX4_carryOut 55 = .ok (.iconst 1, 1) := by decide +kernel
theorem dX4_carryOut_56 : decode cX4_carryOut 56 = .ok (.ireturn, 1) := by decide +kernel
theorem dX4_conditionsHold_0 : decode cX4_conditionsHold 0 = .ok (.iload_n 1, 1) := by decide +kernel
theorem dX4_conditionsHold_1 : decode cX4_conditionsHold 1 = .ok (.bipush 6, 2) := by decide +kernel
theorem dX4_conditionsHold_3 : decode cX4_conditionsHold 3 = .ok (.imul, 1) := by decide +kernel
theorem dX4_conditionsHold_4 : decode cX4_conditionsHold 4 = .ok (.istore 4, 2) := by decide +kernel
theorem dX4_conditionsHold_6 : decode cX4_conditionsHold 6 = .ok (.iload 4, 2) := by decide +kernel
theorem dX4_conditionsHold_8 : decode cX4_conditionsHold 8 = .ok (.istore 5, 2) := by decide +kernel
theorem dX4_conditionsHold_10 : decode cX4_conditionsHold 10 = .ok (.iload 5, 2) := by decide +kernel
theorem dX4_conditionsHold_12 : decode cX4_conditionsHold 12 = .ok (.iload 4, 2) := by decide +kernel
theorem dX4_conditionsHold_14 : decode cX4_conditionsHold 14 = .ok (.aload_n 0, 1) := by decide +kernel
theorem dX4_conditionsHold_15 : decode cX4_conditionsHold 15 = .ok (.getfield 18, 3) := by decide +kernel
theorem dX4_conditionsHold_18 : decode cX4_conditionsHold 18 = .ok (.iload_n 1, 1) := by decide +kernel
theorem dX4_conditionsHold_19 : decode cX4_conditionsHold 19 = .ok (.iaload, 1) := by decide +kernel
theorem dX4_conditionsHold_20 : decode cX4_conditionsHold 20 = .ok (.iadd, 1) := by decide +kernel
theorem dX4_conditionsHold_21 : decode cX4_conditionsHold 21 = .ok (.if_icmp .ge 46, 3) := by decide +kernel
theorem dX4_conditionsHold_24 : decode cX4_conditionsHold 24 = .ok (.lload_n 2, 1) := by decide +kernel
theorem dX4_conditionsHold_25 : decode cX4_conditionsHold 25 = .ok (.aload_n 0, 1) := by decide +kernel
theorem dX4_conditionsHold_26 : decode cX4_conditionsHold 26 = .ok (.getfield 21, 3) := by decide +kernel
theorem dX4_conditionsHold_29 : decode cX4_conditionsHold 29 = .ok (.iload 5, 2) := by decide +kernel
theorem dX4_conditionsHold_31 : decode cX4_conditionsHold 31 = .ok (.iaload, 1) := by decide +kernel
theorem dX4_conditionsHold_32 : decode cX4_conditionsHold 32 = .ok (.invokestatic 75, 3) := by decide +kernel
theorem dX4_conditionsHold_35 : decode cX4_conditionsHold 35 = .ok (.istore 6, 2) := by decide +kernel
theorem dX4_conditionsHold_37 : decode cX4_conditionsHold 37 = .ok (.iload 6, 2) := by decide +kernel
theorem dX4_conditionsHold_39 : decode cX4_conditionsHold 39 = .ok (.aload_n 0, 1) := by decide +kernel
theorem dX4_conditionsHold_40 : decode cX4_conditionsHold 40 = .ok (.getfield 24, 3) := by decide +kernel
theorem dX4_conditionsHold_43 : decode cX4_conditionsHold 43 = .ok (.iload 5, 2) := by decide +kernel
theorem dX4_conditionsHold_45 : decode cX4_conditionsHold 45 = .ok (.iaload, 1) := by decide +kernel
theorem dX4_conditionsHold_46 : decode cX4_conditionsHold 46 = .ok (.aload_n 0, 1) := by decide +kernel
theorem dX4_conditionsHold_47 : decode cX4_conditionsHold 47 = .ok (.getfield 27, 3) := by decide +kernel
theorem dX4_conditionsHold_50 : decode cX4_conditionsHold 50 = .ok (.iload 5, 2) := by decide +kernel
theorem dX4_conditionsHold_52 : decode cX4_conditionsHold 52 = .ok (.iaload, 1) := by decide +kernel
theorem dX4_conditionsHold_53 : decode cX4_conditionsHold 53 = .ok (.invokestatic 79, 3) := by decide +kernel
theorem dX4_conditionsHold_56 : decode cX4_conditionsHold 56 = .ok (.ifCond .ne 5, 3) := by decide +kernel
theorem dX4_conditionsHold_59 : decode cX4_conditionsHold 59 = .ok (.iconst 0, 1) := by decide +kernel
theorem dX4_conditionsHold_60 : decode cX4_conditionsHold 60 = .ok (.ireturn, 1) := by decide +kernel
theorem dX4_conditionsHold_61 : decode cX4_conditionsHold 61 = .ok (.iinc 5 1, 3) := by decide +kernel
theorem dX4_conditionsHold_64 : decode cX4_conditionsHold 64 = .ok (.goto (-54), 3) := by decide +kernel
theorem dX4_conditionsHold_67 : decode cX4_conditionsHold 67 = .ok (.iconst 1, 1) := by decide +kernel
theorem dX4_conditionsHold_68 : decode cX4_conditionsHold 68 = .ok (.ireturn, 1) := by decide +kernel
theorem dX4_holds_0 : decode cX4_holds 0 = .ok (.iload_n 1, 1) := by decide +kernel
theorem dX4_holds_1 : decode cX4_holds 1 = .ok (.tableswitch 60 0 2 #[27, 38, 49], 27) := by decide +kernel
theorem dX4_holds_28 : decode cX4_holds 28 = .ok (.iload_n 0, 1) := by decide +kernel
theorem dX4_holds_29 : decode cX4_holds 29 = .ok (.iload_n 2, 1) := by decide +kernel
theorem dX4_holds_30 : decode cX4_holds 30 = .ok (.if_icmp .ne 7, 3) := by decide +kernel
theorem dX4_holds_33 : decode cX4_holds 33 = .ok (.iconst 1, 1) := by decide +kernel
theorem dX4_holds_34 : decode cX4_holds 34 = .ok (.goto 4, 3) := by decide +kernel
theorem dX4_holds_37 : decode cX4_holds 37 = .ok (.iconst 0, 1) := by decide +kernel
theorem dX4_holds_38 : decode cX4_holds 38 = .ok (.ireturn, 1) := by decide +kernel
theorem dX4_holds_39 : decode cX4_holds 39 = .ok (.iload_n 0, 1) := by decide +kernel
theorem dX4_holds_40 : decode cX4_holds 40 = .ok (.iload_n 2, 1) := by decide +kernel
theorem dX4_holds_41 : decode cX4_holds 41 = .ok (.if_icmp .eq 7, 3) := by decide +kernel
theorem dX4_holds_44 : decode cX4_holds 44 = .ok (.iconst 1, 1) := by decide +kernel
theorem dX4_holds_45 : decode cX4_holds 45 = .ok (.goto 4, 3) := by decide +kernel
theorem dX4_holds_48 : decode cX4_holds 48 = .ok (.iconst 0, 1) := by decide +kernel
theorem dX4_holds_49 : decode cX4_holds 49 = .ok (.ireturn, 1) := by decide +kernel
theorem dX4_holds_50 : decode cX4_holds 50 = .ok (.iload_n 0, 1) := by decide +kernel
theorem dX4_holds_51 : decode cX4_holds 51 = .ok (.iload_n 2, 1) := by decide +kernel
theorem dX4_holds_52 : decode cX4_holds 52 = .ok (.if_icmp .ge 7, 3) := by decide +kernel
theorem dX4_holds_55 : decode cX4_holds 55 = .ok (.iconst 1, 1) := by decide +kernel
theorem dX4_holds_56 : decode cX4_holds 56 = .ok (.goto 4, 3) := by decide +kernel
theorem dX4_holds_59 : decode cX4_holds 59 = .ok (.iconst 0, 1) := by decide +kernel
theorem dX4_holds_60 : decode cX4_holds 60 = .ok (.ireturn, 1) := by decide +kernel
theorem dX4_holds_61 : decode cX4_holds 61 = .ok (.iload_n 0, 1) := by decide +kernel
theorem dX4_holds_62 : decode cX4_holds 62 = .ok (.iload_n 2, 1) := by decide +kernel
theorem dX4_holds_63 : decode cX4_holds 63 = .ok (.if_icmp .le 7, 3) := by decide +kernel
theorem dX4_holds_66 : decode cX4_holds 66 = .ok (.iconst 1, 1) := by decide +kernel
theorem dX4_holds_67 : decode cX4_holds 67 = .ok (.goto 4, 3) := by decide +kernel
theorem dX4_holds_70 : decode cX4_holds 70 = .ok (.iconst 0, 1) := by decide +kernel
theorem dX4_holds_71 : decode cX4_holds 71 = .ok (.ireturn, 1) := by decide +kernel
theorem dX4_behindEffects_0 : decode cX4_behindEffects 0 = .ok (.lload_n 2, 1) := by decide +kernel
theorem dX4_behindEffects_1 : decode cX4_behindEffects 1 = .ok (.lstore 5, 2) := by decide +kernel
theorem dX4_behindEffects_3 : decode cX4_behindEffects 3 = .ok (.iload_n 1, 1) := by decide +kernel
theorem dX4_behindEffects_4 : decode cX4_behindEffects 4 = .ok (.bipush 6, 2) := by decide +kernel
theorem dX4_behindEffects_6 : decode cX4_behindEffects 6 = .ok (.imul, 1) := by decide +kernel
theorem dX4_behindEffects_7 : decode cX4_behindEffects 7 = .ok (.istore 7, 2) := by decide +kernel
theorem dX4_behindEffects_9 : decode cX4_behindEffects 9 = .ok (.iload 7, 2) := by decide +kernel
theorem dX4_behindEffects_11 : decode cX4_behindEffects 11 = .ok (.istore 8, 2) := by decide +kernel
theorem dX4_behindEffects_13 : decode cX4_behindEffects 13 = .ok (.iload 8, 2) := by decide +kernel
theorem dX4_behindEffects_15 : decode cX4_behindEffects 15 = .ok (.iload 7, 2) := by decide +kernel
theorem dX4_behindEffects_17 : decode cX4_behindEffects 17 = .ok (.aload_n 0, 1) := by decide +kernel
theorem dX4_behindEffects_18 : decode cX4_behindEffects 18 = .ok (.getfield 30, 3) := by decide +kernel
theorem dX4_behindEffects_21 : decode cX4_behindEffects 21 = .ok (.iload_n 1, 1) := by decide +kernel
theorem dX4_behindEffects_22 : decode cX4_behindEffects 22 = .ok (.iaload, 1) := by decide +kernel
theorem dX4_behindEffects_23 : decode cX4_behindEffects 23 = .ok (.iadd, 1) := by decide +kernel
theorem dX4_behindEffects_24 : decode cX4_behindEffects 24 = .ok (.if_icmp .ge 133, 3) := by decide +kernel
theorem dX4_behindEffects_27 : decode cX4_behindEffects 27 = .ok (.aload_n 0, 1) := by decide +kernel
theorem dX4_behindEffects_28 : decode cX4_behindEffects 28 = .ok (.getfield 36, 3) := by decide +kernel
theorem dX4_behindEffects_31 : decode cX4_behindEffects 31 = .ok (.iload 8, 2) := by decide +kernel
theorem dX4_behindEffects_33 : decode cX4_behindEffects 33 = .ok (.iaload, 1) := by decide +kernel
theorem dX4_behindEffects_34 : decode cX4_behindEffects 34 = .ok (.istore 9, 2) := by decide +kernel
theorem dX4_behindEffects_36 : decode cX4_behindEffects 36 = .ok (.aload_n 0, 1) := by decide +kernel
theorem dX4_behindEffects_37 : decode cX4_behindEffects 37 = .ok (.getfield 39, 3) := by decide +kernel
theorem dX4_behindEffects_40 : decode cX4_behindEffects 40 = .ok (.iload 8, 2) := by decide +kernel
theorem dX4_behindEffects_42 : decode cX4_behindEffects 42 = .ok (.iaload, 1) := by decide +kernel
theorem dX4_behindEffects_43 : decode cX4_behindEffects 43 = .ok (.istore 10, 2) := by decide +kernel
theorem dX4_behindEffects_45 : decode cX4_behindEffects 45 = .ok (.aload_n 0, 1) := by decide +kernel
theorem dX4_behindEffects_46 : decode cX4_behindEffects 46 = .ok (.getfield 33, 3) := by decide +kernel
theorem dX4_behindEffects_49 : decode cX4_behindEffects 49 = .ok (.iload 8, 2) := by decide +kernel
theorem dX4_behindEffects_51 : decode cX4_behindEffects 51 = .ok (.iaload, 1) := by decide +kernel
theorem dX4_behindEffects_52 : decode cX4_behindEffects 52 = .ok (.tableswitch 67 0 2 #[28, 35, 55], 28) := by decide +kernel
theorem dX4_behindEffects_80 : decode cX4_behindEffects 80 = .ok (.iload 10, 2) := by decide +kernel
theorem dX4_behindEffects_82 : decode cX4_behindEffects 82 = .ok (.istore 11, 2) := by decide +kernel
theorem dX4_behindEffects_84 : decode cX4_behindEffects 84 = .ok (.goto 56, 3) := by decide +kernel
theorem dX4_behindEffects_87 : decode cX4_behindEffects 87 = .ok (.lload 5, 2) := by decide +kernel
theorem dX4_behindEffects_89 : decode cX4_behindEffects 89 = .ok (.iload 9, 2) := by decide +kernel
theorem dX4_behindEffects_91 : decode cX4_behindEffects 91 = .ok (.invokestatic 75, 3) := by decide +kernel
theorem dX4_behindEffects_94 : decode cX4_behindEffects 94 = .ok (.iload 10, 2) := by decide +kernel
theorem dX4_behindEffects_96 : decode cX4_behindEffects 96 = .ok (.iadd, 1) := by decide +kernel
theorem dX4_behindEffects_97 : decode cX4_behindEffects 97 = .ok (.bipush 10, 2) := by decide +kernel
theorem dX4_behindEffects_99 : decode cX4_behindEffects 99 = .ok (.invokestatic 82, 3) := by decide +kernel
theorem dX4_behindEffects_102 : decode cX4_behindEffects 102 = .ok (.istore 11, 2) := by decide +kernel
theorem dX4_behindEffects_104 : decode cX4_behindEffects 104 = .ok (.goto 36, 3) := by decide +kernel
theorem dX4_behindEffects_107 : decode cX4_behindEffects 107 = .ok (.lload 5, 2) := by decide +kernel
theorem dX4_behindEffects_109 : decode cX4_behindEffects 109 = .ok (.iload 10, 2) := by decide +kernel
theorem dX4_behindEffects_111 : decode cX4_behindEffects 111 = .ok (.invokestatic 75, 3) := by decide +kernel
theorem dX4_behindEffects_114 : decode cX4_behindEffects 114 = .ok (.istore 11, 2) := by decide +kernel
theorem dX4_behindEffects_116 : decode cX4_behindEffects 116 = .ok (.goto 24, 3) := by decide +kernel
theorem dX4_behindEffects_119 : decode cX4_behindEffects 119 = .ok (.iload 10, 2) := by decide +kernel
theorem dX4_behindEffects_121 : decode cX4_behindEffects 121 = .ok (.ifCond .le 16, 3) := by decide +kernel
theorem dX4_behindEffects_124 : decode cX4_behindEffects 124 = .ok (.iload_n 1, 1) := by decide +kernel
theorem dX4_behindEffects_125 : decode cX4_behindEffects 125 = .ok (.lload_n 2, 1) := by decide +kernel
theorem dX4_behindEffects_126 : decode cX4_behindEffects 126 = .ok (.iload 4, 2) := by decide +kernel
theorem dX4_behindEffects_128 : decode cX4_behindEffects 128 = .ok (.invokestatic 88, 3) := by decide +kernel
theorem dX4_behindEffects_131 : decode cX4_behindEffects 131 = .ok (.iload 10, 2) := by decide +kernel
theorem dX4_behindEffects_133 : decode cX4_behindEffects 133 = .ok (.irem, 1) := by decide +kernel
theorem dX4_behindEffects_134 : decode cX4_behindEffects 134 = .ok (.goto 4, 3) := by decide +kernel
theorem dX4_behindEffects_137 : decode cX4_behindEffects 137 = .ok (.iconst 0, 1) := by decide +kernel
theorem dX4_behindEffects_138 : decode cX4_behindEffects 138 = .ok (.istore 11, 2) := by decide +kernel
theorem dX4_behindEffects_140 : decode cX4_behindEffects 140 = .ok (.lload 5, 2) := by decide +kernel
theorem dX4_behindEffects_142 : decode cX4_behindEffects 142 = .ok (.iload 9, 2) := by decide +kernel
theorem dX4_behindEffects_144 : decode cX4_behindEffects 144 = .ok (.iload 11, 2) := by decide +kernel
theorem dX4_behindEffects_146 : decode cX4_behindEffects 146 = .ok (.invokestatic 92, 3) := by decide +kernel
theorem dX4_behindEffects_149 : decode cX4_behindEffects 149 = .ok (.lstore 5, 2) := by decide +kernel
theorem dX4_behindEffects_151 : decode cX4_behindEffects 151 = .ok (.iinc 8 1, 3) := by decide +kernel
theorem dX4_behindEffects_154 : decode cX4_behindEffects 154 = .ok (.goto (-141), 3) := by decide +kernel
theorem dX4_behindEffects_157 : decode cX4_behindEffects 157 = .ok (.lload 5, 2) := by decide +kernel
theorem dX4_behindEffects_159 : decode cX4_behindEffects 159 = .ok (.lreturn, 1) := by decide +kernel
theorem dX4_chance_0 : decode cX4_chance 0 = .ok (.lconst 0, 1) := by decide +kernel
theorem dX4_chance_1 : decode cX4_chance 1 = .ok (.lstore 4, 2) := by decide +kernel
theorem dX4_chance_3 : decode cX4_chance 3 = .ok (.iconst 0, 1) := by decide +kernel
theorem dX4_chance_4 : decode cX4_chance 4 = .ok (.istore 6, 2) := by decide +kernel
theorem dX4_chance_6 : decode cX4_chance 6 = .ok (.iload 6, 2) := by decide +kernel
theorem dX4_chance_8 : decode cX4_chance 8 = .ok (.iload_n 3, 1) := by decide +kernel
theorem dX4_chance_9 : decode cX4_chance 9 = .ok (.if_icmp .ge 31, 3) := by decide +kernel
theorem dX4_chance_12 : decode cX4_chance 12 = .ok (.ldc2_w 96, 3) := by decide +kernel
theorem dX4_chance_15 : decode cX4_chance 15 = .ok (.lload 4, 2) := by decide +kernel
theorem dX4_chance_17 : decode cX4_chance 17 = .ok (.lmul, 1) := by decide +kernel
theorem dX4_chance_18 : decode cX4_chance 18 = .ok (.lload_n 1, 1) := by decide +kernel
theorem dX4_chance_19 : decode cX4_chance 19 = .ok (.iload 6, 2) := by decide +kernel
theorem dX4_chance_21 : decode cX4_chance 21 = .ok (.invokestatic 75, 3) := by decide +kernel
theorem dX4_chance_24 : decode cX4_chance 24 = .ok (.i2l, 1) := by decide +kernel
theorem dX4_chance_25 : decode cX4_chance 25 = .ok (.ladd, 1) := by decide +kernel
theorem dX4_chance_26 : decode cX4_chance 26 = .ok (.lconst 1, 1) := by decide +kernel
theorem dX4_chance_27 : decode cX4_chance 27 = .ok (.ladd, 1) := by decide +kernel
theorem dX4_chance_28 : decode cX4_chance 28 = .ok (.ldc2_w 98, 3) := by decide +kernel
theorem dX4_chance_31 : decode cX4_chance 31 = .ok (.lrem, 1) := by decide +kernel
theorem dX4_chance_32 : decode cX4_chance 32 = .ok (.lstore 4, 2) := by decide +kernel
theorem dX4_chance_34 : decode cX4_chance 34 = .ok (.iinc 6 1, 3) := by decide +kernel
theorem dX4_chance_37 : decode cX4_chance 37 = .ok (.goto (-31), 3) := by decide +kernel
theorem dX4_chance_40 : decode cX4_chance 40 = .ok (.ldc2_w 96, 3) := by decide +kernel
theorem dX4_chance_43 : decode cX4_chance 43 = .ok (.lload 4, 2) := by decide +kernel
theorem dX4_chance_45 : decode cX4_chance 45 = .ok (.lmul, 1) := by decide +kernel
theorem dX4_chance_46 : decode cX4_chance 46 = .ok (.iload_n 0, 1) := by decide +kernel
theorem dX4_chance_47 : decode cX4_chance 47 = .ok (.i2l, 1) := by decide +kernel
theorem dX4_chance_48 : decode cX4_chance 48 = .ok (.ladd, 1) := by decide +kernel
theorem dX4_chance_49 : decode cX4_chance 49 = .ok (.lconst 1, 1) := by decide +kernel
theorem dX4_chance_50 : decode cX4_chance 50 = .ok (.ladd, 1) := by decide +kernel
theorem dX4_chance_51 : decode cX4_chance 51 = .ok (.ldc2_w 98, 3) := by decide +kernel
theorem dX4_chance_54 : decode cX4_chance 54 = .ok (.lrem, 1) := by decide +kernel
theorem dX4_chance_55 : decode cX4_chance 55 = .ok (.l2i, 1) := by decide +kernel
theorem dX4_chance_56 : decode cX4_chance 56 = .ok (.ireturn, 1) := by decide +kernel
theorem dJ9_floorMod_7cf53_0 : decode cJ9_floorMod_7cf53 0 = .ok (.iload_n 0, 1) := by decide +kernel
theorem dJ9_floorMod_7cf53_1 : decode cJ9_floorMod_7cf53 1 = .ok (.iload_n 1, 1) := by decide +kernel
theorem dJ9_floorMod_7cf53_2 : decode cJ9_floorMod_7cf53 2 = .ok (.irem, 1) := by decide +kernel
theorem dJ9_floorMod_7cf53_3 : decode cJ9_floorMod_7cf53 3 = .ok (.istore_n 2, 1) := by decide +kernel
theorem dJ9_floorMod_7cf53_4 : decode cJ9_floorMod_7cf53 4 = .ok (.iload_n 0, 1) := by decide +kernel
theorem dJ9_floorMod_7cf53_5 : decode cJ9_floorMod_7cf53 5 = .ok (.iload_n 1, 1) := by decide +kernel
theorem dJ9_floorMod_7cf53_6 : decode cJ9_floorMod_7cf53 6 = .ok (.ixor, 1) := by decide +kernel
theorem dJ9_floorMod_7cf53_7 : decode cJ9_floorMod_7cf53 7 = .ok (.ifCond .ge 11, 3) := by decide +kernel
theorem dJ9_floorMod_7cf53_10 : decode cJ9_floorMod_7cf53 10 = .ok (.iload_n 2, 1) := by decide +kernel
theorem dJ9_floorMod_7cf53_11 : decode cJ9_floorMod_7cf53 11 = .ok (.ifCond .eq 7, 3) := by decide +kernel
theorem dJ9_floorMod_7cf53_14 : decode cJ9_floorMod_7cf53 14 = .ok (.iload_n 2, 1) := by decide +kernel
theorem dJ9_floorMod_7cf53_15 : decode cJ9_floorMod_7cf53 15 = .ok (.iload_n 1, 1) := by decide +kernel
theorem dJ9_floorMod_7cf53_16 : decode cJ9_floorMod_7cf53 16 = .ok (.iadd, 1) := by decide +kernel
theorem dJ9_floorMod_7cf53_17 : decode cJ9_floorMod_7cf53 17 = .ok (.ireturn, 1) := by decide +kernel
theorem dJ9_floorMod_7cf53_18 : decode cJ9_floorMod_7cf53 18 = .ok (.iload_n 2, 1) := by decide +kernel
theorem dJ9_floorMod_7cf53_19 : decode cJ9_floorMod_7cf53 19 = .ok (.ireturn, 1) := by decide +kernel
theorem dJ7_fill_53178_0 : decode cJ7_fill_53178 0 = .ok (.iconst 0, 1) := by decide +kernel
theorem dJ7_fill_53178_1 : decode cJ7_fill_53178 1 = .ok (.istore_n 2, 1) := by decide +kernel
theorem dJ7_fill_53178_2 : decode cJ7_fill_53178 2 = .ok (.aload_n 0, 1) := by decide +kernel
theorem dJ7_fill_53178_3 : decode cJ7_fill_53178 3 = .ok (.arraylength, 1) := by decide +kernel
theorem dJ7_fill_53178_4 : decode cJ7_fill_53178 4 = .ok (.istore_n 3, 1) := by decide +kernel
theorem dJ7_fill_53178_5 : decode cJ7_fill_53178 5 = .ok (.iload_n 2, 1) := by decide +kernel
theorem dJ7_fill_53178_6 : decode cJ7_fill_53178 6 = .ok (.iload_n 3, 1) := by decide +kernel
theorem dJ7_fill_53178_7 : decode cJ7_fill_53178 7 = .ok (.if_icmp .ge 13, 3) := by decide +kernel
theorem dJ7_fill_53178_10 : decode cJ7_fill_53178 10 = .ok (.aload_n 0, 1) := by decide +kernel
theorem dJ7_fill_53178_11 : decode cJ7_fill_53178 11 = .ok (.iload_n 2, 1) := by decide +kernel
theorem dJ7_fill_53178_12 : decode cJ7_fill_53178 12 = .ok (.iload_n 1, 1) := by decide +kernel
theorem dJ7_fill_53178_13 : decode cJ7_fill_53178 13 = .ok (.iastore, 1) := by decide +kernel
theorem dJ7_fill_53178_14 : decode cJ7_fill_53178 14 = .ok (.iinc 2 1, 3) := by decide +kernel
theorem dJ7_fill_53178_17 : decode cJ7_fill_53178 17 = .ok (.goto (-12), 3) := by decide +kernel
theorem dJ7_fill_53178_20 : decode cJ7_fill_53178 20 = .ok (.return_, 1) := by decide +kernel
