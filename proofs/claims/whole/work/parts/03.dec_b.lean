theorem dX9_isWithin_0 : decode cX9_isWithin 0 = .ok (.iload_n 1, 1) := by decide +kernel
theorem dX9_isWithin_1 : decode cX9_isWithin 1 = .ok (.iload_n 0, 1) := by decide +kernel
theorem dX9_isWithin_2 : decode cX9_isWithin 2 = .ok (.if_icmp .gt 12, 3) := by decide +kernel
theorem dX9_isWithin_5 : decode cX9_isWithin 5 = .ok (.iload_n 0, 1) := by decide +kernel
theorem dX9_isWithin_6 : decode cX9_isWithin 6 = .ok (.iload_n 2, 1) := by decide +kernel
theorem dX9_isWithin_7 : decode cX9_isWithin 7 = .ok (.if_icmp .gt 7, 3) := by decide +kernel
theorem dX9_isWithin_10 : decode cX9_isWithin 10 = .ok (.iconst 1, 1) := by decide +kernel
theorem dX9_isWithin_11 : decode cX9_isWithin 11 = .ok (.goto 4, 3) := by decide +kernel
theorem dX9_isWithin_14 : decode cX9_isWithin 14 = .ok (.iconst 0, 1) := by decide +kernel
theorem dX9_isWithin_15 : decode cX9_isWithin 15 = .ok (.ireturn, 1) := by decide +kernel
theorem dX9_isValue_0 : decode cX9_isValue 0 = .ok (.iload_n 0, 1) := by decide +kernel
theorem dX9_isValue_1 : decode cX9_isValue 1 = .ok (.iconst 0, 1) := by decide +kernel
theorem dX9_isValue_2 : decode cX9_isValue 2 = .ok (.bipush 9, 2) := by decide +kernel
theorem dX9_isValue_4 : decode cX9_isValue 4 = .ok (.invokestatic 62, 3) := by decide +kernel
theorem dX9_isValue_7 : decode cX9_isValue 7 = .ok (.ireturn, 1) := by decide +kernel
theorem dX9_isText_0 : decode cX9_isText 0 = .ok (.iload_n 0, 1) := by decide +kernel
theorem dX9_isText_1 : decode cX9_isText 1 = .ok (.iconst 0, 1) := by decide +kernel
theorem dX9_isText_2 : decode cX9_isText 2 = .ok (.bipush 31, 2) := by decide +kernel
theorem dX9_isText_4 : decode cX9_isText 4 = .ok (.invokestatic 62, 3) := by decide +kernel
theorem dX9_isText_7 : decode cX9_isText 7 = .ok (.ireturn, 1) := by decide +kernel
theorem dX9_hasBit_0 : decode cX9_hasBit 0 = .ok (.iload_n 0, 1) := by decide +kernel
theorem dX9_hasBit_1 : decode cX9_hasBit 1 = .ok (.iload_n 1, 1) := by decide +kernel
theorem dX9_hasBit_2 : decode cX9_hasBit 2 = .ok (.iushr, 1) := by decide +kernel
theorem dX9_hasBit_3 : decode cX9_hasBit 3 = .ok (.iconst 1, 1) := by decide +kernel
theorem dX9_hasBit_4 : decode cX9_hasBit 4 = .ok (.iand, 1) := by decide +kernel
theorem dX9_hasBit_5 : decode cX9_hasBit 5 = .ok (.iconst 1, 1) := by decide +kernel
theorem dX9_hasBit_6 : decode cX9_hasBit 6 = .ok (.if_icmp .ne 7, 3) := by decide +kernel
theorem dX9_hasBit_9 : decode cX9_hasBit 9 = .ok (.iconst 1, 1) := by decide +kernel
theorem dX9_hasBit_10 : decode cX9_hasBit 10 = .ok (.goto 4, 3) := by decide +kernel
theorem dX9_hasBit_13 : decode cX9_hasBit 13 = .ok (.iconst 0, 1) := by decide +kernel
theorem dX9_hasBit_14 : decode cX9_hasBit 14 = .ok (.ireturn, 1) := by decide +kernel
theorem dX9_valueIn_0 : decode cX9_valueIn 0 = .ok (.lload_n 0, 1) := by decide +kernel
theorem dX9_valueIn_1 : decode cX9_valueIn 1 = .ok (.iconst 4, 1) := by decide +kernel
theorem dX9_valueIn_2 : decode cX9_valueIn 2 = .ok (.iload_n 2, 1) := by decide +kernel
theorem dX9_valueIn_3 : decode cX9_valueIn 3 = .ok (.imul, 1) := by decide +kernel
theorem dX9_valueIn_4 : decode cX9_valueIn 4 = .ok (.lushr, 1) := by decide +kernel
theorem dX9_valueIn_5 : decode cX9_valueIn 5 = .ok (.ldc2_w 235, 3) := by decide +kernel
theorem dX9_valueIn_8 : decode cX9_valueIn 8 = .ok (.land, 1) := by decide +kernel
theorem dX9_valueIn_9 : decode cX9_valueIn 9 = .ok (.l2i, 1) := by decide +kernel
theorem dX9_valueIn_10 : decode cX9_valueIn 10 = .ok (.ireturn, 1) := by decide +kernel
theorem dX9_withValue_0 : decode cX9_withValue 0 = .ok (.ldc2_w 235, 3) := by decide +kernel
theorem dX9_withValue_3 : decode cX9_withValue 3 = .ok (.iconst 4, 1) := by decide +kernel
theorem dX9_withValue_4 : decode cX9_withValue 4 = .ok (.iload_n 2, 1) := by decide +kernel
theorem dX9_withValue_5 : decode cX9_withValue 5 = .ok (.imul, 1) := by decide +kernel
theorem dX9_withValue_6 : decode cX9_withValue 6 = .ok (.lshl, 1) := by decide +kernel
theorem dX9_withValue_7 : decode cX9_withValue 7 = .ok (.ldc2_w 237, 3) := by decide +kernel
theorem dX9_withValue_10 : decode cX9_withValue 10 = .ok (.lxor, 1) := by decide +kernel
theorem dX9_withValue_11 : decode cX9_withValue 11 = .ok (.lstore 4, 2) := by decide +kernel
theorem dX9_withValue_13 : decode cX9_withValue 13 = .ok (.lload_n 0, 1) := by decide +kernel
theorem dX9_withValue_14 : decode cX9_withValue 14 = .ok (.lload 4, 2) := by decide +kernel
theorem dX9_withValue_16 : decode cX9_withValue 16 = .ok (.land, 1) := by decide +kernel
theorem dX9_withValue_17 : decode cX9_withValue 17 = .ok (.iload_n 3, 1) := by decide +kernel
theorem dX9_withValue_18 : decode cX9_withValue 18 = .ok (.i2l, 1) := by decide +kernel
theorem dX9_withValue_19 : decode cX9_withValue 19 = .ok (.iconst 4, 1) := by decide +kernel
theorem dX9_withValue_20 : decode cX9_withValue 20 = .ok (.iload_n 2, 1) := by decide +kernel
theorem dX9_withValue_21 : decode cX9_withValue 21 = .ok (.imul, 1) := by decide +kernel
theorem dX9_withValue_22 : decode cX9_withValue 22 = .ok (.lshl, 1) := by decide +kernel
theorem dX9_withValue_23 : decode cX9_withValue 23 = .ok (.lor, 1) := by decide +kernel
theorem dX9_withValue_24 : decode cX9_withValue 24 = .ok (.lreturn, 1) := by decide +kernel
theorem dX9_valueAsked_0 : decode cX9_valueAsked 0 = .ok (.iload_n 2, 1) := by decide +kernel
theorem dX9_valueAsked_1 : decode cX9_valueAsked 1 = .ok (.bipush 10, 2) := by decide +kernel
theorem dX9_valueAsked_3 : decode cX9_valueAsked 3 = .ok (.bipush 10, 2) := by decide +kernel
theorem dX9_valueAsked_5 : decode cX9_valueAsked 5 = .ok (.iload_n 3, 1) := by decide +kernel
theorem dX9_valueAsked_6 : decode cX9_valueAsked 6 = .ok (.iadd, 1) := by decide +kernel
theorem dX9_valueAsked_7 : decode cX9_valueAsked 7 = .ok (.iconst 1, 1) := by decide +kernel
theorem dX9_valueAsked_8 : decode cX9_valueAsked 8 = .ok (.isub, 1) := by decide +kernel
theorem dX9_valueAsked_9 : decode cX9_valueAsked 9 = .ok (.invokestatic 62, 3) := by decide +kernel
theorem dX9_valueAsked_12 : decode cX9_valueAsked 12 = .ok (.istore 4, 2) := by decide +kernel
theorem dX9_valueAsked_14 : decode cX9_valueAsked 14 = .ok (.iload 4, 2) := by decide +kernel
theorem dX9_valueAsked_16 : decode cX9_valueAsked 16 = .ok (.ifCond .eq 14, 3) := by decide +kernel
theorem dX9_valueAsked_19 : decode cX9_valueAsked 19 = .ok (.lload_n 0, 1) := by decide +kernel
theorem dX9_valueAsked_20 : decode cX9_valueAsked 20 = .ok (.iload_n 2, 1) := by decide +kernel
theorem dX9_valueAsked_21 : decode cX9_valueAsked 21 = .ok (.bipush 10, 2) := by decide +kernel
theorem dX9_valueAsked_23 : decode cX9_valueAsked 23 = .ok (.isub, 1) := by decide +kernel
theorem dX9_valueAsked_24 : decode cX9_valueAsked 24 = .ok (.invokestatic 239, 3) := by decide +kernel
theorem dX9_valueAsked_27 : decode cX9_valueAsked 27 = .ok (.goto 4, 3) := by decide +kernel
theorem dX9_valueAsked_30 : decode cX9_valueAsked 30 = .ok (.iconst (-1), 1) := by decide +kernel
theorem dX9_valueAsked_31 : decode cX9_valueAsked 31 = .ok (.ireturn, 1) := by decide +kernel
