theorem dX0_init_0 : decode cX0_init 0 = .ok (.aload_n 0, 1) := by decide +kernel
theorem dX0_init_1 : decode cX0_init 1 = .ok (.invokespecial 3, 3) := by decide +kernel
theorem dX0_init_4 : decode cX0_init 4 = .ok (.aload_n 0, 1) := by decide +kernel
theorem dX0_init_5 : decode cX0_init 5 = .ok (.bipush 20, 2) := by decide +kernel
theorem dX0_init_7 : decode cX0_init 7 = .ok (.newarray .long, 2) := by decide +kernel
theorem dX0_init_9 : decode cX0_init 9 = .ok (.putfield 9, 3) := by decide +kernel
theorem dX0_init_12 : decode cX0_init 12 = .ok (.aload_n 0, 1) := by decide +kernel
theorem dX0_init_13 : decode cX0_init 13 = .ok (.new 15, 3) := by decide +kernel
theorem dX0_init_16 : decode cX0_init 16 = .ok (.dup, 1) := by decide +kernel
theorem dX0_init_17 : decode cX0_init 17 = .ok (.invokespecial 17, 3) := by decide +kernel
theorem dX0_init_20 : decode cX0_init 20 = .ok (.putfield 18, 3) := by decide +kernel
theorem dX0_init_23 : decode cX0_init 23 = .ok (.return_, 1) := by decide +kernel
theorem dX0_middleRow_0 : decode cX0_middleRow 0 = .ok (.aload_n 0, 1) := by decide +kernel
theorem dX0_middleRow_1 : decode cX0_middleRow 1 = .ok (.getfield 22, 3) := by decide +kernel
theorem dX0_middleRow_4 : decode cX0_middleRow 4 = .ok (.istore_n 3, 1) := by decide +kernel
theorem dX0_middleRow_5 : decode cX0_middleRow 5 = .ok (.iload_n 2, 1) := by decide +kernel
theorem dX0_middleRow_6 : decode cX0_middleRow 6 = .ok (.iconst 1, 1) := by decide +kernel
theorem dX0_middleRow_7 : decode cX0_middleRow 7 = .ok (.if_icmp .le 23, 3) := by decide +kernel
theorem dX0_middleRow_10 : decode cX0_middleRow 10 = .ok (.iload_n 3, 1) := by decide +kernel
theorem dX0_middleRow_11 : decode cX0_middleRow 11 = .ok (.aload_n 0, 1) := by decide +kernel
theorem dX0_middleRow_12 : decode cX0_middleRow 12 = .ok (.getfield 26, 3) := by decide +kernel
theorem dX0_middleRow_15 : decode cX0_middleRow 15 = .ok (.aload_n 0, 1) := by decide +kernel
theorem dX0_middleRow_16 : decode cX0_middleRow 16 = .ok (.getfield 22, 3) := by decide +kernel
theorem dX0_middleRow_19 : decode cX0_middleRow 19 = .ok (.isub, 1) := by decide +kernel
theorem dX0_middleRow_20 : decode cX0_middleRow 20 = .ok (.iload_n 1, 1) := by decide +kernel
theorem dX0_middleRow_21 : decode cX0_middleRow 21 = .ok (.imul, 1) := by decide +kernel
theorem dX0_middleRow_22 : decode cX0_middleRow 22 = .ok (.iload_n 2, 1) := by decide +kernel
theorem dX0_middleRow_23 : decode cX0_middleRow 23 = .ok (.iconst 1, 1) := by decide +kernel
theorem dX0_middleRow_24 : decode cX0_middleRow 24 = .ok (.isub, 1) := by decide +kernel
theorem dX0_middleRow_25 : decode cX0_middleRow 25 = .ok (.invokestatic 29, 3) := by decide +kernel
theorem dX0_middleRow_28 : decode cX0_middleRow 28 = .ok (.iadd, 1) := by decide +kernel
theorem dX0_middleRow_29 : decode cX0_middleRow 29 = .ok (.istore_n 3, 1) := by decide +kernel
theorem dX0_middleRow_30 : decode cX0_middleRow 30 = .ok (.iload_n 3, 1) := by decide +kernel
theorem dX0_middleRow_31 : decode cX0_middleRow 31 = .ok (.bipush 8, 2) := by decide +kernel
theorem dX0_middleRow_33 : decode cX0_middleRow 33 = .ok (.iadd, 1) := by decide +kernel
theorem dX0_middleRow_34 : decode cX0_middleRow 34 = .ok (.bipush 16, 2) := by decide +kernel
theorem dX0_middleRow_36 : decode cX0_middleRow 36 = .ok (.invokestatic 29, 3) := by decide +kernel
theorem dX0_middleRow_39 : decode cX0_middleRow 39 = .ok (.ireturn, 1) := by decide +kernel
theorem dX0_leastRow_0 : decode cX0_leastRow 0 = .ok (.iconst 0, 1) := by decide +kernel
theorem dX0_leastRow_1 : decode cX0_leastRow 1 = .ok (.aload_n 0, 1) := by decide +kernel
theorem dX0_leastRow_2 : decode cX0_leastRow 2 = .ok (.iload_n 1, 1) := by decide +kernel
theorem dX0_leastRow_3 : decode cX0_leastRow 3 = .ok (.aload_n 2, 1) := by decide +kernel
theorem dX0_leastRow_4 : decode cX0_leastRow 4 = .ok (.getfield 35, 3) := by decide +kernel
theorem dX0_leastRow_7 : decode cX0_leastRow 7 = .ok (.invokevirtual 40, 3) := by decide +kernel
theorem dX0_leastRow_10 : decode cX0_leastRow 10 = .ok (.aload_n 0, 1) := by decide +kernel
theorem dX0_leastRow_11 : decode cX0_leastRow 11 = .ok (.getfield 43, 3) := by decide +kernel
theorem dX0_leastRow_14 : decode cX0_leastRow 14 = .ok (.isub, 1) := by decide +kernel
theorem dX0_leastRow_15 : decode cX0_leastRow 15 = .ok (.invokestatic 46, 3) := by decide +kernel
theorem dX0_leastRow_18 : decode cX0_leastRow 18 = .ok (.ireturn, 1) := by decide +kernel
theorem dX0_greatestRow_0 : decode cX0_greatestRow 0 = .ok (.aload_n 2, 1) := by decide +kernel
theorem dX0_greatestRow_1 : decode cX0_greatestRow 1 = .ok (.getfield 49, 3) := by decide +kernel
theorem dX0_greatestRow_4 : decode cX0_greatestRow 4 = .ok (.iconst 1, 1) := by decide +kernel
theorem dX0_greatestRow_5 : decode cX0_greatestRow 5 = .ok (.isub, 1) := by decide +kernel
theorem dX0_greatestRow_6 : decode cX0_greatestRow 6 = .ok (.aload_n 0, 1) := by decide +kernel
theorem dX0_greatestRow_7 : decode cX0_greatestRow 7 = .ok (.iload_n 1, 1) := by decide +kernel
theorem dX0_greatestRow_8 : decode cX0_greatestRow 8 = .ok (.aload_n 2, 1) := by decide +kernel
theorem dX0_greatestRow_9 : decode cX0_greatestRow 9 = .ok (.getfield 35, 3) := by decide +kernel
theorem dX0_greatestRow_12 : decode cX0_greatestRow 12 = .ok (.invokevirtual 40, 3) := by decide +kernel
theorem dX0_greatestRow_15 : decode cX0_greatestRow 15 = .ok (.aload_n 0, 1) := by decide +kernel
theorem dX0_greatestRow_16 : decode cX0_greatestRow 16 = .ok (.getfield 43, 3) := by decide +kernel
theorem dX0_greatestRow_19 : decode cX0_greatestRow 19 = .ok (.iadd, 1) := by decide +kernel
theorem dX0_greatestRow_20 : decode cX0_greatestRow 20 = .ok (.invokestatic 52, 3) := by decide +kernel
theorem dX0_greatestRow_23 : decode cX0_greatestRow 23 = .ok (.ireturn, 1) := by decide +kernel
theorem dX0_has_0 : decode cX0_has 0 = .ok (.iload_n 1, 1) := by decide +kernel
theorem dX0_has_1 : decode cX0_has 1 = .ok (.ifCond .lt 24, 3) := by decide +kernel
theorem dX0_has_4 : decode cX0_has 4 = .ok (.iload_n 1, 1) := by decide +kernel
theorem dX0_has_5 : decode cX0_has 5 = .ok (.aload_n 0, 1) := by decide +kernel
theorem dX0_has_6 : decode cX0_has 6 = .ok (.getfield 55, 3) := by decide +kernel
theorem dX0_has_9 : decode cX0_has 9 = .ok (.if_icmp .ge 16, 3) := by decide +kernel
theorem dX0_has_12 : decode cX0_has 12 = .ok (.iload_n 1, 1) := by decide +kernel
theorem dX0_has_13 : decode cX0_has 13 = .ok (.aload_n 0, 1) := by decide +kernel
theorem dX0_has_14 : decode cX0_has 14 = .ok (.getfield 9, 3) := by decide +kernel
theorem dX0_has_17 : decode cX0_has 17 = .ok (.arraylength, 1) := by decide +kernel
theorem dX0_has_18 : decode cX0_has 18 = .ok (.if_icmp .ge 7, 3) := by decide +kernel
theorem dX0_has_21 : decode cX0_has 21 = .ok (.iconst 1, 1) := by decide +kernel
theorem dX0_has_22 : decode cX0_has 22 = .ok (.goto 4, 3) := by decide +kernel
theorem dX0_has_25 : decode cX0_has 25 = .ok (.iconst 0, 1) := by decide +kernel
theorem dX0_has_26 : decode cX0_has 26 = .ok (.ireturn, 1) := by decide +kernel
theorem dX0_at_0 : decode cX0_at 0 = .ok (.aload_n 0, 1) := by decide +kernel
theorem dX0_at_1 : decode cX0_at 1 = .ok (.iload_n 1, 1) := by decide +kernel
theorem dX0_at_2 : decode cX0_at 2 = .ok (.invokevirtual 58, 3) := by decide +kernel
theorem dX0_at_5 : decode cX0_at 5 = .ok (.ifCond .eq 12, 3) := by decide +kernel
theorem dX0_at_8 : decode cX0_at 8 = .ok (.aload_n 0, 1) := by decide +kernel
theorem dX0_at_9 : decode cX0_at 9 = .ok (.getfield 9, 3) := by decide +kernel
theorem dX0_at_12 : decode cX0_at 12 = .ok (.iload_n 1, 1) := by decide +kernel
theorem dX0_at_13 : decode cX0_at 13 = .ok (.laload, 1) := by decide +kernel
theorem dX0_at_14 : decode cX0_at 14 = .ok (.goto 4, 3) := by decide +kernel
theorem dX0_at_17 : decode cX0_at 17 = .ok (.lconst 0, 1) := by decide +kernel
theorem dX0_at_18 : decode cX0_at 18 = .ok (.lreturn, 1) := by decide +kernel
theorem dX0_isPeak_0 : decode cX0_isPeak 0 = .ok (.aload_n 0, 1) := by decide +kernel
theorem dX0_isPeak_1 : decode cX0_isPeak 1 = .ok (.iload_n 1, 1) := by decide +kernel
theorem dX0_isPeak_2 : decode cX0_isPeak 2 = .ok (.invokevirtual 62, 3) := by decide +kernel
theorem dX0_isPeak_5 : decode cX0_isPeak 5 = .ok (.aload_n 0, 1) := by decide +kernel
theorem dX0_isPeak_6 : decode cX0_isPeak 6 = .ok (.iload_n 1, 1) := by decide +kernel
theorem dX0_isPeak_7 : decode cX0_isPeak 7 = .ok (.iconst 1, 1) := by decide +kernel
theorem dX0_isPeak_8 : decode cX0_isPeak 8 = .ok (.isub, 1) := by decide +kernel
theorem dX0_isPeak_9 : decode cX0_isPeak 9 = .ok (.invokevirtual 62, 3) := by decide +kernel
theorem dX0_isPeak_12 : decode cX0_isPeak 12 = .ok (.lcmp, 1) := by decide +kernel
theorem dX0_isPeak_13 : decode cX0_isPeak 13 = .ok (.ifCond .le 33, 3) := by decide +kernel
theorem dX0_isPeak_16 : decode cX0_isPeak 16 = .ok (.aload_n 0, 1) := by decide +kernel
theorem dX0_isPeak_17 : decode cX0_isPeak 17 = .ok (.iload_n 1, 1) := by decide +kernel
theorem dX0_isPeak_18 : decode cX0_isPeak 18 = .ok (.invokevirtual 62, 3) := by decide +kernel
theorem dX0_isPeak_21 : decode cX0_isPeak 21 = .ok (.aload_n 0, 1) := by decide +kernel
theorem dX0_isPeak_22 : decode cX0_isPeak 22 = .ok (.iload_n 1, 1) := by decide +kernel
theorem dX0_isPeak_23 : decode cX0_isPeak 23 = .ok (.iconst 1, 1) := by decide +kernel
theorem dX0_isPeak_24 : decode cX0_isPeak 24 = .ok (.iadd, 1) := by decide +kernel
theorem dX0_isPeak_25 : decode cX0_isPeak 25 = .ok (.invokevirtual 62, 3) := by decide +kernel
theorem dX0_isPeak_28 : decode cX0_isPeak 28 = .ok (.lcmp, 1) := by decide +kernel
theorem dX0_isPeak_29 : decode cX0_isPeak 29 = .ok (.ifCond .lt 17, 3) := by decide +kernel
theorem dX0_isPeak_32 : decode cX0_isPeak 32 = .ok (.aload_n 0, 1) := by decide +kernel
theorem dX0_isPeak_33 : decode cX0_isPeak 33 = .ok (.iload_n 1, 1) := by decide +kernel
theorem dX0_isPeak_34 : decode cX0_isPeak 34 = .ok (.invokevirtual 62, 3) := by decide +kernel
theorem dX0_isPeak_37 : decode cX0_isPeak 37 = .ok (.lload_n 2, 1) := by decide +kernel
theorem dX0_isPeak_38 : decode cX0_isPeak 38 = .ok (.lcmp, 1) := by decide +kernel
theorem dX0_isPeak_39 : decode cX0_isPeak 39 = .ok (.ifCond .lt 7, 3) := by decide +kernel
theorem dX0_isPeak_42 : decode cX0_isPeak 42 = .ok (.iconst 1, 1) := by decide +kernel
theorem dX0_isPeak_43 : decode cX0_isPeak 43 = .ok (.goto 4, 3) := by decide +kernel
theorem dX0_isPeak_46 : decode cX0_isPeak 46 = .ok (.iconst 0, 1) := by decide +kernel
theorem dX0_isPeak_47 : decode cX0_isPeak 47 = .ok (.ireturn, 1) := by decide +kernel
theorem dX0_placeOfPeak_0 : decode cX0_placeOfPeak 0 = .ok (.aload_n 0, 1) := by decide +kernel
theorem dX0_placeOfPeak_1 : decode cX0_placeOfPeak 1 = .ok (.iload_n 1, 1) := by decide +kernel
theorem dX0_placeOfPeak_2 : decode cX0_placeOfPeak 2 = .ok (.iconst 1, 1) := by decide +kernel
theorem dX0_placeOfPeak_3 : decode cX0_placeOfPeak 3 = .ok (.isub, 1) := by decide +kernel
theorem dX0_placeOfPeak_4 : decode cX0_placeOfPeak 4 = .ok (.invokevirtual 62, 3) := by decide +kernel
theorem dX0_placeOfPeak_7 : decode cX0_placeOfPeak 7 = .ok (.aload_n 0, 1) := by decide +kernel
theorem dX0_placeOfPeak_8 : decode cX0_placeOfPeak 8 = .ok (.iload_n 1, 1) := by decide +kernel
theorem dX0_placeOfPeak_9 : decode cX0_placeOfPeak 9 = .ok (.invokevirtual 62, 3) := by decide +kernel
theorem dX0_placeOfPeak_12 : decode cX0_placeOfPeak 12 = .ok (.ladd, 1) := by decide +kernel
theorem dX0_placeOfPeak_13 : decode cX0_placeOfPeak 13 = .ok (.aload_n 0, 1) := by decide +kernel
theorem dX0_placeOfPeak_14 : decode cX0_placeOfPeak 14 = .ok (.iload_n 1, 1) := by decide +kernel
theorem dX0_placeOfPeak_15 : decode cX0_placeOfPeak 15 = .ok (.iconst 1, 1) := by decide +kernel
theorem dX0_placeOfPeak_16 : decode cX0_placeOfPeak 16 = .ok (.iadd, 1) := by decide +kernel
theorem dX0_placeOfPeak_17 : decode cX0_placeOfPeak 17 = .ok (.invokevirtual 62, 3) := by decide +kernel
theorem dX0_placeOfPeak_20 : decode cX0_placeOfPeak 20 = .ok (.ladd, 1) := by decide +kernel
theorem dX0_placeOfPeak_21 : decode cX0_placeOfPeak 21 = .ok (.lstore_n 2, 1) := by decide +kernel
theorem dX0_placeOfPeak_22 : decode cX0_placeOfPeak 22 = .ok (.lload_n 2, 1) := by decide +kernel
theorem dX0_placeOfPeak_23 : decode cX0_placeOfPeak 23 = .ok (.lconst 0, 1) := by decide +kernel
theorem dX0_placeOfPeak_24 : decode cX0_placeOfPeak 24 = .ok (.lcmp, 1) := by decide +kernel
theorem dX0_placeOfPeak_25 : decode cX0_placeOfPeak 25 = .ok (.ifCond .gt 8, 3) := by decide +kernel
theorem dX0_placeOfPeak_28 : decode cX0_placeOfPeak 28 = .ok (.bipush 64, 2) := by decide +kernel
theorem dX0_placeOfPeak_30 : decode cX0_placeOfPeak 30 = .ok (.iload_n 1, 1) := by decide +kernel
theorem dX0_placeOfPeak_31 : decode cX0_placeOfPeak 31 = .ok (.imul, 1) := by decide +kernel
theorem dX0_placeOfPeak_32 : decode cX0_placeOfPeak 32 = .ok (.ireturn, 1) := by decide +kernel
theorem dX0_placeOfPeak_33 : decode cX0_placeOfPeak 33 = .ok (.bipush 64, 2) := by decide +kernel
theorem dX0_placeOfPeak_35 : decode cX0_placeOfPeak 35 = .ok (.iload_n 1, 1) := by decide +kernel
theorem dX0_placeOfPeak_36 : decode cX0_placeOfPeak 36 = .ok (.imul, 1) := by decide +kernel
theorem dX0_placeOfPeak_37 : decode cX0_placeOfPeak 37 = .ok (.i2l, 1) := by decide +kernel
theorem dX0_placeOfPeak_38 : decode cX0_placeOfPeak 38 = .ok (.ldc2_w 66, 3) := by decide +kernel
theorem dX0_placeOfPeak_41 : decode cX0_placeOfPeak 41 = .ok (.aload_n 0, 1) := by decide +kernel
theorem dX0_placeOfPeak_42 : decode cX0_placeOfPeak 42 = .ok (.iload_n 1, 1) := by decide +kernel
theorem dX0_placeOfPeak_43 : decode cX0_placeOfPeak 43 = .ok (.iconst 1, 1) := by decide +kernel
theorem dX0_placeOfPeak_44 : decode cX0_placeOfPeak 44 = .ok (.iadd, 1) := by decide +kernel
theorem dX0_placeOfPeak_45 : decode cX0_placeOfPeak 45 = .ok (.invokevirtual 62, 3) := by decide +kernel
theorem dX0_placeOfPeak_48 : decode cX0_placeOfPeak 48 = .ok (.aload_n 0, 1) := by decide +kernel
theorem dX0_placeOfPeak_49 : decode cX0_placeOfPeak 49 = .ok (.iload_n 1, 1) := by decide +kernel
theorem dX0_placeOfPeak_50 : decode cX0_placeOfPeak 50 = .ok (.iconst 1, 1) := by decide +kernel
theorem dX0_placeOfPeak_51 : decode cX0_placeOfPeak 51 = .ok (.isub, 1) := by decide +kernel
theorem dX0_placeOfPeak_52 : decode cX0_placeOfPeak 52 = .ok (.invokevirtual 62, 3) := by decide +kernel
theorem dX0_placeOfPeak_55 : decode cX0_placeOfPeak 55 = .ok (.lsub, 1) := by decide +kernel
theorem dX0_placeOfPeak_56 : decode cX0_placeOfPeak 56 = .ok (.lmul, 1) := by decide +kernel
theorem dX0_placeOfPeak_57 : decode cX0_placeOfPeak 57 = .ok (.lload_n 2, 1) := by decide +kernel
theorem dX0_placeOfPeak_58 : decode cX0_placeOfPeak 58 = .ok (.invokestatic 68, 3) := by decide +kernel
theorem dX0_placeOfPeak_61 : decode cX0_placeOfPeak 61 = .ok (.ladd, 1) := by decide +kernel
theorem dX0_placeOfPeak_62 : decode cX0_placeOfPeak 62 = .ok (.l2i, 1) := by decide +kernel
theorem dX0_placeOfPeak_63 : decode cX0_placeOfPeak 63 = .ok (.ireturn, 1) := by decide +kernel
theorem dX1_init_0 : decode cX1_init 0 = .ok (.aload_n 0, 1) := by decide +kernel
theorem dX1_init_1 : decode cX1_init 1 = .ok (.invokespecial 1, 3) := by decide +kernel
theorem dX1_init_4 : decode cX1_init 4 = .ok (.return_, 1) := by decide +kernel
theorem dX1_become_0 : decode cX1_become 0 = .ok (.aload_n 0, 1) := by decide +kernel
theorem dX1_become_1 : decode cX1_become 1 = .ok (.iconst 1, 1) := by decide +kernel
theorem dX1_become_2 : decode cX1_become 2 = .ok (.putfield 7, 3) := by decide +kernel
theorem dX1_become_5 : decode cX1_become 5 = .ok (.aload_n 0, 1) := by decide +kernel
theorem dX1_become_6 : decode cX1_become 6 = .ok (.iload_n 1, 1) := by decide +kernel
theorem dX1_become_7 : decode cX1_become 7 = .ok (.putfield 13, 3) := by decide +kernel
theorem dX1_become_10 : decode cX1_become 10 = .ok (.aload_n 0, 1) := by decide +kernel
theorem dX1_become_11 : decode cX1_become 11 = .ok (.iload_n 2, 1) := by decide +kernel
theorem dX1_become_12 : decode cX1_become 12 = .ok (.putfield 17, 3) := by decide +kernel
theorem dX1_become_15 : decode cX1_become 15 = .ok (.aload_n 0, 1) := by decide +kernel
theorem dX1_become_16 : decode cX1_become 16 = .ok (.iload_n 3, 1) := by decide +kernel
theorem dX1_become_17 : decode cX1_become 17 = .ok (.putfield 20, 3) := by decide +kernel
theorem dX1_become_20 : decode cX1_become 20 = .ok (.return_, 1) := by decide +kernel
theorem dX1_drop_0 : decode cX1_drop 0 = .ok (.aload_n 0, 1) := by decide +kernel
theorem dX1_drop_1 : decode cX1_drop 1 = .ok (.iconst 0, 1) := by decide +kernel
theorem dX1_drop_2 : decode cX1_drop 2 = .ok (.putfield 7, 3) := by decide +kernel
theorem dX1_drop_5 : decode cX1_drop 5 = .ok (.aload_n 0, 1) := by decide +kernel
theorem dX1_drop_6 : decode cX1_drop 6 = .ok (.iconst 0, 1) := by decide +kernel
theorem dX1_drop_7 : decode cX1_drop 7 = .ok (.putfield 13, 3) := by decide +kernel
theorem dX1_drop_10 : decode cX1_drop 10 = .ok (.aload_n 0, 1) := by decide +kernel
theorem dX1_drop_11 : decode cX1_drop 11 = .ok (.iconst 0, 1) := by decide +kernel
theorem dX1_drop_12 : decode cX1_drop 12 = .ok (.putfield 17, 3) := by decide +kernel
theorem dX1_drop_15 : decode cX1_drop 15 = .ok (.aload_n 0, 1) := by decide +kernel
theorem dX1_drop_16 : decode cX1_drop 16 = .ok (.iconst 0, 1) := by decide +kernel
theorem dX1_drop_17 : decode cX1_drop 17 = .ok (.putfield 20, 3) := by decide +kernel
theorem dX1_drop_20 : decode cX1_drop 20 = .ok (.return_, 1) := by decide +kernel
theorem dX1_losesTo_0 : decode cX1_losesTo 0 = .ok (.aload_n 0, 1) := by decide +kernel
theorem dX1_losesTo_1 : decode cX1_losesTo 1 = .ok (.getfield 7, 3) := by decide +kernel
theorem dX1_losesTo_4 : decode cX1_losesTo 4 = .ok (.ifCond .eq 11, 3) := by decide +kernel
theorem dX1_losesTo_7 : decode cX1_losesTo 7 = .ok (.iload_n 3, 1) := by decide +kernel
theorem dX1_losesTo_8 : decode cX1_losesTo 8 = .ok (.aload_n 0, 1) := by decide +kernel
theorem dX1_losesTo_9 : decode cX1_losesTo 9 = .ok (.getfield 20, 3) := by decide +kernel
theorem dX1_losesTo_12 : decode cX1_losesTo 12 = .ok (.if_icmp .eq 24, 3) := by decide +kernel
theorem dX1_losesTo_15 : decode cX1_losesTo 15 = .ok (.aload_n 0, 1) := by decide +kernel
theorem dX1_losesTo_16 : decode cX1_losesTo 16 = .ok (.getfield 7, 3) := by decide +kernel
theorem dX1_losesTo_19 : decode cX1_losesTo 19 = .ok (.ifCond .eq 11, 3) := by decide +kernel
theorem dX1_losesTo_22 : decode cX1_losesTo 22 = .ok (.iload_n 3, 1) := by decide +kernel
theorem dX1_losesTo_23 : decode cX1_losesTo 23 = .ok (.aload_n 0, 1) := by decide +kernel
theorem dX1_losesTo_24 : decode cX1_losesTo 24 = .ok (.getfield 20, 3) := by decide +kernel
theorem dX1_losesTo_27 : decode cX1_losesTo 27 = .ok (.if_icmp .le 7, 3) := by decide +kernel
theorem dX1_losesTo_30 : decode cX1_losesTo 30 = .ok (.iconst 1, 1) := by decide +kernel
theorem dX1_losesTo_31 : decode cX1_losesTo 31 = .ok (.goto 4, 3) := by decide +kernel
theorem dX1_losesTo_34 : decode cX1_losesTo 34 = .ok (.iconst 0, 1) := by decide +kernel
theorem dX1_losesTo_35 : decode cX1_losesTo 35 = .ok (.ireturn, 1) := by decide +kernel
theorem dX1_losesTo_36 : decode cX1_losesTo 36 = .ok (.iload_n 2, 1) := by decide +kernel
theorem dX1_losesTo_37 : decode cX1_losesTo 37 = .ok (.aload_n 0, 1) := by decide +kernel
theorem dX1_losesTo_38 : decode cX1_losesTo 38 = .ok (.getfield 17, 3) := by decide +kernel
theorem dX1_losesTo_41 : decode cX1_losesTo 41 = .ok (.if_icmp .lt 19, 3) := by decide +kernel
theorem dX1_losesTo_44 : decode cX1_losesTo 44 = .ok (.iload_n 2, 1) := by decide +kernel
theorem dX1_losesTo_45 : decode cX1_losesTo 45 = .ok (.aload_n 0, 1) := by decide +kernel
theorem dX1_losesTo_46 : decode cX1_losesTo 46 = .ok (.getfield 17, 3) := by decide +kernel
theorem dX1_losesTo_49 : decode cX1_losesTo 49 = .ok (.if_icmp .ne 15, 3) := by decide +kernel
theorem dX1_losesTo_52 : decode cX1_losesTo 52 = .ok (.iload_n 1, 1) := by decide +kernel
theorem dX1_losesTo_53 : decode cX1_losesTo 53 = .ok (.aload_n 0, 1) := by decide +kernel
theorem dX1_losesTo_54 : decode cX1_losesTo 54 = .ok (.getfield 13, 3) := by decide +kernel
theorem dX1_losesTo_57 : decode cX1_losesTo 57 = .ok (.if_icmp .ge 7, 3) := by decide +kernel
theorem dX1_losesTo_60 : decode cX1_losesTo 60 = .ok (.iconst 1, 1) := by decide +kernel
theorem dX1_losesTo_61 : decode cX1_losesTo 61 = .ok (.goto 4, 3) := by decide +kernel
theorem dX1_losesTo_64 : decode cX1_losesTo 64 = .ok (.iconst 0, 1) := by decide +kernel
theorem dX1_losesTo_65 : decode cX1_losesTo 65 = .ok (.ireturn, 1) := by decide +kernel
theorem dX2_init_0 : decode cX2_init 0 = .ok (.aload_n 0, 1) := by decide +kernel
theorem dX2_init_1 : decode cX2_init 1 = .ok (.invokespecial 3, 3) := by decide +kernel
theorem dX2_init_4 : decode cX2_init 4 = .ok (.aload_n 0, 1) := by decide +kernel
theorem dX2_init_5 : decode cX2_init 5 = .ok (.iconst 1, 1) := by decide +kernel
theorem dX2_init_6 : decode cX2_init 6 = .ok (.putfield 9, 3) := by decide +kernel
theorem dX2_init_9 : decode cX2_init 9 = .ok (.aload_n 0, 1) := by decide +kernel
theorem dX2_init_10 : decode cX2_init 10 = .ok (.sipush 400, 3) := by decide +kernel
theorem dX2_init_13 : decode cX2_init 13 = .ok (.newarray .int, 2) := by decide +kernel
theorem dX2_init_15 : decode cX2_init 15 = .ok (.putfield 15, 3) := by decide +kernel
theorem dX2_init_18 : decode cX2_init 18 = .ok (.return_, 1) := by decide +kernel
theorem dX2_renew_0 : decode cX2_renew 0 = .ok (.aload_n 0, 1) := by decide +kernel
theorem dX2_renew_1 : decode cX2_renew 1 = .ok (.iconst 0, 1) := by decide +kernel
theorem dX2_renew_2 : decode cX2_renew 2 = .ok (.putfield 9, 3) := by decide +kernel
theorem dX2_renew_5 : decode cX2_renew 5 = .ok (.aload_n 0, 1) := by decide +kernel
theorem dX2_renew_6 : decode cX2_renew 6 = .ok (.iload_n 1, 1) := by decide +kernel
theorem dX2_renew_7 : decode cX2_renew 7 = .ok (.putfield 19, 3) := by decide +kernel
theorem dX2_renew_10 : decode cX2_renew 10 = .ok (.aload_n 0, 1) := by decide +kernel
theorem dX2_renew_11 : decode cX2_renew 11 = .ok (.iload_n 2, 1) := by decide +kernel
theorem dX2_renew_12 : decode cX2_renew 12 = .ok (.putfield 23, 3) := by decide +kernel
theorem dX2_renew_15 : decode cX2_renew 15 = .ok (.aload_n 0, 1) := by decide +kernel
theorem dX2_renew_16 : decode cX2_renew 16 = .ok (.iload_n 3, 1) := by decide +kernel
theorem dX2_renew_17 : decode cX2_renew 17 = .ok (.putfield 26, 3) := by decide +kernel
theorem dX2_renew_20 : decode cX2_renew 20 = .ok (.aload_n 0, 1) := by decide +kernel
theorem dX2_renew_21 : decode cX2_renew 21 = .ok (.getfield 15, 3) := by decide +kernel
theorem dX2_renew_24 : decode cX2_renew 24 = .ok (.iconst 0, 1) := by decide +kernel
theorem dX2_renew_25 : decode cX2_renew 25 = .ok (.invokestatic 29, 3) := by decide +kernel
theorem dX2_renew_28 : decode cX2_renew 28 = .ok (.return_, 1) := by decide +kernel
theorem dX2_holds_0 : decode cX2_holds 0 = .ok (.iload_n 1, 1) := by decide +kernel
theorem dX2_holds_1 : decode cX2_holds 1 = .ok (.ifCond .lt 27, 3) := by decide +kernel
theorem dX2_holds_4 : decode cX2_holds 4 = .ok (.iload_n 1, 1) := by decide +kernel
theorem dX2_holds_5 : decode cX2_holds 5 = .ok (.aload_n 0, 1) := by decide +kernel
theorem dX2_holds_6 : decode cX2_holds 6 = .ok (.getfield 23, 3) := by decide +kernel
theorem dX2_holds_9 : decode cX2_holds 9 = .ok (.if_icmp .ge 19, 3) := by decide +kernel
theorem dX2_holds_12 : decode cX2_holds 12 = .ok (.iload_n 2, 1) := by decide +kernel
theorem dX2_holds_13 : decode cX2_holds 13 = .ok (.ifCond .lt 15, 3) := by decide +kernel
theorem dX2_holds_16 : decode cX2_holds 16 = .ok (.iload_n 2, 1) := by decide +kernel
theorem dX2_holds_17 : decode cX2_holds 17 = .ok (.aload_n 0, 1) := by decide +kernel
theorem dX2_holds_18 : decode cX2_holds 18 = .ok (.getfield 26, 3) := by decide +kernel
theorem dX2_holds_21 : decode cX2_holds 21 = .ok (.if_icmp .ge 7, 3) := by decide +kernel
theorem dX2_holds_24 : decode cX2_holds 24 = .ok (.iconst 1, 1) := by decide +kernel
theorem dX2_holds_25 : decode cX2_holds 25 = .ok (.goto 4, 3) := by decide +kernel
theorem dX2_holds_28 : decode cX2_holds 28 = .ok (.iconst 0, 1) := by decide +kernel
theorem dX2_holds_29 : decode cX2_holds 29 = .ok (.ireturn, 1) := by decide +kernel
theorem dX2_at_0 : decode cX2_at 0 = .ok (.aload_n 0, 1) := by decide +kernel
theorem dX2_at_1 : decode cX2_at 1 = .ok (.iload_n 1, 1) := by decide +kernel
theorem dX2_at_2 : decode cX2_at 2 = .ok (.iload_n 2, 1) := by decide +kernel
theorem dX2_at_3 : decode cX2_at 3 = .ok (.invokevirtual 35, 3) := by decide +kernel
theorem dX2_at_6 : decode cX2_at 6 = .ok (.ifCond .eq 17, 3) := by decide +kernel
theorem dX2_at_9 : decode cX2_at 9 = .ok (.aload_n 0, 1) := by decide +kernel
theorem dX2_at_10 : decode cX2_at 10 = .ok (.getfield 15, 3) := by decide +kernel
theorem dX2_at_13 : decode cX2_at 13 = .ok (.iload_n 2, 1) := by decide +kernel
theorem dX2_at_14 : decode cX2_at 14 = .ok (.bipush 20, 2) := by decide +kernel
theorem dX2_at_16 : decode cX2_at 16 = .ok (.imul, 1) := by decide +kernel
theorem dX2_at_17 : decode cX2_at 17 = .ok (.iload_n 1, 1) := by decide +kernel
theorem dX2_at_18 : decode cX2_at 18 = .ok (.iadd, 1) := by decide +kernel
theorem dX2_at_19 : decode cX2_at 19 = .ok (.iaload, 1) := by decide +kernel
theorem dX2_at_20 : decode cX2_at 20 = .ok (.goto 4, 3) := by decide +kernel
theorem dX2_at_23 : decode cX2_at 23 = .ok (.iconst 0, 1) := by decide +kernel
theorem dX2_at_24 : decode cX2_at 24 = .ok (.ireturn, 1) := by decide +kernel
theorem dX2_set_0 : decode cX2_set 0 = .ok (.aload_n 0, 1) := by decide +kernel
theorem dX2_set_1 : decode cX2_set 1 = .ok (.iload_n 1, 1) := by decide +kernel
theorem dX2_set_2 : decode cX2_set 2 = .ok (.iload_n 2, 1) := by decide +kernel
theorem dX2_set_3 : decode cX2_set 3 = .ok (.invokevirtual 35, 3) := by decide +kernel
theorem dX2_set_6 : decode cX2_set 6 = .ok (.ifCond .eq 22, 3) := by decide +kernel
theorem dX2_set_9 : decode cX2_set 9 = .ok (.aload_n 0, 1) := by decide +kernel
theorem dX2_set_10 : decode cX2_set 10 = .ok (.getfield 15, 3) := by decide +kernel
theorem dX2_set_13 : decode cX2_set 13 = .ok (.iload_n 2, 1) := by decide +kernel
theorem dX2_set_14 : decode cX2_set 14 = .ok (.bipush 20, 2) := by decide +kernel
theorem dX2_set_16 : decode cX2_set 16 = .ok (.imul, 1) := by decide +kernel
theorem dX2_set_17 : decode cX2_set 17 = .ok (.iload_n 1, 1) := by decide +kernel
theorem dX2_set_18 : decode cX2_set 18 = .ok (.iadd, 1) := by decide +kernel
theorem dX2_set_19 : decode cX2_set 19 = .ok (.iload_n 3, 1) := by decide +kernel
theorem dX2_set_20 : decode cX2_set 20 = .ok (.aload_n 0, 1) := by decide +kernel
theorem dX2_set_21 : decode cX2_set 21 = .ok (.getfield 19, 3) := by decide +kernel
theorem dX2_set_24 : decode cX2_set 24 = .ok (.invokestatic 39, 3) := by decide +kernel
theorem dX2_set_27 : decode cX2_set 27 = .ok (.iastore, 1) := by decide +kernel
theorem dX2_set_28 : decode cX2_set 28 = .ok (.return_, 1) := by decide +kernel
theorem dX2_lightAt_0 : decode cX2_lightAt 0 = .ok (.iconst 0, 1) := by decide +kernel
theorem dX2_lightAt_1 : decode cX2_lightAt 1 = .ok (.ldc 43, 2) := by decide +kernel
theorem dX2_lightAt_3 : decode cX2_lightAt 3 = .ok (.aload_n 0, 1) := by decide +kernel
theorem dX2_lightAt_4 : decode cX2_lightAt 4 = .ok (.iload_n 1, 1) := by decide +kernel
theorem dX2_lightAt_5 : decode cX2_lightAt 5 = .ok (.iload_n 2, 1) := by decide +kernel
theorem dX2_lightAt_6 : decode cX2_lightAt 6 = .ok (.invokevirtual 44, 3) := by decide +kernel
theorem dX2_lightAt_9 : decode cX2_lightAt 9 = .ok (.invokestatic 47, 3) := by decide +kernel
theorem dX2_lightAt_12 : decode cX2_lightAt 12 = .ok (.invokestatic 52, 3) := by decide +kernel
theorem dX2_lightAt_15 : decode cX2_lightAt 15 = .ok (.i2l, 1) := by decide +kernel
theorem dX2_lightAt_16 : decode cX2_lightAt 16 = .ok (.lreturn, 1) := by decide +kernel
theorem dX2_alike_0 : decode cX2_alike 0 = .ok (.aload_n 0, 1) := by decide +kernel
theorem dX2_alike_1 : decode cX2_alike 1 = .ok (.getfield 23, 3) := by decide +kernel
theorem dX2_alike_4 : decode cX2_alike 4 = .ok (.aload_n 1, 1) := by decide +kernel
theorem dX2_alike_5 : decode cX2_alike 5 = .ok (.getfield 23, 3) := by decide +kernel
theorem dX2_alike_8 : decode cX2_alike 8 = .ok (.if_icmp .ne 18, 3) := by decide +kernel
theorem dX2_alike_11 : decode cX2_alike 11 = .ok (.aload_n 0, 1) := by decide +kernel
theorem dX2_alike_12 : decode cX2_alike 12 = .ok (.getfield 26, 3) := by decide +kernel
theorem dX2_alike_15 : decode cX2_alike 15 = .ok (.aload_n 1, 1) := by decide +kernel
theorem dX2_alike_16 : decode cX2_alike 16 = .ok (.getfield 26, 3) := by decide +kernel
theorem dX2_alike_19 : decode cX2_alike 19 = .ok (.if_icmp .ne 7, 3) := by decide +kernel
theorem dX2_alike_22 : decode cX2_alike 22 = .ok (.iconst 1, 1) := by decide +kernel
theorem dX2_alike_23 : decode cX2_alike 23 = .ok (.goto 4, 3) := by decide +kernel
theorem dX2_alike_26 : decode cX2_alike 26 = .ok (.iconst 0, 1) := by decide +kernel
theorem dX2_alike_27 : decode cX2_alike 27 = .ok (.ireturn, 1) := by decide +kernel
theorem dX3_init_0 : decode cX3_init 0 = .ok (.aload_n 0, 1) := by decide +kernel
theorem dX3_init_1 : decode cX3_init 1 = .ok (.invokespecial 1, 3) := by decide +kernel
theorem dX3_init_4 : decode cX3_init 4 = .ok (.return_, 1) := by decide +kernel
theorem dX3_empty_0 : decode cX3_empty 0 = .ok (.aload_n 0, 1) := by decide +kernel
theorem dX3_empty_1 : decode cX3_empty 1 = .ok (.iconst 0, 1) := by decide +kernel
theorem dX3_empty_2 : decode cX3_empty 2 = .ok (.putfield 7, 3) := by decide +kernel
theorem dX3_empty_5 : decode cX3_empty 5 = .ok (.aload_n 0, 1) := by decide +kernel
theorem dX3_empty_6 : decode cX3_empty 6 = .ok (.lconst 0, 1) := by decide +kernel
theorem dX3_empty_7 : decode cX3_empty 7 = .ok (.putfield 13, 3) := by decide +kernel
theorem dX3_empty_10 : decode cX3_empty 10 = .ok (.aload_n 0, 1) := by decide +kernel
theorem dX3_empty_11 : decode cX3_empty 11 = .ok (.lconst 0, 1) := by decide +kernel
theorem dX3_empty_12 : decode cX3_empty 12 = .ok (.putfield 17, 3) := by decide +kernel
theorem dX3_empty_15 : decode cX3_empty 15 = .ok (.aload_n 0, 1) := by decide +kernel
theorem dX3_empty_16 : decode cX3_empty 16 = .ok (.lconst 0, 1) := by decide +kernel
theorem dX3_empty_17 : decode cX3_empty 17 = .ok (.putfield 20, 3) := by decide +kernel
theorem dX3_empty_20 : decode cX3_empty 20 = .ok (.aload_n 0, 1) := by decide +kernel
theorem dX3_empty_21 : decode cX3_empty 21 = .ok (.lconst 0, 1) := by decide +kernel
theorem dX3_empty_22 : decode cX3_empty 22 = .ok (.putfield 23, 3) := by decide +kernel
theorem dX3_empty_25 : decode cX3_empty 25 = .ok (.return_, 1) := by decide +kernel
theorem dX3_take_0 : decode cX3_take 0 = .ok (.aload_n 0, 1) := by decide +kernel
theorem dX3_take_1 : decode cX3_take 1 = .ok (.dup, 1) := by decide +kernel
theorem dX3_take_2 : decode cX3_take 2 = .ok (.getfield 7, 3) := by decide +kernel
theorem dX3_take_5 : decode cX3_take 5 = .ok (.iconst 1, 1) := by decide +kernel
theorem dX3_take_6 : decode cX3_take 6 = .ok (.iadd, 1) := by decide +kernel
theorem dX3_take_7 : decode cX3_take 7 = .ok (.putfield 7, 3) := by decide +kernel
theorem dX3_take_10 : decode cX3_take 10 = .ok (.aload_n 0, 1) := by decide +kernel
theorem dX3_take_11 : decode cX3_take 11 = .ok (.dup, 1) := by decide +kernel
theorem dX3_take_12 : decode cX3_take 12 = .ok (.getfield 13, 3) := by decide +kernel
theorem dX3_take_15 : decode cX3_take 15 = .ok (.lload_n 1, 1) := by decide +kernel
theorem dX3_take_16 : decode cX3_take 16 = .ok (.ladd, 1) := by decide +kernel
theorem dX3_take_17 : decode cX3_take 17 = .ok (.putfield 13, 3) := by decide +kernel
theorem dX3_take_20 : decode cX3_take 20 = .ok (.aload_n 0, 1) := by decide +kernel
theorem dX3_take_21 : decode cX3_take 21 = .ok (.dup, 1) := by decide +kernel
theorem dX3_take_22 : decode cX3_take 22 = .ok (.getfield 17, 3) := by decide +kernel
theorem dX3_take_25 : decode cX3_take 25 = .ok (.lload_n 3, 1) := by decide +kernel
theorem dX3_take_26 : decode cX3_take 26 = .ok (.ladd, 1) := by decide +kernel
theorem dX3_take_27 : decode cX3_take 27 = .ok (.putfield 17, 3) := by decide +kernel
theorem dX3_take_30 : decode cX3_take 30 = .ok (.aload_n 0, 1) := by decide +kernel
theorem dX3_take_31 : decode cX3_take 31 = .ok (.dup, 1) := by decide +kernel
theorem dX3_take_32 : decode cX3_take 32 = .ok (.getfield 20, 3) := by decide +kernel
theorem dX3_take_35 : decode cX3_take 35 = .ok (.lload_n 3, 1) := by decide +kernel
theorem dX3_take_36 : decode cX3_take 36 = .ok (.lload_n 3, 1) := by decide +kernel
theorem dX3_take_37 : decode cX3_take 37 = .ok (.lmul, 1) := by decide +kernel
theorem dX3_take_38 : decode cX3_take 38 = .ok (.ladd, 1) := by decide +kernel
theorem dX3_take_39 : decode cX3_take 39 = .ok (.putfield 20, 3) := by decide +kernel
theorem dX3_take_42 : decode cX3_take 42 = .ok (.aload_n 0, 1) := by decide +kernel
theorem dX3_take_43 : decode cX3_take 43 = .ok (.dup, 1) := by decide +kernel
theorem dX3_take_44 : decode cX3_take 44 = .ok (.getfield 23, 3) := by decide +kernel
theorem dX3_take_47 : decode cX3_take 47 = .ok (.lload_n 3, 1) := by decide +kernel
theorem dX3_take_48 : decode cX3_take 48 = .ok (.lload_n 1, 1) := by decide +kernel
theorem dX3_take_49 : decode cX3_take 49 = .ok (.lmul, 1) := by decide +kernel
theorem dX3_take_50 : decode cX3_take 50 = .ok (.ladd, 1) := by decide +kernel
theorem dX3_take_51 : decode cX3_take 51 = .ok (.putfield 23, 3) := by decide +kernel
theorem dX3_take_54 : decode cX3_take 54 = .ok (.return_, 1) := by decide +kernel
theorem dX3_quotient_0 : decode cX3_quotient 0 = .ok (.aload_n 0, 1) := by decide +kernel
theorem dX3_quotient_1 : decode cX3_quotient 1 = .ok (.getfield 20, 3) := by decide +kernel
theorem dX3_quotient_4 : decode cX3_quotient 4 = .ok (.lconst 0, 1) := by decide +kernel
theorem dX3_quotient_5 : decode cX3_quotient 5 = .ok (.lcmp, 1) := by decide +kernel
theorem dX3_quotient_6 : decode cX3_quotient 6 = .ok (.ifCond .le 22, 3) := by decide +kernel
theorem dX3_quotient_9 : decode cX3_quotient 9 = .ok (.aload_n 0, 1) := by decide +kernel
theorem dX3_quotient_10 : decode cX3_quotient 10 = .ok (.getfield 23, 3) := by decide +kernel
theorem dX3_quotient_13 : decode cX3_quotient 13 = .ok (.aload_n 0, 1) := by decide +kernel
theorem dX3_quotient_14 : decode cX3_quotient 14 = .ok (.getfield 17, 3) := by decide +kernel
theorem dX3_quotient_17 : decode cX3_quotient 17 = .ok (.lmul, 1) := by decide +kernel
theorem dX3_quotient_18 : decode cX3_quotient 18 = .ok (.aload_n 0, 1) := by decide +kernel
theorem dX3_quotient_19 : decode cX3_quotient 19 = .ok (.getfield 20, 3) := by decide +kernel
theorem dX3_quotient_22 : decode cX3_quotient 22 = .ok (.invokestatic 26, 3) := by decide +kernel
theorem dX3_quotient_25 : decode cX3_quotient 25 = .ok (.goto 4, 3) := by decide +kernel
theorem dX3_quotient_28 : decode cX3_quotient 28 = .ok (.lconst 0, 1) := by decide +kernel
theorem dX3_quotient_29 : decode cX3_quotient 29 = .ok (.lreturn, 1) := by decide +kernel
theorem dJ9_floorDiv_7cf53_0 : decode cJ9_floorDiv_7cf53 0 = .ok (.iload_n 0, 1) := by decide +kernel
theorem dJ9_floorDiv_7cf53_1 : decode cJ9_floorDiv_7cf53 1 = .ok (.iload_n 1, 1) := by decide +kernel
theorem dJ9_floorDiv_7cf53_2 : decode cJ9_floorDiv_7cf53 2 = .ok (.idiv, 1) := by decide +kernel
theorem dJ9_floorDiv_7cf53_3 : decode cJ9_floorDiv_7cf53 3 = .ok (.istore_n 2, 1) := by decide +kernel
theorem dJ9_floorDiv_7cf53_4 : decode cJ9_floorDiv_7cf53 4 = .ok (.iload_n 0, 1) := by decide +kernel
theorem dJ9_floorDiv_7cf53_5 : decode cJ9_floorDiv_7cf53 5 = .ok (.iload_n 1, 1) := by decide +kernel
theorem dJ9_floorDiv_7cf53_6 : decode cJ9_floorDiv_7cf53 6 = .ok (.ixor, 1) := by decide +kernel
theorem dJ9_floorDiv_7cf53_7 : decode cJ9_floorDiv_7cf53 7 = .ok (.ifCond .ge 14, 3) := by decide +kernel
theorem dJ9_floorDiv_7cf53_10 : decode cJ9_floorDiv_7cf53 10 = .ok (.iload_n 2, 1) := by decide +kernel
theorem dJ9_floorDiv_7cf53_11 : decode cJ9_floorDiv_7cf53 11 = .ok (.iload_n 1, 1) := by decide +kernel
theorem dJ9_floorDiv_7cf53_12 : decode cJ9_floorDiv_7cf53 12 = .ok (.imul, 1) := by decide +kernel
theorem dJ9_floorDiv_7cf53_13 : decode cJ9_floorDiv_7cf53 13 = .ok (.iload_n 0, 1) := by decide +kernel
theorem dJ9_floorDiv_7cf53_14 : decode cJ9_floorDiv_7cf53 14 = .ok (.if_icmp .eq 7, 3) := by decide +kernel
theorem dJ9_floorDiv_7cf53_17 : decode cJ9_floorDiv_7cf53 17 = .ok (.iload_n 2, 1) := by decide +kernel
theorem dJ9_floorDiv_7cf53_18 : decode cJ9_floorDiv_7cf53 18 = .ok (.iconst 1, 1) := by decide +kernel
theorem dJ9_floorDiv_7cf53_19 : decode cJ9_floorDiv_7cf53 19 = .ok (.isub, 1) := by decide +kernel
theorem dJ9_floorDiv_7cf53_20 : decode cJ9_floorDiv_7cf53 20 = .ok (.ireturn, 1) := by decide +kernel
theorem dJ9_floorDiv_7cf53_21 : decode cJ9_floorDiv_7cf53 21 = .ok (.iload_n 2, 1) := by decide +kernel
theorem dJ9_floorDiv_7cf53_22 : decode cJ9_floorDiv_7cf53 22 = .ok (.ireturn, 1) := by decide +kernel
theorem dJ9_floorDiv_f86c9_0 : decode cJ9_floorDiv_f86c9 0 = .ok (.lload_n 0, 1) := by decide +kernel
theorem dJ9_floorDiv_f86c9_1 : decode cJ9_floorDiv_f86c9 1 = .ok (.lload_n 2, 1) := by decide +kernel
theorem dJ9_floorDiv_f86c9_2 : decode cJ9_floorDiv_f86c9 2 = .ok (.ldiv, 1) := by decide +kernel
theorem dJ9_floorDiv_f86c9_3 : decode cJ9_floorDiv_f86c9 3 = .ok (.lstore 4, 2) := by decide +kernel
theorem dJ9_floorDiv_f86c9_5 : decode cJ9_floorDiv_f86c9 5 = .ok (.lload_n 0, 1) := by decide +kernel
theorem dJ9_floorDiv_f86c9_6 : decode cJ9_floorDiv_f86c9 6 = .ok (.lload_n 2, 1) := by decide +kernel
theorem dJ9_floorDiv_f86c9_7 : decode cJ9_floorDiv_f86c9 7 = .ok (.lxor, 1) := by decide +kernel
theorem dJ9_floorDiv_f86c9_8 : decode cJ9_floorDiv_f86c9 8 = .ok (.lconst 0, 1) := by decide +kernel
theorem dJ9_floorDiv_f86c9_9 : decode cJ9_floorDiv_f86c9 9 = .ok (.lcmp, 1) := by decide +kernel
theorem dJ9_floorDiv_f86c9_10 : decode cJ9_floorDiv_f86c9 10 = .ok (.ifCond .ge 17, 3) := by decide +kernel
theorem dJ9_floorDiv_f86c9_13 : decode cJ9_floorDiv_f86c9 13 = .ok (.lload 4, 2) := by decide +kernel
theorem dJ9_floorDiv_f86c9_15 : decode cJ9_floorDiv_f86c9 15 = .ok (.lload_n 2, 1) := by decide +kernel
theorem dJ9_floorDiv_f86c9_16 : decode cJ9_floorDiv_f86c9 16 = .ok (.lmul, 1) := by decide +kernel
theorem dJ9_floorDiv_f86c9_17 : decode cJ9_floorDiv_f86c9 17 = .ok (.lload_n 0, 1) := by decide +kernel
theorem dJ9_floorDiv_f86c9_18 : decode cJ9_floorDiv_f86c9 18 = .ok (.lcmp, 1) := by decide +kernel
theorem dJ9_floorDiv_f86c9_19 : decode cJ9_floorDiv_f86c9 19 = .ok (.ifCond .eq 8, 3) := by decide +kernel
theorem dJ9_floorDiv_f86c9_22 : decode cJ9_floorDiv_f86c9 22 = .ok (.lload 4, 2) := by decide +kernel
theorem dJ9_floorDiv_f86c9_24 : decode cJ9_floorDiv_f86c9 24 = .ok (.lconst 1, 1) := by decide +kernel
theorem dJ9_floorDiv_f86c9_25 : decode cJ9_floorDiv_f86c9 25 = .ok (.lsub, 1) := by decide +kernel
theorem dJ9_floorDiv_f86c9_26 : decode cJ9_floorDiv_f86c9 26 = .ok (.lreturn, 1) := by decide +kernel
theorem dJ9_floorDiv_f86c9_27 : decode cJ9_floorDiv_f86c9 27 = .ok (.lload 4, 2) := by decide +kernel
theorem dJ9_floorDiv_f86c9_29 : decode cJ9_floorDiv_f86c9 29 = .ok (.lreturn, 1) := by decide +kernel
theorem dJ9_abs_067f4_0 : decode cJ9_abs_067f4 0 = .ok (.lload_n 0, 1) := by decide +kernel
theorem dJ9_abs_067f4_1 : decode cJ9_abs_067f4 1 = .ok (.lconst 0, 1) := by decide +kernel
theorem dJ9_abs_067f4_2 : decode cJ9_abs_067f4 2 = .ok (.lcmp, 1) := by decide +kernel
theorem dJ9_abs_067f4_3 : decode cJ9_abs_067f4 3 = .ok (.ifCond .ge 8, 3) := by decide +kernel
theorem dJ9_abs_067f4_6 : decode cJ9_abs_067f4 6 = .ok (.lload_n 0, 1) := by decide +kernel
theorem dJ9_abs_067f4_7 : decode cJ9_abs_067f4 7 = .ok (.lneg, 1) := by decide +kernel
theorem dJ9_abs_067f4_8 : decode cJ9_abs_067f4 8 = .ok (.goto 4, 3) := by decide +kernel
theorem dJ9_abs_067f4_11 : decode cJ9_abs_067f4 11 = .ok (.lload_n 0, 1) := by decide +kernel
theorem dJ9_abs_067f4_12 : decode cJ9_abs_067f4 12 = .ok (.lreturn, 1) := by decide +kernel
theorem dJ9_max_7cf53_0 : decode cJ9_max_7cf53 0 = .ok (.iload_n 0, 1) := by decide +kernel
theorem dJ9_max_7cf53_1 : decode cJ9_max_7cf53 1 = .ok (.iload_n 1, 1) := by decide +kernel
theorem dJ9_max_7cf53_2 : decode cJ9_max_7cf53 2 = .ok (.if_icmp .lt 7, 3) := by decide +kernel
theorem dJ9_max_7cf53_5 : decode cJ9_max_7cf53 5 = .ok (.iload_n 0, 1) := by decide +kernel
theorem dJ9_max_7cf53_6 : decode cJ9_max_7cf53 6 = .ok (.goto 4, 3) := by decide +kernel
theorem dJ9_max_7cf53_9 : decode cJ9_max_7cf53 9 = .ok (.iload_n 1, 1) := by decide +kernel
theorem dJ9_max_7cf53_10 : decode cJ9_max_7cf53 10 = .ok (.ireturn, 1) := by decide +kernel
theorem dJ9_min_7cf53_0 : decode cJ9_min_7cf53 0 = .ok (.iload_n 0, 1) := by decide +kernel
theorem dJ9_min_7cf53_1 : decode cJ9_min_7cf53 1 = .ok (.iload_n 1, 1) := by decide +kernel
theorem dJ9_min_7cf53_2 : decode cJ9_min_7cf53 2 = .ok (.if_icmp .gt 7, 3) := by decide +kernel
theorem dJ9_min_7cf53_5 : decode cJ9_min_7cf53 5 = .ok (.iload_n 0, 1) := by decide +kernel
theorem dJ9_min_7cf53_6 : decode cJ9_min_7cf53 6 = .ok (.goto 4, 3) := by decide +kernel
theorem dJ9_min_7cf53_9 : decode cJ9_min_7cf53 9 = .ok (.iload_n 1, 1) := by decide +kernel
theorem dJ9_min_7cf53_10 : decode cJ9_min_7cf53 10 = .ok (.ireturn, 1) := by decide +kernel
theorem dJ7_fill_53178_0 : decode cJ7_fill_53178 0 = .ok (.iconst 0, 1) := by decide +kernel
theorem dJ7_fill_53178_1 : decode cJ7_fill_53178 1 = .ok (.istore_n 2, 1) := by decide +kernel
theorem dJ7_fill_53178_2 : decode cJ7_fill_53178 2 = .ok (.aload_n 0, 1) := by decide +kernel
theorem dJ7_fill_53178_3 : decode cJ7_fill_53178 3 = .ok (.arraylength, 1) := by decide +kernel
theorem dJ7_fill_53178_4 : decode cJ7_fill_53178 4 = .ok (.istore_n 3, 1) := by decide +kernel
theorem dJ7_fill_53178_5 : decode cJ7_fill_53178 5 = .ok (.iload_n 2, 1) := by decide +kernel
theorem dJ7_fill_53178_6 : decode cJ7_fill_53178 6 = .ok (.iload_n 3, 1) := by decide +kernel
theorem dJ7_fill_53178_7 : decode cJ7_fill_53178 7 = .ok (.if_icmp .ge 13, 3) := by decide +kernel
theorem dJ7_fill_53178_10 : decode cJ7_fill_53178 10 = .ok (.aload_n 0, 1) := by decide +kernel
theorem dJ7_fill_53178_11 : decode cJ7_fill_53178 11 = .ok (.iload_n 2, 1) := by decide +kernel
theorem dJ7_fill_53178_12 : decode cJ7_fill_53178 12 = .ok (.iload_n 1, 1) := by decide +kernel
theorem dJ7_fill_53178_13 : decode cJ7_fill_53178 13 = .ok (.iastore, 1) := by decide +kernel
theorem dJ7_fill_53178_14 : decode cJ7_fill_53178 14 = .ok (.iinc 2 1, 3) := by decide +kernel
theorem dJ7_fill_53178_17 : decode cJ7_fill_53178 17 = .ok (.goto (-12), 3) := by decide +kernel
theorem dJ7_fill_53178_20 : decode cJ7_fill_53178 20 = .ok (.return_, 1) := by decide +kernel
