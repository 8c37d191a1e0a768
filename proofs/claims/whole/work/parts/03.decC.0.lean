theorem dX4_init_0 : decode cX4_init 0 = .ok (.aload_n 0, 1) := by decide +kernel
theorem dX4_init_1 : decode cX4_init 1 = .ok (.invokespecial 1, 3) := by decide +kernel
theorem dX4_init_4 : decode cX4_init 4 = .ok (.aload_n 0, 1) := by decide +kernel
theorem dX4_init_5 : decode cX4_init 5 = .ok (.bipush 6, 2) := by decide +kernel
theorem dX4_init_7 : decode cX4_init 7 = .ok (.anewarray 9, 3) := by decide +kernel
theorem dX4_init_10 : decode cX4_init 10 = .ok (.putfield 11, 3) := by decide +kernel
theorem dX4_init_13 : decode cX4_init 13 = .ok (.aload_n 0, 1) := by decide +kernel
theorem dX4_init_14 : decode cX4_init 14 = .ok (.sipush 400, 3) := by decide +kernel
theorem dX4_init_17 : decode cX4_init 17 = .ok (.newarray .boolean, 2) := by decide +kernel
theorem dX4_init_19 : decode cX4_init 19 = .ok (.putfield 15, 3) := by decide +kernel
theorem dX4_init_22 : decode cX4_init 22 = .ok (.aload_n 0, 1) := by decide +kernel
theorem dX4_init_23 : decode cX4_init 23 = .ok (.iconst 4, 1) := by decide +kernel
theorem dX4_init_24 : decode cX4_init 24 = .ok (.anewarray 19, 3) := by decide +kernel
theorem dX4_init_27 : decode cX4_init 27 = .ok (.putfield 21, 3) := by decide +kernel
theorem dX4_init_30 : decode cX4_init 30 = .ok (.aload_n 0, 1) := by decide +kernel
theorem dX4_init_31 : decode cX4_init 31 = .ok (.bipush 12, 2) := by decide +kernel
theorem dX4_init_33 : decode cX4_init 33 = .ok (.newarray .int, 2) := by decide +kernel
theorem dX4_init_35 : decode cX4_init 35 = .ok (.putfield 25, 3) := by decide +kernel
theorem dX4_init_38 : decode cX4_init 38 = .ok (.aload_n 0, 1) := by decide +kernel
theorem dX4_init_39 : decode cX4_init 39 = .ok (.bipush 60, 2) := by decide +kernel
theorem dX4_init_41 : decode cX4_init 41 = .ok (.newarray .long, 2) := by decide +kernel
theorem dX4_init_43 : decode cX4_init 43 = .ok (.putfield 29, 3) := by decide +kernel
theorem dX4_init_46 : decode cX4_init 46 = .ok (.aload_n 0, 1) := by decide +kernel
theorem dX4_init_47 : decode cX4_init 47 = .ok (.bipush 6, 2) := by decide +kernel
theorem dX4_init_49 : decode cX4_init 49 = .ok (.newarray .int, 2) := by decide +kernel
theorem dX4_init_51 : decode cX4_init 51 = .ok (.putfield 33, 3) := by decide +kernel
theorem dX4_init_54 : decode cX4_init 54 = .ok (.aload_n 0, 1) := by decide +kernel
theorem dX4_init_55 : decode cX4_init 55 = .ok (.bipush 20, 2) := by decide +kernel
theorem dX4_init_57 : decode cX4_init 57 = .ok (.newarray .int, 2) := by decide +kernel
theorem dX4_init_59 : decode cX4_init 59 = .ok (.putfield 36, 3) := by decide +kernel
theorem dX4_init_62 : decode cX4_init 62 = .ok (.aload_n 0, 1) := by decide +kernel
theorem dX4_init_63 : decode cX4_init 63 = .ok (.new 39, 3) := by decide +kernel
theorem dX4_init_66 : decode cX4_init 66 = .ok (.dup, 1) := by decide +kernel
theorem dX4_init_67 : decode cX4_init 67 = .ok (.invokespecial 41, 3) := by decide +kernel
theorem dX4_init_70 : decode cX4_init 70 = .ok (.putfield 42, 3) := by decide +kernel
theorem dX4_init_73 : decode cX4_init 73 = .ok (.aload_n 0, 1) := by decide +kernel
theorem dX4_init_74 : decode cX4_init 74 = .ok (.new 46, 3) := by decide +kernel
theorem dX4_init_77 : decode cX4_init 77 = .ok (.dup, 1) := by decide +kernel
theorem dX4_init_78 : decode cX4_init 78 = .ok (.invokespecial 48, 3) := by decide +kernel
theorem dX4_init_81 : decode cX4_init 81 = .ok (.putfield 49, 3) := by decide +kernel
theorem dX4_init_84 : decode cX4_init 84 = .ok (.iconst 0, 1) := by decide +kernel
theorem dX4_init_85 : decode cX4_init 85 = .ok (.istore_n 1, 1) := by decide +kernel
theorem dX4_init_86 : decode cX4_init 86 = .ok (.iload_n 1, 1) := by decide +kernel
theorem dX4_init_87 : decode cX4_init 87 = .ok (.bipush 6, 2) := by decide +kernel
theorem dX4_init_89 : decode cX4_init 89 = .ok (.if_icmp .ge 22, 3) := by decide +kernel
theorem dX4_init_92 : decode cX4_init 92 = .ok (.aload_n 0, 1) := by decide +kernel
theorem dX4_init_93 : decode cX4_init 93 = .ok (.getfield 11, 3) := by decide +kernel
theorem dX4_init_96 : decode cX4_init 96 = .ok (.iload_n 1, 1) := by decide +kernel
theorem dX4_init_97 : decode cX4_init 97 = .ok (.new 9, 3) := by decide +kernel
theorem dX4_init_100 : decode cX4_init 100 = .ok (.dup, 1) := by decide +kernel
theorem dX4_init_101 : decode cX4_init 101 = .ok (.invokespecial 53, 3) := by decide +kernel
theorem dX4_init_104 : decode cX4_init 104 = .ok (.aastore, 1) := by decide +kernel
theorem dX4_init_105 : decode cX4_init 105 = .ok (.iinc 1 1, 3) := by decide +kernel
theorem dX4_init_108 : decode cX4_init 108 = .ok (.goto (-22), 3) := by decide +kernel
theorem dX4_init_111 : decode cX4_init 111 = .ok (.iconst 0, 1) := by decide +kernel
theorem dX4_init_112 : decode cX4_init 112 = .ok (.istore_n 1, 1) := by decide +kernel
theorem dX4_init_113 : decode cX4_init 113 = .ok (.iload_n 1, 1) := by decide +kernel
theorem dX4_init_114 : decode cX4_init 114 = .ok (.iconst 4, 1) := by decide +kernel
theorem dX4_init_115 : decode cX4_init 115 = .ok (.if_icmp .ge 22, 3) := by decide +kernel
theorem dX4_init_118 : decode cX4_init 118 = .ok (.aload_n 0, 1) := by decide +kernel
theorem dX4_init_119 : decode cX4_init 119 = .ok (.getfield 21, 3) := by decide +kernel
theorem dX4_init_122 : decode cX4_init 122 = .ok (.iload_n 1, 1) := by decide +kernel
theorem dX4_init_123 : decode cX4_init 123 = .ok (.new 19, 3) := by decide +kernel
theorem dX4_init_126 : decode cX4_init 126 = .ok (.dup, 1) := by decide +kernel
theorem dX4_init_127 : decode cX4_init 127 = .ok (.invokespecial 54, 3) := by decide +kernel
theorem dX4_init_130 : decode cX4_init 130 = .ok (.aastore, 1) := by decide +kernel
theorem dX4_init_131 : decode cX4_init 131 = .ok (.iinc 1 1, 3) := by decide +kernel
theorem dX4_init_134 : decode cX4_init 134 = .ok (.goto (-21), 3) := by decide +kernel
theorem dX4_init_137 : decode cX4_init 137 = .ok (.return_, 1) := by decide +kernel
theorem dX4_plate_0 : decode cX4_plate 0 = .ok (.aload_n 0, 1) := by decide +kernel
theorem dX4_plate_1 : decode cX4_plate 1 = .ok (.iload_n 1, 1) := by decide +kernel
theorem dX4_plate_2 : decode cX4_plate 2 = .ok (.invokevirtual 55, 3) := by decide +kernel
theorem dX4_plate_5 : decode cX4_plate 5 = .ok (.astore 5, 2) := by decide +kernel
theorem dX4_plate_7 : decode cX4_plate 7 = .ok (.aload 5, 2) := by decide +kernel
theorem dX4_plate_9 : decode cX4_plate 9 = .ok (.ifnonnull 6, 3) := by decide +kernel
theorem dX4_plate_12 : decode cX4_plate 12 = .ok (.bipush (-101), 2) := by decide +kernel
theorem dX4_plate_14 : decode cX4_plate 14 = .ok (.ireturn, 1) := by decide +kernel
theorem dX4_plate_15 : decode cX4_plate 15 = .ok (.iload_n 2, 1) := by decide +kernel
theorem dX4_plate_16 : decode cX4_plate 16 = .ok (.invokestatic 59, 3) := by decide +kernel
theorem dX4_plate_19 : decode cX4_plate 19 = .ok (.ifCond .eq 25, 3) := by decide +kernel
theorem dX4_plate_22 : decode cX4_plate 22 = .ok (.iload_n 3, 1) := by decide +kernel
theorem dX4_plate_23 : decode cX4_plate 23 = .ok (.ifCond .eq 21, 3) := by decide +kernel
theorem dX4_plate_26 : decode cX4_plate 26 = .ok (.iload_n 3, 1) := by decide +kernel
theorem dX4_plate_27 : decode cX4_plate 27 = .ok (.bipush 20, 2) := by decide +kernel
theorem dX4_plate_29 : decode cX4_plate 29 = .ok (.if_icmp .gt 15, 3) := by decide +kernel
theorem dX4_plate_32 : decode cX4_plate 32 = .ok (.iload 4, 2) := by decide +kernel
theorem dX4_plate_34 : decode cX4_plate 34 = .ok (.ifCond .eq 10, 3) := by decide +kernel
theorem dX4_plate_37 : decode cX4_plate 37 = .ok (.iload 4, 2) := by decide +kernel
theorem dX4_plate_39 : decode cX4_plate 39 = .ok (.bipush 20, 2) := by decide +kernel
theorem dX4_plate_41 : decode cX4_plate 41 = .ok (.if_icmp .le 6, 3) := by decide +kernel
theorem dX4_plate_44 : decode cX4_plate 44 = .ok (.bipush (-102), 2) := by decide +kernel
theorem dX4_plate_46 : decode cX4_plate 46 = .ok (.ireturn, 1) := by decide +kernel
theorem dX4_plate_47 : decode cX4_plate 47 = .ok (.iload_n 3, 1) := by decide +kernel
theorem dX4_plate_48 : decode cX4_plate 48 = .ok (.ifCond .lt 8, 3) := by decide +kernel
theorem dX4_plate_51 : decode cX4_plate 51 = .ok (.iload 4, 2) := by decide +kernel
theorem dX4_plate_53 : decode cX4_plate 53 = .ok (.ifCond .ge 9, 3) := by decide +kernel
theorem dX4_plate_56 : decode cX4_plate 56 = .ok (.aload_n 0, 1) := by decide +kernel
theorem dX4_plate_57 : decode cX4_plate 57 = .ok (.iconst 3, 1) := by decide +kernel
theorem dX4_plate_58 : decode cX4_plate 58 = .ok (.invokevirtual 63, 3) := by decide +kernel
theorem dX4_plate_61 : decode cX4_plate 61 = .ok (.ireturn, 1) := by decide +kernel
theorem dX4_plate_62 : decode cX4_plate 62 = .ok (.aload 5, 2) := by decide +kernel
theorem dX4_plate_64 : decode cX4_plate 64 = .ok (.iload_n 2, 1) := by decide +kernel
theorem dX4_plate_65 : decode cX4_plate 65 = .ok (.iload_n 3, 1) := by decide +kernel
theorem dX4_plate_66 : decode cX4_plate 66 = .ok (.iload 4, 2) := by decide +kernel
theorem dX4_plate_68 : decode cX4_plate 68 = .ok (.invokevirtual 67, 3) := by decide +kernel
theorem dX4_plate_71 : decode cX4_plate 71 = .ok (.iload_n 3, 1) := by decide +kernel
theorem dX4_plate_72 : decode cX4_plate 72 = .ok (.ireturn, 1) := by decide +kernel
theorem dX4_put_0 : decode cX4_put 0 = .ok (.aload_n 0, 1) := by decide +kernel
theorem dX4_put_1 : decode cX4_put 1 = .ok (.iload_n 1, 1) := by decide +kernel
theorem dX4_put_2 : decode cX4_put 2 = .ok (.invokevirtual 55, 3) := by decide +kernel
theorem dX4_put_5 : decode cX4_put 5 = .ok (.astore 6, 2) := by decide +kernel
theorem dX4_put_7 : decode cX4_put 7 = .ok (.aload 6, 2) := by decide +kernel
theorem dX4_put_9 : decode cX4_put 9 = .ok (.ifnonnull 6, 3) := by decide +kernel
theorem dX4_put_12 : decode cX4_put 12 = .ok (.bipush (-101), 2) := by decide +kernel
theorem dX4_put_14 : decode cX4_put 14 = .ok (.ireturn, 1) := by decide +kernel
theorem dX4_put_15 : decode cX4_put 15 = .ok (.iload_n 2, 1) := by decide +kernel
theorem dX4_put_16 : decode cX4_put 16 = .ok (.invokestatic 59, 3) := by decide +kernel
theorem dX4_put_19 : decode cX4_put 19 = .ok (.ifCond .ne 6, 3) := by decide +kernel
theorem dX4_put_22 : decode cX4_put 22 = .ok (.bipush (-102), 2) := by decide +kernel
theorem dX4_put_24 : decode cX4_put 24 = .ok (.ireturn, 1) := by decide +kernel
theorem dX4_put_25 : decode cX4_put 25 = .ok (.aload 6, 2) := by decide +kernel
theorem dX4_put_27 : decode cX4_put 27 = .ok (.getfield 71, 3) := by decide +kernel
theorem dX4_put_30 : decode cX4_put 30 = .ok (.ifCond .eq 9, 3) := by decide +kernel
theorem dX4_put_33 : decode cX4_put 33 = .ok (.aload_n 0, 1) := by decide +kernel
theorem dX4_put_34 : decode cX4_put 34 = .ok (.iconst 1, 1) := by decide +kernel
theorem dX4_put_35 : decode cX4_put 35 = .ok (.invokevirtual 63, 3) := by decide +kernel
theorem dX4_put_38 : decode cX4_put 38 = .ok (.ireturn, 1) := by decide +kernel
theorem dX4_put_39 : decode cX4_put 39 = .ok (.aload 6, 2) := by decide +kernel
theorem dX4_put_41 : decode cX4_put 41 = .ok (.getfield 75, 3) := by decide +kernel
theorem dX4_put_44 : decode cX4_put 44 = .ok (.iload_n 2, 1) := by decide +kernel
theorem dX4_put_45 : decode cX4_put 45 = .ok (.if_icmp .eq 9, 3) := by decide +kernel
theorem dX4_put_48 : decode cX4_put 48 = .ok (.aload_n 0, 1) := by decide +kernel
theorem dX4_put_49 : decode cX4_put 49 = .ok (.iconst 4, 1) := by decide +kernel
theorem dX4_put_50 : decode cX4_put 50 = .ok (.invokevirtual 63, 3) := by decide +kernel
theorem dX4_put_53 : decode cX4_put 53 = .ok (.ireturn, 1) := by decide +kernel
theorem dX4_put_54 : decode cX4_put 54 = .ok (.aload 6, 2) := by decide +kernel
theorem dX4_put_56 : decode cX4_put 56 = .ok (.iload_n 3, 1) := by decide +kernel
theorem dX4_put_57 : decode cX4_put 57 = .ok (.iload 4, 2) := by decide +kernel
theorem dX4_put_59 : decode cX4_put 59 = .ok (.invokevirtual 79, 3) := by decide +kernel
theorem dX4_put_62 : decode cX4_put 62 = .ok (.ifCond .ne 9, 3) := by decide +kernel
theorem dX4_put_65 : decode cX4_put 65 = .ok (.aload_n 0, 1) := by decide +kernel
theorem dX4_put_66 : decode cX4_put 66 = .ok (.iconst 2, 1) := by decide +kernel
theorem dX4_put_67 : decode cX4_put 67 = .ok (.invokevirtual 63, 3) := by decide +kernel
theorem dX4_put_70 : decode cX4_put 70 = .ok (.ireturn, 1) := by decide +kernel
theorem dX4_put_71 : decode cX4_put 71 = .ok (.aload 6, 2) := by decide +kernel
theorem dX4_put_73 : decode cX4_put 73 = .ok (.iload_n 3, 1) := by decide +kernel
theorem dX4_put_74 : decode cX4_put 74 = .ok (.iload 4, 2) := by decide +kernel
theorem dX4_put_76 : decode cX4_put 76 = .ok (.iload 5, 2) := by decide +kernel
theorem dX4_put_78 : decode cX4_put 78 = .ok (.invokevirtual 83, 3) := by decide +kernel
theorem dX4_put_81 : decode cX4_put 81 = .ok (.iconst 1, 1) := by decide +kernel
theorem dX4_put_82 : decode cX4_put 82 = .ok (.ireturn, 1) := by decide +kernel
theorem dX4_copy_0 : decode cX4_copy 0 = .ok (.aload_n 0, 1) := by decide +kernel
theorem dX4_copy_1 : decode cX4_copy 1 = .ok (.iload_n 1, 1) := by decide +kernel
theorem dX4_copy_2 : decode cX4_copy 2 = .ok (.invokevirtual 55, 3) := by decide +kernel
theorem dX4_copy_5 : decode cX4_copy 5 = .ok (.astore_n 3, 1) := by decide +kernel
theorem dX4_copy_6 : decode cX4_copy 6 = .ok (.aload_n 0, 1) := by decide +kernel
theorem dX4_copy_7 : decode cX4_copy 7 = .ok (.iload_n 2, 1) := by decide +kernel
theorem dX4_copy_8 : decode cX4_copy 8 = .ok (.invokevirtual 55, 3) := by decide +kernel
theorem dX4_copy_11 : decode cX4_copy 11 = .ok (.astore 4, 2) := by decide +kernel
theorem dX4_copy_13 : decode cX4_copy 13 = .ok (.aload_n 3, 1) := by decide +kernel
theorem dX4_copy_14 : decode cX4_copy 14 = .ok (.ifnull 8, 3) := by decide +kernel
theorem dX4_copy_17 : decode cX4_copy 17 = .ok (.aload 4, 2) := by decide +kernel
theorem dX4_copy_19 : decode cX4_copy 19 = .ok (.ifnonnull 6, 3) := by decide +kernel
theorem dX4_copy_22 : decode cX4_copy 22 = .ok (.bipush (-101), 2) := by decide +kernel
theorem dX4_copy_24 : decode cX4_copy 24 = .ok (.ireturn, 1) := by decide +kernel
theorem dX4_copy_25 : decode cX4_copy 25 = .ok (.aload_n 3, 1) := by decide +kernel
theorem dX4_copy_26 : decode cX4_copy 26 = .ok (.getfield 71, 3) := by decide +kernel
theorem dX4_copy_29 : decode cX4_copy 29 = .ok (.ifCond .ne 11, 3) := by decide +kernel
theorem dX4_copy_32 : decode cX4_copy 32 = .ok (.aload 4, 2) := by decide +kernel
theorem dX4_copy_34 : decode cX4_copy 34 = .ok (.getfield 71, 3) := by decide +kernel
theorem dX4_copy_37 : decode cX4_copy 37 = .ok (.ifCond .eq 9, 3) := by decide +kernel
theorem dX4_copy_40 : decode cX4_copy 40 = .ok (.aload_n 0, 1) := by decide +kernel
theorem dX4_copy_41 : decode cX4_copy 41 = .ok (.iconst 1, 1) := by decide +kernel
theorem dX4_copy_42 : decode cX4_copy 42 = .ok (.invokevirtual 63, 3) := by decide +kernel
theorem dX4_copy_45 : decode cX4_copy 45 = .ok (.ireturn, 1) := by decide +kernel
theorem dX4_copy_46 : decode cX4_copy 46 = .ok (.aload_n 3, 1) := by decide +kernel
theorem dX4_copy_47 : decode cX4_copy 47 = .ok (.getfield 75, 3) := by decide +kernel
theorem dX4_copy_50 : decode cX4_copy 50 = .ok (.aload 4, 2) := by decide +kernel
theorem dX4_copy_52 : decode cX4_copy 52 = .ok (.getfield 75, 3) := by decide +kernel
theorem dX4_copy_55 : decode cX4_copy 55 = .ok (.if_icmp .eq 9, 3) := by decide +kernel
theorem dX4_copy_58 : decode cX4_copy 58 = .ok (.aload_n 0, 1) := by decide +kernel
theorem dX4_copy_59 : decode cX4_copy 59 = .ok (.iconst 4, 1) := by decide +kernel
theorem dX4_copy_60 : decode cX4_copy 60 = .ok (.invokevirtual 63, 3) := by decide +kernel
theorem dX4_copy_63 : decode cX4_copy 63 = .ok (.ireturn, 1) := by decide +kernel
theorem dX4_copy_64 : decode cX4_copy 64 = .ok (.aload_n 3, 1) := by decide +kernel
theorem dX4_copy_65 : decode cX4_copy 65 = .ok (.aload 4, 2) := by decide +kernel
theorem dX4_copy_67 : decode cX4_copy 67 = .ok (.invokevirtual 86, 3) := by decide +kernel
theorem dX4_copy_70 : decode cX4_copy 70 = .ok (.ifCond .ne 9, 3) := by decide +kernel
theorem dX4_copy_73 : decode cX4_copy 73 = .ok (.aload_n 0, 1) := by decide +kernel
theorem dX4_copy_74 : decode cX4_copy 74 = .ok (.iconst 5, 1) := by decide +kernel
theorem dX4_copy_75 : decode cX4_copy 75 = .ok (.invokevirtual 63, 3) := by decide +kernel
theorem dX4_copy_78 : decode cX4_copy 78 = .ok (.ireturn, 1) := by decide +kernel
theorem dX4_copy_79 : decode cX4_copy 79 = .ok (.iconst 0, 1) := by decide +kernel
theorem dX4_copy_80 : decode cX4_copy 80 = .ok (.istore 5, 2) := by decide +kernel
theorem dX4_copy_82 : decode cX4_copy 82 = .ok (.iload 5, 2) := by decide +kernel
theorem dX4_copy_84 : decode cX4_copy 84 = .ok (.aload 4, 2) := by decide +kernel
theorem dX4_copy_86 : decode cX4_copy 86 = .ok (.getfield 90, 3) := by decide +kernel
theorem dX4_copy_89 : decode cX4_copy 89 = .ok (.if_icmp .ge 45, 3) := by decide +kernel
theorem dX4_copy_92 : decode cX4_copy 92 = .ok (.iconst 0, 1) := by decide +kernel
theorem dX4_copy_93 : decode cX4_copy 93 = .ok (.istore 6, 2) := by decide +kernel
theorem dX4_copy_95 : decode cX4_copy 95 = .ok (.iload 6, 2) := by decide +kernel
theorem dX4_copy_97 : decode cX4_copy 97 = .ok (.aload 4, 2) := by decide +kernel
theorem dX4_copy_99 : decode cX4_copy 99 = .ok (.getfield 93, 3) := by decide +kernel
theorem dX4_copy_102 : decode cX4_copy 102 = .ok (.if_icmp .ge 26, 3) := by decide +kernel
theorem dX4_copy_105 : decode cX4_copy 105 = .ok (.aload 4, 2) := by decide +kernel
theorem dX4_copy_107 : decode cX4_copy 107 = .ok (.iload 6, 2) := by decide +kernel
theorem dX4_copy_109 : decode cX4_copy 109 = .ok (.iload 5, 2) := by decide +kernel
theorem dX4_copy_111 : decode cX4_copy 111 = .ok (.aload_n 3, 1) := by decide +kernel
theorem dX4_copy_112 : decode cX4_copy 112 = .ok (.iload 6, 2) := by decide +kernel
theorem dX4_copy_114 : decode cX4_copy 114 = .ok (.iload 5, 2) := by decide +kernel
theorem dX4_copy_116 : decode cX4_copy 116 = .ok (.invokevirtual 96, 3) := by decide +kernel
theorem dX4_copy_119 : decode cX4_copy 119 = .ok (.invokevirtual 83, 3) := by decide +kernel
theorem dX4_copy_122 : decode cX4_copy 122 = .ok (.iinc 6 1, 3) := by decide +kernel
theorem dX4_copy_125 : decode cX4_copy 125 = .ok (.goto (-30), 3) := by decide +kernel
theorem dX4_copy_128 : decode cX4_copy 128 = .ok (.iinc 5 1, 3) := by decide +kernel
theorem dX4_copy_131 : decode cX4_copy 131 = .ok (.goto (-49), 3) := by decide +kernel
theorem dX4_copy_134 : decode cX4_copy 134 = .ok (.iconst 1, 1) := by decide +kernel
theorem dX4_copy_135 : decode cX4_copy 135 = .ok (.ireturn, 1) := by decide +kernel
theorem dX4_less_0 : decode cX4_less 0 = .ok (.aload_n 0, 1) := by decide +kernel
theorem dX4_less_1 : decode cX4_less 1 = .ok (.iload_n 1, 1) := by decide +kernel
theorem dX4_less_2 : decode cX4_less 2 = .ok (.invokevirtual 55, 3) := by decide +kernel
theorem dX4_less_5 : decode cX4_less 5 = .ok (.astore_n 3, 1) := by decide +kernel
theorem dX4_less_6 : decode cX4_less 6 = .ok (.aload_n 0, 1) := by decide +kernel
theorem dX4_less_7 : decode cX4_less 7 = .ok (.iload_n 2, 1) := by decide +kernel
theorem dX4_less_8 : decode cX4_less 8 = .ok (.invokevirtual 55, 3) := by decide +kernel
theorem dX4_less_11 : decode cX4_less 11 = .ok (.astore 4, 2) := by decide +kernel
theorem dX4_less_13 : decode cX4_less 13 = .ok (.aload_n 3, 1) := by decide +kernel
theorem dX4_less_14 : decode cX4_less 14 = .ok (.ifnull 8, 3) := by decide +kernel
theorem dX4_less_17 : decode cX4_less 17 = .ok (.aload 4, 2) := by decide +kernel
theorem dX4_less_19 : decode cX4_less 19 = .ok (.ifnonnull 6, 3) := by decide +kernel
theorem dX4_less_22 : decode cX4_less 22 = .ok (.bipush (-101), 2) := by decide +kernel
theorem dX4_less_24 : decode cX4_less 24 = .ok (.ireturn, 1) := by decide +kernel
theorem dX4_less_25 : decode cX4_less 25 = .ok (.aload_n 3, 1) := by decide +kernel
theorem dX4_less_26 : decode cX4_less 26 = .ok (.getfield 71, 3) := by decide +kernel
theorem dX4_less_29 : decode cX4_less 29 = .ok (.ifCond .ne 11, 3) := by decide +kernel
theorem dX4_less_32 : decode cX4_less 32 = .ok (.aload 4, 2) := by decide +kernel
theorem dX4_less_34 : decode cX4_less 34 = .ok (.getfield 71, 3) := by decide +kernel
theorem dX4_less_37 : decode cX4_less 37 = .ok (.ifCond .eq 9, 3) := by decide +kernel
theorem dX4_less_40 : decode cX4_less 40 = .ok (.aload_n 0, 1) := by decide +kernel
theorem dX4_less_41 : decode cX4_less 41 = .ok (.iconst 1, 1) := by decide +kernel
theorem dX4_less_42 : decode cX4_less 42 = .ok (.invokevirtual 63, 3) := by decide +kernel
theorem dX4_less_45 : decode cX4_less 45 = .ok (.ireturn, 1) := by decide +kernel
theorem dX4_less_46 : decode cX4_less 46 = .ok (.aload_n 3, 1) := by decide +kernel
theorem dX4_less_47 : decode cX4_less 47 = .ok (.aload 4, 2) := by decide +kernel
theorem dX4_less_49 : decode cX4_less 49 = .ok (.invokevirtual 86, 3) := by decide +kernel
theorem dX4_less_52 : decode cX4_less 52 = .ok (.ifCond .ne 9, 3) := by decide +kernel
theorem dX4_less_55 : decode cX4_less 55 = .ok (.aload_n 0, 1) := by decide +kernel
theorem dX4_less_56 : decode cX4_less 56 = .ok (.iconst 5, 1) := by decide +kernel
theorem dX4_less_57 : decode cX4_less 57 = .ok (.invokevirtual 63, 3) := by decide +kernel
theorem dX4_less_60 : decode cX4_less 60 = .ok (.ireturn, 1) := by decide +kernel
theorem dX4_less_61 : decode cX4_less 61 = .ok (.iconst 0, 1) := by decide +kernel
theorem dX4_less_62 : decode cX4_less 62 = .ok (.istore 5, 2) := by decide +kernel
theorem dX4_less_64 : decode cX4_less 64 = .ok (.iload 5, 2) := by decide +kernel
theorem dX4_less_66 : decode cX4_less 66 = .ok (.aload 4, 2) := by decide +kernel
theorem dX4_less_68 : decode cX4_less 68 = .ok (.getfield 90, 3) := by decide +kernel
theorem dX4_less_71 : decode cX4_less 71 = .ok (.if_icmp .ge 55, 3) := by decide +kernel
theorem dX4_less_74 : decode cX4_less 74 = .ok (.iconst 0, 1) := by decide +kernel
theorem dX4_less_75 : decode cX4_less 75 = .ok (.istore 6, 2) := by decide +kernel
theorem dX4_less_77 : decode cX4_less 77 = .ok (.iload 6, 2) := by decide +kernel
theorem dX4_less_79 : decode cX4_less 79 = .ok (.aload 4, 2) := by decide +kernel
theorem dX4_less_81 : decode cX4_less 81 = .ok (.getfield 93, 3) := by decide +kernel
theorem dX4_less_84 : decode cX4_less 84 = .ok (.if_icmp .ge 36, 3) := by decide +kernel
theorem dX4_less_87 : decode cX4_less 87 = .ok (.aload 4, 2) := by decide +kernel
theorem dX4_less_89 : decode cX4_less 89 = .ok (.iload 6, 2) := by decide +kernel
theorem dX4_less_91 : decode cX4_less 91 = .ok (.iload 5, 2) := by decide +kernel
theorem dX4_less_93 : decode cX4_less 93 = .ok (.aload 4, 2) := by decide +kernel
theorem dX4_less_95 : decode cX4_less 95 = .ok (.iload 6, 2) := by decide +kernel
theorem dX4_less_97 : decode cX4_less 97 = .ok (.iload 5, 2) := by decide +kernel
theorem dX4_less_99 : decode cX4_less 99 = .ok (.invokevirtual 96, 3) := by decide +kernel
theorem dX4_less_102 : decode cX4_less 102 = .ok (.aload_n 3, 1) := by decide +kernel
theorem dX4_less_103 : decode cX4_less 103 = .ok (.iload 6, 2) := by decide +kernel
theorem dX4_less_105 : decode cX4_less 105 = .ok (.iload 5, 2) := by decide +kernel
theorem dX4_less_107 : decode cX4_less 107 = .ok (.invokevirtual 96, 3) := by decide +kernel
theorem dX4_less_110 : decode cX4_less 110 = .ok (.isub, 1) := by decide +kernel
theorem dX4_less_111 : decode cX4_less 111 = .ok (.invokevirtual 83, 3) := by decide +kernel
theorem dX4_less_114 : decode cX4_less 114 = .ok (.iinc 6 1, 3) := by decide +kernel
theorem dX4_less_117 : decode cX4_less 117 = .ok (.goto (-40), 3) := by decide +kernel
theorem dX4_less_120 : decode cX4_less 120 = .ok (.iinc 5 1, 3) := by decide +kernel
theorem dX4_less_123 : decode cX4_less 123 = .ok (.goto (-59), 3) := by decide +kernel
theorem dX4_less_126 : decode cX4_less 126 = .ok (.iconst 1, 1) := by decide +kernel
theorem dX4_less_127 : decode cX4_less 127 = .ok (.ireturn, 1) := by decide +kernel
theorem dX4_lose_0 : decode cX4_lose 0 = .ok (.aload_n 0, 1) := by decide +kernel
theorem dX4_lose_1 : decode cX4_lose 1 = .ok (.iload_n 1, 1) := by decide +kernel
theorem dX4_lose_2 : decode cX4_lose 2 = .ok (.invokevirtual 55, 3) := by decide +kernel
theorem dX4_lose_5 : decode cX4_lose 5 = .ok (.astore_n 2, 1) := by decide +kernel
theorem dX4_lose_6 : decode cX4_lose 6 = .ok (.aload_n 2, 1) := by decide +kernel
theorem dX4_lose_7 : decode cX4_lose 7 = .ok (.ifnonnull 6, 3) := by decide +kernel
theorem dX4_lose_10 : decode cX4_lose 10 = .ok (.bipush (-101), 2) := by decide +kernel
theorem dX4_lose_12 : decode cX4_lose 12 = .ok (.ireturn, 1) := by decide +kernel
theorem dX4_lose_13 : decode cX4_lose 13 = .ok (.aload_n 2, 1) := by decide +kernel
theorem dX4_lose_14 : decode cX4_lose 14 = .ok (.getfield 71, 3) := by decide +kernel
theorem dX4_lose_17 : decode cX4_lose 17 = .ok (.ifCond .eq 9, 3) := by decide +kernel
theorem dX4_lose_20 : decode cX4_lose 20 = .ok (.aload_n 0, 1) := by decide +kernel
theorem dX4_lose_21 : decode cX4_lose 21 = .ok (.iconst 1, 1) := by decide +kernel
theorem dX4_lose_22 : decode cX4_lose 22 = .ok (.invokevirtual 63, 3) := by decide +kernel
theorem dX4_lose_25 : decode cX4_lose 25 = .ok (.ireturn, 1) := by decide +kernel
theorem dX4_lose_26 : decode cX4_lose 26 = .ok (.aload_n 2, 1) := by decide +kernel
theorem dX4_lose_27 : decode cX4_lose 27 = .ok (.iconst 1, 1) := by decide +kernel
theorem dX4_lose_28 : decode cX4_lose 28 = .ok (.putfield 71, 3) := by decide +kernel
theorem dX4_lose_31 : decode cX4_lose 31 = .ok (.iconst 1, 1) := by decide +kernel
theorem dX4_lose_32 : decode cX4_lose 32 = .ok (.ireturn, 1) := by decide +kernel
theorem dX4_bad_0 : decode cX4_bad 0 = .ok (.iload_n 1, 1) := by decide +kernel
theorem dX4_bad_1 : decode cX4_bad 1 = .ok (.iload_n 2, 1) := by decide +kernel
theorem dX4_bad_2 : decode cX4_bad 2 = .ok (.invokestatic 100, 3) := by decide +kernel
theorem dX4_bad_5 : decode cX4_bad 5 = .ok (.ifCond .ne 6, 3) := by decide +kernel
theorem dX4_bad_8 : decode cX4_bad 8 = .ok (.bipush (-102), 2) := by decide +kernel
theorem dX4_bad_10 : decode cX4_bad 10 = .ok (.ireturn, 1) := by decide +kernel
theorem dX4_bad_11 : decode cX4_bad 11 = .ok (.aload_n 0, 1) := by decide +kernel
theorem dX4_bad_12 : decode cX4_bad 12 = .ok (.getfield 15, 3) := by decide +kernel
theorem dX4_bad_15 : decode cX4_bad 15 = .ok (.iload_n 2, 1) := by decide +kernel
theorem dX4_bad_16 : decode cX4_bad 16 = .ok (.bipush 20, 2) := by decide +kernel
theorem dX4_bad_18 : decode cX4_bad 18 = .ok (.imul, 1) := by decide +kernel
theorem dX4_bad_19 : decode cX4_bad 19 = .ok (.iload_n 1, 1) := by decide +kernel
theorem dX4_bad_20 : decode cX4_bad 20 = .ok (.iadd, 1) := by decide +kernel
theorem dX4_bad_21 : decode cX4_bad 21 = .ok (.baload, 1) := by decide +kernel
theorem dX4_bad_22 : decode cX4_bad 22 = .ok (.ifCond .eq 7, 3) := by decide +kernel
theorem dX4_bad_25 : decode cX4_bad 25 = .ok (.iconst 1, 1) := by decide +kernel
theorem dX4_bad_26 : decode cX4_bad 26 = .ok (.goto 4, 3) := by decide +kernel
theorem dX4_bad_29 : decode cX4_bad 29 = .ok (.iconst 0, 1) := by decide +kernel
theorem dX4_bad_30 : decode cX4_bad 30 = .ok (.istore 4, 2) := by decide +kernel
theorem dX4_bad_32 : decode cX4_bad 32 = .ok (.aload_n 0, 1) := by decide +kernel
theorem dX4_bad_33 : decode cX4_bad 33 = .ok (.getfield 15, 3) := by decide +kernel
theorem dX4_bad_36 : decode cX4_bad 36 = .ok (.iload_n 2, 1) := by decide +kernel
theorem dX4_bad_37 : decode cX4_bad 37 = .ok (.bipush 20, 2) := by decide +kernel
theorem dX4_bad_39 : decode cX4_bad 39 = .ok (.imul, 1) := by decide +kernel
theorem dX4_bad_40 : decode cX4_bad 40 = .ok (.iload_n 1, 1) := by decide +kernel
theorem dX4_bad_41 : decode cX4_bad 41 = .ok (.iadd, 1) := by decide +kernel
theorem dX4_bad_42 : decode cX4_bad 42 = .ok (.iload_n 3, 1) := by decide +kernel
theorem dX4_bad_43 : decode cX4_bad 43 = .ok (.bastore, 1) := by decide +kernel
theorem dX4_bad_44 : decode cX4_bad 44 = .ok (.iload 4, 2) := by decide +kernel
theorem dX4_bad_46 : decode cX4_bad 46 = .ok (.ireturn, 1) := by decide +kernel
theorem dX4_look_0 : decode cX4_look 0 = .ok (.aload_n 0, 1) := by decide +kernel
theorem dX4_look_1 : decode cX4_look 1 = .ok (.iload_n 1, 1) := by decide +kernel
theorem dX4_look_2 : decode cX4_look 2 = .ok (.invokevirtual 55, 3) := by decide +kernel
theorem dX4_look_5 : decode cX4_look 5 = .ok (.astore 4, 2) := by decide +kernel
theorem dX4_look_7 : decode cX4_look 7 = .ok (.aload 4, 2) := by decide +kernel
theorem dX4_look_9 : decode cX4_look 9 = .ok (.ifnonnull 6, 3) := by decide +kernel
theorem dX4_look_12 : decode cX4_look 12 = .ok (.bipush (-101), 2) := by decide +kernel
theorem dX4_look_14 : decode cX4_look 14 = .ok (.ireturn, 1) := by decide +kernel
theorem dX4_look_15 : decode cX4_look 15 = .ok (.aload 4, 2) := by decide +kernel
theorem dX4_look_17 : decode cX4_look 17 = .ok (.getfield 71, 3) := by decide +kernel
theorem dX4_look_20 : decode cX4_look 20 = .ok (.ifCond .eq 9, 3) := by decide +kernel
theorem dX4_look_23 : decode cX4_look 23 = .ok (.aload_n 0, 1) := by decide +kernel
theorem dX4_look_24 : decode cX4_look 24 = .ok (.iconst 1, 1) := by decide +kernel
theorem dX4_look_25 : decode cX4_look 25 = .ok (.invokevirtual 63, 3) := by decide +kernel
theorem dX4_look_28 : decode cX4_look 28 = .ok (.ireturn, 1) := by decide +kernel
theorem dX4_look_29 : decode cX4_look 29 = .ok (.aload 4, 2) := by decide +kernel
theorem dX4_look_31 : decode cX4_look 31 = .ok (.iload_n 2, 1) := by decide +kernel
theorem dX4_look_32 : decode cX4_look 32 = .ok (.iload_n 3, 1) := by decide +kernel
theorem dX4_look_33 : decode cX4_look 33 = .ok (.invokevirtual 79, 3) := by decide +kernel
theorem dX4_look_36 : decode cX4_look 36 = .ok (.ifCond .ne 9, 3) := by decide +kernel
theorem dX4_look_39 : decode cX4_look 39 = .ok (.aload_n 0, 1) := by decide +kernel
theorem dX4_look_40 : decode cX4_look 40 = .ok (.iconst 2, 1) := by decide +kernel
theorem dX4_look_41 : decode cX4_look 41 = .ok (.invokevirtual 63, 3) := by decide +kernel
theorem dX4_look_44 : decode cX4_look 44 = .ok (.ireturn, 1) := by decide +kernel
theorem dX4_look_45 : decode cX4_look 45 = .ok (.aload_n 0, 1) := by decide +kernel
theorem dX4_look_46 : decode cX4_look 46 = .ok (.aload 4, 2) := by decide +kernel
theorem dX4_look_48 : decode cX4_look 48 = .ok (.iload_n 2, 1) := by decide +kernel
theorem dX4_look_49 : decode cX4_look 49 = .ok (.iload_n 3, 1) := by decide +kernel
theorem dX4_look_50 : decode cX4_look 50 = .ok (.invokevirtual 96, 3) := by decide +kernel
theorem dX4_look_53 : decode cX4_look 53 = .ok (.putfield 103, 3) := by decide +kernel
theorem dX4_look_56 : decode cX4_look 56 = .ok (.iconst 1, 1) := by decide +kernel
theorem dX4_look_57 : decode cX4_look 57 = .ok (.ireturn, 1) := by decide +kernel
theorem dX4_comb_0 : decode cX4_comb 0 = .ok (.iload_n 1, 1) := by decide +kernel
theorem dX4_comb_1 : decode cX4_comb 1 = .ok (.iconst 0, 1) := by decide +kernel
theorem dX4_comb_2 : decode cX4_comb 2 = .ok (.sipush 304, 3) := by decide +kernel
theorem dX4_comb_5 : decode cX4_comb 5 = .ok (.invokestatic 106, 3) := by decide +kernel
theorem dX4_comb_8 : decode cX4_comb 8 = .ok (.ifCond .eq 23, 3) := by decide +kernel
theorem dX4_comb_11 : decode cX4_comb 11 = .ok (.iload_n 2, 1) := by decide +kernel
theorem dX4_comb_12 : decode cX4_comb 12 = .ok (.iconst 0, 1) := by decide +kernel
theorem dX4_comb_13 : decode cX4_comb 13 = .ok (.sipush 304, 3) := by decide +kernel
theorem dX4_comb_16 : decode cX4_comb 16 = .ok (.invokestatic 106, 3) := by decide +kernel
theorem dX4_comb_19 : decode cX4_comb 19 = .ok (.ifCond .eq 12, 3) := by decide +kernel
theorem dX4_comb_22 : decode cX4_comb 22 = .ok (.iload_n 3, 1) := by decide +kernel
theorem dX4_comb_23 : decode cX4_comb 23 = .ok (.iconst 0, 1) := by decide +kernel
theorem dX4_comb_24 : decode cX4_comb 24 = .ok (.iconst 3, 1) := by decide +kernel
theorem dX4_comb_25 : decode cX4_comb 25 = .ok (.invokestatic 106, 3) := by decide +kernel
theorem dX4_comb_28 : decode cX4_comb 28 = .ok (.ifCond .ne 6, 3) := by decide +kernel
theorem dX4_comb_31 : decode cX4_comb 31 = .ok (.bipush (-102), 2) := by decide +kernel
theorem dX4_comb_33 : decode cX4_comb 33 = .ok (.ireturn, 1) := by decide +kernel
theorem dX4_comb_34 : decode cX4_comb 34 = .ok (.aload_n 0, 1) := by decide +kernel
theorem dX4_comb_35 : decode cX4_comb 35 = .ok (.getfield 110, 3) := by decide +kernel
theorem dX4_comb_38 : decode cX4_comb 38 = .ok (.iconst 4, 1) := by decide +kernel
theorem dX4_comb_39 : decode cX4_comb 39 = .ok (.if_icmp .lt 6, 3) := by decide +kernel
theorem dX4_comb_42 : decode cX4_comb 42 = .ok (.bipush (-104), 2) := by decide +kernel
theorem dX4_comb_44 : decode cX4_comb 44 = .ok (.ireturn, 1) := by decide +kernel
theorem dX4_comb_45 : decode cX4_comb 45 = .ok (.aload_n 0, 1) := by decide +kernel
theorem dX4_comb_46 : decode cX4_comb 46 = .ok (.getfield 21, 3) := by decide +kernel
theorem dX4_comb_49 : decode cX4_comb 49 = .ok (.aload_n 0, 1) := by decide +kernel
theorem dX4_comb_50 : decode cX4_comb 50 = .ok (.getfield 110, 3) := by decide +kernel
theorem dX4_comb_53 : decode cX4_comb 53 = .ok (.aaload, 1) := by decide +kernel
theorem dX4_comb_54 : decode cX4_comb 54 = .ok (.astore 4, 2) := by decide +kernel
theorem dX4_comb_56 : decode cX4_comb 56 = .ok (.aload 4, 2) := by decide +kernel
theorem dX4_comb_58 : decode cX4_comb 58 = .ok (.iload_n 1, 1) := by decide +kernel
theorem dX4_comb_59 : decode cX4_comb 59 = .ok (.putfield 113, 3) := by decide +kernel
theorem dX4_comb_62 : decode cX4_comb 62 = .ok (.aload 4, 2) := by decide +kernel
theorem dX4_comb_64 : decode cX4_comb 64 = .ok (.iload_n 2, 1) := by decide +kernel
theorem dX4_comb_65 : decode cX4_comb 65 = .ok (.putfield 116, 3) := by decide +kernel
theorem dX4_comb_68 : decode cX4_comb 68 = .ok (.aload 4, 2) := by decide +kernel
theorem dX4_comb_70 : decode cX4_comb 70 = .ok (.iload_n 3, 1) := by decide +kernel
theorem dX4_comb_71 : decode cX4_comb 71 = .ok (.putfield 119, 3) := by decide +kernel
theorem dX4_comb_74 : decode cX4_comb 74 = .ok (.aload_n 0, 1) := by decide +kernel
theorem dX4_comb_75 : decode cX4_comb 75 = .ok (.dup, 1) := by decide +kernel
theorem dX4_comb_76 : decode cX4_comb 76 = .ok (.getfield 110, 3) := by decide +kernel
theorem dX4_comb_79 : decode cX4_comb 79 = .ok (.iconst 1, 1) := by decide +kernel
theorem dX4_comb_80 : decode cX4_comb 80 = .ok (.iadd, 1) := by decide +kernel
theorem dX4_comb_81 : decode cX4_comb 81 = .ok (.putfield 110, 3) := by decide +kernel
theorem dX4_comb_84 : decode cX4_comb 84 = .ok (.aload_n 0, 1) := by decide +kernel
theorem dX4_comb_85 : decode cX4_comb 85 = .ok (.getfield 110, 3) := by decide +kernel
theorem dX4_comb_88 : decode cX4_comb 88 = .ok (.iconst 1, 1) := by decide +kernel
theorem dX4_comb_89 : decode cX4_comb 89 = .ok (.isub, 1) := by decide +kernel
theorem dX4_comb_90 : decode cX4_comb 90 = .ok (.ireturn, 1) := by decide +kernel
theorem dX4_told_0 : decode cX4_told 0 = .ok (.aload_n 0, 1) := by decide +kernel
theorem dX4_told_1 : decode cX4_told 1 = .ok (.iload_n 1, 1) := by decide +kernel
theorem dX4_told_2 : decode cX4_told 2 = .ok (.invokevirtual 122, 3) := by decide +kernel
theorem dX4_told_5 : decode cX4_told 5 = .ok (.astore_n 3, 1) := by decide +kernel
theorem dX4_told_6 : decode cX4_told 6 = .ok (.aload_n 3, 1) := by decide +kernel
theorem dX4_told_7 : decode cX4_told 7 = .ok (.ifnonnull 6, 3) := by decide +kernel
theorem dX4_told_10 : decode cX4_told 10 = .ok (.bipush (-101), 2) := by decide +kernel
theorem dX4_told_12 : decode cX4_told 12 = .ok (.ireturn, 1) := by decide +kernel
theorem dX4_told_13 : decode cX4_told 13 = .ok (.iload_n 2, 1) := by decide +kernel
theorem dX4_told_14 : decode cX4_told 14 = .ok (.iconst 0, 1) := by decide +kernel
theorem dX4_told_15 : decode cX4_told 15 = .ok (.bipush 7, 2) := by decide +kernel
theorem dX4_told_17 : decode cX4_told 17 = .ok (.invokestatic 106, 3) := by decide +kernel
theorem dX4_told_20 : decode cX4_told 20 = .ok (.ifCond .ne 6, 3) := by decide +kernel
theorem dX4_told_23 : decode cX4_told 23 = .ok (.bipush (-102), 2) := by decide +kernel
theorem dX4_told_25 : decode cX4_told 25 = .ok (.ireturn, 1) := by decide +kernel
theorem dX4_told_26 : decode cX4_told 26 = .ok (.aload_n 3, 1) := by decide +kernel
theorem dX4_told_27 : decode cX4_told 27 = .ok (.iload_n 2, 1) := by decide +kernel
theorem dX4_told_28 : decode cX4_told 28 = .ok (.invokestatic 126, 3) := by decide +kernel
theorem dX4_told_31 : decode cX4_told 31 = .ok (.ireturn, 1) := by decide +kernel
theorem dX4_band_0 : decode cX4_band 0 = .ok (.aload_n 0, 1) := by decide +kernel
theorem dX4_band_1 : decode cX4_band 1 = .ok (.iload_n 1, 1) := by decide +kernel
theorem dX4_band_2 : decode cX4_band 2 = .ok (.invokevirtual 122, 3) := by decide +kernel
theorem dX4_band_5 : decode cX4_band 5 = .ok (.astore 5, 2) := by decide +kernel
theorem dX4_band_7 : decode cX4_band 7 = .ok (.aload_n 0, 1) := by decide +kernel
theorem dX4_band_8 : decode cX4_band 8 = .ok (.iload_n 2, 1) := by decide +kernel
theorem dX4_band_9 : decode cX4_band 9 = .ok (.invokevirtual 55, 3) := by decide +kernel
theorem dX4_band_12 : decode cX4_band 12 = .ok (.astore 6, 2) := by decide +kernel
theorem dX4_band_14 : decode cX4_band 14 = .ok (.aload 5, 2) := by decide +kernel
theorem dX4_band_16 : decode cX4_band 16 = .ok (.ifnull 8, 3) := by decide +kernel
theorem dX4_band_19 : decode cX4_band 19 = .ok (.aload 6, 2) := by decide +kernel
theorem dX4_band_21 : decode cX4_band 21 = .ok (.ifnonnull 6, 3) := by decide +kernel
theorem dX4_band_24 : decode cX4_band 24 = .ok (.bipush (-101), 2) := by decide +kernel
theorem dX4_band_26 : decode cX4_band 26 = .ok (.ireturn, 1) := by decide +kernel
theorem dX4_band_27 : decode cX4_band 27 = .ok (.iload 4, 2) := by decide +kernel
theorem dX4_band_29 : decode cX4_band 29 = .ok (.ifCond .eq 12, 3) := by decide +kernel
theorem dX4_band_32 : decode cX4_band 32 = .ok (.iload 4, 2) := by decide +kernel
theorem dX4_band_34 : decode cX4_band 34 = .ok (.iconst 1, 1) := by decide +kernel
theorem dX4_band_35 : decode cX4_band 35 = .ok (.if_icmp .eq 6, 3) := by decide +kernel
theorem dX4_band_38 : decode cX4_band 38 = .ok (.bipush (-102), 2) := by decide +kernel
theorem dX4_band_40 : decode cX4_band 40 = .ok (.ireturn, 1) := by decide +kernel
theorem dX4_band_41 : decode cX4_band 41 = .ok (.aload 6, 2) := by decide +kernel
theorem dX4_band_43 : decode cX4_band 43 = .ok (.getfield 71, 3) := by decide +kernel
theorem dX4_band_46 : decode cX4_band 46 = .ok (.ifCond .eq 9, 3) := by decide +kernel
theorem dX4_band_49 : decode cX4_band 49 = .ok (.aload_n 0, 1) := by decide +kernel
theorem dX4_band_50 : decode cX4_band 50 = .ok (.iconst 1, 1) := by decide +kernel
theorem dX4_band_51 : decode cX4_band 51 = .ok (.invokevirtual 63, 3) := by decide +kernel
theorem dX4_band_54 : decode cX4_band 54 = .ok (.ireturn, 1) := by decide +kernel
theorem dX4_band_55 : decode cX4_band 55 = .ok (.iload_n 3, 1) := by decide +kernel
theorem dX4_band_56 : decode cX4_band 56 = .ok (.iconst 0, 1) := by decide +kernel
theorem dX4_band_57 : decode cX4_band 57 = .ok (.aload 6, 2) := by decide +kernel
theorem dX4_band_59 : decode cX4_band 59 = .ok (.getfield 93, 3) := by decide +kernel
theorem dX4_band_62 : decode cX4_band 62 = .ok (.iconst 1, 1) := by decide +kernel
theorem dX4_band_63 : decode cX4_band 63 = .ok (.isub, 1) := by decide +kernel
theorem dX4_band_64 : decode cX4_band 64 = .ok (.invokestatic 106, 3) := by decide +kernel
theorem dX4_band_67 : decode cX4_band 67 = .ok (.ifCond .ne 9, 3) := by decide +kernel
theorem dX4_band_70 : decode cX4_band 70 = .ok (.aload_n 0, 1) := by decide +kernel
theorem dX4_band_71 : decode cX4_band 71 = .ok (.iconst 2, 1) := by decide +kernel
theorem dX4_band_72 : decode cX4_band 72 = .ok (.invokevirtual 63, 3) := by decide +kernel
theorem dX4_band_75 : decode cX4_band 75 = .ok (.ireturn, 1) := by decide +kernel
theorem dX4_band_76 : decode cX4_band 76 = .ok (.aload 5, 2) := by decide +kernel
theorem dX4_band_78 : decode cX4_band 78 = .ok (.iload_n 3, 1) := by decide +kernel
theorem dX4_band_79 : decode cX4_band 79 = .ok (.aload 6, 2) := by decide +kernel
theorem dX4_band_81 : decode cX4_band 81 = .ok (.invokevirtual 130, 3) := by decide +kernel
theorem dX4_band_84 : decode cX4_band 84 = .ok (.istore 7, 2) := by decide +kernel
theorem dX4_band_86 : decode cX4_band 86 = .ok (.aload 5, 2) := by decide +kernel
theorem dX4_band_88 : decode cX4_band 88 = .ok (.iload_n 3, 1) := by decide +kernel
theorem dX4_band_89 : decode cX4_band 89 = .ok (.aload 6, 2) := by decide +kernel
theorem dX4_band_91 : decode cX4_band 91 = .ok (.invokevirtual 134, 3) := by decide +kernel
theorem dX4_band_94 : decode cX4_band 94 = .ok (.istore 8, 2) := by decide +kernel
theorem dX4_band_96 : decode cX4_band 96 = .ok (.iload 7, 2) := by decide +kernel
theorem dX4_band_98 : decode cX4_band 98 = .ok (.iload 8, 2) := by decide +kernel
theorem dX4_band_100 : decode cX4_band 100 = .ok (.if_icmp .le 11, 3) := by decide +kernel
theorem dX4_band_103 : decode cX4_band 103 = .ok (.aload_n 0, 1) := by decide +kernel
theorem dX4_band_104 : decode cX4_band 104 = .ok (.iconst (-1), 1) := by decide +kernel
theorem dX4_band_105 : decode cX4_band 105 = .ok (.putfield 103, 3) := by decide +kernel
theorem dX4_band_108 : decode cX4_band 108 = .ok (.goto 19, 3) := by decide +kernel
theorem dX4_band_111 : decode cX4_band 111 = .ok (.aload_n 0, 1) := by decide +kernel
theorem dX4_band_112 : decode cX4_band 112 = .ok (.iload 4, 2) := by decide +kernel
theorem dX4_band_114 : decode cX4_band 114 = .ok (.ifCond .ne 8, 3) := by decide +kernel
theorem dX4_band_117 : decode cX4_band 117 = .ok (.iload 7, 2) := by decide +kernel
theorem dX4_band_119 : decode cX4_band 119 = .ok (.goto 5, 3) := by decide +kernel
theorem dX4_band_122 : decode cX4_band 122 = .ok (.iload 8, 2) := by decide +kernel
theorem dX4_band_124 : decode cX4_band 124 = .ok (.putfield 103, 3) := by decide +kernel
theorem dX4_band_127 : decode cX4_band 127 = .ok (.iconst 1, 1) := by decide +kernel
theorem dX4_band_128 : decode cX4_band 128 = .ok (.ireturn, 1) := by decide +kernel
theorem dX4_trace_0 : decode cX4_trace 0 = .ok (.aload_n 0, 1) := by decide +kernel
theorem dX4_trace_1 : decode cX4_trace 1 = .ok (.iload_n 1, 1) := by decide +kernel
theorem dX4_trace_2 : decode cX4_trace 2 = .ok (.invokevirtual 122, 3) := by decide +kernel
theorem dX4_trace_5 : decode cX4_trace 5 = .ok (.astore_n 3, 1) := by decide +kernel
theorem dX4_trace_6 : decode cX4_trace 6 = .ok (.aload_n 0, 1) := by decide +kernel
theorem dX4_trace_7 : decode cX4_trace 7 = .ok (.iload_n 2, 1) := by decide +kernel
theorem dX4_trace_8 : decode cX4_trace 8 = .ok (.invokevirtual 55, 3) := by decide +kernel
theorem dX4_trace_11 : decode cX4_trace 11 = .ok (.astore 4, 2) := by decide +kernel
theorem dX4_trace_13 : decode cX4_trace 13 = .ok (.aload_n 3, 1) := by decide +kernel
theorem dX4_trace_14 : decode cX4_trace 14 = .ok (.ifnull 8, 3) := by decide +kernel
theorem dX4_trace_17 : decode cX4_trace 17 = .ok (.aload 4, 2) := by decide +kernel
theorem dX4_trace_19 : decode cX4_trace 19 = .ok (.ifnonnull 6, 3) := by decide +kernel
theorem dX4_trace_22 : decode cX4_trace 22 = .ok (.bipush (-101), 2) := by decide +kernel
theorem dX4_trace_24 : decode cX4_trace 24 = .ok (.ireturn, 1) := by decide +kernel
theorem dX4_trace_25 : decode cX4_trace 25 = .ok (.aload 4, 2) := by decide +kernel
theorem dX4_trace_27 : decode cX4_trace 27 = .ok (.getfield 71, 3) := by decide +kernel
theorem dX4_trace_30 : decode cX4_trace 30 = .ok (.ifCond .eq 9, 3) := by decide +kernel
theorem dX4_trace_33 : decode cX4_trace 33 = .ok (.aload_n 0, 1) := by decide +kernel
theorem dX4_trace_34 : decode cX4_trace 34 = .ok (.iconst 1, 1) := by decide +kernel
theorem dX4_trace_35 : decode cX4_trace 35 = .ok (.invokevirtual 63, 3) := by decide +kernel
theorem dX4_trace_38 : decode cX4_trace 38 = .ok (.ireturn, 1) := by decide +kernel
theorem dX4_trace_39 : decode cX4_trace 39 = .ok (.aload_n 0, 1) := by decide +kernel
theorem dX4_trace_40 : decode cX4_trace 40 = .ok (.aload_n 3, 1) := by decide +kernel
theorem dX4_trace_41 : decode cX4_trace 41 = .ok (.aload 4, 2) := by decide +kernel
theorem dX4_trace_43 : decode cX4_trace 43 = .ok (.iconst 0, 1) := by decide +kernel
theorem dX4_trace_44 : decode cX4_trace 44 = .ok (.invokevirtual 137, 3) := by decide +kernel
theorem dX4_trace_47 : decode cX4_trace 47 = .ok (.istore 5, 2) := by decide +kernel
theorem dX4_trace_49 : decode cX4_trace 49 = .ok (.aload_n 0, 1) := by decide +kernel
theorem dX4_trace_50 : decode cX4_trace 50 = .ok (.aload_n 3, 1) := by decide +kernel
theorem dX4_trace_51 : decode cX4_trace 51 = .ok (.aload 4, 2) := by decide +kernel
theorem dX4_trace_53 : decode cX4_trace 53 = .ok (.aload 4, 2) := by decide +kernel
theorem dX4_trace_55 : decode cX4_trace 55 = .ok (.getfield 93, 3) := by decide +kernel
theorem dX4_trace_58 : decode cX4_trace 58 = .ok (.iconst 1, 1) := by decide +kernel
theorem dX4_trace_59 : decode cX4_trace 59 = .ok (.isub, 1) := by decide +kernel
theorem dX4_trace_60 : decode cX4_trace 60 = .ok (.invokevirtual 137, 3) := by decide +kernel
theorem dX4_trace_63 : decode cX4_trace 63 = .ok (.istore 6, 2) := by decide +kernel
theorem dX4_trace_65 : decode cX4_trace 65 = .ok (.iload 5, 2) := by decide +kernel
theorem dX4_trace_67 : decode cX4_trace 67 = .ok (.iconst (-1), 1) := by decide +kernel
theorem dX4_trace_68 : decode cX4_trace 68 = .ok (.if_icmp .eq 9, 3) := by decide +kernel
theorem dX4_trace_71 : decode cX4_trace 71 = .ok (.aload_n 3, 1) := by decide +kernel
theorem dX4_trace_72 : decode cX4_trace 72 = .ok (.iload 5, 2) := by decide +kernel
theorem dX4_trace_74 : decode cX4_trace 74 = .ok (.putfield 113, 3) := by decide +kernel
theorem dX4_trace_77 : decode cX4_trace 77 = .ok (.iload 6, 2) := by decide +kernel
theorem dX4_trace_79 : decode cX4_trace 79 = .ok (.iconst (-1), 1) := by decide +kernel
theorem dX4_trace_80 : decode cX4_trace 80 = .ok (.if_icmp .eq 9, 3) := by decide +kernel
theorem dX4_trace_83 : decode cX4_trace 83 = .ok (.aload_n 3, 1) := by decide +kernel
theorem dX4_trace_84 : decode cX4_trace 84 = .ok (.iload 6, 2) := by decide +kernel
theorem dX4_trace_86 : decode cX4_trace 86 = .ok (.putfield 116, 3) := by decide +kernel
theorem dX4_trace_89 : decode cX4_trace 89 = .ok (.iconst 1, 1) := by decide +kernel
theorem dX4_trace_90 : decode cX4_trace 90 = .ok (.ireturn, 1) := by decide +kernel
theorem dX4_draw_0 : decode cX4_draw 0 = .ok (.aload_n 0, 1) := by decide +kernel
theorem dX4_draw_1 : decode cX4_draw 1 = .ok (.iload_n 1, 1) := by decide +kernel
theorem dX4_draw_2 : decode cX4_draw 2 = .ok (.invokevirtual 122, 3) := by decide +kernel
theorem dX4_draw_5 : decode cX4_draw 5 = .ok (.astore 5, 2) := by decide +kernel
theorem dX4_draw_7 : decode cX4_draw 7 = .ok (.aload_n 0, 1) := by decide +kernel
theorem dX4_draw_8 : decode cX4_draw 8 = .ok (.iload_n 2, 1) := by decide +kernel
theorem dX4_draw_9 : decode cX4_draw 9 = .ok (.invokevirtual 55, 3) := by decide +kernel
theorem dX4_draw_12 : decode cX4_draw 12 = .ok (.astore 6, 2) := by decide +kernel
theorem dX4_draw_14 : decode cX4_draw 14 = .ok (.aload_n 0, 1) := by decide +kernel
theorem dX4_draw_15 : decode cX4_draw 15 = .ok (.iload_n 3, 1) := by decide +kernel
theorem dX4_draw_16 : decode cX4_draw 16 = .ok (.invokevirtual 55, 3) := by decide +kernel
theorem dX4_draw_19 : decode cX4_draw 19 = .ok (.astore 7, 2) := by decide +kernel
theorem dX4_draw_21 : decode cX4_draw 21 = .ok (.aload 5, 2) := by decide +kernel
theorem dX4_draw_23 : decode cX4_draw 23 = .ok (.ifnull 13, 3) := by decide +kernel
theorem dX4_draw_26 : decode cX4_draw 26 = .ok (.aload 6, 2) := by decide +kernel
theorem dX4_draw_28 : decode cX4_draw 28 = .ok (.ifnull 8, 3) := by decide +kernel
theorem dX4_draw_31 : decode cX4_draw 31 = .ok (.aload 7, 2) := by decide +kernel
theorem dX4_draw_33 : decode cX4_draw 33 = .ok (.ifnonnull 6, 3) := by decide +kernel
theorem dX4_draw_36 : decode cX4_draw 36 = .ok (.bipush (-101), 2) := by decide +kernel
theorem dX4_draw_38 : decode cX4_draw 38 = .ok (.ireturn, 1) := by decide +kernel
theorem dX4_draw_39 : decode cX4_draw 39 = .ok (.iload 4, 2) := by decide +kernel
theorem dX4_draw_41 : decode cX4_draw 41 = .ok (.iconst 0, 1) := by decide +kernel
theorem dX4_draw_42 : decode cX4_draw 42 = .ok (.bipush 100, 2) := by decide +kernel
theorem dX4_draw_44 : decode cX4_draw 44 = .ok (.invokestatic 106, 3) := by decide +kernel
theorem dX4_draw_47 : decode cX4_draw 47 = .ok (.ifCond .ne 6, 3) := by decide +kernel
theorem dX4_draw_50 : decode cX4_draw 50 = .ok (.bipush (-102), 2) := by decide +kernel
theorem dX4_draw_52 : decode cX4_draw 52 = .ok (.ireturn, 1) := by decide +kernel
theorem dX4_draw_53 : decode cX4_draw 53 = .ok (.aload 6, 2) := by decide +kernel
theorem dX4_draw_55 : decode cX4_draw 55 = .ok (.getfield 71, 3) := by decide +kernel
theorem dX4_draw_58 : decode cX4_draw 58 = .ok (.ifCond .ne 11, 3) := by decide +kernel
theorem dX4_draw_61 : decode cX4_draw 61 = .ok (.aload 7, 2) := by decide +kernel
theorem dX4_draw_63 : decode cX4_draw 63 = .ok (.getfield 71, 3) := by decide +kernel
theorem dX4_draw_66 : decode cX4_draw 66 = .ok (.ifCond .eq 9, 3) := by decide +kernel
theorem dX4_draw_69 : decode cX4_draw 69 = .ok (.aload_n 0, 1) := by decide +kernel
theorem dX4_draw_70 : decode cX4_draw 70 = .ok (.iconst 1, 1) := by decide +kernel
theorem dX4_draw_71 : decode cX4_draw 71 = .ok (.invokevirtual 63, 3) := by decide +kernel
theorem dX4_draw_74 : decode cX4_draw 74 = .ok (.ireturn, 1) := by decide +kernel
theorem dX4_draw_75 : decode cX4_draw 75 = .ok (.aload 6, 2) := by decide +kernel
theorem dX4_draw_77 : decode cX4_draw 77 = .ok (.aload 7, 2) := by decide +kernel
theorem dX4_draw_79 : decode cX4_draw 79 = .ok (.invokevirtual 86, 3) := by decide +kernel
theorem dX4_draw_82 : decode cX4_draw 82 = .ok (.ifCond .ne 9, 3) := by decide +kernel
theorem dX4_draw_85 : decode cX4_draw 85 = .ok (.aload_n 0, 1) := by decide +kernel
theorem dX4_draw_86 : decode cX4_draw 86 = .ok (.iconst 5, 1) := by decide +kernel
theorem dX4_draw_87 : decode cX4_draw 87 = .ok (.invokevirtual 63, 3) := by decide +kernel
theorem dX4_draw_90 : decode cX4_draw 90 = .ok (.ireturn, 1) := by decide +kernel
theorem dX4_draw_91 : decode cX4_draw 91 = .ok (.aload 5, 2) := by decide +kernel
theorem dX4_draw_93 : decode cX4_draw 93 = .ok (.aload 6, 2) := by decide +kernel
theorem dX4_draw_95 : decode cX4_draw 95 = .ok (.getfield 93, 3) := by decide +kernel
theorem dX4_draw_98 : decode cX4_draw 98 = .ok (.putfield 141, 3) := by decide +kernel
theorem dX4_draw_101 : decode cX4_draw 101 = .ok (.iconst 0, 1) := by decide +kernel
theorem dX4_draw_102 : decode cX4_draw 102 = .ok (.istore 8, 2) := by decide +kernel
theorem dX4_draw_104 : decode cX4_draw 104 = .ok (.iload 8, 2) := by decide +kernel
theorem dX4_draw_106 : decode cX4_draw 106 = .ok (.aload 5, 2) := by decide +kernel
theorem dX4_draw_108 : decode cX4_draw 108 = .ok (.getfield 141, 3) := by decide +kernel
theorem dX4_draw_111 : decode cX4_draw 111 = .ok (.if_icmp .ge 42, 3) := by decide +kernel
theorem dX4_draw_114 : decode cX4_draw 114 = .ok (.iload 8, 2) := by decide +kernel
theorem dX4_draw_116 : decode cX4_draw 116 = .ok (.aload 5, 2) := by decide +kernel
theorem dX4_draw_118 : decode cX4_draw 118 = .ok (.getfield 144, 3) := by decide +kernel
theorem dX4_draw_121 : decode cX4_draw 121 = .ok (.arraylength, 1) := by decide +kernel
theorem dX4_draw_122 : decode cX4_draw 122 = .ok (.if_icmp .ge 31, 3) := by decide +kernel
theorem dX4_draw_125 : decode cX4_draw 125 = .ok (.aload 5, 2) := by decide +kernel
theorem dX4_draw_127 : decode cX4_draw 127 = .ok (.getfield 144, 3) := by decide +kernel
theorem dX4_draw_130 : decode cX4_draw 130 = .ok (.iload 8, 2) := by decide +kernel
theorem dX4_draw_132 : decode cX4_draw 132 = .ok (.aload_n 0, 1) := by decide +kernel
theorem dX4_draw_133 : decode cX4_draw 133 = .ok (.aload 5, 2) := by decide +kernel
theorem dX4_draw_135 : decode cX4_draw 135 = .ok (.aload 6, 2) := by decide +kernel
theorem dX4_draw_137 : decode cX4_draw 137 = .ok (.aload 7, 2) := by decide +kernel
theorem dX4_draw_139 : decode cX4_draw 139 = .ok (.iload 8, 2) := by decide +kernel
theorem dX4_draw_141 : decode cX4_draw 141 = .ok (.iload 4, 2) := by decide +kernel
theorem dX4_draw_143 : decode cX4_draw 143 = .ok (.invokevirtual 147, 3) := by decide +kernel
theorem dX4_draw_146 : decode cX4_draw 146 = .ok (.lastore, 1) := by decide +kernel
theorem dX4_draw_147 : decode cX4_draw 147 = .ok (.iinc 8 1, 3) := by decide +kernel
theorem dX4_draw_150 : decode cX4_draw 150 = .ok (.goto (-46), 3) := by decide +kernel
theorem dX4_draw_153 : decode cX4_draw 153 = .ok (.aload 5, 2) := by decide +kernel
theorem dX4_draw_155 : decode cX4_draw 155 = .ok (.getfield 151, 3) := by decide +kernel
theorem dX4_draw_158 : decode cX4_draw 158 = .ok (.invokevirtual 154, 3) := by decide +kernel
theorem dX4_draw_161 : decode cX4_draw 161 = .ok (.aload 5, 2) := by decide +kernel
theorem dX4_draw_163 : decode cX4_draw 163 = .ok (.getfield 141, 3) := by decide +kernel
theorem dX4_draw_166 : decode cX4_draw 166 = .ok (.ireturn, 1) := by decide +kernel
theorem dX4_number_0 : decode cX4_number 0 = .ok (.aload_n 0, 1) := by decide +kernel
theorem dX4_number_1 : decode cX4_number 1 = .ok (.iload_n 1, 1) := by decide +kernel
theorem dX4_number_2 : decode cX4_number 2 = .ok (.invokevirtual 122, 3) := by decide +kernel
theorem dX4_number_5 : decode cX4_number 5 = .ok (.astore_n 3, 1) := by decide +kernel
theorem dX4_number_6 : decode cX4_number 6 = .ok (.aload_n 3, 1) := by decide +kernel
theorem dX4_number_7 : decode cX4_number 7 = .ok (.ifnonnull 7, 3) := by decide +kernel
theorem dX4_number_10 : decode cX4_number 10 = .ok (.ldc2_w 157, 3) := by decide +kernel
theorem dX4_number_13 : decode cX4_number 13 = .ok (.lreturn, 1) := by decide +kernel
theorem dX4_number_14 : decode cX4_number 14 = .ok (.aload_n 3, 1) := by decide +kernel
theorem dX4_number_15 : decode cX4_number 15 = .ok (.iload_n 2, 1) := by decide +kernel
theorem dX4_number_16 : decode cX4_number 16 = .ok (.invokevirtual 159, 3) := by decide +kernel
theorem dX4_number_19 : decode cX4_number 19 = .ok (.ifCond .eq 11, 3) := by decide +kernel
theorem dX4_number_22 : decode cX4_number 22 = .ok (.aload_n 3, 1) := by decide +kernel
theorem dX4_number_23 : decode cX4_number 23 = .ok (.iload_n 2, 1) := by decide +kernel
theorem dX4_number_24 : decode cX4_number 24 = .ok (.invokevirtual 162, 3) := by decide +kernel
theorem dX4_number_27 : decode cX4_number 27 = .ok (.goto 6, 3) := by decide +kernel
theorem dX4_number_30 : decode cX4_number 30 = .ok (.ldc2_w 165, 3) := by decide +kernel
theorem dX4_number_33 : decode cX4_number 33 = .ok (.lreturn, 1) := by decide +kernel
theorem dX4_peaks_0 : decode cX4_peaks 0 = .ok (.aload_n 0, 1) := by decide +kernel
theorem dX4_peaks_1 : decode cX4_peaks 1 = .ok (.iload_n 1, 1) := by decide +kernel
theorem dX4_peaks_2 : decode cX4_peaks 2 = .ok (.invokevirtual 122, 3) := by decide +kernel
theorem dX4_peaks_5 : decode cX4_peaks 5 = .ok (.astore 4, 2) := by decide +kernel
theorem dX4_peaks_7 : decode cX4_peaks 7 = .ok (.aload 4, 2) := by decide +kernel
theorem dX4_peaks_9 : decode cX4_peaks 9 = .ok (.ifnonnull 6, 3) := by decide +kernel
theorem dX4_peaks_12 : decode cX4_peaks 12 = .ok (.bipush (-101), 2) := by decide +kernel
theorem dX4_peaks_14 : decode cX4_peaks 14 = .ok (.ireturn, 1) := by decide +kernel
theorem dX4_peaks_15 : decode cX4_peaks 15 = .ok (.lload_n 2, 1) := by decide +kernel
theorem dX4_peaks_16 : decode cX4_peaks 16 = .ok (.lconst 1, 1) := by decide +kernel
theorem dX4_peaks_17 : decode cX4_peaks 17 = .ok (.lcmp, 1) := by decide +kernel
theorem dX4_peaks_18 : decode cX4_peaks 18 = .ok (.ifCond .ge 6, 3) := by decide +kernel
theorem dX4_peaks_21 : decode cX4_peaks 21 = .ok (.bipush (-102), 2) := by decide +kernel
theorem dX4_peaks_23 : decode cX4_peaks 23 = .ok (.ireturn, 1) := by decide +kernel
theorem dX4_peaks_24 : decode cX4_peaks 24 = .ok (.aload_n 0, 1) := by decide +kernel
theorem dX4_peaks_25 : decode cX4_peaks 25 = .ok (.aload 4, 2) := by decide +kernel
theorem dX4_peaks_27 : decode cX4_peaks 27 = .ok (.lload_n 2, 1) := by decide +kernel
theorem dX4_peaks_28 : decode cX4_peaks 28 = .ok (.invokevirtual 167, 3) := by decide +kernel
theorem dX4_peaks_31 : decode cX4_peaks 31 = .ok (.ireturn, 1) := by decide +kernel
theorem dX4_peak_0 : decode cX4_peak 0 = .ok (.aload_n 0, 1) := by decide +kernel
theorem dX4_peak_1 : decode cX4_peak 1 = .ok (.iload_n 1, 1) := by decide +kernel
theorem dX4_peak_2 : decode cX4_peak 2 = .ok (.invokevirtual 122, 3) := by decide +kernel
theorem dX4_peak_5 : decode cX4_peak 5 = .ok (.astore 5, 2) := by decide +kernel
theorem dX4_peak_7 : decode cX4_peak 7 = .ok (.aload 5, 2) := by decide +kernel
theorem dX4_peak_9 : decode cX4_peak 9 = .ok (.ifnonnull 6, 3) := by decide +kernel
theorem dX4_peak_12 : decode cX4_peak 12 = .ok (.bipush (-101), 2) := by decide +kernel
theorem dX4_peak_14 : decode cX4_peak 14 = .ok (.ireturn, 1) := by decide +kernel
theorem dX4_peak_15 : decode cX4_peak 15 = .ok (.lload_n 2, 1) := by decide +kernel
theorem dX4_peak_16 : decode cX4_peak 16 = .ok (.lconst 1, 1) := by decide +kernel
theorem dX4_peak_17 : decode cX4_peak 17 = .ok (.lcmp, 1) := by decide +kernel
theorem dX4_peak_18 : decode cX4_peak 18 = .ok (.ifCond .ge 6, 3) := by decide +kernel
theorem dX4_peak_21 : decode cX4_peak 21 = .ok (.bipush (-102), 2) := by decide +kernel
theorem dX4_peak_23 : decode cX4_peak 23 = .ok (.ireturn, 1) := by decide +kernel
theorem dX4_peak_24 : decode cX4_peak 24 = .ok (.aload_n 0, 1) := by decide +kernel
theorem dX4_peak_25 : decode cX4_peak 25 = .ok (.aload 5, 2) := by decide +kernel
theorem dX4_peak_27 : decode cX4_peak 27 = .ok (.lload_n 2, 1) := by decide +kernel
theorem dX4_peak_28 : decode cX4_peak 28 = .ok (.invokevirtual 167, 3) := by decide +kernel
theorem dX4_peak_31 : decode cX4_peak 31 = .ok (.istore 6, 2) := by decide +kernel
theorem dX4_peak_33 : decode cX4_peak 33 = .ok (.iload 4, 2) := by decide +kernel
theorem dX4_peak_35 : decode cX4_peak 35 = .ok (.iconst 0, 1) := by decide +kernel
theorem dX4_peak_36 : decode cX4_peak 36 = .ok (.iload 6, 2) := by decide +kernel
theorem dX4_peak_38 : decode cX4_peak 38 = .ok (.iconst 1, 1) := by decide +kernel
theorem dX4_peak_39 : decode cX4_peak 39 = .ok (.isub, 1) := by decide +kernel
theorem dX4_peak_40 : decode cX4_peak 40 = .ok (.invokestatic 106, 3) := by decide +kernel
theorem dX4_peak_43 : decode cX4_peak 43 = .ok (.ifCond .eq 13, 3) := by decide +kernel
theorem dX4_peak_46 : decode cX4_peak 46 = .ok (.aload_n 0, 1) := by decide +kernel
theorem dX4_peak_47 : decode cX4_peak 47 = .ok (.getfield 36, 3) := by decide +kernel
theorem dX4_peak_50 : decode cX4_peak 50 = .ok (.iload 4, 2) := by decide +kernel
theorem dX4_peak_52 : decode cX4_peak 52 = .ok (.iaload, 1) := by decide +kernel
theorem dX4_peak_53 : decode cX4_peak 53 = .ok (.goto 4, 3) := by decide +kernel
theorem dX4_peak_56 : decode cX4_peak 56 = .ok (.iconst (-1), 1) := by decide +kernel
theorem dX4_peak_57 : decode cX4_peak 57 = .ok (.ireturn, 1) := by decide +kernel
theorem dX4_line_0 : decode cX4_line 0 = .ok (.iload_n 1, 1) := by decide +kernel
theorem dX4_line_1 : decode cX4_line 1 = .ok (.iconst 1, 1) := by decide +kernel
theorem dX4_line_2 : decode cX4_line 2 = .ok (.ldc 171, 2) := by decide +kernel
theorem dX4_line_4 : decode cX4_line 4 = .ok (.invokestatic 106, 3) := by decide +kernel
theorem dX4_line_7 : decode cX4_line 7 = .ok (.ifCond .eq 25, 3) := by decide +kernel
theorem dX4_line_10 : decode cX4_line 10 = .ok (.aload_n 0, 1) := by decide +kernel
theorem dX4_line_11 : decode cX4_line 11 = .ok (.getfield 172, 3) := by decide +kernel
theorem dX4_line_14 : decode cX4_line 14 = .ok (.ifCond .le 21, 3) := by decide +kernel
theorem dX4_line_17 : decode cX4_line 17 = .ok (.iload_n 1, 1) := by decide +kernel
theorem dX4_line_18 : decode cX4_line 18 = .ok (.aload_n 0, 1) := by decide +kernel
theorem dX4_line_19 : decode cX4_line 19 = .ok (.getfield 25, 3) := by decide +kernel
theorem dX4_line_22 : decode cX4_line 22 = .ok (.aload_n 0, 1) := by decide +kernel
theorem dX4_line_23 : decode cX4_line 23 = .ok (.getfield 172, 3) := by decide +kernel
theorem dX4_line_26 : decode cX4_line 26 = .ok (.iconst 1, 1) := by decide +kernel
theorem dX4_line_27 : decode cX4_line 27 = .ok (.isub, 1) := by decide +kernel
theorem dX4_line_28 : decode cX4_line 28 = .ok (.iaload, 1) := by decide +kernel
theorem dX4_line_29 : decode cX4_line 29 = .ok (.if_icmp .gt 6, 3) := by decide +kernel
theorem dX4_line_32 : decode cX4_line 32 = .ok (.bipush (-102), 2) := by decide +kernel
theorem dX4_line_34 : decode cX4_line 34 = .ok (.ireturn, 1) := by decide +kernel
theorem dX4_line_35 : decode cX4_line 35 = .ok (.aload_n 0, 1) := by decide +kernel
theorem dX4_line_36 : decode cX4_line 36 = .ok (.getfield 172, 3) := by decide +kernel
theorem dX4_line_39 : decode cX4_line 39 = .ok (.bipush 12, 2) := by decide +kernel
theorem dX4_line_41 : decode cX4_line 41 = .ok (.if_icmp .lt 6, 3) := by decide +kernel
theorem dX4_line_44 : decode cX4_line 44 = .ok (.bipush (-104), 2) := by decide +kernel
theorem dX4_line_46 : decode cX4_line 46 = .ok (.ireturn, 1) := by decide +kernel
theorem dX4_line_47 : decode cX4_line 47 = .ok (.aload_n 0, 1) := by decide +kernel
theorem dX4_line_48 : decode cX4_line 48 = .ok (.getfield 25, 3) := by decide +kernel
theorem dX4_line_51 : decode cX4_line 51 = .ok (.aload_n 0, 1) := by decide +kernel
theorem dX4_line_52 : decode cX4_line 52 = .ok (.getfield 172, 3) := by decide +kernel
theorem dX4_line_55 : decode cX4_line 55 = .ok (.iload_n 1, 1) := by decide +kernel
theorem dX4_line_56 : decode cX4_line 56 = .ok (.iastore, 1) := by decide +kernel
theorem dX4_line_57 : decode cX4_line 57 = .ok (.aload_n 0, 1) := by decide +kernel
theorem dX4_line_58 : decode cX4_line 58 = .ok (.dup, 1) := by decide +kernel
theorem dX4_line_59 : decode cX4_line 59 = .ok (.getfield 172, 3) := by decide +kernel
theorem dX4_line_62 : decode cX4_line 62 = .ok (.iconst 1, 1) := by decide +kernel
theorem dX4_line_63 : decode cX4_line 63 = .ok (.iadd, 1) := by decide +kernel
theorem dX4_line_64 : decode cX4_line 64 = .ok (.putfield 172, 3) := by decide +kernel
theorem dX4_line_67 : decode cX4_line 67 = .ok (.aload_n 0, 1) := by decide +kernel
theorem dX4_line_68 : decode cX4_line 68 = .ok (.getfield 172, 3) := by decide +kernel
theorem dX4_line_71 : decode cX4_line 71 = .ok (.ireturn, 1) := by decide +kernel
theorem dX4_clear_0 : decode cX4_clear 0 = .ok (.aload_n 0, 1) := by decide +kernel
theorem dX4_clear_1 : decode cX4_clear 1 = .ok (.getfield 172, 3) := by decide +kernel
theorem dX4_clear_4 : decode cX4_clear 4 = .ok (.istore_n 1, 1) := by decide +kernel
theorem dX4_clear_5 : decode cX4_clear 5 = .ok (.aload_n 0, 1) := by decide +kernel
theorem dX4_clear_6 : decode cX4_clear 6 = .ok (.iconst 0, 1) := by decide +kernel
theorem dX4_clear_7 : decode cX4_clear 7 = .ok (.putfield 172, 3) := by decide +kernel
theorem dX4_clear_10 : decode cX4_clear 10 = .ok (.iload_n 1, 1) := by decide +kernel
theorem dX4_clear_11 : decode cX4_clear 11 = .ok (.ireturn, 1) := by decide +kernel
theorem dX4_match_0 : decode cX4_match 0 = .ok (.aload_n 0, 1) := by decide +kernel
theorem dX4_match_1 : decode cX4_match 1 = .ok (.iload_n 1, 1) := by decide +kernel
theorem dX4_match_2 : decode cX4_match 2 = .ok (.invokevirtual 122, 3) := by decide +kernel
theorem dX4_match_5 : decode cX4_match 5 = .ok (.astore 5, 2) := by decide +kernel
theorem dX4_match_7 : decode cX4_match 7 = .ok (.aload 5, 2) := by decide +kernel
theorem dX4_match_9 : decode cX4_match 9 = .ok (.ifnonnull 6, 3) := by decide +kernel
theorem dX4_match_12 : decode cX4_match 12 = .ok (.bipush (-101), 2) := by decide +kernel
theorem dX4_match_14 : decode cX4_match 14 = .ok (.ireturn, 1) := by decide +kernel
theorem dX4_match_15 : decode cX4_match 15 = .ok (.lload_n 2, 1) := by decide +kernel
theorem dX4_match_16 : decode cX4_match 16 = .ok (.lconst 1, 1) := by decide +kernel
theorem dX4_match_17 : decode cX4_match 17 = .ok (.lcmp, 1) := by decide +kernel
theorem dX4_match_18 : decode cX4_match 18 = .ok (.ifCond .lt 15, 3) := by decide +kernel
theorem dX4_match_21 : decode cX4_match 21 = .ok (.iload 4, 2) := by decide +kernel
theorem dX4_match_23 : decode cX4_match 23 = .ok (.iconst 0, 1) := by decide +kernel
theorem dX4_match_24 : decode cX4_match 24 = .ok (.sipush 10000, 3) := by decide +kernel
theorem dX4_match_27 : decode cX4_match 27 = .ok (.invokestatic 106, 3) := by decide +kernel
theorem dX4_match_30 : decode cX4_match 30 = .ok (.ifCond .ne 6, 3) := by decide +kernel
theorem dX4_match_33 : decode cX4_match 33 = .ok (.bipush (-102), 2) := by decide +kernel
theorem dX4_match_35 : decode cX4_match 35 = .ok (.ireturn, 1) := by decide +kernel
theorem dX4_match_36 : decode cX4_match 36 = .ok (.aload_n 0, 1) := by decide +kernel
theorem dX4_match_37 : decode cX4_match 37 = .ok (.aload 5, 2) := by decide +kernel
theorem dX4_match_39 : decode cX4_match 39 = .ok (.lload_n 2, 1) := by decide +kernel
theorem dX4_match_40 : decode cX4_match 40 = .ok (.invokevirtual 167, 3) := by decide +kernel
theorem dX4_match_43 : decode cX4_match 43 = .ok (.istore 6, 2) := by decide +kernel
theorem dX4_match_45 : decode cX4_match 45 = .ok (.iload 6, 2) := by decide +kernel
theorem dX4_match_47 : decode cX4_match 47 = .ok (.bipush 9, 2) := by decide +kernel
theorem dX4_match_49 : decode cX4_match 49 = .ok (.if_icmp .gt 13, 3) := by decide +kernel
theorem dX4_match_52 : decode cX4_match 52 = .ok (.aload_n 0, 1) := by decide +kernel
theorem dX4_match_53 : decode cX4_match 53 = .ok (.getfield 175, 3) := by decide +kernel
theorem dX4_match_56 : decode cX4_match 56 = .ok (.sipush 200, 3) := by decide +kernel
theorem dX4_match_59 : decode cX4_match 59 = .ok (.if_icmp .lt 6, 3) := by decide +kernel
theorem dX4_match_62 : decode cX4_match 62 = .ok (.bipush (-104), 2) := by decide +kernel
theorem dX4_match_64 : decode cX4_match 64 = .ok (.ireturn, 1) := by decide +kernel
theorem dX4_match_65 : decode cX4_match 65 = .ok (.aload_n 0, 1) := by decide +kernel
theorem dX4_match_66 : decode cX4_match 66 = .ok (.dup, 1) := by decide +kernel
theorem dX4_match_67 : decode cX4_match 67 = .ok (.getfield 175, 3) := by decide +kernel
theorem dX4_match_70 : decode cX4_match 70 = .ok (.iconst 1, 1) := by decide +kernel
theorem dX4_match_71 : decode cX4_match 71 = .ok (.iadd, 1) := by decide +kernel
theorem dX4_match_72 : decode cX4_match 72 = .ok (.putfield 175, 3) := by decide +kernel
theorem dX4_match_75 : decode cX4_match 75 = .ok (.aload_n 0, 1) := by decide +kernel
theorem dX4_match_76 : decode cX4_match 76 = .ok (.getfield 49, 3) := by decide +kernel
theorem dX4_match_79 : decode cX4_match 79 = .ok (.invokevirtual 154, 3) := by decide +kernel
theorem dX4_match_82 : decode cX4_match 82 = .ok (.iconst 0, 1) := by decide +kernel
theorem dX4_match_83 : decode cX4_match 83 = .ok (.istore 7, 2) := by decide +kernel
theorem dX4_match_85 : decode cX4_match 85 = .ok (.iload 7, 2) := by decide +kernel
theorem dX4_match_87 : decode cX4_match 87 = .ok (.iload 6, 2) := by decide +kernel
theorem dX4_match_89 : decode cX4_match 89 = .ok (.if_icmp .ge 40, 3) := by decide +kernel
theorem dX4_match_92 : decode cX4_match 92 = .ok (.iload 7, 2) := by decide +kernel
theorem dX4_match_94 : decode cX4_match 94 = .ok (.iconst 1, 1) := by decide +kernel
theorem dX4_match_95 : decode cX4_match 95 = .ok (.iadd, 1) := by decide +kernel
theorem dX4_match_96 : decode cX4_match 96 = .ok (.istore 8, 2) := by decide +kernel
theorem dX4_match_98 : decode cX4_match 98 = .ok (.iload 8, 2) := by decide +kernel
theorem dX4_match_100 : decode cX4_match 100 = .ok (.iload 6, 2) := by decide +kernel
theorem dX4_match_102 : decode cX4_match 102 = .ok (.if_icmp .ge 21, 3) := by decide +kernel
theorem dX4_match_105 : decode cX4_match 105 = .ok (.aload_n 0, 1) := by decide +kernel
theorem dX4_match_106 : decode cX4_match 106 = .ok (.iload 7, 2) := by decide +kernel
theorem dX4_match_108 : decode cX4_match 108 = .ok (.iload 8, 2) := by decide +kernel
theorem dX4_match_110 : decode cX4_match 110 = .ok (.iload 6, 2) := by decide +kernel
theorem dX4_match_112 : decode cX4_match 112 = .ok (.iload 4, 2) := by decide +kernel
theorem dX4_match_114 : decode cX4_match 114 = .ok (.invokevirtual 178, 3) := by decide +kernel
theorem dX4_match_117 : decode cX4_match 117 = .ok (.iinc 8 1, 3) := by decide +kernel
theorem dX4_match_120 : decode cX4_match 120 = .ok (.goto (-22), 3) := by decide +kernel
theorem dX4_match_123 : decode cX4_match 123 = .ok (.iinc 7 1, 3) := by decide +kernel
theorem dX4_match_126 : decode cX4_match 126 = .ok (.goto (-41), 3) := by decide +kernel
theorem dX4_match_129 : decode cX4_match 129 = .ok (.aload_n 0, 1) := by decide +kernel
theorem dX4_match_130 : decode cX4_match 130 = .ok (.getfield 49, 3) := by decide +kernel
theorem dX4_match_133 : decode cX4_match 133 = .ok (.getfield 182, 3) := by decide +kernel
theorem dX4_match_136 : decode cX4_match 136 = .ok (.ifCond .ne 5, 3) := by decide +kernel
theorem dX4_match_139 : decode cX4_match 139 = .ok (.iconst 0, 1) := by decide +kernel
theorem dX4_match_140 : decode cX4_match 140 = .ok (.ireturn, 1) := by decide +kernel
theorem dX4_match_141 : decode cX4_match 141 = .ok (.aload 5, 2) := by decide +kernel
theorem dX4_match_143 : decode cX4_match 143 = .ok (.getfield 151, 3) := by decide +kernel
theorem dX4_match_146 : decode cX4_match 146 = .ok (.aload_n 0, 1) := by decide +kernel
theorem dX4_match_147 : decode cX4_match 147 = .ok (.getfield 49, 3) := by decide +kernel
theorem dX4_match_150 : decode cX4_match 150 = .ok (.getfield 185, 3) := by decide +kernel
theorem dX4_match_153 : decode cX4_match 153 = .ok (.aload_n 0, 1) := by decide +kernel
theorem dX4_match_154 : decode cX4_match 154 = .ok (.getfield 49, 3) := by decide +kernel
theorem dX4_match_157 : decode cX4_match 157 = .ok (.getfield 186, 3) := by decide +kernel
theorem dX4_match_160 : decode cX4_match 160 = .ok (.aload_n 0, 1) := by decide +kernel
theorem dX4_match_161 : decode cX4_match 161 = .ok (.getfield 49, 3) := by decide +kernel
theorem dX4_match_164 : decode cX4_match 164 = .ok (.getfield 187, 3) := by decide +kernel
theorem dX4_match_167 : decode cX4_match 167 = .ok (.invokevirtual 190, 3) := by decide +kernel
theorem dX4_match_170 : decode cX4_match 170 = .ok (.aload_n 0, 1) := by decide +kernel
theorem dX4_match_171 : decode cX4_match 171 = .ok (.getfield 49, 3) := by decide +kernel
theorem dX4_match_174 : decode cX4_match 174 = .ok (.getfield 187, 3) := by decide +kernel
theorem dX4_match_177 : decode cX4_match 177 = .ok (.ireturn, 1) := by decide +kernel
theorem dX4_law_0 : decode cX4_law 0 = .ok (.aload_n 0, 1) := by decide +kernel
theorem dX4_law_1 : decode cX4_law 1 = .ok (.iload_n 1, 1) := by decide +kernel
theorem dX4_law_2 : decode cX4_law 2 = .ok (.invokevirtual 122, 3) := by decide +kernel
theorem dX4_law_5 : decode cX4_law 5 = .ok (.astore 4, 2) := by decide +kernel
theorem dX4_law_7 : decode cX4_law 7 = .ok (.aload 4, 2) := by decide +kernel
theorem dX4_law_9 : decode cX4_law 9 = .ok (.ifnonnull 6, 3) := by decide +kernel
theorem dX4_law_12 : decode cX4_law 12 = .ok (.bipush (-101), 2) := by decide +kernel
theorem dX4_law_14 : decode cX4_law 14 = .ok (.ireturn, 1) := by decide +kernel
theorem dX4_law_15 : decode cX4_law 15 = .ok (.iload_n 2, 1) := by decide +kernel
theorem dX4_law_16 : decode cX4_law 16 = .ok (.ldc 193, 2) := by decide +kernel
theorem dX4_law_18 : decode cX4_law 18 = .ok (.ldc 171, 2) := by decide +kernel
theorem dX4_law_20 : decode cX4_law 20 = .ok (.invokestatic 106, 3) := by decide +kernel
theorem dX4_law_23 : decode cX4_law 23 = .ok (.ifCond .eq 13, 3) := by decide +kernel
theorem dX4_law_26 : decode cX4_law 26 = .ok (.iload_n 3, 1) := by decide +kernel
theorem dX4_law_27 : decode cX4_law 27 = .ok (.iconst 1, 1) := by decide +kernel
theorem dX4_law_28 : decode cX4_law 28 = .ok (.ldc 194, 2) := by decide +kernel
theorem dX4_law_30 : decode cX4_law 30 = .ok (.invokestatic 106, 3) := by decide +kernel
theorem dX4_law_33 : decode cX4_law 33 = .ok (.ifCond .ne 6, 3) := by decide +kernel
theorem dX4_law_36 : decode cX4_law 36 = .ok (.bipush (-102), 2) := by decide +kernel
theorem dX4_law_38 : decode cX4_law 38 = .ok (.ireturn, 1) := by decide +kernel
theorem dX4_law_39 : decode cX4_law 39 = .ok (.aload 4, 2) := by decide +kernel
theorem dX4_law_41 : decode cX4_law 41 = .ok (.getfield 141, 3) := by decide +kernel
theorem dX4_law_44 : decode cX4_law 44 = .ok (.ifCond .ne 6, 3) := by decide +kernel
theorem dX4_law_47 : decode cX4_law 47 = .ok (.bipush (-103), 2) := by decide +kernel
theorem dX4_law_49 : decode cX4_law 49 = .ok (.ireturn, 1) := by decide +kernel
theorem dX4_law_50 : decode cX4_law 50 = .ok (.aload 4, 2) := by decide +kernel
theorem dX4_law_52 : decode cX4_law 52 = .ok (.getfield 151, 3) := by decide +kernel
theorem dX4_law_55 : decode cX4_law 55 = .ok (.iload_n 2, 1) := by decide +kernel
theorem dX4_law_56 : decode cX4_law 56 = .ok (.iload_n 3, 1) := by decide +kernel
theorem dX4_law_57 : decode cX4_law 57 = .ok (.iconst 0, 1) := by decide +kernel
theorem dX4_law_58 : decode cX4_law 58 = .ok (.invokevirtual 190, 3) := by decide +kernel
theorem dX4_law_61 : decode cX4_law 61 = .ok (.iconst 1, 1) := by decide +kernel
theorem dX4_law_62 : decode cX4_law 62 = .ok (.ireturn, 1) := by decide +kernel
theorem dX4_wave_0 : decode cX4_wave 0 = .ok (.aload_n 0, 1) := by decide +kernel
theorem dX4_wave_1 : decode cX4_wave 1 = .ok (.iload_n 1, 1) := by decide +kernel
theorem dX4_wave_2 : decode cX4_wave 2 = .ok (.invokevirtual 122, 3) := by decide +kernel
theorem dX4_wave_5 : decode cX4_wave 5 = .ok (.astore_n 3, 1) := by decide +kernel
theorem dX4_wave_6 : decode cX4_wave 6 = .ok (.aload_n 3, 1) := by decide +kernel
theorem dX4_wave_7 : decode cX4_wave 7 = .ok (.ifnonnull 6, 3) := by decide +kernel
theorem dX4_wave_10 : decode cX4_wave 10 = .ok (.ldc 195, 2) := by decide +kernel
theorem dX4_wave_12 : decode cX4_wave 12 = .ok (.ireturn, 1) := by decide +kernel
theorem dX4_wave_13 : decode cX4_wave 13 = .ok (.iload_n 2, 1) := by decide +kernel
theorem dX4_wave_14 : decode cX4_wave 14 = .ok (.iconst 0, 1) := by decide +kernel
theorem dX4_wave_15 : decode cX4_wave 15 = .ok (.sipush 2000, 3) := by decide +kernel
theorem dX4_wave_18 : decode cX4_wave 18 = .ok (.invokestatic 106, 3) := by decide +kernel
theorem dX4_wave_21 : decode cX4_wave 21 = .ok (.ifCond .ne 6, 3) := by decide +kernel
theorem dX4_wave_24 : decode cX4_wave 24 = .ok (.ldc 196, 2) := by decide +kernel
theorem dX4_wave_26 : decode cX4_wave 26 = .ok (.ireturn, 1) := by decide +kernel
theorem dX4_wave_27 : decode cX4_wave 27 = .ok (.aload_n 3, 1) := by decide +kernel
theorem dX4_wave_28 : decode cX4_wave 28 = .ok (.getfield 151, 3) := by decide +kernel
theorem dX4_wave_31 : decode cX4_wave 31 = .ok (.getfield 182, 3) := by decide +kernel
theorem dX4_wave_34 : decode cX4_wave 34 = .ok (.ifCond .ne 6, 3) := by decide +kernel
theorem dX4_wave_37 : decode cX4_wave 37 = .ok (.ldc 197, 2) := by decide +kernel
theorem dX4_wave_39 : decode cX4_wave 39 = .ok (.ireturn, 1) := by decide +kernel
theorem dX4_wave_40 : decode cX4_wave 40 = .ok (.aload_n 3, 1) := by decide +kernel
theorem dX4_wave_41 : decode cX4_wave 41 = .ok (.getfield 151, 3) := by decide +kernel
theorem dX4_wave_44 : decode cX4_wave 44 = .ok (.getfield 185, 3) := by decide +kernel
theorem dX4_wave_47 : decode cX4_wave 47 = .ok (.i2l, 1) := by decide +kernel
theorem dX4_wave_48 : decode cX4_wave 48 = .ok (.aload_n 3, 1) := by decide +kernel
theorem dX4_wave_49 : decode cX4_wave 49 = .ok (.getfield 151, 3) := by decide +kernel
theorem dX4_wave_52 : decode cX4_wave 52 = .ok (.getfield 186, 3) := by decide +kernel
theorem dX4_wave_55 : decode cX4_wave 55 = .ok (.i2l, 1) := by decide +kernel
theorem dX4_wave_56 : decode cX4_wave 56 = .ok (.iload_n 2, 1) := by decide +kernel
theorem dX4_wave_57 : decode cX4_wave 57 = .ok (.invokestatic 198, 3) := by decide +kernel
theorem dX4_wave_60 : decode cX4_wave 60 = .ok (.l2i, 1) := by decide +kernel
theorem dX4_wave_61 : decode cX4_wave 61 = .ok (.ireturn, 1) := by decide +kernel
theorem dX4_join_0 : decode cX4_join 0 = .ok (.iload_n 1, 1) := by decide +kernel
theorem dX4_join_1 : decode cX4_join 1 = .ok (.ldc 193, 2) := by decide +kernel
theorem dX4_join_3 : decode cX4_join 3 = .ok (.ldc 171, 2) := by decide +kernel
theorem dX4_join_5 : decode cX4_join 5 = .ok (.invokestatic 106, 3) := by decide +kernel
theorem dX4_join_8 : decode cX4_join 8 = .ok (.ifCond .eq 23, 3) := by decide +kernel
theorem dX4_join_11 : decode cX4_join 11 = .ok (.iload_n 2, 1) := by decide +kernel
theorem dX4_join_12 : decode cX4_join 12 = .ok (.iconst 1, 1) := by decide +kernel
theorem dX4_join_13 : decode cX4_join 13 = .ok (.ldc 194, 2) := by decide +kernel
theorem dX4_join_15 : decode cX4_join 15 = .ok (.invokestatic 106, 3) := by decide +kernel
theorem dX4_join_18 : decode cX4_join 18 = .ok (.ifCond .eq 13, 3) := by decide +kernel
theorem dX4_join_21 : decode cX4_join 21 = .ok (.iload_n 3, 1) := by decide +kernel
theorem dX4_join_22 : decode cX4_join 22 = .ok (.iconst 1, 1) := by decide +kernel
theorem dX4_join_23 : decode cX4_join 23 = .ok (.bipush 60, 2) := by decide +kernel
theorem dX4_join_25 : decode cX4_join 25 = .ok (.invokestatic 106, 3) := by decide +kernel
theorem dX4_join_28 : decode cX4_join 28 = .ok (.ifCond .ne 6, 3) := by decide +kernel
theorem dX4_join_31 : decode cX4_join 31 = .ok (.bipush (-102), 2) := by decide +kernel
theorem dX4_join_33 : decode cX4_join 33 = .ok (.ireturn, 1) := by decide +kernel
theorem dX4_join_34 : decode cX4_join 34 = .ok (.aload_n 0, 1) := by decide +kernel
theorem dX4_join_35 : decode cX4_join 35 = .ok (.invokevirtual 202, 3) := by decide +kernel
theorem dX4_join_38 : decode cX4_join 38 = .ok (.ifCond .ne 6, 3) := by decide +kernel
theorem dX4_join_41 : decode cX4_join 41 = .ok (.bipush (-103), 2) := by decide +kernel
theorem dX4_join_43 : decode cX4_join 43 = .ok (.ireturn, 1) := by decide +kernel
theorem dX4_join_44 : decode cX4_join 44 = .ok (.iconst 0, 1) := by decide +kernel
theorem dX4_join_45 : decode cX4_join 45 = .ok (.istore 4, 2) := by decide +kernel
theorem dX4_join_47 : decode cX4_join 47 = .ok (.iconst 0, 1) := by decide +kernel
theorem dX4_join_48 : decode cX4_join 48 = .ok (.istore 5, 2) := by decide +kernel
theorem dX4_join_50 : decode cX4_join 50 = .ok (.iload 5, 2) := by decide +kernel
theorem dX4_join_52 : decode cX4_join 52 = .ok (.iload_n 3, 1) := by decide +kernel
theorem dX4_join_53 : decode cX4_join 53 = .ok (.if_icmp .ge 30, 3) := by decide +kernel
theorem dX4_join_56 : decode cX4_join 56 = .ok (.aload_n 0, 1) := by decide +kernel
theorem dX4_join_57 : decode cX4_join 57 = .ok (.iload 5, 2) := by decide +kernel
theorem dX4_join_59 : decode cX4_join 59 = .ok (.iload_n 1, 1) := by decide +kernel
theorem dX4_join_60 : decode cX4_join 60 = .ok (.i2l, 1) := by decide +kernel
theorem dX4_join_61 : decode cX4_join 61 = .ok (.iload_n 2, 1) := by decide +kernel
theorem dX4_join_62 : decode cX4_join 62 = .ok (.i2l, 1) := by decide +kernel
theorem dX4_join_63 : decode cX4_join 63 = .ok (.iload 5, 2) := by decide +kernel
theorem dX4_join_65 : decode cX4_join 65 = .ok (.i2l, 1) := by decide +kernel
theorem dX4_join_66 : decode cX4_join 66 = .ok (.lmul, 1) := by decide +kernel
theorem dX4_join_67 : decode cX4_join 67 = .ok (.ladd, 1) := by decide +kernel
theorem dX4_join_68 : decode cX4_join 68 = .ok (.invokevirtual 206, 3) := by decide +kernel
theorem dX4_join_71 : decode cX4_join 71 = .ok (.ifCond .eq 6, 3) := by decide +kernel
theorem dX4_join_74 : decode cX4_join 74 = .ok (.iinc 4 1, 3) := by decide +kernel
theorem dX4_join_77 : decode cX4_join 77 = .ok (.iinc 5 1, 3) := by decide +kernel
theorem dX4_join_80 : decode cX4_join 80 = .ok (.goto (-30), 3) := by decide +kernel
theorem dX4_join_83 : decode cX4_join 83 = .ok (.aload_n 0, 1) := by decide +kernel
theorem dX4_join_84 : decode cX4_join 84 = .ok (.iload_n 3, 1) := by decide +kernel
theorem dX4_join_85 : decode cX4_join 85 = .ok (.putfield 210, 3) := by decide +kernel
theorem dX4_join_88 : decode cX4_join 88 = .ok (.iload 4, 2) := by decide +kernel
theorem dX4_join_90 : decode cX4_join 90 = .ok (.ireturn, 1) := by decide +kernel
theorem dX4_joined_0 : decode cX4_joined 0 = .ok (.iload_n 1, 1) := by decide +kernel
theorem dX4_joined_1 : decode cX4_joined 1 = .ok (.iconst 0, 1) := by decide +kernel
theorem dX4_joined_2 : decode cX4_joined 2 = .ok (.aload_n 0, 1) := by decide +kernel
theorem dX4_joined_3 : decode cX4_joined 3 = .ok (.getfield 210, 3) := by decide +kernel
theorem dX4_joined_6 : decode cX4_joined 6 = .ok (.iconst 1, 1) := by decide +kernel
theorem dX4_joined_7 : decode cX4_joined 7 = .ok (.isub, 1) := by decide +kernel
theorem dX4_joined_8 : decode cX4_joined 8 = .ok (.invokestatic 106, 3) := by decide +kernel
theorem dX4_joined_11 : decode cX4_joined 11 = .ok (.ifCond .eq 12, 3) := by decide +kernel
theorem dX4_joined_14 : decode cX4_joined 14 = .ok (.aload_n 0, 1) := by decide +kernel
theorem dX4_joined_15 : decode cX4_joined 15 = .ok (.getfield 29, 3) := by decide +kernel
theorem dX4_joined_18 : decode cX4_joined 18 = .ok (.iload_n 1, 1) := by decide +kernel
theorem dX4_joined_19 : decode cX4_joined 19 = .ok (.laload, 1) := by decide +kernel
theorem dX4_joined_20 : decode cX4_joined 20 = .ok (.goto 6, 3) := by decide +kernel
theorem dX4_joined_23 : decode cX4_joined 23 = .ok (.ldc2_w 165, 3) := by decide +kernel
theorem dX4_joined_26 : decode cX4_joined 26 = .ok (.lreturn, 1) := by decide +kernel
theorem dX4_shift_0 : decode cX4_shift 0 = .ok (.aload_n 0, 1) := by decide +kernel
theorem dX4_shift_1 : decode cX4_shift 1 = .ok (.iload_n 1, 1) := by decide +kernel
theorem dX4_shift_2 : decode cX4_shift 2 = .ok (.invokevirtual 122, 3) := by decide +kernel
theorem dX4_shift_5 : decode cX4_shift 5 = .ok (.astore 4, 2) := by decide +kernel
theorem dX4_shift_7 : decode cX4_shift 7 = .ok (.aload_n 0, 1) := by decide +kernel
theorem dX4_shift_8 : decode cX4_shift 8 = .ok (.iload_n 2, 1) := by decide +kernel
theorem dX4_shift_9 : decode cX4_shift 9 = .ok (.invokevirtual 122, 3) := by decide +kernel
theorem dX4_shift_12 : decode cX4_shift 12 = .ok (.astore 5, 2) := by decide +kernel
theorem dX4_shift_14 : decode cX4_shift 14 = .ok (.aload 4, 2) := by decide +kernel
theorem dX4_shift_16 : decode cX4_shift 16 = .ok (.ifnull 8, 3) := by decide +kernel
theorem dX4_shift_19 : decode cX4_shift 19 = .ok (.aload 5, 2) := by decide +kernel
theorem dX4_shift_21 : decode cX4_shift 21 = .ok (.ifnonnull 7, 3) := by decide +kernel
theorem dX4_shift_24 : decode cX4_shift 24 = .ok (.ldc2_w 157, 3) := by decide +kernel
theorem dX4_shift_27 : decode cX4_shift 27 = .ok (.lreturn, 1) := by decide +kernel
theorem dX4_shift_28 : decode cX4_shift 28 = .ok (.iload_n 3, 1) := by decide +kernel
theorem dX4_shift_29 : decode cX4_shift 29 = .ok (.bipush (-19), 2) := by decide +kernel
theorem dX4_shift_31 : decode cX4_shift 31 = .ok (.bipush 19, 2) := by decide +kernel
theorem dX4_shift_33 : decode cX4_shift 33 = .ok (.invokestatic 106, 3) := by decide +kernel
theorem dX4_shift_36 : decode cX4_shift 36 = .ok (.ifCond .ne 7, 3) := by decide +kernel
theorem dX4_shift_39 : decode cX4_shift 39 = .ok (.ldc2_w 213, 3) := by decide +kernel
theorem dX4_shift_42 : decode cX4_shift 42 = .ok (.lreturn, 1) := by decide +kernel
theorem dX4_shift_43 : decode cX4_shift 43 = .ok (.aload 4, 2) := by decide +kernel
theorem dX4_shift_45 : decode cX4_shift 45 = .ok (.aload 5, 2) := by decide +kernel
theorem dX4_shift_47 : decode cX4_shift 47 = .ok (.iload_n 3, 1) := by decide +kernel
theorem dX4_shift_48 : decode cX4_shift 48 = .ok (.invokestatic 215, 3) := by decide +kernel
theorem dX4_shift_51 : decode cX4_shift 51 = .ok (.lreturn, 1) := by decide +kernel
theorem dX4_best_0 : decode cX4_best 0 = .ok (.aload_n 0, 1) := by decide +kernel
theorem dX4_best_1 : decode cX4_best 1 = .ok (.iload_n 1, 1) := by decide +kernel
theorem dX4_best_2 : decode cX4_best 2 = .ok (.invokevirtual 122, 3) := by decide +kernel
theorem dX4_best_5 : decode cX4_best 5 = .ok (.astore_n 3, 1) := by decide +kernel
theorem dX4_best_6 : decode cX4_best 6 = .ok (.aload_n 0, 1) := by decide +kernel
theorem dX4_best_7 : decode cX4_best 7 = .ok (.iload_n 2, 1) := by decide +kernel
theorem dX4_best_8 : decode cX4_best 8 = .ok (.invokevirtual 122, 3) := by decide +kernel
theorem dX4_best_11 : decode cX4_best 11 = .ok (.astore 4, 2) := by decide +kernel
theorem dX4_best_13 : decode cX4_best 13 = .ok (.aload_n 3, 1) := by decide +kernel
theorem dX4_best_14 : decode cX4_best 14 = .ok (.ifnull 8, 3) := by decide +kernel
theorem dX4_best_17 : decode cX4_best 17 = .ok (.aload 4, 2) := by decide +kernel
theorem dX4_best_19 : decode cX4_best 19 = .ok (.ifnonnull 6, 3) := by decide +kernel
theorem dX4_best_22 : decode cX4_best 22 = .ok (.bipush (-100), 2) := by decide +kernel
theorem dX4_best_24 : decode cX4_best 24 = .ok (.ireturn, 1) := by decide +kernel
theorem dX4_best_25 : decode cX4_best 25 = .ok (.aload_n 3, 1) := by decide +kernel
theorem dX4_best_26 : decode cX4_best 26 = .ok (.getfield 141, 3) := by decide +kernel
theorem dX4_best_29 : decode cX4_best 29 = .ok (.ifCond .eq 11, 3) := by decide +kernel
theorem dX4_best_32 : decode cX4_best 32 = .ok (.aload 4, 2) := by decide +kernel
theorem dX4_best_34 : decode cX4_best 34 = .ok (.getfield 141, 3) := by decide +kernel
theorem dX4_best_37 : decode cX4_best 37 = .ok (.ifCond .ne 6, 3) := by decide +kernel
theorem dX4_best_40 : decode cX4_best 40 = .ok (.bipush (-101), 2) := by decide +kernel
theorem dX4_best_42 : decode cX4_best 42 = .ok (.ireturn, 1) := by decide +kernel
theorem dX4_best_43 : decode cX4_best 43 = .ok (.iconst 0, 1) := by decide +kernel
theorem dX4_best_44 : decode cX4_best 44 = .ok (.istore 5, 2) := by decide +kernel
theorem dX4_best_46 : decode cX4_best 46 = .ok (.iconst 1, 1) := by decide +kernel
theorem dX4_best_47 : decode cX4_best 47 = .ok (.istore 6, 2) := by decide +kernel
theorem dX4_best_49 : decode cX4_best 49 = .ok (.iload 6, 2) := by decide +kernel
theorem dX4_best_51 : decode cX4_best 51 = .ok (.bipush 8, 2) := by decide +kernel
theorem dX4_best_53 : decode cX4_best 53 = .ok (.if_icmp .gt 34, 3) := by decide +kernel
theorem dX4_best_56 : decode cX4_best 56 = .ok (.aload_n 3, 1) := by decide +kernel
theorem dX4_best_57 : decode cX4_best 57 = .ok (.aload 4, 2) := by decide +kernel
theorem dX4_best_59 : decode cX4_best 59 = .ok (.iload 5, 2) := by decide +kernel
theorem dX4_best_61 : decode cX4_best 61 = .ok (.iload 6, 2) := by decide +kernel
theorem dX4_best_63 : decode cX4_best 63 = .ok (.ineg, 1) := by decide +kernel
theorem dX4_best_64 : decode cX4_best 64 = .ok (.invokestatic 219, 3) := by decide +kernel
theorem dX4_best_67 : decode cX4_best 67 = .ok (.istore 5, 2) := by decide +kernel
theorem dX4_best_69 : decode cX4_best 69 = .ok (.aload_n 3, 1) := by decide +kernel
theorem dX4_best_70 : decode cX4_best 70 = .ok (.aload 4, 2) := by decide +kernel
theorem dX4_best_72 : decode cX4_best 72 = .ok (.iload 5, 2) := by decide +kernel
theorem dX4_best_74 : decode cX4_best 74 = .ok (.iload 6, 2) := by decide +kernel
theorem dX4_best_76 : decode cX4_best 76 = .ok (.invokestatic 219, 3) := by decide +kernel
theorem dX4_best_79 : decode cX4_best 79 = .ok (.istore 5, 2) := by decide +kernel
theorem dX4_best_81 : decode cX4_best 81 = .ok (.iinc 6 1, 3) := by decide +kernel
theorem dX4_best_84 : decode cX4_best 84 = .ok (.goto (-35), 3) := by decide +kernel
theorem dX4_best_87 : decode cX4_best 87 = .ok (.iload 5, 2) := by decide +kernel
theorem dX4_best_89 : decode cX4_best 89 = .ok (.ireturn, 1) := by decide +kernel
theorem dX4_seen_0 : decode cX4_seen 0 = .ok (.aload_n 0, 1) := by decide +kernel
theorem dX4_seen_1 : decode cX4_seen 1 = .ok (.getfield 103, 3) := by decide +kernel
theorem dX4_seen_4 : decode cX4_seen 4 = .ok (.ireturn, 1) := by decide +kernel
theorem dX4_cause_0 : decode cX4_cause 0 = .ok (.aload_n 0, 1) := by decide +kernel
theorem dX4_cause_1 : decode cX4_cause 1 = .ok (.getfield 223, 3) := by decide +kernel
theorem dX4_cause_4 : decode cX4_cause 4 = .ok (.ireturn, 1) := by decide +kernel
theorem dX4_causes_0 : decode cX4_causes 0 = .ok (.iload_n 1, 1) := by decide +kernel
theorem dX4_causes_1 : decode cX4_causes 1 = .ok (.iconst 1, 1) := by decide +kernel
theorem dX4_causes_2 : decode cX4_causes 2 = .ok (.iconst 5, 1) := by decide +kernel
theorem dX4_causes_3 : decode cX4_causes 3 = .ok (.invokestatic 106, 3) := by decide +kernel
theorem dX4_causes_6 : decode cX4_causes 6 = .ok (.ifCond .eq 12, 3) := by decide +kernel
theorem dX4_causes_9 : decode cX4_causes 9 = .ok (.aload_n 0, 1) := by decide +kernel
theorem dX4_causes_10 : decode cX4_causes 10 = .ok (.getfield 33, 3) := by decide +kernel
theorem dX4_causes_13 : decode cX4_causes 13 = .ok (.iload_n 1, 1) := by decide +kernel
theorem dX4_causes_14 : decode cX4_causes 14 = .ok (.iaload, 1) := by decide +kernel
theorem dX4_causes_15 : decode cX4_causes 15 = .ok (.goto 5, 3) := by decide +kernel
theorem dX4_causes_18 : decode cX4_causes 18 = .ok (.bipush (-102), 2) := by decide +kernel
theorem dX4_causes_20 : decode cX4_causes 20 = .ok (.ireturn, 1) := by decide +kernel
theorem dX4_count_0 : decode cX4_count 0 = .ok (.iload_n 1, 1) := by decide +kernel
theorem dX4_count_1 : decode cX4_count 1 = .ok (.tableswitch 69 0 5 #[39, 44, 49, 54, 59, 64], 39) := by decide +kernel
theorem dX4_count_40 : decode cX4_count 40 = .ok (.aload_n 0, 1) := by decide +kernel
theorem dX4_count_41 : decode cX4_count 41 = .ok (.invokevirtual 226, 3) := by decide +kernel
theorem dX4_count_44 : decode cX4_count 44 = .ok (.ireturn, 1) := by decide +kernel
theorem dX4_count_45 : decode cX4_count 45 = .ok (.aload_n 0, 1) := by decide +kernel
theorem dX4_count_46 : decode cX4_count 46 = .ok (.getfield 110, 3) := by decide +kernel
theorem dX4_count_49 : decode cX4_count 49 = .ok (.ireturn, 1) := by decide +kernel
theorem dX4_count_50 : decode cX4_count 50 = .ok (.aload_n 0, 1) := by decide +kernel
theorem dX4_count_51 : decode cX4_count 51 = .ok (.getfield 172, 3) := by decide +kernel
theorem dX4_count_54 : decode cX4_count 54 = .ok (.ireturn, 1) := by decide +kernel
theorem dX4_count_55 : decode cX4_count 55 = .ok (.aload_n 0, 1) := by decide +kernel
theorem dX4_count_56 : decode cX4_count 56 = .ok (.invokevirtual 229, 3) := by decide +kernel
theorem dX4_count_59 : decode cX4_count 59 = .ok (.ireturn, 1) := by decide +kernel
theorem dX4_count_60 : decode cX4_count 60 = .ok (.aload_n 0, 1) := by decide +kernel
theorem dX4_count_61 : decode cX4_count 61 = .ok (.invokevirtual 202, 3) := by decide +kernel
theorem dX4_count_64 : decode cX4_count 64 = .ok (.ireturn, 1) := by decide +kernel
theorem dX4_count_65 : decode cX4_count 65 = .ok (.aload_n 0, 1) := by decide +kernel
theorem dX4_count_66 : decode cX4_count 66 = .ok (.getfield 175, 3) := by decide +kernel
theorem dX4_count_69 : decode cX4_count 69 = .ok (.ireturn, 1) := by decide +kernel
theorem dX4_count_70 : decode cX4_count 70 = .ok (.bipush (-102), 2) := by decide +kernel
theorem dX4_count_72 : decode cX4_count 72 = .ok (.ireturn, 1) := by decide +kernel
theorem dX4_digest_0 : decode cX4_digest 0 = .ok (.ldc2_w 232, 3) := by decide +kernel
theorem dX4_digest_3 : decode cX4_digest 3 = .ok (.lstore_n 1, 1) := by decide +kernel
theorem dX4_digest_4 : decode cX4_digest 4 = .ok (.iconst 0, 1) := by decide +kernel
theorem dX4_digest_5 : decode cX4_digest 5 = .ok (.istore_n 3, 1) := by decide +kernel
theorem dX4_digest_6 : decode cX4_digest 6 = .ok (.iload_n 3, 1) := by decide +kernel
theorem dX4_digest_7 : decode cX4_digest 7 = .ok (.bipush 6, 2) := by decide +kernel
theorem dX4_digest_9 : decode cX4_digest 9 = .ok (.if_icmp .ge 20, 3) := by decide +kernel
theorem dX4_digest_12 : decode cX4_digest 12 = .ok (.lload_n 1, 1) := by decide +kernel
theorem dX4_digest_13 : decode cX4_digest 13 = .ok (.aload_n 0, 1) := by decide +kernel
theorem dX4_digest_14 : decode cX4_digest 14 = .ok (.getfield 11, 3) := by decide +kernel
theorem dX4_digest_17 : decode cX4_digest 17 = .ok (.iload_n 3, 1) := by decide +kernel
theorem dX4_digest_18 : decode cX4_digest 18 = .ok (.aaload, 1) := by decide +kernel
theorem dX4_digest_19 : decode cX4_digest 19 = .ok (.invokestatic 234, 3) := by decide +kernel
theorem dX4_digest_22 : decode cX4_digest 22 = .ok (.lstore_n 1, 1) := by decide +kernel
theorem dX4_digest_23 : decode cX4_digest 23 = .ok (.iinc 3 1, 3) := by decide +kernel
theorem dX4_digest_26 : decode cX4_digest 26 = .ok (.goto (-20), 3) := by decide +kernel
theorem dX4_digest_29 : decode cX4_digest 29 = .ok (.iconst 0, 1) := by decide +kernel
theorem dX4_digest_30 : decode cX4_digest 30 = .ok (.istore_n 3, 1) := by decide +kernel
theorem dX4_digest_31 : decode cX4_digest 31 = .ok (.iload_n 3, 1) := by decide +kernel
theorem dX4_digest_32 : decode cX4_digest 32 = .ok (.aload_n 0, 1) := by decide +kernel
theorem dX4_digest_33 : decode cX4_digest 33 = .ok (.getfield 15, 3) := by decide +kernel
theorem dX4_digest_36 : decode cX4_digest 36 = .ok (.arraylength, 1) := by decide +kernel
theorem dX4_digest_37 : decode cX4_digest 37 = .ok (.if_icmp .ge 25, 3) := by decide +kernel
theorem dX4_digest_40 : decode cX4_digest 40 = .ok (.aload_n 0, 1) := by decide +kernel
theorem dX4_digest_41 : decode cX4_digest 41 = .ok (.getfield 15, 3) := by decide +kernel
theorem dX4_digest_44 : decode cX4_digest 44 = .ok (.iload_n 3, 1) := by decide +kernel
theorem dX4_digest_45 : decode cX4_digest 45 = .ok (.baload, 1) := by decide +kernel
theorem dX4_digest_46 : decode cX4_digest 46 = .ok (.ifCond .eq 10, 3) := by decide +kernel
