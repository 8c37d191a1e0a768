theorem dX5_init_0 : decode cX5_init 0 = .ok (.aload_n 0, 1) := by decide +kernel
theorem dX5_init_1 : decode cX5_init 1 = .ok (.invokespecial 1, 3) := by decide +kernel
theorem dX5_init_4 : decode cX5_init 4 = .ok (.aload_n 0, 1) := by decide +kernel
theorem dX5_init_5 : decode cX5_init 5 = .ok (.bipush 6, 2) := by decide +kernel
theorem dX5_init_7 : decode cX5_init 7 = .ok (.newarray .boolean, 2) := by decide +kernel
theorem dX5_init_9 : decode cX5_init 9 = .ok (.putfield 7, 3) := by decide +kernel
theorem dX5_init_12 : decode cX5_init 12 = .ok (.aload_n 0, 1) := by decide +kernel
theorem dX5_init_13 : decode cX5_init 13 = .ok (.bipush 6, 2) := by decide +kernel
theorem dX5_init_15 : decode cX5_init 15 = .ok (.newarray .int, 2) := by decide +kernel
theorem dX5_init_17 : decode cX5_init 17 = .ok (.putfield 13, 3) := by decide +kernel
theorem dX5_init_20 : decode cX5_init 20 = .ok (.aload_n 0, 1) := by decide +kernel
theorem dX5_init_21 : decode cX5_init 21 = .ok (.bipush 6, 2) := by decide +kernel
theorem dX5_init_23 : decode cX5_init 23 = .ok (.newarray .int, 2) := by decide +kernel
theorem dX5_init_25 : decode cX5_init 25 = .ok (.putfield 17, 3) := by decide +kernel
theorem dX5_init_28 : decode cX5_init 28 = .ok (.aload_n 0, 1) := by decide +kernel
theorem dX5_init_29 : decode cX5_init 29 = .ok (.bipush 6, 2) := by decide +kernel
theorem dX5_init_31 : decode cX5_init 31 = .ok (.newarray .int, 2) := by decide +kernel
theorem dX5_init_33 : decode cX5_init 33 = .ok (.putfield 20, 3) := by decide +kernel
theorem dX5_init_36 : decode cX5_init 36 = .ok (.aload_n 0, 1) := by decide +kernel
theorem dX5_init_37 : decode cX5_init 37 = .ok (.sipush 2400, 3) := by decide +kernel
theorem dX5_init_40 : decode cX5_init 40 = .ok (.newarray .int, 2) := by decide +kernel
theorem dX5_init_42 : decode cX5_init 42 = .ok (.putfield 23, 3) := by decide +kernel
theorem dX5_init_45 : decode cX5_init 45 = .ok (.aload_n 0, 1) := by decide +kernel
theorem dX5_init_46 : decode cX5_init 46 = .ok (.sipush 400, 3) := by decide +kernel
theorem dX5_init_49 : decode cX5_init 49 = .ok (.newarray .boolean, 2) := by decide +kernel
theorem dX5_init_51 : decode cX5_init 51 = .ok (.putfield 26, 3) := by decide +kernel
theorem dX5_init_54 : decode cX5_init 54 = .ok (.aload_n 0, 1) := by decide +kernel
theorem dX5_init_55 : decode cX5_init 55 = .ok (.iconst 4, 1) := by decide +kernel
theorem dX5_init_56 : decode cX5_init 56 = .ok (.newarray .int, 2) := by decide +kernel
theorem dX5_init_58 : decode cX5_init 58 = .ok (.putfield 29, 3) := by decide +kernel
theorem dX5_init_61 : decode cX5_init 61 = .ok (.aload_n 0, 1) := by decide +kernel
theorem dX5_init_62 : decode cX5_init 62 = .ok (.iconst 4, 1) := by decide +kernel
theorem dX5_init_63 : decode cX5_init 63 = .ok (.newarray .int, 2) := by decide +kernel
theorem dX5_init_65 : decode cX5_init 65 = .ok (.putfield 32, 3) := by decide +kernel
theorem dX5_init_68 : decode cX5_init 68 = .ok (.aload_n 0, 1) := by decide +kernel
theorem dX5_init_69 : decode cX5_init 69 = .ok (.iconst 4, 1) := by decide +kernel
theorem dX5_init_70 : decode cX5_init 70 = .ok (.newarray .int, 2) := by decide +kernel
theorem dX5_init_72 : decode cX5_init 72 = .ok (.putfield 35, 3) := by decide +kernel
theorem dX5_init_75 : decode cX5_init 75 = .ok (.aload_n 0, 1) := by decide +kernel
theorem dX5_init_76 : decode cX5_init 76 = .ok (.iconst 4, 1) := by decide +kernel
theorem dX5_init_77 : decode cX5_init 77 = .ok (.newarray .int, 2) := by decide +kernel
theorem dX5_init_79 : decode cX5_init 79 = .ok (.putfield 38, 3) := by decide +kernel
theorem dX5_init_82 : decode cX5_init 82 = .ok (.aload_n 0, 1) := by decide +kernel
theorem dX5_init_83 : decode cX5_init 83 = .ok (.bipush 80, 2) := by decide +kernel
theorem dX5_init_85 : decode cX5_init 85 = .ok (.newarray .long, 2) := by decide +kernel
theorem dX5_init_87 : decode cX5_init 87 = .ok (.putfield 41, 3) := by decide +kernel
theorem dX5_init_90 : decode cX5_init 90 = .ok (.aload_n 0, 1) := by decide +kernel
theorem dX5_init_91 : decode cX5_init 91 = .ok (.iconst 4, 1) := by decide +kernel
theorem dX5_init_92 : decode cX5_init 92 = .ok (.newarray .boolean, 2) := by decide +kernel
theorem dX5_init_94 : decode cX5_init 94 = .ok (.putfield 45, 3) := by decide +kernel
theorem dX5_init_97 : decode cX5_init 97 = .ok (.aload_n 0, 1) := by decide +kernel
theorem dX5_init_98 : decode cX5_init 98 = .ok (.iconst 4, 1) := by decide +kernel
theorem dX5_init_99 : decode cX5_init 99 = .ok (.newarray .int, 2) := by decide +kernel
theorem dX5_init_101 : decode cX5_init 101 = .ok (.putfield 48, 3) := by decide +kernel
theorem dX5_init_104 : decode cX5_init 104 = .ok (.aload_n 0, 1) := by decide +kernel
theorem dX5_init_105 : decode cX5_init 105 = .ok (.iconst 4, 1) := by decide +kernel
theorem dX5_init_106 : decode cX5_init 106 = .ok (.newarray .int, 2) := by decide +kernel
theorem dX5_init_108 : decode cX5_init 108 = .ok (.putfield 51, 3) := by decide +kernel
theorem dX5_init_111 : decode cX5_init 111 = .ok (.aload_n 0, 1) := by decide +kernel
theorem dX5_init_112 : decode cX5_init 112 = .ok (.iconst 4, 1) := by decide +kernel
theorem dX5_init_113 : decode cX5_init 113 = .ok (.newarray .int, 2) := by decide +kernel
theorem dX5_init_115 : decode cX5_init 115 = .ok (.putfield 54, 3) := by decide +kernel
theorem dX5_init_118 : decode cX5_init 118 = .ok (.aload_n 0, 1) := by decide +kernel
theorem dX5_init_119 : decode cX5_init 119 = .ok (.bipush 12, 2) := by decide +kernel
theorem dX5_init_121 : decode cX5_init 121 = .ok (.newarray .int, 2) := by decide +kernel
theorem dX5_init_123 : decode cX5_init 123 = .ok (.putfield 57, 3) := by decide +kernel
theorem dX5_init_126 : decode cX5_init 126 = .ok (.aload_n 0, 1) := by decide +kernel
theorem dX5_init_127 : decode cX5_init 127 = .ok (.bipush 60, 2) := by decide +kernel
theorem dX5_init_129 : decode cX5_init 129 = .ok (.newarray .long, 2) := by decide +kernel
theorem dX5_init_131 : decode cX5_init 131 = .ok (.putfield 60, 3) := by decide +kernel
theorem dX5_init_134 : decode cX5_init 134 = .ok (.aload_n 0, 1) := by decide +kernel
theorem dX5_init_135 : decode cX5_init 135 = .ok (.bipush 6, 2) := by decide +kernel
theorem dX5_init_137 : decode cX5_init 137 = .ok (.newarray .int, 2) := by decide +kernel
theorem dX5_init_139 : decode cX5_init 139 = .ok (.putfield 63, 3) := by decide +kernel
theorem dX5_init_142 : decode cX5_init 142 = .ok (.aload_n 0, 1) := by decide +kernel
theorem dX5_init_143 : decode cX5_init 143 = .ok (.bipush 20, 2) := by decide +kernel
theorem dX5_init_145 : decode cX5_init 145 = .ok (.newarray .int, 2) := by decide +kernel
theorem dX5_init_147 : decode cX5_init 147 = .ok (.putfield 66, 3) := by decide +kernel
theorem dX5_init_150 : decode cX5_init 150 = .ok (.return_, 1) := by decide +kernel
theorem dX5_in_0 : decode cX5_in 0 = .ok (.lload_n 0, 1) := by decide +kernel
theorem dX5_in_1 : decode cX5_in 1 = .ok (.lload_n 2, 1) := by decide +kernel
theorem dX5_in_2 : decode cX5_in 2 = .ok (.lcmp, 1) := by decide +kernel
theorem dX5_in_3 : decode cX5_in 3 = .ok (.ifCond .lt 14, 3) := by decide +kernel
theorem dX5_in_6 : decode cX5_in 6 = .ok (.lload_n 0, 1) := by decide +kernel
theorem dX5_in_7 : decode cX5_in 7 = .ok (.lload 4, 2) := by decide +kernel
theorem dX5_in_9 : decode cX5_in 9 = .ok (.lcmp, 1) := by decide +kernel
theorem dX5_in_10 : decode cX5_in 10 = .ok (.ifCond .gt 7, 3) := by decide +kernel
theorem dX5_in_13 : decode cX5_in 13 = .ok (.iconst 1, 1) := by decide +kernel
theorem dX5_in_14 : decode cX5_in 14 = .ok (.goto 4, 3) := by decide +kernel
theorem dX5_in_17 : decode cX5_in 17 = .ok (.iconst 0, 1) := by decide +kernel
theorem dX5_in_18 : decode cX5_in 18 = .ok (.ireturn, 1) := by decide +kernel
theorem dX5_met_0 : decode cX5_met 0 = .ok (.aload_n 0, 1) := by decide +kernel
theorem dX5_met_1 : decode cX5_met 1 = .ok (.bipush (-10), 2) := by decide +kernel
theorem dX5_met_3 : decode cX5_met 3 = .ok (.iload_n 1, 1) := by decide +kernel
theorem dX5_met_4 : decode cX5_met 4 = .ok (.isub, 1) := by decide +kernel
theorem dX5_met_5 : decode cX5_met 5 = .ok (.putfield 69, 3) := by decide +kernel
theorem dX5_met_8 : decode cX5_met 8 = .ok (.aload_n 0, 1) := by decide +kernel
theorem dX5_met_9 : decode cX5_met 9 = .ok (.getfield 63, 3) := by decide +kernel
theorem dX5_met_12 : decode cX5_met 12 = .ok (.aload_n 0, 1) := by decide +kernel
theorem dX5_met_13 : decode cX5_met 13 = .ok (.getfield 69, 3) := by decide +kernel
theorem dX5_met_16 : decode cX5_met 16 = .ok (.dup2, 1) := by decide +kernel
theorem dX5_met_17 : decode cX5_met 17 = .ok (.iaload, 1) := by decide +kernel
theorem dX5_met_18 : decode cX5_met 18 = .ok (.iconst 1, 1) := by decide +kernel
theorem dX5_met_19 : decode cX5_met 19 = .ok (.iadd, 1) := by decide +kernel
theorem dX5_met_20 : decode cX5_met 20 = .ok (.iastore, 1) := by decide +kernel
theorem dX5_met_21 : decode cX5_met 21 = .ok (.iload_n 1, 1) := by decide +kernel
theorem dX5_met_22 : decode cX5_met 22 = .ok (.ireturn, 1) := by decide +kernel
theorem dX5_floor_0 : decode cX5_floor 0 = .ok (.lload_n 0, 1) := by decide +kernel
theorem dX5_floor_1 : decode cX5_floor 1 = .ok (.lload_n 2, 1) := by decide +kernel
theorem dX5_floor_2 : decode cX5_floor 2 = .ok (.ldiv, 1) := by decide +kernel
theorem dX5_floor_3 : decode cX5_floor 3 = .ok (.lstore 4, 2) := by decide +kernel
theorem dX5_floor_5 : decode cX5_floor 5 = .ok (.lload_n 0, 1) := by decide +kernel
theorem dX5_floor_6 : decode cX5_floor 6 = .ok (.lload_n 2, 1) := by decide +kernel
theorem dX5_floor_7 : decode cX5_floor 7 = .ok (.lrem, 1) := by decide +kernel
theorem dX5_floor_8 : decode cX5_floor 8 = .ok (.lconst 0, 1) := by decide +kernel
theorem dX5_floor_9 : decode cX5_floor 9 = .ok (.lcmp, 1) := by decide +kernel
theorem dX5_floor_10 : decode cX5_floor 10 = .ok (.ifCond .eq 16, 3) := by decide +kernel
theorem dX5_floor_13 : decode cX5_floor 13 = .ok (.lload_n 0, 1) := by decide +kernel
theorem dX5_floor_14 : decode cX5_floor 14 = .ok (.lconst 0, 1) := by decide +kernel
theorem dX5_floor_15 : decode cX5_floor 15 = .ok (.lcmp, 1) := by decide +kernel
theorem dX5_floor_16 : decode cX5_floor 16 = .ok (.ifCond .ge 10, 3) := by decide +kernel
theorem dX5_floor_19 : decode cX5_floor 19 = .ok (.lload 4, 2) := by decide +kernel
theorem dX5_floor_21 : decode cX5_floor 21 = .ok (.lconst 1, 1) := by decide +kernel
theorem dX5_floor_22 : decode cX5_floor 22 = .ok (.lsub, 1) := by decide +kernel
theorem dX5_floor_23 : decode cX5_floor 23 = .ok (.goto 5, 3) := by decide +kernel
theorem dX5_floor_26 : decode cX5_floor 26 = .ok (.lload 4, 2) := by decide +kernel
theorem dX5_floor_28 : decode cX5_floor 28 = .ok (.lreturn, 1) := by decide +kernel
theorem dX5_isPlate_0 : decode cX5_isPlate 0 = .ok (.iload_n 0, 1) := by decide +kernel
theorem dX5_isPlate_1 : decode cX5_isPlate 1 = .ok (.i2l, 1) := by decide +kernel
theorem dX5_isPlate_2 : decode cX5_isPlate 2 = .ok (.lconst 0, 1) := by decide +kernel
theorem dX5_isPlate_3 : decode cX5_isPlate 3 = .ok (.ldc2_w 73, 3) := by decide +kernel
theorem dX5_isPlate_6 : decode cX5_isPlate 6 = .ok (.invokestatic 75, 3) := by decide +kernel
theorem dX5_isPlate_9 : decode cX5_isPlate 9 = .ok (.ireturn, 1) := by decide +kernel
theorem dX5_isComb_0 : decode cX5_isComb 0 = .ok (.iload_n 1, 1) := by decide +kernel
theorem dX5_isComb_1 : decode cX5_isComb 1 = .ok (.i2l, 1) := by decide +kernel
theorem dX5_isComb_2 : decode cX5_isComb 2 = .ok (.lconst 0, 1) := by decide +kernel
theorem dX5_isComb_3 : decode cX5_isComb 3 = .ok (.aload_n 0, 1) := by decide +kernel
theorem dX5_isComb_4 : decode cX5_isComb 4 = .ok (.getfield 79, 3) := by decide +kernel
theorem dX5_isComb_7 : decode cX5_isComb 7 = .ok (.iconst 1, 1) := by decide +kernel
theorem dX5_isComb_8 : decode cX5_isComb 8 = .ok (.isub, 1) := by decide +kernel
theorem dX5_isComb_9 : decode cX5_isComb 9 = .ok (.i2l, 1) := by decide +kernel
theorem dX5_isComb_10 : decode cX5_isComb 10 = .ok (.invokestatic 75, 3) := by decide +kernel
theorem dX5_isComb_13 : decode cX5_isComb 13 = .ok (.ireturn, 1) := by decide +kernel
theorem dX5_plate_0 : decode cX5_plate 0 = .ok (.iload_n 1, 1) := by decide +kernel
theorem dX5_plate_1 : decode cX5_plate 1 = .ok (.invokestatic 82, 3) := by decide +kernel
theorem dX5_plate_4 : decode cX5_plate 4 = .ok (.ifCond .ne 6, 3) := by decide +kernel
theorem dX5_plate_7 : decode cX5_plate 7 = .ok (.bipush (-101), 2) := by decide +kernel
theorem dX5_plate_9 : decode cX5_plate 9 = .ok (.ireturn, 1) := by decide +kernel
theorem dX5_plate_10 : decode cX5_plate 10 = .ok (.iload_n 2, 1) := by decide +kernel
theorem dX5_plate_11 : decode cX5_plate 11 = .ok (.i2l, 1) := by decide +kernel
theorem dX5_plate_12 : decode cX5_plate 12 = .ok (.lconst 0, 1) := by decide +kernel
theorem dX5_plate_13 : decode cX5_plate 13 = .ok (.ldc2_w 86, 3) := by decide +kernel
theorem dX5_plate_16 : decode cX5_plate 16 = .ok (.invokestatic 75, 3) := by decide +kernel
theorem dX5_plate_19 : decode cX5_plate 19 = .ok (.ifCond .eq 25, 3) := by decide +kernel
theorem dX5_plate_22 : decode cX5_plate 22 = .ok (.iload_n 3, 1) := by decide +kernel
theorem dX5_plate_23 : decode cX5_plate 23 = .ok (.ifCond .eq 21, 3) := by decide +kernel
theorem dX5_plate_26 : decode cX5_plate 26 = .ok (.iload_n 3, 1) := by decide +kernel
theorem dX5_plate_27 : decode cX5_plate 27 = .ok (.bipush 20, 2) := by decide +kernel
theorem dX5_plate_29 : decode cX5_plate 29 = .ok (.if_icmp .gt 15, 3) := by decide +kernel
theorem dX5_plate_32 : decode cX5_plate 32 = .ok (.iload 4, 2) := by decide +kernel
theorem dX5_plate_34 : decode cX5_plate 34 = .ok (.ifCond .eq 10, 3) := by decide +kernel
theorem dX5_plate_37 : decode cX5_plate 37 = .ok (.iload 4, 2) := by decide +kernel
theorem dX5_plate_39 : decode cX5_plate 39 = .ok (.bipush 20, 2) := by decide +kernel
theorem dX5_plate_41 : decode cX5_plate 41 = .ok (.if_icmp .le 6, 3) := by decide +kernel
theorem dX5_plate_44 : decode cX5_plate 44 = .ok (.bipush (-102), 2) := by decide +kernel
theorem dX5_plate_46 : decode cX5_plate 46 = .ok (.ireturn, 1) := by decide +kernel
theorem dX5_plate_47 : decode cX5_plate 47 = .ok (.iload_n 3, 1) := by decide +kernel
theorem dX5_plate_48 : decode cX5_plate 48 = .ok (.ifCond .lt 8, 3) := by decide +kernel
theorem dX5_plate_51 : decode cX5_plate 51 = .ok (.iload 4, 2) := by decide +kernel
theorem dX5_plate_53 : decode cX5_plate 53 = .ok (.ifCond .ge 10, 3) := by decide +kernel
theorem dX5_plate_56 : decode cX5_plate 56 = .ok (.aload_n 0, 1) := by decide +kernel
theorem dX5_plate_57 : decode cX5_plate 57 = .ok (.bipush (-13), 2) := by decide +kernel
theorem dX5_plate_59 : decode cX5_plate 59 = .ok (.invokevirtual 88, 3) := by decide +kernel
theorem dX5_plate_62 : decode cX5_plate 62 = .ok (.ireturn, 1) := by decide +kernel
theorem dX5_plate_63 : decode cX5_plate 63 = .ok (.aload_n 0, 1) := by decide +kernel
theorem dX5_plate_64 : decode cX5_plate 64 = .ok (.getfield 7, 3) := by decide +kernel
theorem dX5_plate_67 : decode cX5_plate 67 = .ok (.iload_n 1, 1) := by decide +kernel
theorem dX5_plate_68 : decode cX5_plate 68 = .ok (.iconst 1, 1) := by decide +kernel
theorem dX5_plate_69 : decode cX5_plate 69 = .ok (.bastore, 1) := by decide +kernel
theorem dX5_plate_70 : decode cX5_plate 70 = .ok (.aload_n 0, 1) := by decide +kernel
theorem dX5_plate_71 : decode cX5_plate 71 = .ok (.getfield 13, 3) := by decide +kernel
theorem dX5_plate_74 : decode cX5_plate 74 = .ok (.iload_n 1, 1) := by decide +kernel
theorem dX5_plate_75 : decode cX5_plate 75 = .ok (.iload_n 2, 1) := by decide +kernel
theorem dX5_plate_76 : decode cX5_plate 76 = .ok (.iastore, 1) := by decide +kernel
theorem dX5_plate_77 : decode cX5_plate 77 = .ok (.aload_n 0, 1) := by decide +kernel
theorem dX5_plate_78 : decode cX5_plate 78 = .ok (.getfield 17, 3) := by decide +kernel
theorem dX5_plate_81 : decode cX5_plate 81 = .ok (.iload_n 1, 1) := by decide +kernel
theorem dX5_plate_82 : decode cX5_plate 82 = .ok (.iload_n 3, 1) := by decide +kernel
theorem dX5_plate_83 : decode cX5_plate 83 = .ok (.iastore, 1) := by decide +kernel
theorem dX5_plate_84 : decode cX5_plate 84 = .ok (.aload_n 0, 1) := by decide +kernel
theorem dX5_plate_85 : decode cX5_plate 85 = .ok (.getfield 20, 3) := by decide +kernel
theorem dX5_plate_88 : decode cX5_plate 88 = .ok (.iload_n 1, 1) := by decide +kernel
theorem dX5_plate_89 : decode cX5_plate 89 = .ok (.iload 4, 2) := by decide +kernel
theorem dX5_plate_91 : decode cX5_plate 91 = .ok (.iastore, 1) := by decide +kernel
theorem dX5_plate_92 : decode cX5_plate 92 = .ok (.iconst 0, 1) := by decide +kernel
theorem dX5_plate_93 : decode cX5_plate 93 = .ok (.istore 5, 2) := by decide +kernel
theorem dX5_plate_95 : decode cX5_plate 95 = .ok (.iload 5, 2) := by decide +kernel
theorem dX5_plate_97 : decode cX5_plate 97 = .ok (.sipush 400, 3) := by decide +kernel
theorem dX5_plate_100 : decode cX5_plate 100 = .ok (.if_icmp .ge 23, 3) := by decide +kernel
theorem dX5_plate_103 : decode cX5_plate 103 = .ok (.aload_n 0, 1) := by decide +kernel
theorem dX5_plate_104 : decode cX5_plate 104 = .ok (.getfield 23, 3) := by decide +kernel
theorem dX5_plate_107 : decode cX5_plate 107 = .ok (.sipush 400, 3) := by decide +kernel
theorem dX5_plate_110 : decode cX5_plate 110 = .ok (.iload_n 1, 1) := by decide +kernel
theorem dX5_plate_111 : decode cX5_plate 111 = .ok (.imul, 1) := by decide +kernel
theorem dX5_plate_112 : decode cX5_plate 112 = .ok (.iload 5, 2) := by decide +kernel
theorem dX5_plate_114 : decode cX5_plate 114 = .ok (.iadd, 1) := by decide +kernel
theorem dX5_plate_115 : decode cX5_plate 115 = .ok (.iconst 0, 1) := by decide +kernel
theorem dX5_plate_116 : decode cX5_plate 116 = .ok (.iastore, 1) := by decide +kernel
theorem dX5_plate_117 : decode cX5_plate 117 = .ok (.iinc 5 1, 3) := by decide +kernel
theorem dX5_plate_120 : decode cX5_plate 120 = .ok (.goto (-25), 3) := by decide +kernel
theorem dX5_plate_123 : decode cX5_plate 123 = .ok (.iload_n 3, 1) := by decide +kernel
theorem dX5_plate_124 : decode cX5_plate 124 = .ok (.ireturn, 1) := by decide +kernel
theorem dX5_cast_0 : decode cX5_cast 0 = .ok (.iload_n 0, 1) := by decide +kernel
theorem dX5_cast_1 : decode cX5_cast 1 = .ok (.ifCond .ne 8, 3) := by decide +kernel
theorem dX5_cast_4 : decode cX5_cast 4 = .ok (.iload_n 1, 1) := by decide +kernel
theorem dX5_cast_5 : decode cX5_cast 5 = .ok (.i2b, 1) := by decide +kernel
theorem dX5_cast_6 : decode cX5_cast 6 = .ok (.goto 14, 3) := by decide +kernel
theorem dX5_cast_9 : decode cX5_cast 9 = .ok (.iload_n 0, 1) := by decide +kernel
theorem dX5_cast_10 : decode cX5_cast 10 = .ok (.iconst 1, 1) := by decide +kernel
theorem dX5_cast_11 : decode cX5_cast 11 = .ok (.if_icmp .ne 8, 3) := by decide +kernel
theorem dX5_cast_14 : decode cX5_cast 14 = .ok (.iload_n 1, 1) := by decide +kernel
theorem dX5_cast_15 : decode cX5_cast 15 = .ok (.i2s, 1) := by decide +kernel
theorem dX5_cast_16 : decode cX5_cast 16 = .ok (.goto 4, 3) := by decide +kernel
theorem dX5_cast_19 : decode cX5_cast 19 = .ok (.iload_n 1, 1) := by decide +kernel
theorem dX5_cast_20 : decode cX5_cast 20 = .ok (.ireturn, 1) := by decide +kernel
theorem dX5_isPlace_0 : decode cX5_isPlace 0 = .ok (.iload_n 2, 1) := by decide +kernel
theorem dX5_isPlace_1 : decode cX5_isPlace 1 = .ok (.i2l, 1) := by decide +kernel
theorem dX5_isPlace_2 : decode cX5_isPlace 2 = .ok (.lconst 0, 1) := by decide +kernel
theorem dX5_isPlace_3 : decode cX5_isPlace 3 = .ok (.aload_n 0, 1) := by decide +kernel
theorem dX5_isPlace_4 : decode cX5_isPlace 4 = .ok (.getfield 17, 3) := by decide +kernel
theorem dX5_isPlace_7 : decode cX5_isPlace 7 = .ok (.iload_n 1, 1) := by decide +kernel
theorem dX5_isPlace_8 : decode cX5_isPlace 8 = .ok (.iaload, 1) := by decide +kernel
theorem dX5_isPlace_9 : decode cX5_isPlace 9 = .ok (.iconst 1, 1) := by decide +kernel
theorem dX5_isPlace_10 : decode cX5_isPlace 10 = .ok (.isub, 1) := by decide +kernel
theorem dX5_isPlace_11 : decode cX5_isPlace 11 = .ok (.i2l, 1) := by decide +kernel
theorem dX5_isPlace_12 : decode cX5_isPlace 12 = .ok (.invokestatic 75, 3) := by decide +kernel
theorem dX5_isPlace_15 : decode cX5_isPlace 15 = .ok (.ifCond .eq 25, 3) := by decide +kernel
theorem dX5_isPlace_18 : decode cX5_isPlace 18 = .ok (.iload_n 3, 1) := by decide +kernel
theorem dX5_isPlace_19 : decode cX5_isPlace 19 = .ok (.i2l, 1) := by decide +kernel
theorem dX5_isPlace_20 : decode cX5_isPlace 20 = .ok (.lconst 0, 1) := by decide +kernel
theorem dX5_isPlace_21 : decode cX5_isPlace 21 = .ok (.aload_n 0, 1) := by decide +kernel
theorem dX5_isPlace_22 : decode cX5_isPlace 22 = .ok (.getfield 20, 3) := by decide +kernel
theorem dX5_isPlace_25 : decode cX5_isPlace 25 = .ok (.iload_n 1, 1) := by decide +kernel
theorem dX5_isPlace_26 : decode cX5_isPlace 26 = .ok (.iaload, 1) := by decide +kernel
theorem dX5_isPlace_27 : decode cX5_isPlace 27 = .ok (.iconst 1, 1) := by decide +kernel
theorem dX5_isPlace_28 : decode cX5_isPlace 28 = .ok (.isub, 1) := by decide +kernel
theorem dX5_isPlace_29 : decode cX5_isPlace 29 = .ok (.i2l, 1) := by decide +kernel
theorem dX5_isPlace_30 : decode cX5_isPlace 30 = .ok (.invokestatic 75, 3) := by decide +kernel
theorem dX5_isPlace_33 : decode cX5_isPlace 33 = .ok (.ifCond .eq 7, 3) := by decide +kernel
theorem dX5_isPlace_36 : decode cX5_isPlace 36 = .ok (.iconst 1, 1) := by decide +kernel
theorem dX5_isPlace_37 : decode cX5_isPlace 37 = .ok (.goto 4, 3) := by decide +kernel
theorem dX5_isPlace_40 : decode cX5_isPlace 40 = .ok (.iconst 0, 1) := by decide +kernel
theorem dX5_isPlace_41 : decode cX5_isPlace 41 = .ok (.ireturn, 1) := by decide +kernel
theorem dX5_place_0 : decode cX5_place 0 = .ok (.sipush 400, 3) := by decide +kernel
theorem dX5_place_3 : decode cX5_place 3 = .ok (.iload_n 0, 1) := by decide +kernel
theorem dX5_place_4 : decode cX5_place 4 = .ok (.imul, 1) := by decide +kernel
theorem dX5_place_5 : decode cX5_place 5 = .ok (.bipush 20, 2) := by decide +kernel
theorem dX5_place_7 : decode cX5_place 7 = .ok (.iload_n 2, 1) := by decide +kernel
theorem dX5_place_8 : decode cX5_place 8 = .ok (.imul, 1) := by decide +kernel
theorem dX5_place_9 : decode cX5_place 9 = .ok (.iadd, 1) := by decide +kernel
theorem dX5_place_10 : decode cX5_place 10 = .ok (.iload_n 1, 1) := by decide +kernel
theorem dX5_place_11 : decode cX5_place 11 = .ok (.iadd, 1) := by decide +kernel
theorem dX5_place_12 : decode cX5_place 12 = .ok (.ireturn, 1) := by decide +kernel
theorem dX5_put_0 : decode cX5_put 0 = .ok (.iload_n 1, 1) := by decide +kernel
theorem dX5_put_1 : decode cX5_put 1 = .ok (.invokestatic 82, 3) := by decide +kernel
theorem dX5_put_4 : decode cX5_put 4 = .ok (.ifCond .ne 6, 3) := by decide +kernel
theorem dX5_put_7 : decode cX5_put 7 = .ok (.bipush (-101), 2) := by decide +kernel
theorem dX5_put_9 : decode cX5_put 9 = .ok (.ireturn, 1) := by decide +kernel
theorem dX5_put_10 : decode cX5_put 10 = .ok (.iload_n 2, 1) := by decide +kernel
theorem dX5_put_11 : decode cX5_put 11 = .ok (.i2l, 1) := by decide +kernel
theorem dX5_put_12 : decode cX5_put 12 = .ok (.lconst 0, 1) := by decide +kernel
theorem dX5_put_13 : decode cX5_put 13 = .ok (.ldc2_w 86, 3) := by decide +kernel
theorem dX5_put_16 : decode cX5_put 16 = .ok (.invokestatic 75, 3) := by decide +kernel
theorem dX5_put_19 : decode cX5_put 19 = .ok (.ifCond .ne 6, 3) := by decide +kernel
theorem dX5_put_22 : decode cX5_put 22 = .ok (.bipush (-102), 2) := by decide +kernel
theorem dX5_put_24 : decode cX5_put 24 = .ok (.ireturn, 1) := by decide +kernel
theorem dX5_put_25 : decode cX5_put 25 = .ok (.aload_n 0, 1) := by decide +kernel
theorem dX5_put_26 : decode cX5_put 26 = .ok (.getfield 7, 3) := by decide +kernel
theorem dX5_put_29 : decode cX5_put 29 = .ok (.iload_n 1, 1) := by decide +kernel
theorem dX5_put_30 : decode cX5_put 30 = .ok (.baload, 1) := by decide +kernel
theorem dX5_put_31 : decode cX5_put 31 = .ok (.ifCond .ne 10, 3) := by decide +kernel
theorem dX5_put_34 : decode cX5_put 34 = .ok (.aload_n 0, 1) := by decide +kernel
theorem dX5_put_35 : decode cX5_put 35 = .ok (.bipush (-11), 2) := by decide +kernel
theorem dX5_put_37 : decode cX5_put 37 = .ok (.invokevirtual 88, 3) := by decide +kernel
theorem dX5_put_40 : decode cX5_put 40 = .ok (.ireturn, 1) := by decide +kernel
theorem dX5_put_41 : decode cX5_put 41 = .ok (.aload_n 0, 1) := by decide +kernel
theorem dX5_put_42 : decode cX5_put 42 = .ok (.getfield 13, 3) := by decide +kernel
theorem dX5_put_45 : decode cX5_put 45 = .ok (.iload_n 1, 1) := by decide +kernel
theorem dX5_put_46 : decode cX5_put 46 = .ok (.iaload, 1) := by decide +kernel
theorem dX5_put_47 : decode cX5_put 47 = .ok (.iload_n 2, 1) := by decide +kernel
theorem dX5_put_48 : decode cX5_put 48 = .ok (.if_icmp .eq 10, 3) := by decide +kernel
theorem dX5_put_51 : decode cX5_put 51 = .ok (.aload_n 0, 1) := by decide +kernel
theorem dX5_put_52 : decode cX5_put 52 = .ok (.bipush (-14), 2) := by decide +kernel
theorem dX5_put_54 : decode cX5_put 54 = .ok (.invokevirtual 88, 3) := by decide +kernel
theorem dX5_put_57 : decode cX5_put 57 = .ok (.ireturn, 1) := by decide +kernel
theorem dX5_put_58 : decode cX5_put 58 = .ok (.aload_n 0, 1) := by decide +kernel
theorem dX5_put_59 : decode cX5_put 59 = .ok (.iload_n 1, 1) := by decide +kernel
theorem dX5_put_60 : decode cX5_put 60 = .ok (.iload_n 3, 1) := by decide +kernel
theorem dX5_put_61 : decode cX5_put 61 = .ok (.iload 4, 2) := by decide +kernel
theorem dX5_put_63 : decode cX5_put 63 = .ok (.invokevirtual 92, 3) := by decide +kernel
theorem dX5_put_66 : decode cX5_put 66 = .ok (.ifCond .ne 10, 3) := by decide +kernel
theorem dX5_put_69 : decode cX5_put 69 = .ok (.aload_n 0, 1) := by decide +kernel
theorem dX5_put_70 : decode cX5_put 70 = .ok (.bipush (-12), 2) := by decide +kernel
theorem dX5_put_72 : decode cX5_put 72 = .ok (.invokevirtual 88, 3) := by decide +kernel
theorem dX5_put_75 : decode cX5_put 75 = .ok (.ireturn, 1) := by decide +kernel
theorem dX5_put_76 : decode cX5_put 76 = .ok (.aload_n 0, 1) := by decide +kernel
theorem dX5_put_77 : decode cX5_put 77 = .ok (.getfield 23, 3) := by decide +kernel
theorem dX5_put_80 : decode cX5_put 80 = .ok (.iload_n 1, 1) := by decide +kernel
theorem dX5_put_81 : decode cX5_put 81 = .ok (.iload_n 3, 1) := by decide +kernel
theorem dX5_put_82 : decode cX5_put 82 = .ok (.iload 4, 2) := by decide +kernel
theorem dX5_put_84 : decode cX5_put 84 = .ok (.invokestatic 96, 3) := by decide +kernel
theorem dX5_put_87 : decode cX5_put 87 = .ok (.iload_n 2, 1) := by decide +kernel
theorem dX5_put_88 : decode cX5_put 88 = .ok (.iload 5, 2) := by decide +kernel
theorem dX5_put_90 : decode cX5_put 90 = .ok (.invokestatic 100, 3) := by decide +kernel
theorem dX5_put_93 : decode cX5_put 93 = .ok (.iastore, 1) := by decide +kernel
theorem dX5_put_94 : decode cX5_put 94 = .ok (.iconst 1, 1) := by decide +kernel
theorem dX5_put_95 : decode cX5_put 95 = .ok (.ireturn, 1) := by decide +kernel
theorem dX5_isLike_0 : decode cX5_isLike 0 = .ok (.aload_n 0, 1) := by decide +kernel
theorem dX5_isLike_1 : decode cX5_isLike 1 = .ok (.getfield 17, 3) := by decide +kernel
theorem dX5_isLike_4 : decode cX5_isLike 4 = .ok (.iload_n 1, 1) := by decide +kernel
theorem dX5_isLike_5 : decode cX5_isLike 5 = .ok (.iaload, 1) := by decide +kernel
theorem dX5_isLike_6 : decode cX5_isLike 6 = .ok (.aload_n 0, 1) := by decide +kernel
theorem dX5_isLike_7 : decode cX5_isLike 7 = .ok (.getfield 17, 3) := by decide +kernel
theorem dX5_isLike_10 : decode cX5_isLike 10 = .ok (.iload_n 2, 1) := by decide +kernel
theorem dX5_isLike_11 : decode cX5_isLike 11 = .ok (.iaload, 1) := by decide +kernel
theorem dX5_isLike_12 : decode cX5_isLike 12 = .ok (.if_icmp .ne 22, 3) := by decide +kernel
theorem dX5_isLike_15 : decode cX5_isLike 15 = .ok (.aload_n 0, 1) := by decide +kernel
theorem dX5_isLike_16 : decode cX5_isLike 16 = .ok (.getfield 20, 3) := by decide +kernel
theorem dX5_isLike_19 : decode cX5_isLike 19 = .ok (.iload_n 1, 1) := by decide +kernel
theorem dX5_isLike_20 : decode cX5_isLike 20 = .ok (.iaload, 1) := by decide +kernel
theorem dX5_isLike_21 : decode cX5_isLike 21 = .ok (.aload_n 0, 1) := by decide +kernel
theorem dX5_isLike_22 : decode cX5_isLike 22 = .ok (.getfield 20, 3) := by decide +kernel
theorem dX5_isLike_25 : decode cX5_isLike 25 = .ok (.iload_n 2, 1) := by decide +kernel
theorem dX5_isLike_26 : decode cX5_isLike 26 = .ok (.iaload, 1) := by decide +kernel
theorem dX5_isLike_27 : decode cX5_isLike 27 = .ok (.if_icmp .ne 7, 3) := by decide +kernel
theorem dX5_isLike_30 : decode cX5_isLike 30 = .ok (.iconst 1, 1) := by decide +kernel
theorem dX5_isLike_31 : decode cX5_isLike 31 = .ok (.goto 4, 3) := by decide +kernel
theorem dX5_isLike_34 : decode cX5_isLike 34 = .ok (.iconst 0, 1) := by decide +kernel
theorem dX5_isLike_35 : decode cX5_isLike 35 = .ok (.ireturn, 1) := by decide +kernel
theorem dX5_copy_0 : decode cX5_copy 0 = .ok (.iload_n 1, 1) := by decide +kernel
theorem dX5_copy_1 : decode cX5_copy 1 = .ok (.invokestatic 82, 3) := by decide +kernel
theorem dX5_copy_4 : decode cX5_copy 4 = .ok (.ifCond .eq 10, 3) := by decide +kernel
theorem dX5_copy_7 : decode cX5_copy 7 = .ok (.iload_n 2, 1) := by decide +kernel
theorem dX5_copy_8 : decode cX5_copy 8 = .ok (.invokestatic 82, 3) := by decide +kernel
theorem dX5_copy_11 : decode cX5_copy 11 = .ok (.ifCond .ne 6, 3) := by decide +kernel
theorem dX5_copy_14 : decode cX5_copy 14 = .ok (.bipush (-101), 2) := by decide +kernel
theorem dX5_copy_16 : decode cX5_copy 16 = .ok (.ireturn, 1) := by decide +kernel
theorem dX5_copy_17 : decode cX5_copy 17 = .ok (.aload_n 0, 1) := by decide +kernel
theorem dX5_copy_18 : decode cX5_copy 18 = .ok (.getfield 7, 3) := by decide +kernel
theorem dX5_copy_21 : decode cX5_copy 21 = .ok (.iload_n 1, 1) := by decide +kernel
theorem dX5_copy_22 : decode cX5_copy 22 = .ok (.baload, 1) := by decide +kernel
theorem dX5_copy_23 : decode cX5_copy 23 = .ok (.ifCond .eq 12, 3) := by decide +kernel
theorem dX5_copy_26 : decode cX5_copy 26 = .ok (.aload_n 0, 1) := by decide +kernel
theorem dX5_copy_27 : decode cX5_copy 27 = .ok (.getfield 7, 3) := by decide +kernel
theorem dX5_copy_30 : decode cX5_copy 30 = .ok (.iload_n 2, 1) := by decide +kernel
theorem dX5_copy_31 : decode cX5_copy 31 = .ok (.baload, 1) := by decide +kernel
theorem dX5_copy_32 : decode cX5_copy 32 = .ok (.ifCond .ne 10, 3) := by decide +kernel
theorem dX5_copy_35 : decode cX5_copy 35 = .ok (.aload_n 0, 1) := by decide +kernel
theorem dX5_copy_36 : decode cX5_copy 36 = .ok (.bipush (-11), 2) := by decide +kernel
theorem dX5_copy_38 : decode cX5_copy 38 = .ok (.invokevirtual 88, 3) := by decide +kernel
theorem dX5_copy_41 : decode cX5_copy 41 = .ok (.ireturn, 1) := by decide +kernel
theorem dX5_copy_42 : decode cX5_copy 42 = .ok (.aload_n 0, 1) := by decide +kernel
theorem dX5_copy_43 : decode cX5_copy 43 = .ok (.getfield 13, 3) := by decide +kernel
theorem dX5_copy_46 : decode cX5_copy 46 = .ok (.iload_n 1, 1) := by decide +kernel
theorem dX5_copy_47 : decode cX5_copy 47 = .ok (.iaload, 1) := by decide +kernel
theorem dX5_copy_48 : decode cX5_copy 48 = .ok (.aload_n 0, 1) := by decide +kernel
theorem dX5_copy_49 : decode cX5_copy 49 = .ok (.getfield 13, 3) := by decide +kernel
theorem dX5_copy_52 : decode cX5_copy 52 = .ok (.iload_n 2, 1) := by decide +kernel
theorem dX5_copy_53 : decode cX5_copy 53 = .ok (.iaload, 1) := by decide +kernel
theorem dX5_copy_54 : decode cX5_copy 54 = .ok (.if_icmp .eq 10, 3) := by decide +kernel
theorem dX5_copy_57 : decode cX5_copy 57 = .ok (.aload_n 0, 1) := by decide +kernel
theorem dX5_copy_58 : decode cX5_copy 58 = .ok (.bipush (-14), 2) := by decide +kernel
theorem dX5_copy_60 : decode cX5_copy 60 = .ok (.invokevirtual 88, 3) := by decide +kernel
theorem dX5_copy_63 : decode cX5_copy 63 = .ok (.ireturn, 1) := by decide +kernel
theorem dX5_copy_64 : decode cX5_copy 64 = .ok (.aload_n 0, 1) := by decide +kernel
theorem dX5_copy_65 : decode cX5_copy 65 = .ok (.iload_n 1, 1) := by decide +kernel
theorem dX5_copy_66 : decode cX5_copy 66 = .ok (.iload_n 2, 1) := by decide +kernel
theorem dX5_copy_67 : decode cX5_copy 67 = .ok (.invokevirtual 104, 3) := by decide +kernel
theorem dX5_copy_70 : decode cX5_copy 70 = .ok (.ifCond .ne 10, 3) := by decide +kernel
theorem dX5_copy_73 : decode cX5_copy 73 = .ok (.aload_n 0, 1) := by decide +kernel
theorem dX5_copy_74 : decode cX5_copy 74 = .ok (.bipush (-15), 2) := by decide +kernel
theorem dX5_copy_76 : decode cX5_copy 76 = .ok (.invokevirtual 88, 3) := by decide +kernel
theorem dX5_copy_79 : decode cX5_copy 79 = .ok (.ireturn, 1) := by decide +kernel
theorem dX5_copy_80 : decode cX5_copy 80 = .ok (.iconst 0, 1) := by decide +kernel
theorem dX5_copy_81 : decode cX5_copy 81 = .ok (.istore_n 3, 1) := by decide +kernel
theorem dX5_copy_82 : decode cX5_copy 82 = .ok (.iload_n 3, 1) := by decide +kernel
theorem dX5_copy_83 : decode cX5_copy 83 = .ok (.sipush 400, 3) := by decide +kernel
theorem dX5_copy_86 : decode cX5_copy 86 = .ok (.if_icmp .ge 33, 3) := by decide +kernel
theorem dX5_copy_89 : decode cX5_copy 89 = .ok (.aload_n 0, 1) := by decide +kernel
theorem dX5_copy_90 : decode cX5_copy 90 = .ok (.getfield 23, 3) := by decide +kernel
theorem dX5_copy_93 : decode cX5_copy 93 = .ok (.sipush 400, 3) := by decide +kernel
theorem dX5_copy_96 : decode cX5_copy 96 = .ok (.iload_n 2, 1) := by decide +kernel
theorem dX5_copy_97 : decode cX5_copy 97 = .ok (.imul, 1) := by decide +kernel
theorem dX5_copy_98 : decode cX5_copy 98 = .ok (.iload_n 3, 1) := by decide +kernel
theorem dX5_copy_99 : decode cX5_copy 99 = .ok (.iadd, 1) := by decide +kernel
theorem dX5_copy_100 : decode cX5_copy 100 = .ok (.aload_n 0, 1) := by decide +kernel
theorem dX5_copy_101 : decode cX5_copy 101 = .ok (.getfield 23, 3) := by decide +kernel
theorem dX5_copy_104 : decode cX5_copy 104 = .ok (.sipush 400, 3) := by decide +kernel
theorem dX5_copy_107 : decode cX5_copy 107 = .ok (.iload_n 1, 1) := by decide +kernel
theorem dX5_copy_108 : decode cX5_copy 108 = .ok (.imul, 1) := by decide +kernel
theorem dX5_copy_109 : decode cX5_copy 109 = .ok (.iload_n 3, 1) := by decide +kernel
theorem dX5_copy_110 : decode cX5_copy 110 = .ok (.iadd, 1) := by decide +kernel
theorem dX5_copy_111 : decode cX5_copy 111 = .ok (.iaload, 1) := by decide +kernel
theorem dX5_copy_112 : decode cX5_copy 112 = .ok (.iastore, 1) := by decide +kernel
theorem dX5_copy_113 : decode cX5_copy 113 = .ok (.iinc 3 1, 3) := by decide +kernel
theorem dX5_copy_116 : decode cX5_copy 116 = .ok (.goto (-34), 3) := by decide +kernel
theorem dX5_copy_119 : decode cX5_copy 119 = .ok (.iconst 1, 1) := by decide +kernel
theorem dX5_copy_120 : decode cX5_copy 120 = .ok (.ireturn, 1) := by decide +kernel
theorem dX5_less_0 : decode cX5_less 0 = .ok (.iload_n 1, 1) := by decide +kernel
theorem dX5_less_1 : decode cX5_less 1 = .ok (.invokestatic 82, 3) := by decide +kernel
theorem dX5_less_4 : decode cX5_less 4 = .ok (.ifCond .eq 10, 3) := by decide +kernel
theorem dX5_less_7 : decode cX5_less 7 = .ok (.iload_n 2, 1) := by decide +kernel
theorem dX5_less_8 : decode cX5_less 8 = .ok (.invokestatic 82, 3) := by decide +kernel
theorem dX5_less_11 : decode cX5_less 11 = .ok (.ifCond .ne 6, 3) := by decide +kernel
theorem dX5_less_14 : decode cX5_less 14 = .ok (.bipush (-101), 2) := by decide +kernel
theorem dX5_less_16 : decode cX5_less 16 = .ok (.ireturn, 1) := by decide +kernel
theorem dX5_less_17 : decode cX5_less 17 = .ok (.aload_n 0, 1) := by decide +kernel
theorem dX5_less_18 : decode cX5_less 18 = .ok (.getfield 7, 3) := by decide +kernel
theorem dX5_less_21 : decode cX5_less 21 = .ok (.iload_n 1, 1) := by decide +kernel
theorem dX5_less_22 : decode cX5_less 22 = .ok (.baload, 1) := by decide +kernel
theorem dX5_less_23 : decode cX5_less 23 = .ok (.ifCond .eq 12, 3) := by decide +kernel
theorem dX5_less_26 : decode cX5_less 26 = .ok (.aload_n 0, 1) := by decide +kernel
theorem dX5_less_27 : decode cX5_less 27 = .ok (.getfield 7, 3) := by decide +kernel
theorem dX5_less_30 : decode cX5_less 30 = .ok (.iload_n 2, 1) := by decide +kernel
theorem dX5_less_31 : decode cX5_less 31 = .ok (.baload, 1) := by decide +kernel
theorem dX5_less_32 : decode cX5_less 32 = .ok (.ifCond .ne 10, 3) := by decide +kernel
theorem dX5_less_35 : decode cX5_less 35 = .ok (.aload_n 0, 1) := by decide +kernel
theorem dX5_less_36 : decode cX5_less 36 = .ok (.bipush (-11), 2) := by decide +kernel
theorem dX5_less_38 : decode cX5_less 38 = .ok (.invokevirtual 88, 3) := by decide +kernel
theorem dX5_less_41 : decode cX5_less 41 = .ok (.ireturn, 1) := by decide +kernel
theorem dX5_less_42 : decode cX5_less 42 = .ok (.aload_n 0, 1) := by decide +kernel
theorem dX5_less_43 : decode cX5_less 43 = .ok (.iload_n 1, 1) := by decide +kernel
theorem dX5_less_44 : decode cX5_less 44 = .ok (.iload_n 2, 1) := by decide +kernel
theorem dX5_less_45 : decode cX5_less 45 = .ok (.invokevirtual 104, 3) := by decide +kernel
theorem dX5_less_48 : decode cX5_less 48 = .ok (.ifCond .ne 10, 3) := by decide +kernel
theorem dX5_less_51 : decode cX5_less 51 = .ok (.aload_n 0, 1) := by decide +kernel
theorem dX5_less_52 : decode cX5_less 52 = .ok (.bipush (-15), 2) := by decide +kernel
theorem dX5_less_54 : decode cX5_less 54 = .ok (.invokevirtual 88, 3) := by decide +kernel
theorem dX5_less_57 : decode cX5_less 57 = .ok (.ireturn, 1) := by decide +kernel
theorem dX5_less_58 : decode cX5_less 58 = .ok (.iconst 0, 1) := by decide +kernel
theorem dX5_less_59 : decode cX5_less 59 = .ok (.istore_n 3, 1) := by decide +kernel
theorem dX5_less_60 : decode cX5_less 60 = .ok (.iload_n 3, 1) := by decide +kernel
theorem dX5_less_61 : decode cX5_less 61 = .ok (.sipush 400, 3) := by decide +kernel
theorem dX5_less_64 : decode cX5_less 64 = .ok (.if_icmp .ge 55, 3) := by decide +kernel
theorem dX5_less_67 : decode cX5_less 67 = .ok (.aload_n 0, 1) := by decide +kernel
theorem dX5_less_68 : decode cX5_less 68 = .ok (.getfield 23, 3) := by decide +kernel
theorem dX5_less_71 : decode cX5_less 71 = .ok (.sipush 400, 3) := by decide +kernel
theorem dX5_less_74 : decode cX5_less 74 = .ok (.iload_n 2, 1) := by decide +kernel
theorem dX5_less_75 : decode cX5_less 75 = .ok (.imul, 1) := by decide +kernel
theorem dX5_less_76 : decode cX5_less 76 = .ok (.iload_n 3, 1) := by decide +kernel
theorem dX5_less_77 : decode cX5_less 77 = .ok (.iadd, 1) := by decide +kernel
theorem dX5_less_78 : decode cX5_less 78 = .ok (.aload_n 0, 1) := by decide +kernel
theorem dX5_less_79 : decode cX5_less 79 = .ok (.getfield 13, 3) := by decide +kernel
theorem dX5_less_82 : decode cX5_less 82 = .ok (.iload_n 2, 1) := by decide +kernel
theorem dX5_less_83 : decode cX5_less 83 = .ok (.iaload, 1) := by decide +kernel
theorem dX5_less_84 : decode cX5_less 84 = .ok (.aload_n 0, 1) := by decide +kernel
theorem dX5_less_85 : decode cX5_less 85 = .ok (.getfield 23, 3) := by decide +kernel
theorem dX5_less_88 : decode cX5_less 88 = .ok (.sipush 400, 3) := by decide +kernel
theorem dX5_less_91 : decode cX5_less 91 = .ok (.iload_n 2, 1) := by decide +kernel
theorem dX5_less_92 : decode cX5_less 92 = .ok (.imul, 1) := by decide +kernel
theorem dX5_less_93 : decode cX5_less 93 = .ok (.iload_n 3, 1) := by decide +kernel
theorem dX5_less_94 : decode cX5_less 94 = .ok (.iadd, 1) := by decide +kernel
theorem dX5_less_95 : decode cX5_less 95 = .ok (.iaload, 1) := by decide +kernel
theorem dX5_less_96 : decode cX5_less 96 = .ok (.aload_n 0, 1) := by decide +kernel
theorem dX5_less_97 : decode cX5_less 97 = .ok (.getfield 23, 3) := by decide +kernel
theorem dX5_less_100 : decode cX5_less 100 = .ok (.sipush 400, 3) := by decide +kernel
theorem dX5_less_103 : decode cX5_less 103 = .ok (.iload_n 1, 1) := by decide +kernel
theorem dX5_less_104 : decode cX5_less 104 = .ok (.imul, 1) := by decide +kernel
theorem dX5_less_105 : decode cX5_less 105 = .ok (.iload_n 3, 1) := by decide +kernel
theorem dX5_less_106 : decode cX5_less 106 = .ok (.iadd, 1) := by decide +kernel
theorem dX5_less_107 : decode cX5_less 107 = .ok (.iaload, 1) := by decide +kernel
theorem dX5_less_108 : decode cX5_less 108 = .ok (.isub, 1) := by decide +kernel
theorem dX5_less_109 : decode cX5_less 109 = .ok (.invokestatic 100, 3) := by decide +kernel
theorem dX5_less_112 : decode cX5_less 112 = .ok (.iastore, 1) := by decide +kernel
theorem dX5_less_113 : decode cX5_less 113 = .ok (.iinc 3 1, 3) := by decide +kernel
theorem dX5_less_116 : decode cX5_less 116 = .ok (.goto (-56), 3) := by decide +kernel
theorem dX5_less_119 : decode cX5_less 119 = .ok (.iconst 1, 1) := by decide +kernel
theorem dX5_less_120 : decode cX5_less 120 = .ok (.ireturn, 1) := by decide +kernel
theorem dX5_lose_0 : decode cX5_lose 0 = .ok (.iload_n 1, 1) := by decide +kernel
theorem dX5_lose_1 : decode cX5_lose 1 = .ok (.invokestatic 82, 3) := by decide +kernel
theorem dX5_lose_4 : decode cX5_lose 4 = .ok (.ifCond .ne 6, 3) := by decide +kernel
theorem dX5_lose_7 : decode cX5_lose 7 = .ok (.bipush (-101), 2) := by decide +kernel
theorem dX5_lose_9 : decode cX5_lose 9 = .ok (.ireturn, 1) := by decide +kernel
theorem dX5_lose_10 : decode cX5_lose 10 = .ok (.aload_n 0, 1) := by decide +kernel
theorem dX5_lose_11 : decode cX5_lose 11 = .ok (.getfield 7, 3) := by decide +kernel
theorem dX5_lose_14 : decode cX5_lose 14 = .ok (.iload_n 1, 1) := by decide +kernel
theorem dX5_lose_15 : decode cX5_lose 15 = .ok (.baload, 1) := by decide +kernel
theorem dX5_lose_16 : decode cX5_lose 16 = .ok (.ifCond .ne 10, 3) := by decide +kernel
theorem dX5_lose_19 : decode cX5_lose 19 = .ok (.aload_n 0, 1) := by decide +kernel
theorem dX5_lose_20 : decode cX5_lose 20 = .ok (.bipush (-11), 2) := by decide +kernel
theorem dX5_lose_22 : decode cX5_lose 22 = .ok (.invokevirtual 88, 3) := by decide +kernel
theorem dX5_lose_25 : decode cX5_lose 25 = .ok (.ireturn, 1) := by decide +kernel
theorem dX5_lose_26 : decode cX5_lose 26 = .ok (.aload_n 0, 1) := by decide +kernel
theorem dX5_lose_27 : decode cX5_lose 27 = .ok (.getfield 7, 3) := by decide +kernel
theorem dX5_lose_30 : decode cX5_lose 30 = .ok (.iload_n 1, 1) := by decide +kernel
theorem dX5_lose_31 : decode cX5_lose 31 = .ok (.iconst 0, 1) := by decide +kernel
theorem dX5_lose_32 : decode cX5_lose 32 = .ok (.bastore, 1) := by decide +kernel
theorem dX5_lose_33 : decode cX5_lose 33 = .ok (.iconst 1, 1) := by decide +kernel
theorem dX5_lose_34 : decode cX5_lose 34 = .ok (.ireturn, 1) := by decide +kernel
theorem dX5_bad_0 : decode cX5_bad 0 = .ok (.iload_n 1, 1) := by decide +kernel
theorem dX5_bad_1 : decode cX5_bad 1 = .ok (.i2l, 1) := by decide +kernel
theorem dX5_bad_2 : decode cX5_bad 2 = .ok (.lconst 0, 1) := by decide +kernel
theorem dX5_bad_3 : decode cX5_bad 3 = .ok (.ldc2_w 108, 3) := by decide +kernel
theorem dX5_bad_6 : decode cX5_bad 6 = .ok (.invokestatic 75, 3) := by decide +kernel
theorem dX5_bad_9 : decode cX5_bad 9 = .ok (.ifCond .eq 15, 3) := by decide +kernel
theorem dX5_bad_12 : decode cX5_bad 12 = .ok (.iload_n 2, 1) := by decide +kernel
theorem dX5_bad_13 : decode cX5_bad 13 = .ok (.i2l, 1) := by decide +kernel
theorem dX5_bad_14 : decode cX5_bad 14 = .ok (.lconst 0, 1) := by decide +kernel
theorem dX5_bad_15 : decode cX5_bad 15 = .ok (.ldc2_w 108, 3) := by decide +kernel
theorem dX5_bad_18 : decode cX5_bad 18 = .ok (.invokestatic 75, 3) := by decide +kernel
theorem dX5_bad_21 : decode cX5_bad 21 = .ok (.ifCond .ne 6, 3) := by decide +kernel
theorem dX5_bad_24 : decode cX5_bad 24 = .ok (.bipush (-102), 2) := by decide +kernel
theorem dX5_bad_26 : decode cX5_bad 26 = .ok (.ireturn, 1) := by decide +kernel
theorem dX5_bad_27 : decode cX5_bad 27 = .ok (.aload_n 0, 1) := by decide +kernel
theorem dX5_bad_28 : decode cX5_bad 28 = .ok (.getfield 26, 3) := by decide +kernel
theorem dX5_bad_31 : decode cX5_bad 31 = .ok (.bipush 20, 2) := by decide +kernel
theorem dX5_bad_33 : decode cX5_bad 33 = .ok (.iload_n 2, 1) := by decide +kernel
theorem dX5_bad_34 : decode cX5_bad 34 = .ok (.imul, 1) := by decide +kernel
theorem dX5_bad_35 : decode cX5_bad 35 = .ok (.iload_n 1, 1) := by decide +kernel
theorem dX5_bad_36 : decode cX5_bad 36 = .ok (.iadd, 1) := by decide +kernel
theorem dX5_bad_37 : decode cX5_bad 37 = .ok (.baload, 1) := by decide +kernel
theorem dX5_bad_38 : decode cX5_bad 38 = .ok (.ifCond .eq 7, 3) := by decide +kernel
theorem dX5_bad_41 : decode cX5_bad 41 = .ok (.iconst 1, 1) := by decide +kernel
theorem dX5_bad_42 : decode cX5_bad 42 = .ok (.goto 4, 3) := by decide +kernel
theorem dX5_bad_45 : decode cX5_bad 45 = .ok (.iconst 0, 1) := by decide +kernel
theorem dX5_bad_46 : decode cX5_bad 46 = .ok (.istore 4, 2) := by decide +kernel
theorem dX5_bad_48 : decode cX5_bad 48 = .ok (.aload_n 0, 1) := by decide +kernel
theorem dX5_bad_49 : decode cX5_bad 49 = .ok (.getfield 26, 3) := by decide +kernel
theorem dX5_bad_52 : decode cX5_bad 52 = .ok (.bipush 20, 2) := by decide +kernel
theorem dX5_bad_54 : decode cX5_bad 54 = .ok (.iload_n 2, 1) := by decide +kernel
theorem dX5_bad_55 : decode cX5_bad 55 = .ok (.imul, 1) := by decide +kernel
theorem dX5_bad_56 : decode cX5_bad 56 = .ok (.iload_n 1, 1) := by decide +kernel
theorem dX5_bad_57 : decode cX5_bad 57 = .ok (.iadd, 1) := by decide +kernel
theorem dX5_bad_58 : decode cX5_bad 58 = .ok (.iload_n 3, 1) := by decide +kernel
theorem dX5_bad_59 : decode cX5_bad 59 = .ok (.bastore, 1) := by decide +kernel
theorem dX5_bad_60 : decode cX5_bad 60 = .ok (.iload 4, 2) := by decide +kernel
theorem dX5_bad_62 : decode cX5_bad 62 = .ok (.ireturn, 1) := by decide +kernel
theorem dX5_look_0 : decode cX5_look 0 = .ok (.iload_n 1, 1) := by decide +kernel
theorem dX5_look_1 : decode cX5_look 1 = .ok (.invokestatic 82, 3) := by decide +kernel
theorem dX5_look_4 : decode cX5_look 4 = .ok (.ifCond .ne 6, 3) := by decide +kernel
theorem dX5_look_7 : decode cX5_look 7 = .ok (.bipush (-101), 2) := by decide +kernel
theorem dX5_look_9 : decode cX5_look 9 = .ok (.ireturn, 1) := by decide +kernel
theorem dX5_look_10 : decode cX5_look 10 = .ok (.aload_n 0, 1) := by decide +kernel
theorem dX5_look_11 : decode cX5_look 11 = .ok (.getfield 7, 3) := by decide +kernel
theorem dX5_look_14 : decode cX5_look 14 = .ok (.iload_n 1, 1) := by decide +kernel
theorem dX5_look_15 : decode cX5_look 15 = .ok (.baload, 1) := by decide +kernel
theorem dX5_look_16 : decode cX5_look 16 = .ok (.ifCond .ne 10, 3) := by decide +kernel
theorem dX5_look_19 : decode cX5_look 19 = .ok (.aload_n 0, 1) := by decide +kernel
theorem dX5_look_20 : decode cX5_look 20 = .ok (.bipush (-11), 2) := by decide +kernel
theorem dX5_look_22 : decode cX5_look 22 = .ok (.invokevirtual 88, 3) := by decide +kernel
theorem dX5_look_25 : decode cX5_look 25 = .ok (.ireturn, 1) := by decide +kernel
theorem dX5_look_26 : decode cX5_look 26 = .ok (.aload_n 0, 1) := by decide +kernel
theorem dX5_look_27 : decode cX5_look 27 = .ok (.iload_n 1, 1) := by decide +kernel
theorem dX5_look_28 : decode cX5_look 28 = .ok (.iload_n 2, 1) := by decide +kernel
theorem dX5_look_29 : decode cX5_look 29 = .ok (.iload_n 3, 1) := by decide +kernel
theorem dX5_look_30 : decode cX5_look 30 = .ok (.invokevirtual 92, 3) := by decide +kernel
theorem dX5_look_33 : decode cX5_look 33 = .ok (.ifCond .ne 10, 3) := by decide +kernel
theorem dX5_look_36 : decode cX5_look 36 = .ok (.aload_n 0, 1) := by decide +kernel
theorem dX5_look_37 : decode cX5_look 37 = .ok (.bipush (-12), 2) := by decide +kernel
theorem dX5_look_39 : decode cX5_look 39 = .ok (.invokevirtual 88, 3) := by decide +kernel
theorem dX5_look_42 : decode cX5_look 42 = .ok (.ireturn, 1) := by decide +kernel
theorem dX5_look_43 : decode cX5_look 43 = .ok (.aload_n 0, 1) := by decide +kernel
theorem dX5_look_44 : decode cX5_look 44 = .ok (.aload_n 0, 1) := by decide +kernel
theorem dX5_look_45 : decode cX5_look 45 = .ok (.getfield 23, 3) := by decide +kernel
theorem dX5_look_48 : decode cX5_look 48 = .ok (.iload_n 1, 1) := by decide +kernel
theorem dX5_look_49 : decode cX5_look 49 = .ok (.iload_n 2, 1) := by decide +kernel
theorem dX5_look_50 : decode cX5_look 50 = .ok (.iload_n 3, 1) := by decide +kernel
theorem dX5_look_51 : decode cX5_look 51 = .ok (.invokestatic 96, 3) := by decide +kernel
theorem dX5_look_54 : decode cX5_look 54 = .ok (.iaload, 1) := by decide +kernel
theorem dX5_look_55 : decode cX5_look 55 = .ok (.putfield 110, 3) := by decide +kernel
theorem dX5_look_58 : decode cX5_look 58 = .ok (.iconst 1, 1) := by decide +kernel
theorem dX5_look_59 : decode cX5_look 59 = .ok (.ireturn, 1) := by decide +kernel
theorem dX5_comb_0 : decode cX5_comb 0 = .ok (.iload_n 1, 1) := by decide +kernel
theorem dX5_comb_1 : decode cX5_comb 1 = .ok (.i2l, 1) := by decide +kernel
theorem dX5_comb_2 : decode cX5_comb 2 = .ok (.lconst 0, 1) := by decide +kernel
theorem dX5_comb_3 : decode cX5_comb 3 = .ok (.ldc2_w 113, 3) := by decide +kernel
theorem dX5_comb_6 : decode cX5_comb 6 = .ok (.invokestatic 75, 3) := by decide +kernel
theorem dX5_comb_9 : decode cX5_comb 9 = .ok (.ifCond .eq 27, 3) := by decide +kernel
theorem dX5_comb_12 : decode cX5_comb 12 = .ok (.iload_n 2, 1) := by decide +kernel
theorem dX5_comb_13 : decode cX5_comb 13 = .ok (.i2l, 1) := by decide +kernel
theorem dX5_comb_14 : decode cX5_comb 14 = .ok (.lconst 0, 1) := by decide +kernel
theorem dX5_comb_15 : decode cX5_comb 15 = .ok (.ldc2_w 113, 3) := by decide +kernel
theorem dX5_comb_18 : decode cX5_comb 18 = .ok (.invokestatic 75, 3) := by decide +kernel
theorem dX5_comb_21 : decode cX5_comb 21 = .ok (.ifCond .eq 15, 3) := by decide +kernel
theorem dX5_comb_24 : decode cX5_comb 24 = .ok (.iload_n 3, 1) := by decide +kernel
theorem dX5_comb_25 : decode cX5_comb 25 = .ok (.i2l, 1) := by decide +kernel
theorem dX5_comb_26 : decode cX5_comb 26 = .ok (.lconst 0, 1) := by decide +kernel
theorem dX5_comb_27 : decode cX5_comb 27 = .ok (.ldc2_w 115, 3) := by decide +kernel
theorem dX5_comb_30 : decode cX5_comb 30 = .ok (.invokestatic 75, 3) := by decide +kernel
theorem dX5_comb_33 : decode cX5_comb 33 = .ok (.ifCond .ne 6, 3) := by decide +kernel
theorem dX5_comb_36 : decode cX5_comb 36 = .ok (.bipush (-102), 2) := by decide +kernel
theorem dX5_comb_38 : decode cX5_comb 38 = .ok (.ireturn, 1) := by decide +kernel
theorem dX5_comb_39 : decode cX5_comb 39 = .ok (.aload_n 0, 1) := by decide +kernel
theorem dX5_comb_40 : decode cX5_comb 40 = .ok (.getfield 79, 3) := by decide +kernel
theorem dX5_comb_43 : decode cX5_comb 43 = .ok (.iconst 4, 1) := by decide +kernel
theorem dX5_comb_44 : decode cX5_comb 44 = .ok (.if_icmp .ne 6, 3) := by decide +kernel
theorem dX5_comb_47 : decode cX5_comb 47 = .ok (.bipush (-104), 2) := by decide +kernel
theorem dX5_comb_49 : decode cX5_comb 49 = .ok (.ireturn, 1) := by decide +kernel
theorem dX5_comb_50 : decode cX5_comb 50 = .ok (.aload_n 0, 1) := by decide +kernel
theorem dX5_comb_51 : decode cX5_comb 51 = .ok (.getfield 29, 3) := by decide +kernel
theorem dX5_comb_54 : decode cX5_comb 54 = .ok (.aload_n 0, 1) := by decide +kernel
theorem dX5_comb_55 : decode cX5_comb 55 = .ok (.getfield 79, 3) := by decide +kernel
theorem dX5_comb_58 : decode cX5_comb 58 = .ok (.iload_n 1, 1) := by decide +kernel
theorem dX5_comb_59 : decode cX5_comb 59 = .ok (.iastore, 1) := by decide +kernel
theorem dX5_comb_60 : decode cX5_comb 60 = .ok (.aload_n 0, 1) := by decide +kernel
theorem dX5_comb_61 : decode cX5_comb 61 = .ok (.getfield 32, 3) := by decide +kernel
theorem dX5_comb_64 : decode cX5_comb 64 = .ok (.aload_n 0, 1) := by decide +kernel
theorem dX5_comb_65 : decode cX5_comb 65 = .ok (.getfield 79, 3) := by decide +kernel
theorem dX5_comb_68 : decode cX5_comb 68 = .ok (.iload_n 2, 1) := by decide +kernel
theorem dX5_comb_69 : decode cX5_comb 69 = .ok (.iastore, 1) := by decide +kernel
theorem dX5_comb_70 : decode cX5_comb 70 = .ok (.aload_n 0, 1) := by decide +kernel
theorem dX5_comb_71 : decode cX5_comb 71 = .ok (.getfield 35, 3) := by decide +kernel
theorem dX5_comb_74 : decode cX5_comb 74 = .ok (.aload_n 0, 1) := by decide +kernel
theorem dX5_comb_75 : decode cX5_comb 75 = .ok (.getfield 79, 3) := by decide +kernel
theorem dX5_comb_78 : decode cX5_comb 78 = .ok (.iload_n 3, 1) := by decide +kernel
theorem dX5_comb_79 : decode cX5_comb 79 = .ok (.iastore, 1) := by decide +kernel
theorem dX5_comb_80 : decode cX5_comb 80 = .ok (.aload_n 0, 1) := by decide +kernel
theorem dX5_comb_81 : decode cX5_comb 81 = .ok (.dup, 1) := by decide +kernel
theorem dX5_comb_82 : decode cX5_comb 82 = .ok (.getfield 79, 3) := by decide +kernel
theorem dX5_comb_85 : decode cX5_comb 85 = .ok (.iconst 1, 1) := by decide +kernel
theorem dX5_comb_86 : decode cX5_comb 86 = .ok (.iadd, 1) := by decide +kernel
theorem dX5_comb_87 : decode cX5_comb 87 = .ok (.putfield 79, 3) := by decide +kernel
theorem dX5_comb_90 : decode cX5_comb 90 = .ok (.aload_n 0, 1) := by decide +kernel
theorem dX5_comb_91 : decode cX5_comb 91 = .ok (.getfield 79, 3) := by decide +kernel
theorem dX5_comb_94 : decode cX5_comb 94 = .ok (.iconst 1, 1) := by decide +kernel
theorem dX5_comb_95 : decode cX5_comb 95 = .ok (.isub, 1) := by decide +kernel
theorem dX5_comb_96 : decode cX5_comb 96 = .ok (.ireturn, 1) := by decide +kernel
theorem dX5_told_0 : decode cX5_told 0 = .ok (.aload_n 0, 1) := by decide +kernel
theorem dX5_told_1 : decode cX5_told 1 = .ok (.iload_n 1, 1) := by decide +kernel
theorem dX5_told_2 : decode cX5_told 2 = .ok (.invokevirtual 117, 3) := by decide +kernel
theorem dX5_told_5 : decode cX5_told 5 = .ok (.ifCond .ne 6, 3) := by decide +kernel
theorem dX5_told_8 : decode cX5_told 8 = .ok (.bipush (-101), 2) := by decide +kernel
theorem dX5_told_10 : decode cX5_told 10 = .ok (.ireturn, 1) := by decide +kernel
theorem dX5_told_11 : decode cX5_told 11 = .ok (.iload_n 2, 1) := by decide +kernel
theorem dX5_told_12 : decode cX5_told 12 = .ok (.tableswitch 151 0 7 #[48, 55, 62, 69, 76, 91, 111, 131], 48) := by decide +kernel
theorem dX5_told_60 : decode cX5_told 60 = .ok (.aload_n 0, 1) := by decide +kernel
theorem dX5_told_61 : decode cX5_told 61 = .ok (.getfield 29, 3) := by decide +kernel
theorem dX5_told_64 : decode cX5_told 64 = .ok (.iload_n 1, 1) := by decide +kernel
theorem dX5_told_65 : decode cX5_told 65 = .ok (.iaload, 1) := by decide +kernel
theorem dX5_told_66 : decode cX5_told 66 = .ok (.ireturn, 1) := by decide +kernel
theorem dX5_told_67 : decode cX5_told 67 = .ok (.aload_n 0, 1) := by decide +kernel
theorem dX5_told_68 : decode cX5_told 68 = .ok (.getfield 32, 3) := by decide +kernel
theorem dX5_told_71 : decode cX5_told 71 = .ok (.iload_n 1, 1) := by decide +kernel
theorem dX5_told_72 : decode cX5_told 72 = .ok (.iaload, 1) := by decide +kernel
theorem dX5_told_73 : decode cX5_told 73 = .ok (.ireturn, 1) := by decide +kernel
theorem dX5_told_74 : decode cX5_told 74 = .ok (.aload_n 0, 1) := by decide +kernel
theorem dX5_told_75 : decode cX5_told 75 = .ok (.getfield 35, 3) := by decide +kernel
theorem dX5_told_78 : decode cX5_told 78 = .ok (.iload_n 1, 1) := by decide +kernel
theorem dX5_told_79 : decode cX5_told 79 = .ok (.iaload, 1) := by decide +kernel
theorem dX5_told_80 : decode cX5_told 80 = .ok (.ireturn, 1) := by decide +kernel
theorem dX5_told_81 : decode cX5_told 81 = .ok (.aload_n 0, 1) := by decide +kernel
theorem dX5_told_82 : decode cX5_told 82 = .ok (.getfield 38, 3) := by decide +kernel
theorem dX5_told_85 : decode cX5_told 85 = .ok (.iload_n 1, 1) := by decide +kernel
theorem dX5_told_86 : decode cX5_told 86 = .ok (.iaload, 1) := by decide +kernel
theorem dX5_told_87 : decode cX5_told 87 = .ok (.ireturn, 1) := by decide +kernel
theorem dX5_told_88 : decode cX5_told 88 = .ok (.aload_n 0, 1) := by decide +kernel
theorem dX5_told_89 : decode cX5_told 89 = .ok (.getfield 45, 3) := by decide +kernel
theorem dX5_told_92 : decode cX5_told 92 = .ok (.iload_n 1, 1) := by decide +kernel
theorem dX5_told_93 : decode cX5_told 93 = .ok (.baload, 1) := by decide +kernel
theorem dX5_told_94 : decode cX5_told 94 = .ok (.ifCond .eq 7, 3) := by decide +kernel
theorem dX5_told_97 : decode cX5_told 97 = .ok (.iconst 1, 1) := by decide +kernel
theorem dX5_told_98 : decode cX5_told 98 = .ok (.goto 4, 3) := by decide +kernel
theorem dX5_told_101 : decode cX5_told 101 = .ok (.iconst 0, 1) := by decide +kernel
theorem dX5_told_102 : decode cX5_told 102 = .ok (.ireturn, 1) := by decide +kernel
theorem dX5_told_103 : decode cX5_told 103 = .ok (.aload_n 0, 1) := by decide +kernel
theorem dX5_told_104 : decode cX5_told 104 = .ok (.getfield 45, 3) := by decide +kernel
theorem dX5_told_107 : decode cX5_told 107 = .ok (.iload_n 1, 1) := by decide +kernel
theorem dX5_told_108 : decode cX5_told 108 = .ok (.baload, 1) := by decide +kernel
theorem dX5_told_109 : decode cX5_told 109 = .ok (.ifCond .eq 12, 3) := by decide +kernel
theorem dX5_told_112 : decode cX5_told 112 = .ok (.aload_n 0, 1) := by decide +kernel
theorem dX5_told_113 : decode cX5_told 113 = .ok (.getfield 48, 3) := by decide +kernel
theorem dX5_told_116 : decode cX5_told 116 = .ok (.iload_n 1, 1) := by decide +kernel
theorem dX5_told_117 : decode cX5_told 117 = .ok (.iaload, 1) := by decide +kernel
theorem dX5_told_118 : decode cX5_told 118 = .ok (.goto 4, 3) := by decide +kernel
theorem dX5_told_121 : decode cX5_told 121 = .ok (.iconst 0, 1) := by decide +kernel
theorem dX5_told_122 : decode cX5_told 122 = .ok (.ireturn, 1) := by decide +kernel
theorem dX5_told_123 : decode cX5_told 123 = .ok (.aload_n 0, 1) := by decide +kernel
theorem dX5_told_124 : decode cX5_told 124 = .ok (.getfield 45, 3) := by decide +kernel
theorem dX5_told_127 : decode cX5_told 127 = .ok (.iload_n 1, 1) := by decide +kernel
theorem dX5_told_128 : decode cX5_told 128 = .ok (.baload, 1) := by decide +kernel
theorem dX5_told_129 : decode cX5_told 129 = .ok (.ifCond .eq 12, 3) := by decide +kernel
theorem dX5_told_132 : decode cX5_told 132 = .ok (.aload_n 0, 1) := by decide +kernel
theorem dX5_told_133 : decode cX5_told 133 = .ok (.getfield 51, 3) := by decide +kernel
theorem dX5_told_136 : decode cX5_told 136 = .ok (.iload_n 1, 1) := by decide +kernel
theorem dX5_told_137 : decode cX5_told 137 = .ok (.iaload, 1) := by decide +kernel
theorem dX5_told_138 : decode cX5_told 138 = .ok (.goto 4, 3) := by decide +kernel
theorem dX5_told_141 : decode cX5_told 141 = .ok (.iconst 0, 1) := by decide +kernel
theorem dX5_told_142 : decode cX5_told 142 = .ok (.ireturn, 1) := by decide +kernel
theorem dX5_told_143 : decode cX5_told 143 = .ok (.aload_n 0, 1) := by decide +kernel
theorem dX5_told_144 : decode cX5_told 144 = .ok (.getfield 45, 3) := by decide +kernel
theorem dX5_told_147 : decode cX5_told 147 = .ok (.iload_n 1, 1) := by decide +kernel
theorem dX5_told_148 : decode cX5_told 148 = .ok (.baload, 1) := by decide +kernel
theorem dX5_told_149 : decode cX5_told 149 = .ok (.ifCond .eq 12, 3) := by decide +kernel
theorem dX5_told_152 : decode cX5_told 152 = .ok (.aload_n 0, 1) := by decide +kernel
theorem dX5_told_153 : decode cX5_told 153 = .ok (.getfield 54, 3) := by decide +kernel
theorem dX5_told_156 : decode cX5_told 156 = .ok (.iload_n 1, 1) := by decide +kernel
theorem dX5_told_157 : decode cX5_told 157 = .ok (.iaload, 1) := by decide +kernel
theorem dX5_told_158 : decode cX5_told 158 = .ok (.goto 4, 3) := by decide +kernel
theorem dX5_told_161 : decode cX5_told 161 = .ok (.iconst 0, 1) := by decide +kernel
theorem dX5_told_162 : decode cX5_told 162 = .ok (.ireturn, 1) := by decide +kernel
theorem dX5_told_163 : decode cX5_told 163 = .ok (.bipush (-102), 2) := by decide +kernel
theorem dX5_told_165 : decode cX5_told 165 = .ok (.ireturn, 1) := by decide +kernel
theorem dX5_middle_0 : decode cX5_middle 0 = .ok (.aload_n 0, 1) := by decide +kernel
theorem dX5_middle_1 : decode cX5_middle 1 = .ok (.getfield 29, 3) := by decide +kernel
theorem dX5_middle_4 : decode cX5_middle 4 = .ok (.iload_n 1, 1) := by decide +kernel
theorem dX5_middle_5 : decode cX5_middle 5 = .ok (.iaload, 1) := by decide +kernel
theorem dX5_middle_6 : decode cX5_middle 6 = .ok (.istore 4, 2) := by decide +kernel
theorem dX5_middle_8 : decode cX5_middle 8 = .ok (.iload_n 3, 1) := by decide +kernel
theorem dX5_middle_9 : decode cX5_middle 9 = .ok (.iconst 1, 1) := by decide +kernel
theorem dX5_middle_10 : decode cX5_middle 10 = .ok (.if_icmp .le 33, 3) := by decide +kernel
theorem dX5_middle_13 : decode cX5_middle 13 = .ok (.iload 4, 2) := by decide +kernel
theorem dX5_middle_15 : decode cX5_middle 15 = .ok (.aload_n 0, 1) := by decide +kernel
theorem dX5_middle_16 : decode cX5_middle 16 = .ok (.getfield 32, 3) := by decide +kernel
theorem dX5_middle_19 : decode cX5_middle 19 = .ok (.iload_n 1, 1) := by decide +kernel
theorem dX5_middle_20 : decode cX5_middle 20 = .ok (.iaload, 1) := by decide +kernel
theorem dX5_middle_21 : decode cX5_middle 21 = .ok (.aload_n 0, 1) := by decide +kernel
theorem dX5_middle_22 : decode cX5_middle 22 = .ok (.getfield 29, 3) := by decide +kernel
theorem dX5_middle_25 : decode cX5_middle 25 = .ok (.iload_n 1, 1) := by decide +kernel
theorem dX5_middle_26 : decode cX5_middle 26 = .ok (.iaload, 1) := by decide +kernel
theorem dX5_middle_27 : decode cX5_middle 27 = .ok (.isub, 1) := by decide +kernel
theorem dX5_middle_28 : decode cX5_middle 28 = .ok (.i2l, 1) := by decide +kernel
theorem dX5_middle_29 : decode cX5_middle 29 = .ok (.iload_n 2, 1) := by decide +kernel
theorem dX5_middle_30 : decode cX5_middle 30 = .ok (.i2l, 1) := by decide +kernel
theorem dX5_middle_31 : decode cX5_middle 31 = .ok (.lmul, 1) := by decide +kernel
theorem dX5_middle_32 : decode cX5_middle 32 = .ok (.iload_n 3, 1) := by decide +kernel
theorem dX5_middle_33 : decode cX5_middle 33 = .ok (.iconst 1, 1) := by decide +kernel
theorem dX5_middle_34 : decode cX5_middle 34 = .ok (.isub, 1) := by decide +kernel
theorem dX5_middle_35 : decode cX5_middle 35 = .ok (.i2l, 1) := by decide +kernel
theorem dX5_middle_36 : decode cX5_middle 36 = .ok (.invokestatic 120, 3) := by decide +kernel
theorem dX5_middle_39 : decode cX5_middle 39 = .ok (.l2i, 1) := by decide +kernel
theorem dX5_middle_40 : decode cX5_middle 40 = .ok (.iadd, 1) := by decide +kernel
theorem dX5_middle_41 : decode cX5_middle 41 = .ok (.istore 4, 2) := by decide +kernel
theorem dX5_middle_43 : decode cX5_middle 43 = .ok (.iload 4, 2) := by decide +kernel
theorem dX5_middle_45 : decode cX5_middle 45 = .ok (.bipush 8, 2) := by decide +kernel
theorem dX5_middle_47 : decode cX5_middle 47 = .ok (.iadd, 1) := by decide +kernel
theorem dX5_middle_48 : decode cX5_middle 48 = .ok (.bipush 16, 2) := by decide +kernel
theorem dX5_middle_50 : decode cX5_middle 50 = .ok (.idiv, 1) := by decide +kernel
theorem dX5_middle_51 : decode cX5_middle 51 = .ok (.ireturn, 1) := by decide +kernel
theorem dX5_firstRow_0 : decode cX5_firstRow 0 = .ok (.aload_n 0, 1) := by decide +kernel
theorem dX5_firstRow_1 : decode cX5_firstRow 1 = .ok (.iload_n 1, 1) := by decide +kernel
theorem dX5_firstRow_2 : decode cX5_firstRow 2 = .ok (.iload_n 3, 1) := by decide +kernel
theorem dX5_firstRow_3 : decode cX5_firstRow 3 = .ok (.aload_n 0, 1) := by decide +kernel
theorem dX5_firstRow_4 : decode cX5_firstRow 4 = .ok (.getfield 17, 3) := by decide +kernel
theorem dX5_firstRow_7 : decode cX5_firstRow 7 = .ok (.iload_n 2, 1) := by decide +kernel
theorem dX5_firstRow_8 : decode cX5_firstRow 8 = .ok (.iaload, 1) := by decide +kernel
theorem dX5_firstRow_9 : decode cX5_firstRow 9 = .ok (.invokevirtual 124, 3) := by decide +kernel
theorem dX5_firstRow_12 : decode cX5_firstRow 12 = .ok (.aload_n 0, 1) := by decide +kernel
theorem dX5_firstRow_13 : decode cX5_firstRow 13 = .ok (.getfield 35, 3) := by decide +kernel
theorem dX5_firstRow_16 : decode cX5_firstRow 16 = .ok (.iload_n 1, 1) := by decide +kernel
theorem dX5_firstRow_17 : decode cX5_firstRow 17 = .ok (.iaload, 1) := by decide +kernel
theorem dX5_firstRow_18 : decode cX5_firstRow 18 = .ok (.isub, 1) := by decide +kernel
theorem dX5_firstRow_19 : decode cX5_firstRow 19 = .ok (.istore 4, 2) := by decide +kernel
theorem dX5_firstRow_21 : decode cX5_firstRow 21 = .ok (.iload 4, 2) := by decide +kernel
theorem dX5_firstRow_23 : decode cX5_firstRow 23 = .ok (.ifCond .ge 7, 3) := by decide +kernel
theorem dX5_firstRow_26 : decode cX5_firstRow 26 = .ok (.iconst 0, 1) := by decide +kernel
theorem dX5_firstRow_27 : decode cX5_firstRow 27 = .ok (.goto 5, 3) := by decide +kernel
theorem dX5_firstRow_30 : decode cX5_firstRow 30 = .ok (.iload 4, 2) := by decide +kernel
theorem dX5_firstRow_32 : decode cX5_firstRow 32 = .ok (.ireturn, 1) := by decide +kernel
theorem dX5_lastRow_0 : decode cX5_lastRow 0 = .ok (.aload_n 0, 1) := by decide +kernel
theorem dX5_lastRow_1 : decode cX5_lastRow 1 = .ok (.iload_n 1, 1) := by decide +kernel
theorem dX5_lastRow_2 : decode cX5_lastRow 2 = .ok (.iload_n 3, 1) := by decide +kernel
theorem dX5_lastRow_3 : decode cX5_lastRow 3 = .ok (.aload_n 0, 1) := by decide +kernel
theorem dX5_lastRow_4 : decode cX5_lastRow 4 = .ok (.getfield 17, 3) := by decide +kernel
theorem dX5_lastRow_7 : decode cX5_lastRow 7 = .ok (.iload_n 2, 1) := by decide +kernel
theorem dX5_lastRow_8 : decode cX5_lastRow 8 = .ok (.iaload, 1) := by decide +kernel
theorem dX5_lastRow_9 : decode cX5_lastRow 9 = .ok (.invokevirtual 124, 3) := by decide +kernel
theorem dX5_lastRow_12 : decode cX5_lastRow 12 = .ok (.aload_n 0, 1) := by decide +kernel
theorem dX5_lastRow_13 : decode cX5_lastRow 13 = .ok (.getfield 35, 3) := by decide +kernel
theorem dX5_lastRow_16 : decode cX5_lastRow 16 = .ok (.iload_n 1, 1) := by decide +kernel
theorem dX5_lastRow_17 : decode cX5_lastRow 17 = .ok (.iaload, 1) := by decide +kernel
theorem dX5_lastRow_18 : decode cX5_lastRow 18 = .ok (.iadd, 1) := by decide +kernel
theorem dX5_lastRow_19 : decode cX5_lastRow 19 = .ok (.istore 4, 2) := by decide +kernel
theorem dX5_lastRow_21 : decode cX5_lastRow 21 = .ok (.iload 4, 2) := by decide +kernel
theorem dX5_lastRow_23 : decode cX5_lastRow 23 = .ok (.aload_n 0, 1) := by decide +kernel
theorem dX5_lastRow_24 : decode cX5_lastRow 24 = .ok (.getfield 20, 3) := by decide +kernel
theorem dX5_lastRow_27 : decode cX5_lastRow 27 = .ok (.iload_n 2, 1) := by decide +kernel
theorem dX5_lastRow_28 : decode cX5_lastRow 28 = .ok (.iaload, 1) := by decide +kernel
theorem dX5_lastRow_29 : decode cX5_lastRow 29 = .ok (.if_icmp .ge 8, 3) := by decide +kernel
theorem dX5_lastRow_32 : decode cX5_lastRow 32 = .ok (.iload 4, 2) := by decide +kernel
theorem dX5_lastRow_34 : decode cX5_lastRow 34 = .ok (.goto 11, 3) := by decide +kernel
theorem dX5_lastRow_37 : decode cX5_lastRow 37 = .ok (.aload_n 0, 1) := by decide +kernel
theorem dX5_lastRow_38 : decode cX5_lastRow 38 = .ok (.getfield 20, 3) := by decide +kernel
theorem dX5_lastRow_41 : decode cX5_lastRow 41 = .ok (.iload_n 2, 1) := by decide +kernel
theorem dX5_lastRow_42 : decode cX5_lastRow 42 = .ok (.iaload, 1) := by decide +kernel
theorem dX5_lastRow_43 : decode cX5_lastRow 43 = .ok (.iconst 1, 1) := by decide +kernel
theorem dX5_lastRow_44 : decode cX5_lastRow 44 = .ok (.isub, 1) := by decide +kernel
theorem dX5_lastRow_45 : decode cX5_lastRow 45 = .ok (.ireturn, 1) := by decide +kernel
theorem dX5_band_0 : decode cX5_band 0 = .ok (.aload_n 0, 1) := by decide +kernel
theorem dX5_band_1 : decode cX5_band 1 = .ok (.iload_n 1, 1) := by decide +kernel
theorem dX5_band_2 : decode cX5_band 2 = .ok (.invokevirtual 117, 3) := by decide +kernel
theorem dX5_band_5 : decode cX5_band 5 = .ok (.ifCond .eq 10, 3) := by decide +kernel
theorem dX5_band_8 : decode cX5_band 8 = .ok (.iload_n 2, 1) := by decide +kernel
theorem dX5_band_9 : decode cX5_band 9 = .ok (.invokestatic 82, 3) := by decide +kernel
theorem dX5_band_12 : decode cX5_band 12 = .ok (.ifCond .ne 6, 3) := by decide +kernel
theorem dX5_band_15 : decode cX5_band 15 = .ok (.bipush (-101), 2) := by decide +kernel
theorem dX5_band_17 : decode cX5_band 17 = .ok (.ireturn, 1) := by decide +kernel
theorem dX5_band_18 : decode cX5_band 18 = .ok (.iload 4, 2) := by decide +kernel
theorem dX5_band_20 : decode cX5_band 20 = .ok (.i2l, 1) := by decide +kernel
theorem dX5_band_21 : decode cX5_band 21 = .ok (.lconst 0, 1) := by decide +kernel
theorem dX5_band_22 : decode cX5_band 22 = .ok (.lconst 1, 1) := by decide +kernel
theorem dX5_band_23 : decode cX5_band 23 = .ok (.invokestatic 75, 3) := by decide +kernel
theorem dX5_band_26 : decode cX5_band 26 = .ok (.ifCond .ne 6, 3) := by decide +kernel
theorem dX5_band_29 : decode cX5_band 29 = .ok (.bipush (-102), 2) := by decide +kernel
theorem dX5_band_31 : decode cX5_band 31 = .ok (.ireturn, 1) := by decide +kernel
theorem dX5_band_32 : decode cX5_band 32 = .ok (.aload_n 0, 1) := by decide +kernel
theorem dX5_band_33 : decode cX5_band 33 = .ok (.getfield 7, 3) := by decide +kernel
theorem dX5_band_36 : decode cX5_band 36 = .ok (.iload_n 2, 1) := by decide +kernel
theorem dX5_band_37 : decode cX5_band 37 = .ok (.baload, 1) := by decide +kernel
theorem dX5_band_38 : decode cX5_band 38 = .ok (.ifCond .ne 10, 3) := by decide +kernel
theorem dX5_band_41 : decode cX5_band 41 = .ok (.aload_n 0, 1) := by decide +kernel
theorem dX5_band_42 : decode cX5_band 42 = .ok (.bipush (-11), 2) := by decide +kernel
theorem dX5_band_44 : decode cX5_band 44 = .ok (.invokevirtual 88, 3) := by decide +kernel
theorem dX5_band_47 : decode cX5_band 47 = .ok (.ireturn, 1) := by decide +kernel
theorem dX5_band_48 : decode cX5_band 48 = .ok (.iload_n 3, 1) := by decide +kernel
theorem dX5_band_49 : decode cX5_band 49 = .ok (.i2l, 1) := by decide +kernel
theorem dX5_band_50 : decode cX5_band 50 = .ok (.lconst 0, 1) := by decide +kernel
theorem dX5_band_51 : decode cX5_band 51 = .ok (.aload_n 0, 1) := by decide +kernel
theorem dX5_band_52 : decode cX5_band 52 = .ok (.getfield 17, 3) := by decide +kernel
theorem dX5_band_55 : decode cX5_band 55 = .ok (.iload_n 2, 1) := by decide +kernel
theorem dX5_band_56 : decode cX5_band 56 = .ok (.iaload, 1) := by decide +kernel
theorem dX5_band_57 : decode cX5_band 57 = .ok (.iconst 1, 1) := by decide +kernel
theorem dX5_band_58 : decode cX5_band 58 = .ok (.isub, 1) := by decide +kernel
theorem dX5_band_59 : decode cX5_band 59 = .ok (.i2l, 1) := by decide +kernel
theorem dX5_band_60 : decode cX5_band 60 = .ok (.invokestatic 75, 3) := by decide +kernel
theorem dX5_band_63 : decode cX5_band 63 = .ok (.ifCond .ne 10, 3) := by decide +kernel
theorem dX5_band_66 : decode cX5_band 66 = .ok (.aload_n 0, 1) := by decide +kernel
theorem dX5_band_67 : decode cX5_band 67 = .ok (.bipush (-12), 2) := by decide +kernel
theorem dX5_band_69 : decode cX5_band 69 = .ok (.invokevirtual 88, 3) := by decide +kernel
theorem dX5_band_72 : decode cX5_band 72 = .ok (.ireturn, 1) := by decide +kernel
theorem dX5_band_73 : decode cX5_band 73 = .ok (.aload_n 0, 1) := by decide +kernel
theorem dX5_band_74 : decode cX5_band 74 = .ok (.iload_n 1, 1) := by decide +kernel
theorem dX5_band_75 : decode cX5_band 75 = .ok (.iload_n 2, 1) := by decide +kernel
theorem dX5_band_76 : decode cX5_band 76 = .ok (.iload_n 3, 1) := by decide +kernel
theorem dX5_band_77 : decode cX5_band 77 = .ok (.invokevirtual 127, 3) := by decide +kernel
theorem dX5_band_80 : decode cX5_band 80 = .ok (.istore 5, 2) := by decide +kernel
theorem dX5_band_82 : decode cX5_band 82 = .ok (.aload_n 0, 1) := by decide +kernel
theorem dX5_band_83 : decode cX5_band 83 = .ok (.iload_n 1, 1) := by decide +kernel
theorem dX5_band_84 : decode cX5_band 84 = .ok (.iload_n 2, 1) := by decide +kernel
theorem dX5_band_85 : decode cX5_band 85 = .ok (.iload_n 3, 1) := by decide +kernel
theorem dX5_band_86 : decode cX5_band 86 = .ok (.invokevirtual 130, 3) := by decide +kernel
theorem dX5_band_89 : decode cX5_band 89 = .ok (.istore 6, 2) := by decide +kernel
theorem dX5_band_91 : decode cX5_band 91 = .ok (.aload_n 0, 1) := by decide +kernel
theorem dX5_band_92 : decode cX5_band 92 = .ok (.iload 5, 2) := by decide +kernel
theorem dX5_band_94 : decode cX5_band 94 = .ok (.iload 6, 2) := by decide +kernel
theorem dX5_band_96 : decode cX5_band 96 = .ok (.if_icmp .le 7, 3) := by decide +kernel
theorem dX5_band_99 : decode cX5_band 99 = .ok (.iconst (-1), 1) := by decide +kernel
theorem dX5_band_100 : decode cX5_band 100 = .ok (.goto 15, 3) := by decide +kernel
theorem dX5_band_103 : decode cX5_band 103 = .ok (.iload 4, 2) := by decide +kernel
theorem dX5_band_105 : decode cX5_band 105 = .ok (.ifCond .ne 8, 3) := by decide +kernel
theorem dX5_band_108 : decode cX5_band 108 = .ok (.iload 5, 2) := by decide +kernel
theorem dX5_band_110 : decode cX5_band 110 = .ok (.goto 5, 3) := by decide +kernel
theorem dX5_band_113 : decode cX5_band 113 = .ok (.iload 6, 2) := by decide +kernel
theorem dX5_band_115 : decode cX5_band 115 = .ok (.putfield 110, 3) := by decide +kernel
theorem dX5_band_118 : decode cX5_band 118 = .ok (.iconst 1, 1) := by decide +kernel
theorem dX5_band_119 : decode cX5_band 119 = .ok (.ireturn, 1) := by decide +kernel
theorem dX5_lightAt_0 : decode cX5_lightAt 0 = .ok (.lconst 0, 1) := by decide +kernel
theorem dX5_lightAt_1 : decode cX5_lightAt 1 = .ok (.lstore 4, 2) := by decide +kernel
theorem dX5_lightAt_3 : decode cX5_lightAt 3 = .ok (.lconst 0, 1) := by decide +kernel
theorem dX5_lightAt_4 : decode cX5_lightAt 4 = .ok (.lstore 6, 2) := by decide +kernel
theorem dX5_lightAt_6 : decode cX5_lightAt 6 = .ok (.aload_n 0, 1) := by decide +kernel
theorem dX5_lightAt_7 : decode cX5_lightAt 7 = .ok (.iload_n 1, 1) := by decide +kernel
theorem dX5_lightAt_8 : decode cX5_lightAt 8 = .ok (.iload_n 2, 1) := by decide +kernel
theorem dX5_lightAt_9 : decode cX5_lightAt 9 = .ok (.iload_n 3, 1) := by decide +kernel
theorem dX5_lightAt_10 : decode cX5_lightAt 10 = .ok (.invokevirtual 127, 3) := by decide +kernel
theorem dX5_lightAt_13 : decode cX5_lightAt 13 = .ok (.istore 8, 2) := by decide +kernel
theorem dX5_lightAt_15 : decode cX5_lightAt 15 = .ok (.iload 8, 2) := by decide +kernel
theorem dX5_lightAt_17 : decode cX5_lightAt 17 = .ok (.aload_n 0, 1) := by decide +kernel
theorem dX5_lightAt_18 : decode cX5_lightAt 18 = .ok (.iload_n 1, 1) := by decide +kernel
theorem dX5_lightAt_19 : decode cX5_lightAt 19 = .ok (.iload_n 2, 1) := by decide +kernel
theorem dX5_lightAt_20 : decode cX5_lightAt 20 = .ok (.iload_n 3, 1) := by decide +kernel
theorem dX5_lightAt_21 : decode cX5_lightAt 21 = .ok (.invokevirtual 130, 3) := by decide +kernel
theorem dX5_lightAt_24 : decode cX5_lightAt 24 = .ok (.if_icmp .gt 71, 3) := by decide +kernel
theorem dX5_lightAt_27 : decode cX5_lightAt 27 = .ok (.aload_n 0, 1) := by decide +kernel
theorem dX5_lightAt_28 : decode cX5_lightAt 28 = .ok (.aload_n 0, 1) := by decide +kernel
theorem dX5_lightAt_29 : decode cX5_lightAt 29 = .ok (.getfield 23, 3) := by decide +kernel
theorem dX5_lightAt_32 : decode cX5_lightAt 32 = .ok (.iload_n 2, 1) := by decide +kernel
theorem dX5_lightAt_33 : decode cX5_lightAt 33 = .ok (.iload_n 3, 1) := by decide +kernel
theorem dX5_lightAt_34 : decode cX5_lightAt 34 = .ok (.iload 8, 2) := by decide +kernel
theorem dX5_lightAt_36 : decode cX5_lightAt 36 = .ok (.invokestatic 96, 3) := by decide +kernel
theorem dX5_lightAt_39 : decode cX5_lightAt 39 = .ok (.iaload, 1) := by decide +kernel
theorem dX5_lightAt_40 : decode cX5_lightAt 40 = .ok (.invokevirtual 133, 3) := by decide +kernel
theorem dX5_lightAt_43 : decode cX5_lightAt 43 = .ok (.lstore 9, 2) := by decide +kernel
theorem dX5_lightAt_45 : decode cX5_lightAt 45 = .ok (.aload_n 0, 1) := by decide +kernel
theorem dX5_lightAt_46 : decode cX5_lightAt 46 = .ok (.getfield 26, 3) := by decide +kernel
theorem dX5_lightAt_49 : decode cX5_lightAt 49 = .ok (.bipush 20, 2) := by decide +kernel
theorem dX5_lightAt_51 : decode cX5_lightAt 51 = .ok (.iload 8, 2) := by decide +kernel
theorem dX5_lightAt_53 : decode cX5_lightAt 53 = .ok (.imul, 1) := by decide +kernel
theorem dX5_lightAt_54 : decode cX5_lightAt 54 = .ok (.iload_n 3, 1) := by decide +kernel
theorem dX5_lightAt_55 : decode cX5_lightAt 55 = .ok (.iadd, 1) := by decide +kernel
theorem dX5_lightAt_56 : decode cX5_lightAt 56 = .ok (.baload, 1) := by decide +kernel
theorem dX5_lightAt_57 : decode cX5_lightAt 57 = .ok (.ifCond .ne 32, 3) := by decide +kernel
theorem dX5_lightAt_60 : decode cX5_lightAt 60 = .ok (.lload 9, 2) := by decide +kernel
theorem dX5_lightAt_62 : decode cX5_lightAt 62 = .ok (.lconst 0, 1) := by decide +kernel
theorem dX5_lightAt_63 : decode cX5_lightAt 63 = .ok (.lcmp, 1) := by decide +kernel
theorem dX5_lightAt_64 : decode cX5_lightAt 64 = .ok (.ifCond .le 25, 3) := by decide +kernel
theorem dX5_lightAt_67 : decode cX5_lightAt 67 = .ok (.lload 4, 2) := by decide +kernel
theorem dX5_lightAt_69 : decode cX5_lightAt 69 = .ok (.lload 9, 2) := by decide +kernel
theorem dX5_lightAt_71 : decode cX5_lightAt 71 = .ok (.ladd, 1) := by decide +kernel
theorem dX5_lightAt_72 : decode cX5_lightAt 72 = .ok (.lstore 4, 2) := by decide +kernel
theorem dX5_lightAt_74 : decode cX5_lightAt 74 = .ok (.lload 6, 2) := by decide +kernel
theorem dX5_lightAt_76 : decode cX5_lightAt 76 = .ok (.ldc2_w 137, 3) := by decide +kernel
theorem dX5_lightAt_79 : decode cX5_lightAt 79 = .ok (.iload 8, 2) := by decide +kernel
theorem dX5_lightAt_81 : decode cX5_lightAt 81 = .ok (.i2l, 1) := by decide +kernel
theorem dX5_lightAt_82 : decode cX5_lightAt 82 = .ok (.lmul, 1) := by decide +kernel
theorem dX5_lightAt_83 : decode cX5_lightAt 83 = .ok (.lload 9, 2) := by decide +kernel
theorem dX5_lightAt_85 : decode cX5_lightAt 85 = .ok (.lmul, 1) := by decide +kernel
theorem dX5_lightAt_86 : decode cX5_lightAt 86 = .ok (.ladd, 1) := by decide +kernel
theorem dX5_lightAt_87 : decode cX5_lightAt 87 = .ok (.lstore 6, 2) := by decide +kernel
theorem dX5_lightAt_89 : decode cX5_lightAt 89 = .ok (.iinc 8 1, 3) := by decide +kernel
theorem dX5_lightAt_92 : decode cX5_lightAt 92 = .ok (.goto (-77), 3) := by decide +kernel
theorem dX5_lightAt_95 : decode cX5_lightAt 95 = .ok (.lload 4, 2) := by decide +kernel
theorem dX5_lightAt_97 : decode cX5_lightAt 97 = .ok (.lconst 0, 1) := by decide +kernel
theorem dX5_lightAt_98 : decode cX5_lightAt 98 = .ok (.lcmp, 1) := by decide +kernel
theorem dX5_lightAt_99 : decode cX5_lightAt 99 = .ok (.ifCond .ne 7, 3) := by decide +kernel
theorem dX5_lightAt_102 : decode cX5_lightAt 102 = .ok (.iconst (-1), 1) := by decide +kernel
theorem dX5_lightAt_103 : decode cX5_lightAt 103 = .ok (.goto 9, 3) := by decide +kernel
theorem dX5_lightAt_106 : decode cX5_lightAt 106 = .ok (.lload 6, 2) := by decide +kernel
theorem dX5_lightAt_108 : decode cX5_lightAt 108 = .ok (.lload 4, 2) := by decide +kernel
theorem dX5_lightAt_110 : decode cX5_lightAt 110 = .ok (.ldiv, 1) := by decide +kernel
theorem dX5_lightAt_111 : decode cX5_lightAt 111 = .ok (.l2i, 1) := by decide +kernel
theorem dX5_lightAt_112 : decode cX5_lightAt 112 = .ok (.ireturn, 1) := by decide +kernel
theorem dX5_trace_0 : decode cX5_trace 0 = .ok (.aload_n 0, 1) := by decide +kernel
theorem dX5_trace_1 : decode cX5_trace 1 = .ok (.iload_n 1, 1) := by decide +kernel
theorem dX5_trace_2 : decode cX5_trace 2 = .ok (.invokevirtual 117, 3) := by decide +kernel
theorem dX5_trace_5 : decode cX5_trace 5 = .ok (.ifCond .eq 10, 3) := by decide +kernel
theorem dX5_trace_8 : decode cX5_trace 8 = .ok (.iload_n 2, 1) := by decide +kernel
theorem dX5_trace_9 : decode cX5_trace 9 = .ok (.invokestatic 82, 3) := by decide +kernel
theorem dX5_trace_12 : decode cX5_trace 12 = .ok (.ifCond .ne 6, 3) := by decide +kernel
theorem dX5_trace_15 : decode cX5_trace 15 = .ok (.bipush (-101), 2) := by decide +kernel
theorem dX5_trace_17 : decode cX5_trace 17 = .ok (.ireturn, 1) := by decide +kernel
theorem dX5_trace_18 : decode cX5_trace 18 = .ok (.aload_n 0, 1) := by decide +kernel
theorem dX5_trace_19 : decode cX5_trace 19 = .ok (.getfield 7, 3) := by decide +kernel
theorem dX5_trace_22 : decode cX5_trace 22 = .ok (.iload_n 2, 1) := by decide +kernel
theorem dX5_trace_23 : decode cX5_trace 23 = .ok (.baload, 1) := by decide +kernel
theorem dX5_trace_24 : decode cX5_trace 24 = .ok (.ifCond .ne 10, 3) := by decide +kernel
theorem dX5_trace_27 : decode cX5_trace 27 = .ok (.aload_n 0, 1) := by decide +kernel
theorem dX5_trace_28 : decode cX5_trace 28 = .ok (.bipush (-11), 2) := by decide +kernel
theorem dX5_trace_30 : decode cX5_trace 30 = .ok (.invokevirtual 88, 3) := by decide +kernel
theorem dX5_trace_33 : decode cX5_trace 33 = .ok (.ireturn, 1) := by decide +kernel
theorem dX5_trace_34 : decode cX5_trace 34 = .ok (.aload_n 0, 1) := by decide +kernel
theorem dX5_trace_35 : decode cX5_trace 35 = .ok (.iload_n 1, 1) := by decide +kernel
theorem dX5_trace_36 : decode cX5_trace 36 = .ok (.iload_n 2, 1) := by decide +kernel
theorem dX5_trace_37 : decode cX5_trace 37 = .ok (.iconst 0, 1) := by decide +kernel
theorem dX5_trace_38 : decode cX5_trace 38 = .ok (.invokevirtual 139, 3) := by decide +kernel
theorem dX5_trace_41 : decode cX5_trace 41 = .ok (.istore_n 3, 1) := by decide +kernel
theorem dX5_trace_42 : decode cX5_trace 42 = .ok (.aload_n 0, 1) := by decide +kernel
theorem dX5_trace_43 : decode cX5_trace 43 = .ok (.iload_n 1, 1) := by decide +kernel
theorem dX5_trace_44 : decode cX5_trace 44 = .ok (.iload_n 2, 1) := by decide +kernel
theorem dX5_trace_45 : decode cX5_trace 45 = .ok (.aload_n 0, 1) := by decide +kernel
theorem dX5_trace_46 : decode cX5_trace 46 = .ok (.getfield 17, 3) := by decide +kernel
theorem dX5_trace_49 : decode cX5_trace 49 = .ok (.iload_n 2, 1) := by decide +kernel
theorem dX5_trace_50 : decode cX5_trace 50 = .ok (.iaload, 1) := by decide +kernel
theorem dX5_trace_51 : decode cX5_trace 51 = .ok (.iconst 1, 1) := by decide +kernel
theorem dX5_trace_52 : decode cX5_trace 52 = .ok (.isub, 1) := by decide +kernel
theorem dX5_trace_53 : decode cX5_trace 53 = .ok (.invokevirtual 139, 3) := by decide +kernel
theorem dX5_trace_56 : decode cX5_trace 56 = .ok (.istore 4, 2) := by decide +kernel
theorem dX5_trace_58 : decode cX5_trace 58 = .ok (.aload_n 0, 1) := by decide +kernel
theorem dX5_trace_59 : decode cX5_trace 59 = .ok (.getfield 29, 3) := by decide +kernel
theorem dX5_trace_62 : decode cX5_trace 62 = .ok (.iload_n 1, 1) := by decide +kernel
theorem dX5_trace_63 : decode cX5_trace 63 = .ok (.iload_n 3, 1) := by decide +kernel
theorem dX5_trace_64 : decode cX5_trace 64 = .ok (.iconst (-1), 1) := by decide +kernel
theorem dX5_trace_65 : decode cX5_trace 65 = .ok (.if_icmp .ne 12, 3) := by decide +kernel
theorem dX5_trace_68 : decode cX5_trace 68 = .ok (.aload_n 0, 1) := by decide +kernel
theorem dX5_trace_69 : decode cX5_trace 69 = .ok (.getfield 29, 3) := by decide +kernel
theorem dX5_trace_72 : decode cX5_trace 72 = .ok (.iload_n 1, 1) := by decide +kernel
theorem dX5_trace_73 : decode cX5_trace 73 = .ok (.iaload, 1) := by decide +kernel
theorem dX5_trace_74 : decode cX5_trace 74 = .ok (.goto 4, 3) := by decide +kernel
theorem dX5_trace_77 : decode cX5_trace 77 = .ok (.iload_n 3, 1) := by decide +kernel
theorem dX5_trace_78 : decode cX5_trace 78 = .ok (.iastore, 1) := by decide +kernel
theorem dX5_trace_79 : decode cX5_trace 79 = .ok (.aload_n 0, 1) := by decide +kernel
theorem dX5_trace_80 : decode cX5_trace 80 = .ok (.getfield 32, 3) := by decide +kernel
theorem dX5_trace_83 : decode cX5_trace 83 = .ok (.iload_n 1, 1) := by decide +kernel
theorem dX5_trace_84 : decode cX5_trace 84 = .ok (.iload 4, 2) := by decide +kernel
theorem dX5_trace_86 : decode cX5_trace 86 = .ok (.iconst (-1), 1) := by decide +kernel
theorem dX5_trace_87 : decode cX5_trace 87 = .ok (.if_icmp .ne 12, 3) := by decide +kernel
theorem dX5_trace_90 : decode cX5_trace 90 = .ok (.aload_n 0, 1) := by decide +kernel
theorem dX5_trace_91 : decode cX5_trace 91 = .ok (.getfield 32, 3) := by decide +kernel
theorem dX5_trace_94 : decode cX5_trace 94 = .ok (.iload_n 1, 1) := by decide +kernel
theorem dX5_trace_95 : decode cX5_trace 95 = .ok (.iaload, 1) := by decide +kernel
theorem dX5_trace_96 : decode cX5_trace 96 = .ok (.goto 5, 3) := by decide +kernel
theorem dX5_trace_99 : decode cX5_trace 99 = .ok (.iload 4, 2) := by decide +kernel
theorem dX5_trace_101 : decode cX5_trace 101 = .ok (.iastore, 1) := by decide +kernel
theorem dX5_trace_102 : decode cX5_trace 102 = .ok (.iconst 1, 1) := by decide +kernel
theorem dX5_trace_103 : decode cX5_trace 103 = .ok (.ireturn, 1) := by decide +kernel
theorem dX5_bounded_0 : decode cX5_bounded 0 = .ok (.iload_n 1, 1) := by decide +kernel
theorem dX5_bounded_1 : decode cX5_bounded 1 = .ok (.ifCond .ge 7, 3) := by decide +kernel
theorem dX5_bounded_4 : decode cX5_bounded 4 = .ok (.lconst 0, 1) := by decide +kernel
theorem dX5_bounded_5 : decode cX5_bounded 5 = .ok (.goto 17, 3) := by decide +kernel
theorem dX5_bounded_8 : decode cX5_bounded 8 = .ok (.iload_n 1, 1) := by decide +kernel
theorem dX5_bounded_9 : decode cX5_bounded 9 = .ok (.ldc 142, 2) := by decide +kernel
theorem dX5_bounded_11 : decode cX5_bounded 11 = .ok (.if_icmp .le 9, 3) := by decide +kernel
theorem dX5_bounded_14 : decode cX5_bounded 14 = .ok (.ldc2_w 143, 3) := by decide +kernel
theorem dX5_bounded_17 : decode cX5_bounded 17 = .ok (.goto 5, 3) := by decide +kernel
theorem dX5_bounded_20 : decode cX5_bounded 20 = .ok (.iload_n 1, 1) := by decide +kernel
theorem dX5_bounded_21 : decode cX5_bounded 21 = .ok (.i2l, 1) := by decide +kernel
theorem dX5_bounded_22 : decode cX5_bounded 22 = .ok (.lreturn, 1) := by decide +kernel
theorem dX5_isUsed_0 : decode cX5_isUsed 0 = .ok (.aload_n 0, 1) := by decide +kernel
theorem dX5_isUsed_1 : decode cX5_isUsed 1 = .ok (.getfield 26, 3) := by decide +kernel
theorem dX5_isUsed_4 : decode cX5_isUsed 4 = .ok (.bipush 20, 2) := by decide +kernel
theorem dX5_isUsed_6 : decode cX5_isUsed 6 = .ok (.iload_n 3, 1) := by decide +kernel
theorem dX5_isUsed_7 : decode cX5_isUsed 7 = .ok (.imul, 1) := by decide +kernel
theorem dX5_isUsed_8 : decode cX5_isUsed 8 = .ok (.iload_n 2, 1) := by decide +kernel
theorem dX5_isUsed_9 : decode cX5_isUsed 9 = .ok (.iadd, 1) := by decide +kernel
theorem dX5_isUsed_10 : decode cX5_isUsed 10 = .ok (.baload, 1) := by decide +kernel
theorem dX5_isUsed_11 : decode cX5_isUsed 11 = .ok (.ifCond .ne 21, 3) := by decide +kernel
theorem dX5_isUsed_14 : decode cX5_isUsed 14 = .ok (.aload_n 0, 1) := by decide +kernel
theorem dX5_isUsed_15 : decode cX5_isUsed 15 = .ok (.getfield 23, 3) := by decide +kernel
theorem dX5_isUsed_18 : decode cX5_isUsed 18 = .ok (.iload_n 1, 1) := by decide +kernel
theorem dX5_isUsed_19 : decode cX5_isUsed 19 = .ok (.iload_n 2, 1) := by decide +kernel
theorem dX5_isUsed_20 : decode cX5_isUsed 20 = .ok (.iload_n 3, 1) := by decide +kernel
theorem dX5_isUsed_21 : decode cX5_isUsed 21 = .ok (.invokestatic 96, 3) := by decide +kernel
theorem dX5_isUsed_24 : decode cX5_isUsed 24 = .ok (.iaload, 1) := by decide +kernel
theorem dX5_isUsed_25 : decode cX5_isUsed 25 = .ok (.ifCond .le 7, 3) := by decide +kernel
theorem dX5_isUsed_28 : decode cX5_isUsed 28 = .ok (.iconst 1, 1) := by decide +kernel
theorem dX5_isUsed_29 : decode cX5_isUsed 29 = .ok (.goto 4, 3) := by decide +kernel
theorem dX5_isUsed_32 : decode cX5_isUsed 32 = .ok (.iconst 0, 1) := by decide +kernel
theorem dX5_isUsed_33 : decode cX5_isUsed 33 = .ok (.ireturn, 1) := by decide +kernel
theorem dX5_ray_0 : decode cX5_ray 0 = .ok (.lconst 0, 1) := by decide +kernel
theorem dX5_ray_1 : decode cX5_ray 1 = .ok (.lstore 6, 2) := by decide +kernel
theorem dX5_ray_3 : decode cX5_ray 3 = .ok (.lconst 0, 1) := by decide +kernel
theorem dX5_ray_4 : decode cX5_ray 4 = .ok (.lstore 8, 2) := by decide +kernel
theorem dX5_ray_6 : decode cX5_ray 6 = .ok (.iconst 0, 1) := by decide +kernel
theorem dX5_ray_7 : decode cX5_ray 7 = .ok (.istore 10, 2) := by decide +kernel
theorem dX5_ray_9 : decode cX5_ray 9 = .ok (.aload_n 0, 1) := by decide +kernel
theorem dX5_ray_10 : decode cX5_ray 10 = .ok (.iload_n 1, 1) := by decide +kernel
theorem dX5_ray_11 : decode cX5_ray 11 = .ok (.iload_n 2, 1) := by decide +kernel
theorem dX5_ray_12 : decode cX5_ray 12 = .ok (.iload 4, 2) := by decide +kernel
theorem dX5_ray_14 : decode cX5_ray 14 = .ok (.invokevirtual 127, 3) := by decide +kernel
theorem dX5_ray_17 : decode cX5_ray 17 = .ok (.istore 11, 2) := by decide +kernel
theorem dX5_ray_19 : decode cX5_ray 19 = .ok (.iload 11, 2) := by decide +kernel
theorem dX5_ray_21 : decode cX5_ray 21 = .ok (.aload_n 0, 1) := by decide +kernel
theorem dX5_ray_22 : decode cX5_ray 22 = .ok (.iload_n 1, 1) := by decide +kernel
theorem dX5_ray_23 : decode cX5_ray 23 = .ok (.iload_n 2, 1) := by decide +kernel
theorem dX5_ray_24 : decode cX5_ray 24 = .ok (.iload 4, 2) := by decide +kernel
theorem dX5_ray_26 : decode cX5_ray 26 = .ok (.invokevirtual 130, 3) := by decide +kernel
theorem dX5_ray_29 : decode cX5_ray 29 = .ok (.if_icmp .gt 68, 3) := by decide +kernel
theorem dX5_ray_32 : decode cX5_ray 32 = .ok (.aload_n 0, 1) := by decide +kernel
theorem dX5_ray_33 : decode cX5_ray 33 = .ok (.iload_n 3, 1) := by decide +kernel
theorem dX5_ray_34 : decode cX5_ray 34 = .ok (.iload 4, 2) := by decide +kernel
theorem dX5_ray_36 : decode cX5_ray 36 = .ok (.iload 11, 2) := by decide +kernel
theorem dX5_ray_38 : decode cX5_ray 38 = .ok (.invokevirtual 145, 3) := by decide +kernel
theorem dX5_ray_41 : decode cX5_ray 41 = .ok (.ifCond .eq 50, 3) := by decide +kernel
theorem dX5_ray_44 : decode cX5_ray 44 = .ok (.lload 6, 2) := by decide +kernel
theorem dX5_ray_46 : decode cX5_ray 46 = .ok (.aload_n 0, 1) := by decide +kernel
theorem dX5_ray_47 : decode cX5_ray 47 = .ok (.aload_n 0, 1) := by decide +kernel
theorem dX5_ray_48 : decode cX5_ray 48 = .ok (.getfield 23, 3) := by decide +kernel
theorem dX5_ray_51 : decode cX5_ray 51 = .ok (.iload_n 3, 1) := by decide +kernel
theorem dX5_ray_52 : decode cX5_ray 52 = .ok (.iload 4, 2) := by decide +kernel
theorem dX5_ray_54 : decode cX5_ray 54 = .ok (.iload 11, 2) := by decide +kernel
theorem dX5_ray_56 : decode cX5_ray 56 = .ok (.invokestatic 96, 3) := by decide +kernel
theorem dX5_ray_59 : decode cX5_ray 59 = .ok (.iaload, 1) := by decide +kernel
theorem dX5_ray_60 : decode cX5_ray 60 = .ok (.invokevirtual 133, 3) := by decide +kernel
theorem dX5_ray_63 : decode cX5_ray 63 = .ok (.ladd, 1) := by decide +kernel
theorem dX5_ray_64 : decode cX5_ray 64 = .ok (.lstore 6, 2) := by decide +kernel
theorem dX5_ray_66 : decode cX5_ray 66 = .ok (.lload 8, 2) := by decide +kernel
theorem dX5_ray_68 : decode cX5_ray 68 = .ok (.aload_n 0, 1) := by decide +kernel
theorem dX5_ray_69 : decode cX5_ray 69 = .ok (.aload_n 0, 1) := by decide +kernel
theorem dX5_ray_70 : decode cX5_ray 70 = .ok (.getfield 23, 3) := by decide +kernel
theorem dX5_ray_73 : decode cX5_ray 73 = .ok (.iload_n 2, 1) := by decide +kernel
theorem dX5_ray_74 : decode cX5_ray 74 = .ok (.iload 4, 2) := by decide +kernel
theorem dX5_ray_76 : decode cX5_ray 76 = .ok (.iload 11, 2) := by decide +kernel
theorem dX5_ray_78 : decode cX5_ray 78 = .ok (.invokestatic 96, 3) := by decide +kernel
theorem dX5_ray_81 : decode cX5_ray 81 = .ok (.iaload, 1) := by decide +kernel
theorem dX5_ray_82 : decode cX5_ray 82 = .ok (.invokevirtual 133, 3) := by decide +kernel
theorem dX5_ray_85 : decode cX5_ray 85 = .ok (.ladd, 1) := by decide +kernel
theorem dX5_ray_86 : decode cX5_ray 86 = .ok (.lstore 8, 2) := by decide +kernel
theorem dX5_ray_88 : decode cX5_ray 88 = .ok (.iinc 10 1, 3) := by decide +kernel
theorem dX5_ray_91 : decode cX5_ray 91 = .ok (.iinc 11 1, 3) := by decide +kernel
theorem dX5_ray_94 : decode cX5_ray 94 = .ok (.goto (-75), 3) := by decide +kernel
theorem dX5_ray_97 : decode cX5_ray 97 = .ok (.iconst (-1), 1) := by decide +kernel
theorem dX5_ray_98 : decode cX5_ray 98 = .ok (.istore 11, 2) := by decide +kernel
theorem dX5_ray_100 : decode cX5_ray 100 = .ok (.lconst 0, 1) := by decide +kernel
theorem dX5_ray_101 : decode cX5_ray 101 = .ok (.lstore 12, 2) := by decide +kernel
theorem dX5_ray_103 : decode cX5_ray 103 = .ok (.aload_n 0, 1) := by decide +kernel
theorem dX5_ray_104 : decode cX5_ray 104 = .ok (.iload_n 1, 1) := by decide +kernel
theorem dX5_ray_105 : decode cX5_ray 105 = .ok (.iload_n 2, 1) := by decide +kernel
theorem dX5_ray_106 : decode cX5_ray 106 = .ok (.iload 4, 2) := by decide +kernel
theorem dX5_ray_108 : decode cX5_ray 108 = .ok (.invokevirtual 127, 3) := by decide +kernel
theorem dX5_ray_111 : decode cX5_ray 111 = .ok (.istore 14, 2) := by decide +kernel
theorem dX5_ray_113 : decode cX5_ray 113 = .ok (.iload 14, 2) := by decide +kernel
theorem dX5_ray_115 : decode cX5_ray 115 = .ok (.aload_n 0, 1) := by decide +kernel
theorem dX5_ray_116 : decode cX5_ray 116 = .ok (.iload_n 1, 1) := by decide +kernel
theorem dX5_ray_117 : decode cX5_ray 117 = .ok (.iload_n 2, 1) := by decide +kernel
theorem dX5_ray_118 : decode cX5_ray 118 = .ok (.iload 4, 2) := by decide +kernel
theorem dX5_ray_120 : decode cX5_ray 120 = .ok (.invokevirtual 130, 3) := by decide +kernel
theorem dX5_ray_123 : decode cX5_ray 123 = .ok (.if_icmp .gt 86, 3) := by decide +kernel
theorem dX5_ray_126 : decode cX5_ray 126 = .ok (.aload_n 0, 1) := by decide +kernel
theorem dX5_ray_127 : decode cX5_ray 127 = .ok (.iload_n 3, 1) := by decide +kernel
theorem dX5_ray_128 : decode cX5_ray 128 = .ok (.iload 4, 2) := by decide +kernel
theorem dX5_ray_130 : decode cX5_ray 130 = .ok (.iload 14, 2) := by decide +kernel
theorem dX5_ray_132 : decode cX5_ray 132 = .ok (.invokevirtual 145, 3) := by decide +kernel
theorem dX5_ray_135 : decode cX5_ray 135 = .ok (.ifCond .eq 68, 3) := by decide +kernel
theorem dX5_ray_138 : decode cX5_ray 138 = .ok (.aload_n 0, 1) := by decide +kernel
theorem dX5_ray_139 : decode cX5_ray 139 = .ok (.aload_n 0, 1) := by decide +kernel
theorem dX5_ray_140 : decode cX5_ray 140 = .ok (.getfield 23, 3) := by decide +kernel
theorem dX5_ray_143 : decode cX5_ray 143 = .ok (.iload_n 2, 1) := by decide +kernel
theorem dX5_ray_144 : decode cX5_ray 144 = .ok (.iload 4, 2) := by decide +kernel
theorem dX5_ray_146 : decode cX5_ray 146 = .ok (.iload 14, 2) := by decide +kernel
theorem dX5_ray_148 : decode cX5_ray 148 = .ok (.invokestatic 96, 3) := by decide +kernel
theorem dX5_ray_151 : decode cX5_ray 151 = .ok (.iaload, 1) := by decide +kernel
theorem dX5_ray_152 : decode cX5_ray 152 = .ok (.invokevirtual 133, 3) := by decide +kernel
theorem dX5_ray_155 : decode cX5_ray 155 = .ok (.lload 6, 2) := by decide +kernel
theorem dX5_ray_157 : decode cX5_ray 157 = .ok (.lmul, 1) := by decide +kernel
theorem dX5_ray_158 : decode cX5_ray 158 = .ok (.aload_n 0, 1) := by decide +kernel
theorem dX5_ray_159 : decode cX5_ray 159 = .ok (.aload_n 0, 1) := by decide +kernel
theorem dX5_ray_160 : decode cX5_ray 160 = .ok (.getfield 23, 3) := by decide +kernel
theorem dX5_ray_163 : decode cX5_ray 163 = .ok (.iload_n 3, 1) := by decide +kernel
theorem dX5_ray_164 : decode cX5_ray 164 = .ok (.iload 4, 2) := by decide +kernel
theorem dX5_ray_166 : decode cX5_ray 166 = .ok (.iload 14, 2) := by decide +kernel
theorem dX5_ray_168 : decode cX5_ray 168 = .ok (.invokestatic 96, 3) := by decide +kernel
theorem dX5_ray_171 : decode cX5_ray 171 = .ok (.iaload, 1) := by decide +kernel
theorem dX5_ray_172 : decode cX5_ray 172 = .ok (.invokevirtual 133, 3) := by decide +kernel
theorem dX5_ray_175 : decode cX5_ray 175 = .ok (.lload 8, 2) := by decide +kernel
theorem dX5_ray_177 : decode cX5_ray 177 = .ok (.lmul, 1) := by decide +kernel
theorem dX5_ray_178 : decode cX5_ray 178 = .ok (.lsub, 1) := by decide +kernel
theorem dX5_ray_179 : decode cX5_ray 179 = .ok (.lstore 15, 2) := by decide +kernel
theorem dX5_ray_181 : decode cX5_ray 181 = .ok (.iload 11, 2) := by decide +kernel
theorem dX5_ray_183 : decode cX5_ray 183 = .ok (.iconst (-1), 1) := by decide +kernel
theorem dX5_ray_184 : decode cX5_ray 184 = .ok (.if_icmp .eq 11, 3) := by decide +kernel
theorem dX5_ray_187 : decode cX5_ray 187 = .ok (.lload 15, 2) := by decide +kernel
theorem dX5_ray_189 : decode cX5_ray 189 = .ok (.lload 12, 2) := by decide +kernel
theorem dX5_ray_191 : decode cX5_ray 191 = .ok (.lcmp, 1) := by decide +kernel
theorem dX5_ray_192 : decode cX5_ray 192 = .ok (.ifCond .le 11, 3) := by decide +kernel
theorem dX5_ray_195 : decode cX5_ray 195 = .ok (.iload 14, 2) := by decide +kernel
theorem dX5_ray_197 : decode cX5_ray 197 = .ok (.istore 11, 2) := by decide +kernel
theorem dX5_ray_199 : decode cX5_ray 199 = .ok (.lload 15, 2) := by decide +kernel
theorem dX5_ray_201 : decode cX5_ray 201 = .ok (.lstore 12, 2) := by decide +kernel
theorem dX5_ray_203 : decode cX5_ray 203 = .ok (.iinc 14 1, 3) := by decide +kernel
theorem dX5_ray_206 : decode cX5_ray 206 = .ok (.goto (-93), 3) := by decide +kernel
theorem dX5_ray_209 : decode cX5_ray 209 = .ok (.iload 10, 2) := by decide +kernel
theorem dX5_ray_211 : decode cX5_ray 211 = .ok (.iconst 3, 1) := by decide +kernel
theorem dX5_ray_212 : decode cX5_ray 212 = .ok (.if_icmp .lt 38, 3) := by decide +kernel
theorem dX5_ray_215 : decode cX5_ray 215 = .ok (.lload 12, 2) := by decide +kernel
theorem dX5_ray_217 : decode cX5_ray 217 = .ok (.iload 5, 2) := by decide +kernel
theorem dX5_ray_219 : decode cX5_ray 219 = .ok (.i2l, 1) := by decide +kernel
theorem dX5_ray_220 : decode cX5_ray 220 = .ok (.aload_n 0, 1) := by decide +kernel
theorem dX5_ray_221 : decode cX5_ray 221 = .ok (.aload_n 0, 1) := by decide +kernel
theorem dX5_ray_222 : decode cX5_ray 222 = .ok (.getfield 23, 3) := by decide +kernel
theorem dX5_ray_225 : decode cX5_ray 225 = .ok (.iload_n 3, 1) := by decide +kernel
theorem dX5_ray_226 : decode cX5_ray 226 = .ok (.iload 4, 2) := by decide +kernel
theorem dX5_ray_228 : decode cX5_ray 228 = .ok (.iload 11, 2) := by decide +kernel
theorem dX5_ray_230 : decode cX5_ray 230 = .ok (.invokestatic 96, 3) := by decide +kernel
theorem dX5_ray_233 : decode cX5_ray 233 = .ok (.iaload, 1) := by decide +kernel
theorem dX5_ray_234 : decode cX5_ray 234 = .ok (.invokevirtual 133, 3) := by decide +kernel
theorem dX5_ray_237 : decode cX5_ray 237 = .ok (.lmul, 1) := by decide +kernel
theorem dX5_ray_238 : decode cX5_ray 238 = .ok (.lload 8, 2) := by decide +kernel
theorem dX5_ray_240 : decode cX5_ray 240 = .ok (.lmul, 1) := by decide +kernel
theorem dX5_ray_241 : decode cX5_ray 241 = .ok (.lcmp, 1) := by decide +kernel
theorem dX5_ray_242 : decode cX5_ray 242 = .ok (.ifCond .le 8, 3) := by decide +kernel
theorem dX5_ray_245 : decode cX5_ray 245 = .ok (.iload 11, 2) := by decide +kernel
theorem dX5_ray_247 : decode cX5_ray 247 = .ok (.goto 4, 3) := by decide +kernel
theorem dX5_ray_250 : decode cX5_ray 250 = .ok (.iconst (-1), 1) := by decide +kernel
theorem dX5_ray_251 : decode cX5_ray 251 = .ok (.ireturn, 1) := by decide +kernel
theorem dX5_drawn_0 : decode cX5_drawn 0 = .ok (.iload 5, 2) := by decide +kernel
theorem dX5_drawn_2 : decode cX5_drawn 2 = .ok (.ifCond .ne 7, 3) := by decide +kernel
theorem dX5_drawn_5 : decode cX5_drawn 5 = .ok (.iconst (-1), 1) := by decide +kernel
theorem dX5_drawn_6 : decode cX5_drawn 6 = .ok (.goto 14, 3) := by decide +kernel
theorem dX5_drawn_9 : decode cX5_drawn 9 = .ok (.aload_n 0, 1) := by decide +kernel
theorem dX5_drawn_10 : decode cX5_drawn 10 = .ok (.iload_n 1, 1) := by decide +kernel
theorem dX5_drawn_11 : decode cX5_drawn 11 = .ok (.iload_n 2, 1) := by decide +kernel
theorem dX5_drawn_12 : decode cX5_drawn 12 = .ok (.iload_n 3, 1) := by decide +kernel
theorem dX5_drawn_13 : decode cX5_drawn 13 = .ok (.iload 4, 2) := by decide +kernel
theorem dX5_drawn_15 : decode cX5_drawn 15 = .ok (.iload 5, 2) := by decide +kernel
theorem dX5_drawn_17 : decode cX5_drawn 17 = .ok (.invokevirtual 148, 3) := by decide +kernel
theorem dX5_drawn_20 : decode cX5_drawn 20 = .ok (.istore 6, 2) := by decide +kernel
theorem dX5_drawn_22 : decode cX5_drawn 22 = .ok (.lconst 0, 1) := by decide +kernel
theorem dX5_drawn_23 : decode cX5_drawn 23 = .ok (.lstore 7, 2) := by decide +kernel
theorem dX5_drawn_25 : decode cX5_drawn 25 = .ok (.lconst 0, 1) := by decide +kernel
theorem dX5_drawn_26 : decode cX5_drawn 26 = .ok (.lstore 9, 2) := by decide +kernel
theorem dX5_drawn_28 : decode cX5_drawn 28 = .ok (.lconst 0, 1) := by decide +kernel
theorem dX5_drawn_29 : decode cX5_drawn 29 = .ok (.lstore 11, 2) := by decide +kernel
theorem dX5_drawn_31 : decode cX5_drawn 31 = .ok (.aload_n 0, 1) := by decide +kernel
theorem dX5_drawn_32 : decode cX5_drawn 32 = .ok (.iload_n 1, 1) := by decide +kernel
theorem dX5_drawn_33 : decode cX5_drawn 33 = .ok (.iload_n 2, 1) := by decide +kernel
theorem dX5_drawn_34 : decode cX5_drawn 34 = .ok (.iload 4, 2) := by decide +kernel
theorem dX5_drawn_36 : decode cX5_drawn 36 = .ok (.invokevirtual 127, 3) := by decide +kernel
theorem dX5_drawn_39 : decode cX5_drawn 39 = .ok (.istore 13, 2) := by decide +kernel
theorem dX5_drawn_41 : decode cX5_drawn 41 = .ok (.iload 13, 2) := by decide +kernel
theorem dX5_drawn_43 : decode cX5_drawn 43 = .ok (.aload_n 0, 1) := by decide +kernel
theorem dX5_drawn_44 : decode cX5_drawn 44 = .ok (.iload_n 1, 1) := by decide +kernel
theorem dX5_drawn_45 : decode cX5_drawn 45 = .ok (.iload_n 2, 1) := by decide +kernel
theorem dX5_drawn_46 : decode cX5_drawn 46 = .ok (.iload 4, 2) := by decide +kernel
theorem dX5_drawn_48 : decode cX5_drawn 48 = .ok (.invokevirtual 130, 3) := by decide +kernel
theorem dX5_drawn_51 : decode cX5_drawn 51 = .ok (.if_icmp .gt 89, 3) := by decide +kernel
theorem dX5_drawn_54 : decode cX5_drawn 54 = .ok (.aload_n 0, 1) := by decide +kernel
theorem dX5_drawn_55 : decode cX5_drawn 55 = .ok (.iload_n 3, 1) := by decide +kernel
theorem dX5_drawn_56 : decode cX5_drawn 56 = .ok (.iload 4, 2) := by decide +kernel
theorem dX5_drawn_58 : decode cX5_drawn 58 = .ok (.iload 13, 2) := by decide +kernel
theorem dX5_drawn_60 : decode cX5_drawn 60 = .ok (.invokevirtual 145, 3) := by decide +kernel
theorem dX5_drawn_63 : decode cX5_drawn 63 = .ok (.ifCond .eq 71, 3) := by decide +kernel
theorem dX5_drawn_66 : decode cX5_drawn 66 = .ok (.iload 13, 2) := by decide +kernel
theorem dX5_drawn_68 : decode cX5_drawn 68 = .ok (.iload 6, 2) := by decide +kernel
theorem dX5_drawn_70 : decode cX5_drawn 70 = .ok (.if_icmp .eq 64, 3) := by decide +kernel
theorem dX5_drawn_73 : decode cX5_drawn 73 = .ok (.aload_n 0, 1) := by decide +kernel
theorem dX5_drawn_74 : decode cX5_drawn 74 = .ok (.aload_n 0, 1) := by decide +kernel
theorem dX5_drawn_75 : decode cX5_drawn 75 = .ok (.getfield 23, 3) := by decide +kernel
theorem dX5_drawn_78 : decode cX5_drawn 78 = .ok (.iload_n 3, 1) := by decide +kernel
theorem dX5_drawn_79 : decode cX5_drawn 79 = .ok (.iload 4, 2) := by decide +kernel
theorem dX5_drawn_81 : decode cX5_drawn 81 = .ok (.iload 13, 2) := by decide +kernel
theorem dX5_drawn_83 : decode cX5_drawn 83 = .ok (.invokestatic 96, 3) := by decide +kernel
theorem dX5_drawn_86 : decode cX5_drawn 86 = .ok (.iaload, 1) := by decide +kernel
theorem dX5_drawn_87 : decode cX5_drawn 87 = .ok (.invokevirtual 133, 3) := by decide +kernel
theorem dX5_drawn_90 : decode cX5_drawn 90 = .ok (.lstore 14, 2) := by decide +kernel
theorem dX5_drawn_92 : decode cX5_drawn 92 = .ok (.lload 7, 2) := by decide +kernel
theorem dX5_drawn_94 : decode cX5_drawn 94 = .ok (.lload 14, 2) := by decide +kernel
theorem dX5_drawn_96 : decode cX5_drawn 96 = .ok (.ladd, 1) := by decide +kernel
theorem dX5_drawn_97 : decode cX5_drawn 97 = .ok (.lstore 7, 2) := by decide +kernel
theorem dX5_drawn_99 : decode cX5_drawn 99 = .ok (.lload 9, 2) := by decide +kernel
theorem dX5_drawn_101 : decode cX5_drawn 101 = .ok (.lload 14, 2) := by decide +kernel
theorem dX5_drawn_103 : decode cX5_drawn 103 = .ok (.lload 14, 2) := by decide +kernel
theorem dX5_drawn_105 : decode cX5_drawn 105 = .ok (.lmul, 1) := by decide +kernel
theorem dX5_drawn_106 : decode cX5_drawn 106 = .ok (.ladd, 1) := by decide +kernel
theorem dX5_drawn_107 : decode cX5_drawn 107 = .ok (.lstore 9, 2) := by decide +kernel
theorem dX5_drawn_109 : decode cX5_drawn 109 = .ok (.lload 11, 2) := by decide +kernel
theorem dX5_drawn_111 : decode cX5_drawn 111 = .ok (.lload 14, 2) := by decide +kernel
theorem dX5_drawn_113 : decode cX5_drawn 113 = .ok (.aload_n 0, 1) := by decide +kernel
theorem dX5_drawn_114 : decode cX5_drawn 114 = .ok (.aload_n 0, 1) := by decide +kernel
theorem dX5_drawn_115 : decode cX5_drawn 115 = .ok (.getfield 23, 3) := by decide +kernel
theorem dX5_drawn_118 : decode cX5_drawn 118 = .ok (.iload_n 2, 1) := by decide +kernel
theorem dX5_drawn_119 : decode cX5_drawn 119 = .ok (.iload 4, 2) := by decide +kernel
theorem dX5_drawn_121 : decode cX5_drawn 121 = .ok (.iload 13, 2) := by decide +kernel
theorem dX5_drawn_123 : decode cX5_drawn 123 = .ok (.invokestatic 96, 3) := by decide +kernel
theorem dX5_drawn_126 : decode cX5_drawn 126 = .ok (.iaload, 1) := by decide +kernel
theorem dX5_drawn_127 : decode cX5_drawn 127 = .ok (.invokevirtual 133, 3) := by decide +kernel
theorem dX5_drawn_130 : decode cX5_drawn 130 = .ok (.lmul, 1) := by decide +kernel
theorem dX5_drawn_131 : decode cX5_drawn 131 = .ok (.ladd, 1) := by decide +kernel
theorem dX5_drawn_132 : decode cX5_drawn 132 = .ok (.lstore 11, 2) := by decide +kernel
theorem dX5_drawn_134 : decode cX5_drawn 134 = .ok (.iinc 13 1, 3) := by decide +kernel
theorem dX5_drawn_137 : decode cX5_drawn 137 = .ok (.goto (-96), 3) := by decide +kernel
theorem dX5_drawn_140 : decode cX5_drawn 140 = .ok (.lload 9, 2) := by decide +kernel
theorem dX5_drawn_142 : decode cX5_drawn 142 = .ok (.lconst 0, 1) := by decide +kernel
theorem dX5_drawn_143 : decode cX5_drawn 143 = .ok (.lcmp, 1) := by decide +kernel
theorem dX5_drawn_144 : decode cX5_drawn 144 = .ok (.ifCond .ne 7, 3) := by decide +kernel
theorem dX5_drawn_147 : decode cX5_drawn 147 = .ok (.lconst 0, 1) := by decide +kernel
theorem dX5_drawn_148 : decode cX5_drawn 148 = .ok (.goto 11, 3) := by decide +kernel
theorem dX5_drawn_151 : decode cX5_drawn 151 = .ok (.lload 11, 2) := by decide +kernel
theorem dX5_drawn_153 : decode cX5_drawn 153 = .ok (.lload 7, 2) := by decide +kernel
theorem dX5_drawn_155 : decode cX5_drawn 155 = .ok (.lmul, 1) := by decide +kernel
theorem dX5_drawn_156 : decode cX5_drawn 156 = .ok (.lload 9, 2) := by decide +kernel
theorem dX5_drawn_158 : decode cX5_drawn 158 = .ok (.ldiv, 1) := by decide +kernel
theorem dX5_drawn_159 : decode cX5_drawn 159 = .ok (.lreturn, 1) := by decide +kernel
theorem dX5_draw_0 : decode cX5_draw 0 = .ok (.aload_n 0, 1) := by decide +kernel
theorem dX5_draw_1 : decode cX5_draw 1 = .ok (.iload_n 1, 1) := by decide +kernel
theorem dX5_draw_2 : decode cX5_draw 2 = .ok (.invokevirtual 117, 3) := by decide +kernel
theorem dX5_draw_5 : decode cX5_draw 5 = .ok (.ifCond .eq 17, 3) := by decide +kernel
theorem dX5_draw_8 : decode cX5_draw 8 = .ok (.iload_n 2, 1) := by decide +kernel
theorem dX5_draw_9 : decode cX5_draw 9 = .ok (.invokestatic 82, 3) := by decide +kernel
theorem dX5_draw_12 : decode cX5_draw 12 = .ok (.ifCond .eq 10, 3) := by decide +kernel
theorem dX5_draw_15 : decode cX5_draw 15 = .ok (.iload_n 3, 1) := by decide +kernel
theorem dX5_draw_16 : decode cX5_draw 16 = .ok (.invokestatic 82, 3) := by decide +kernel
theorem dX5_draw_19 : decode cX5_draw 19 = .ok (.ifCond .ne 6, 3) := by decide +kernel
theorem dX5_draw_22 : decode cX5_draw 22 = .ok (.bipush (-101), 2) := by decide +kernel
theorem dX5_draw_24 : decode cX5_draw 24 = .ok (.ireturn, 1) := by decide +kernel
theorem dX5_draw_25 : decode cX5_draw 25 = .ok (.iload 4, 2) := by decide +kernel
theorem dX5_draw_27 : decode cX5_draw 27 = .ok (.i2l, 1) := by decide +kernel
theorem dX5_draw_28 : decode cX5_draw 28 = .ok (.lconst 0, 1) := by decide +kernel
theorem dX5_draw_29 : decode cX5_draw 29 = .ok (.ldc2_w 152, 3) := by decide +kernel
theorem dX5_draw_32 : decode cX5_draw 32 = .ok (.invokestatic 75, 3) := by decide +kernel
theorem dX5_draw_35 : decode cX5_draw 35 = .ok (.ifCond .ne 6, 3) := by decide +kernel
theorem dX5_draw_38 : decode cX5_draw 38 = .ok (.bipush (-102), 2) := by decide +kernel
theorem dX5_draw_40 : decode cX5_draw 40 = .ok (.ireturn, 1) := by decide +kernel
theorem dX5_draw_41 : decode cX5_draw 41 = .ok (.aload_n 0, 1) := by decide +kernel
theorem dX5_draw_42 : decode cX5_draw 42 = .ok (.getfield 7, 3) := by decide +kernel
theorem dX5_draw_45 : decode cX5_draw 45 = .ok (.iload_n 2, 1) := by decide +kernel
theorem dX5_draw_46 : decode cX5_draw 46 = .ok (.baload, 1) := by decide +kernel
theorem dX5_draw_47 : decode cX5_draw 47 = .ok (.ifCond .eq 12, 3) := by decide +kernel
theorem dX5_draw_50 : decode cX5_draw 50 = .ok (.aload_n 0, 1) := by decide +kernel
theorem dX5_draw_51 : decode cX5_draw 51 = .ok (.getfield 7, 3) := by decide +kernel
theorem dX5_draw_54 : decode cX5_draw 54 = .ok (.iload_n 3, 1) := by decide +kernel
theorem dX5_draw_55 : decode cX5_draw 55 = .ok (.baload, 1) := by decide +kernel
theorem dX5_draw_56 : decode cX5_draw 56 = .ok (.ifCond .ne 10, 3) := by decide +kernel
theorem dX5_draw_59 : decode cX5_draw 59 = .ok (.aload_n 0, 1) := by decide +kernel
theorem dX5_draw_60 : decode cX5_draw 60 = .ok (.bipush (-11), 2) := by decide +kernel
theorem dX5_draw_62 : decode cX5_draw 62 = .ok (.invokevirtual 88, 3) := by decide +kernel
theorem dX5_draw_65 : decode cX5_draw 65 = .ok (.ireturn, 1) := by decide +kernel
theorem dX5_draw_66 : decode cX5_draw 66 = .ok (.aload_n 0, 1) := by decide +kernel
theorem dX5_draw_67 : decode cX5_draw 67 = .ok (.iload_n 2, 1) := by decide +kernel
theorem dX5_draw_68 : decode cX5_draw 68 = .ok (.iload_n 3, 1) := by decide +kernel
theorem dX5_draw_69 : decode cX5_draw 69 = .ok (.invokevirtual 104, 3) := by decide +kernel
theorem dX5_draw_72 : decode cX5_draw 72 = .ok (.ifCond .ne 10, 3) := by decide +kernel
theorem dX5_draw_75 : decode cX5_draw 75 = .ok (.aload_n 0, 1) := by decide +kernel
theorem dX5_draw_76 : decode cX5_draw 76 = .ok (.bipush (-15), 2) := by decide +kernel
theorem dX5_draw_78 : decode cX5_draw 78 = .ok (.invokevirtual 88, 3) := by decide +kernel
theorem dX5_draw_81 : decode cX5_draw 81 = .ok (.ireturn, 1) := by decide +kernel
theorem dX5_draw_82 : decode cX5_draw 82 = .ok (.aload_n 0, 1) := by decide +kernel
theorem dX5_draw_83 : decode cX5_draw 83 = .ok (.getfield 38, 3) := by decide +kernel
theorem dX5_draw_86 : decode cX5_draw 86 = .ok (.iload_n 1, 1) := by decide +kernel
theorem dX5_draw_87 : decode cX5_draw 87 = .ok (.aload_n 0, 1) := by decide +kernel
theorem dX5_draw_88 : decode cX5_draw 88 = .ok (.getfield 17, 3) := by decide +kernel
theorem dX5_draw_91 : decode cX5_draw 91 = .ok (.iload_n 2, 1) := by decide +kernel
theorem dX5_draw_92 : decode cX5_draw 92 = .ok (.iaload, 1) := by decide +kernel
theorem dX5_draw_93 : decode cX5_draw 93 = .ok (.iastore, 1) := by decide +kernel
theorem dX5_draw_94 : decode cX5_draw 94 = .ok (.aload_n 0, 1) := by decide +kernel
theorem dX5_draw_95 : decode cX5_draw 95 = .ok (.getfield 45, 3) := by decide +kernel
theorem dX5_draw_98 : decode cX5_draw 98 = .ok (.iload_n 1, 1) := by decide +kernel
theorem dX5_draw_99 : decode cX5_draw 99 = .ok (.iconst 0, 1) := by decide +kernel
theorem dX5_draw_100 : decode cX5_draw 100 = .ok (.bastore, 1) := by decide +kernel
theorem dX5_draw_101 : decode cX5_draw 101 = .ok (.iconst 0, 1) := by decide +kernel
theorem dX5_draw_102 : decode cX5_draw 102 = .ok (.istore 5, 2) := by decide +kernel
theorem dX5_draw_104 : decode cX5_draw 104 = .ok (.iload 5, 2) := by decide +kernel
