theorem dX5_draw_106 : decode cX5_draw 106 = .ok (.aload_n 0, 1) := by decide +kernel
theorem dX5_draw_107 : decode cX5_draw 107 = .ok (.getfield 17, 3) := by decide +kernel
theorem dX5_draw_110 : decode cX5_draw 110 = .ok (.iload_n 2, 1) := by decide +kernel
theorem dX5_draw_111 : decode cX5_draw 111 = .ok (.iaload, 1) := by decide +kernel
theorem dX5_draw_112 : decode cX5_draw 112 = .ok (.if_icmp .ge 32, 3) := by decide +kernel
theorem dX5_draw_115 : decode cX5_draw 115 = .ok (.aload_n 0, 1) := by decide +kernel
theorem dX5_draw_116 : decode cX5_draw 116 = .ok (.getfield 41, 3) := by decide +kernel
theorem dX5_draw_119 : decode cX5_draw 119 = .ok (.bipush 20, 2) := by decide +kernel
theorem dX5_draw_121 : decode cX5_draw 121 = .ok (.iload_n 1, 1) := by decide +kernel
theorem dX5_draw_122 : decode cX5_draw 122 = .ok (.imul, 1) := by decide +kernel
theorem dX5_draw_123 : decode cX5_draw 123 = .ok (.iload 5, 2) := by decide +kernel
theorem dX5_draw_125 : decode cX5_draw 125 = .ok (.iadd, 1) := by decide +kernel
theorem dX5_draw_126 : decode cX5_draw 126 = .ok (.aload_n 0, 1) := by decide +kernel
theorem dX5_draw_127 : decode cX5_draw 127 = .ok (.iload_n 1, 1) := by decide +kernel
theorem dX5_draw_128 : decode cX5_draw 128 = .ok (.iload_n 2, 1) := by decide +kernel
theorem dX5_draw_129 : decode cX5_draw 129 = .ok (.iload_n 3, 1) := by decide +kernel
theorem dX5_draw_130 : decode cX5_draw 130 = .ok (.iload 5, 2) := by decide +kernel
theorem dX5_draw_132 : decode cX5_draw 132 = .ok (.iload 4, 2) := by decide +kernel
theorem dX5_draw_134 : decode cX5_draw 134 = .ok (.invokevirtual 154, 3) := by decide +kernel
theorem dX5_draw_137 : decode cX5_draw 137 = .ok (.lastore, 1) := by decide +kernel
theorem dX5_draw_138 : decode cX5_draw 138 = .ok (.iinc 5 1, 3) := by decide +kernel
theorem dX5_draw_141 : decode cX5_draw 141 = .ok (.goto (-37), 3) := by decide +kernel
theorem dX5_draw_144 : decode cX5_draw 144 = .ok (.aload_n 0, 1) := by decide +kernel
theorem dX5_draw_145 : decode cX5_draw 145 = .ok (.getfield 38, 3) := by decide +kernel
theorem dX5_draw_148 : decode cX5_draw 148 = .ok (.iload_n 1, 1) := by decide +kernel
theorem dX5_draw_149 : decode cX5_draw 149 = .ok (.iaload, 1) := by decide +kernel
theorem dX5_draw_150 : decode cX5_draw 150 = .ok (.ireturn, 1) := by decide +kernel
theorem dX5_number_0 : decode cX5_number 0 = .ok (.aload_n 0, 1) := by decide +kernel
theorem dX5_number_1 : decode cX5_number 1 = .ok (.iload_n 1, 1) := by decide +kernel
theorem dX5_number_2 : decode cX5_number 2 = .ok (.invokevirtual 117, 3) := by decide +kernel
theorem dX5_number_5 : decode cX5_number 5 = .ok (.ifCond .ne 7, 3) := by decide +kernel
theorem dX5_number_8 : decode cX5_number 8 = .ok (.ldc2_w 158, 3) := by decide +kernel
theorem dX5_number_11 : decode cX5_number 11 = .ok (.lreturn, 1) := by decide +kernel
theorem dX5_number_12 : decode cX5_number 12 = .ok (.iload_n 2, 1) := by decide +kernel
theorem dX5_number_13 : decode cX5_number 13 = .ok (.i2l, 1) := by decide +kernel
theorem dX5_number_14 : decode cX5_number 14 = .ok (.lconst 0, 1) := by decide +kernel
theorem dX5_number_15 : decode cX5_number 15 = .ok (.aload_n 0, 1) := by decide +kernel
theorem dX5_number_16 : decode cX5_number 16 = .ok (.getfield 38, 3) := by decide +kernel
theorem dX5_number_19 : decode cX5_number 19 = .ok (.iload_n 1, 1) := by decide +kernel
theorem dX5_number_20 : decode cX5_number 20 = .ok (.iaload, 1) := by decide +kernel
theorem dX5_number_21 : decode cX5_number 21 = .ok (.iconst 1, 1) := by decide +kernel
theorem dX5_number_22 : decode cX5_number 22 = .ok (.isub, 1) := by decide +kernel
theorem dX5_number_23 : decode cX5_number 23 = .ok (.i2l, 1) := by decide +kernel
theorem dX5_number_24 : decode cX5_number 24 = .ok (.invokestatic 75, 3) := by decide +kernel
theorem dX5_number_27 : decode cX5_number 27 = .ok (.ifCond .eq 17, 3) := by decide +kernel
theorem dX5_number_30 : decode cX5_number 30 = .ok (.aload_n 0, 1) := by decide +kernel
theorem dX5_number_31 : decode cX5_number 31 = .ok (.getfield 41, 3) := by decide +kernel
theorem dX5_number_34 : decode cX5_number 34 = .ok (.bipush 20, 2) := by decide +kernel
theorem dX5_number_36 : decode cX5_number 36 = .ok (.iload_n 1, 1) := by decide +kernel
theorem dX5_number_37 : decode cX5_number 37 = .ok (.imul, 1) := by decide +kernel
theorem dX5_number_38 : decode cX5_number 38 = .ok (.iload_n 2, 1) := by decide +kernel
theorem dX5_number_39 : decode cX5_number 39 = .ok (.iadd, 1) := by decide +kernel
theorem dX5_number_40 : decode cX5_number 40 = .ok (.laload, 1) := by decide +kernel
theorem dX5_number_41 : decode cX5_number 41 = .ok (.goto 6, 3) := by decide +kernel
theorem dX5_number_44 : decode cX5_number 44 = .ok (.ldc2_w 160, 3) := by decide +kernel
theorem dX5_number_47 : decode cX5_number 47 = .ok (.lreturn, 1) := by decide +kernel
theorem dX5_find_0 : decode cX5_find 0 = .ok (.aload_n 0, 1) := by decide +kernel
theorem dX5_find_1 : decode cX5_find 1 = .ok (.iconst 0, 1) := by decide +kernel
theorem dX5_find_2 : decode cX5_find 2 = .ok (.putfield 162, 3) := by decide +kernel
theorem dX5_find_5 : decode cX5_find 5 = .ok (.iconst 1, 1) := by decide +kernel
theorem dX5_find_6 : decode cX5_find 6 = .ok (.istore 4, 2) := by decide +kernel
theorem dX5_find_8 : decode cX5_find 8 = .ok (.iload 4, 2) := by decide +kernel
theorem dX5_find_10 : decode cX5_find 10 = .ok (.aload_n 0, 1) := by decide +kernel
theorem dX5_find_11 : decode cX5_find 11 = .ok (.getfield 38, 3) := by decide +kernel
theorem dX5_find_14 : decode cX5_find 14 = .ok (.iload_n 1, 1) := by decide +kernel
theorem dX5_find_15 : decode cX5_find 15 = .ok (.iaload, 1) := by decide +kernel
theorem dX5_find_16 : decode cX5_find 16 = .ok (.iconst 1, 1) := by decide +kernel
theorem dX5_find_17 : decode cX5_find 17 = .ok (.isub, 1) := by decide +kernel
theorem dX5_find_18 : decode cX5_find 18 = .ok (.if_icmp .ge 124, 3) := by decide +kernel
theorem dX5_find_21 : decode cX5_find 21 = .ok (.aload_n 0, 1) := by decide +kernel
theorem dX5_find_22 : decode cX5_find 22 = .ok (.getfield 41, 3) := by decide +kernel
theorem dX5_find_25 : decode cX5_find 25 = .ok (.bipush 20, 2) := by decide +kernel
theorem dX5_find_27 : decode cX5_find 27 = .ok (.iload_n 1, 1) := by decide +kernel
theorem dX5_find_28 : decode cX5_find 28 = .ok (.imul, 1) := by decide +kernel
theorem dX5_find_29 : decode cX5_find 29 = .ok (.iload 4, 2) := by decide +kernel
theorem dX5_find_31 : decode cX5_find 31 = .ok (.iadd, 1) := by decide +kernel
theorem dX5_find_32 : decode cX5_find 32 = .ok (.iconst 1, 1) := by decide +kernel
theorem dX5_find_33 : decode cX5_find 33 = .ok (.isub, 1) := by decide +kernel
theorem dX5_find_34 : decode cX5_find 34 = .ok (.laload, 1) := by decide +kernel
theorem dX5_find_35 : decode cX5_find 35 = .ok (.lstore 5, 2) := by decide +kernel
theorem dX5_find_37 : decode cX5_find 37 = .ok (.aload_n 0, 1) := by decide +kernel
theorem dX5_find_38 : decode cX5_find 38 = .ok (.getfield 41, 3) := by decide +kernel
theorem dX5_find_41 : decode cX5_find 41 = .ok (.bipush 20, 2) := by decide +kernel
theorem dX5_find_43 : decode cX5_find 43 = .ok (.iload_n 1, 1) := by decide +kernel
theorem dX5_find_44 : decode cX5_find 44 = .ok (.imul, 1) := by decide +kernel
theorem dX5_find_45 : decode cX5_find 45 = .ok (.iload 4, 2) := by decide +kernel
theorem dX5_find_47 : decode cX5_find 47 = .ok (.iadd, 1) := by decide +kernel
theorem dX5_find_48 : decode cX5_find 48 = .ok (.laload, 1) := by decide +kernel
theorem dX5_find_49 : decode cX5_find 49 = .ok (.lstore 7, 2) := by decide +kernel
theorem dX5_find_51 : decode cX5_find 51 = .ok (.aload_n 0, 1) := by decide +kernel
theorem dX5_find_52 : decode cX5_find 52 = .ok (.getfield 41, 3) := by decide +kernel
theorem dX5_find_55 : decode cX5_find 55 = .ok (.bipush 20, 2) := by decide +kernel
theorem dX5_find_57 : decode cX5_find 57 = .ok (.iload_n 1, 1) := by decide +kernel
theorem dX5_find_58 : decode cX5_find 58 = .ok (.imul, 1) := by decide +kernel
theorem dX5_find_59 : decode cX5_find 59 = .ok (.iload 4, 2) := by decide +kernel
theorem dX5_find_61 : decode cX5_find 61 = .ok (.iadd, 1) := by decide +kernel
theorem dX5_find_62 : decode cX5_find 62 = .ok (.iconst 1, 1) := by decide +kernel
theorem dX5_find_63 : decode cX5_find 63 = .ok (.iadd, 1) := by decide +kernel
theorem dX5_find_64 : decode cX5_find 64 = .ok (.laload, 1) := by decide +kernel
theorem dX5_find_65 : decode cX5_find 65 = .ok (.lstore 9, 2) := by decide +kernel
theorem dX5_find_67 : decode cX5_find 67 = .ok (.lload 7, 2) := by decide +kernel
theorem dX5_find_69 : decode cX5_find 69 = .ok (.lload 5, 2) := by decide +kernel
theorem dX5_find_71 : decode cX5_find 71 = .ok (.lcmp, 1) := by decide +kernel
theorem dX5_find_72 : decode cX5_find 72 = .ok (.ifCond .le 64, 3) := by decide +kernel
theorem dX5_find_75 : decode cX5_find 75 = .ok (.lload 7, 2) := by decide +kernel
theorem dX5_find_77 : decode cX5_find 77 = .ok (.lload 9, 2) := by decide +kernel
theorem dX5_find_79 : decode cX5_find 79 = .ok (.lcmp, 1) := by decide +kernel
theorem dX5_find_80 : decode cX5_find 80 = .ok (.ifCond .lt 56, 3) := by decide +kernel
theorem dX5_find_83 : decode cX5_find 83 = .ok (.lload 7, 2) := by decide +kernel
theorem dX5_find_85 : decode cX5_find 85 = .ok (.lload_n 2, 1) := by decide +kernel
theorem dX5_find_86 : decode cX5_find 86 = .ok (.lcmp, 1) := by decide +kernel
theorem dX5_find_87 : decode cX5_find 87 = .ok (.ifCond .lt 49, 3) := by decide +kernel
theorem dX5_find_90 : decode cX5_find 90 = .ok (.aload_n 0, 1) := by decide +kernel
theorem dX5_find_91 : decode cX5_find 91 = .ok (.getfield 66, 3) := by decide +kernel
theorem dX5_find_94 : decode cX5_find 94 = .ok (.aload_n 0, 1) := by decide +kernel
theorem dX5_find_95 : decode cX5_find 95 = .ok (.getfield 162, 3) := by decide +kernel
theorem dX5_find_98 : decode cX5_find 98 = .ok (.bipush 64, 2) := by decide +kernel
theorem dX5_find_100 : decode cX5_find 100 = .ok (.iload 4, 2) := by decide +kernel
theorem dX5_find_102 : decode cX5_find 102 = .ok (.imul, 1) := by decide +kernel
theorem dX5_find_103 : decode cX5_find 103 = .ok (.ldc2_w 165, 3) := by decide +kernel
theorem dX5_find_106 : decode cX5_find 106 = .ok (.lload 9, 2) := by decide +kernel
theorem dX5_find_108 : decode cX5_find 108 = .ok (.lload 5, 2) := by decide +kernel
theorem dX5_find_110 : decode cX5_find 110 = .ok (.lsub, 1) := by decide +kernel
theorem dX5_find_111 : decode cX5_find 111 = .ok (.lmul, 1) := by decide +kernel
theorem dX5_find_112 : decode cX5_find 112 = .ok (.lload 5, 2) := by decide +kernel
theorem dX5_find_114 : decode cX5_find 114 = .ok (.lload 7, 2) := by decide +kernel
theorem dX5_find_116 : decode cX5_find 116 = .ok (.ladd, 1) := by decide +kernel
theorem dX5_find_117 : decode cX5_find 117 = .ok (.lload 9, 2) := by decide +kernel
theorem dX5_find_119 : decode cX5_find 119 = .ok (.ladd, 1) := by decide +kernel
theorem dX5_find_120 : decode cX5_find 120 = .ok (.invokestatic 120, 3) := by decide +kernel
theorem dX5_find_123 : decode cX5_find 123 = .ok (.l2i, 1) := by decide +kernel
theorem dX5_find_124 : decode cX5_find 124 = .ok (.iadd, 1) := by decide +kernel
theorem dX5_find_125 : decode cX5_find 125 = .ok (.iastore, 1) := by decide +kernel
theorem dX5_find_126 : decode cX5_find 126 = .ok (.aload_n 0, 1) := by decide +kernel
theorem dX5_find_127 : decode cX5_find 127 = .ok (.dup, 1) := by decide +kernel
theorem dX5_find_128 : decode cX5_find 128 = .ok (.getfield 162, 3) := by decide +kernel
theorem dX5_find_131 : decode cX5_find 131 = .ok (.iconst 1, 1) := by decide +kernel
theorem dX5_find_132 : decode cX5_find 132 = .ok (.iadd, 1) := by decide +kernel
theorem dX5_find_133 : decode cX5_find 133 = .ok (.putfield 162, 3) := by decide +kernel
theorem dX5_find_136 : decode cX5_find 136 = .ok (.iinc 4 1, 3) := by decide +kernel
theorem dX5_find_139 : decode cX5_find 139 = .ok (.goto (-131), 3) := by decide +kernel
theorem dX5_find_142 : decode cX5_find 142 = .ok (.return_, 1) := by decide +kernel
theorem dX5_peaks_0 : decode cX5_peaks 0 = .ok (.aload_n 0, 1) := by decide +kernel
theorem dX5_peaks_1 : decode cX5_peaks 1 = .ok (.iload_n 1, 1) := by decide +kernel
theorem dX5_peaks_2 : decode cX5_peaks 2 = .ok (.invokevirtual 117, 3) := by decide +kernel
theorem dX5_peaks_5 : decode cX5_peaks 5 = .ok (.ifCond .ne 6, 3) := by decide +kernel
theorem dX5_peaks_8 : decode cX5_peaks 8 = .ok (.bipush (-101), 2) := by decide +kernel
theorem dX5_peaks_10 : decode cX5_peaks 10 = .ok (.ireturn, 1) := by decide +kernel
theorem dX5_peaks_11 : decode cX5_peaks 11 = .ok (.lload_n 2, 1) := by decide +kernel
theorem dX5_peaks_12 : decode cX5_peaks 12 = .ok (.lconst 1, 1) := by decide +kernel
theorem dX5_peaks_13 : decode cX5_peaks 13 = .ok (.lcmp, 1) := by decide +kernel
theorem dX5_peaks_14 : decode cX5_peaks 14 = .ok (.ifCond .ge 6, 3) := by decide +kernel
theorem dX5_peaks_17 : decode cX5_peaks 17 = .ok (.bipush (-102), 2) := by decide +kernel
theorem dX5_peaks_19 : decode cX5_peaks 19 = .ok (.ireturn, 1) := by decide +kernel
theorem dX5_peaks_20 : decode cX5_peaks 20 = .ok (.aload_n 0, 1) := by decide +kernel
theorem dX5_peaks_21 : decode cX5_peaks 21 = .ok (.iload_n 1, 1) := by decide +kernel
theorem dX5_peaks_22 : decode cX5_peaks 22 = .ok (.lload_n 2, 1) := by decide +kernel
theorem dX5_peaks_23 : decode cX5_peaks 23 = .ok (.invokevirtual 167, 3) := by decide +kernel
theorem dX5_peaks_26 : decode cX5_peaks 26 = .ok (.aload_n 0, 1) := by decide +kernel
theorem dX5_peaks_27 : decode cX5_peaks 27 = .ok (.getfield 162, 3) := by decide +kernel
theorem dX5_peaks_30 : decode cX5_peaks 30 = .ok (.ireturn, 1) := by decide +kernel
theorem dX5_peak_0 : decode cX5_peak 0 = .ok (.aload_n 0, 1) := by decide +kernel
theorem dX5_peak_1 : decode cX5_peak 1 = .ok (.iload_n 1, 1) := by decide +kernel
theorem dX5_peak_2 : decode cX5_peak 2 = .ok (.invokevirtual 117, 3) := by decide +kernel
theorem dX5_peak_5 : decode cX5_peak 5 = .ok (.ifCond .ne 6, 3) := by decide +kernel
theorem dX5_peak_8 : decode cX5_peak 8 = .ok (.bipush (-101), 2) := by decide +kernel
theorem dX5_peak_10 : decode cX5_peak 10 = .ok (.ireturn, 1) := by decide +kernel
theorem dX5_peak_11 : decode cX5_peak 11 = .ok (.lload_n 2, 1) := by decide +kernel
theorem dX5_peak_12 : decode cX5_peak 12 = .ok (.lconst 1, 1) := by decide +kernel
theorem dX5_peak_13 : decode cX5_peak 13 = .ok (.lcmp, 1) := by decide +kernel
theorem dX5_peak_14 : decode cX5_peak 14 = .ok (.ifCond .ge 6, 3) := by decide +kernel
theorem dX5_peak_17 : decode cX5_peak 17 = .ok (.bipush (-102), 2) := by decide +kernel
theorem dX5_peak_19 : decode cX5_peak 19 = .ok (.ireturn, 1) := by decide +kernel
theorem dX5_peak_20 : decode cX5_peak 20 = .ok (.aload_n 0, 1) := by decide +kernel
theorem dX5_peak_21 : decode cX5_peak 21 = .ok (.iload_n 1, 1) := by decide +kernel
theorem dX5_peak_22 : decode cX5_peak 22 = .ok (.lload_n 2, 1) := by decide +kernel
theorem dX5_peak_23 : decode cX5_peak 23 = .ok (.invokevirtual 167, 3) := by decide +kernel
theorem dX5_peak_26 : decode cX5_peak 26 = .ok (.iload 4, 2) := by decide +kernel
theorem dX5_peak_28 : decode cX5_peak 28 = .ok (.i2l, 1) := by decide +kernel
theorem dX5_peak_29 : decode cX5_peak 29 = .ok (.lconst 0, 1) := by decide +kernel
theorem dX5_peak_30 : decode cX5_peak 30 = .ok (.aload_n 0, 1) := by decide +kernel
theorem dX5_peak_31 : decode cX5_peak 31 = .ok (.getfield 162, 3) := by decide +kernel
theorem dX5_peak_34 : decode cX5_peak 34 = .ok (.iconst 1, 1) := by decide +kernel
theorem dX5_peak_35 : decode cX5_peak 35 = .ok (.isub, 1) := by decide +kernel
theorem dX5_peak_36 : decode cX5_peak 36 = .ok (.i2l, 1) := by decide +kernel
theorem dX5_peak_37 : decode cX5_peak 37 = .ok (.invokestatic 75, 3) := by decide +kernel
theorem dX5_peak_40 : decode cX5_peak 40 = .ok (.ifCond .eq 13, 3) := by decide +kernel
theorem dX5_peak_43 : decode cX5_peak 43 = .ok (.aload_n 0, 1) := by decide +kernel
theorem dX5_peak_44 : decode cX5_peak 44 = .ok (.getfield 66, 3) := by decide +kernel
theorem dX5_peak_47 : decode cX5_peak 47 = .ok (.iload 4, 2) := by decide +kernel
theorem dX5_peak_49 : decode cX5_peak 49 = .ok (.iaload, 1) := by decide +kernel
theorem dX5_peak_50 : decode cX5_peak 50 = .ok (.goto 4, 3) := by decide +kernel
theorem dX5_peak_53 : decode cX5_peak 53 = .ok (.iconst (-1), 1) := by decide +kernel
theorem dX5_peak_54 : decode cX5_peak 54 = .ok (.ireturn, 1) := by decide +kernel
theorem dX5_line_0 : decode cX5_line 0 = .ok (.iload_n 1, 1) := by decide +kernel
theorem dX5_line_1 : decode cX5_line 1 = .ok (.i2l, 1) := by decide +kernel
theorem dX5_line_2 : decode cX5_line 2 = .ok (.lconst 1, 1) := by decide +kernel
theorem dX5_line_3 : decode cX5_line 3 = .ok (.ldc2_w 171, 3) := by decide +kernel
theorem dX5_line_6 : decode cX5_line 6 = .ok (.invokestatic 75, 3) := by decide +kernel
theorem dX5_line_9 : decode cX5_line 9 = .ok (.ifCond .eq 25, 3) := by decide +kernel
theorem dX5_line_12 : decode cX5_line 12 = .ok (.aload_n 0, 1) := by decide +kernel
theorem dX5_line_13 : decode cX5_line 13 = .ok (.getfield 173, 3) := by decide +kernel
theorem dX5_line_16 : decode cX5_line 16 = .ok (.ifCond .le 21, 3) := by decide +kernel
theorem dX5_line_19 : decode cX5_line 19 = .ok (.iload_n 1, 1) := by decide +kernel
theorem dX5_line_20 : decode cX5_line 20 = .ok (.aload_n 0, 1) := by decide +kernel
theorem dX5_line_21 : decode cX5_line 21 = .ok (.getfield 57, 3) := by decide +kernel
theorem dX5_line_24 : decode cX5_line 24 = .ok (.aload_n 0, 1) := by decide +kernel
theorem dX5_line_25 : decode cX5_line 25 = .ok (.getfield 173, 3) := by decide +kernel
theorem dX5_line_28 : decode cX5_line 28 = .ok (.iconst 1, 1) := by decide +kernel
theorem dX5_line_29 : decode cX5_line 29 = .ok (.isub, 1) := by decide +kernel
theorem dX5_line_30 : decode cX5_line 30 = .ok (.iaload, 1) := by decide +kernel
theorem dX5_line_31 : decode cX5_line 31 = .ok (.if_icmp .gt 6, 3) := by decide +kernel
theorem dX5_line_34 : decode cX5_line 34 = .ok (.bipush (-102), 2) := by decide +kernel
theorem dX5_line_36 : decode cX5_line 36 = .ok (.ireturn, 1) := by decide +kernel
theorem dX5_line_37 : decode cX5_line 37 = .ok (.aload_n 0, 1) := by decide +kernel
theorem dX5_line_38 : decode cX5_line 38 = .ok (.getfield 173, 3) := by decide +kernel
theorem dX5_line_41 : decode cX5_line 41 = .ok (.bipush 12, 2) := by decide +kernel
theorem dX5_line_43 : decode cX5_line 43 = .ok (.if_icmp .ne 6, 3) := by decide +kernel
theorem dX5_line_46 : decode cX5_line 46 = .ok (.bipush (-104), 2) := by decide +kernel
theorem dX5_line_48 : decode cX5_line 48 = .ok (.ireturn, 1) := by decide +kernel
theorem dX5_line_49 : decode cX5_line 49 = .ok (.aload_n 0, 1) := by decide +kernel
theorem dX5_line_50 : decode cX5_line 50 = .ok (.getfield 57, 3) := by decide +kernel
theorem dX5_line_53 : decode cX5_line 53 = .ok (.aload_n 0, 1) := by decide +kernel
theorem dX5_line_54 : decode cX5_line 54 = .ok (.getfield 173, 3) := by decide +kernel
theorem dX5_line_57 : decode cX5_line 57 = .ok (.iload_n 1, 1) := by decide +kernel
theorem dX5_line_58 : decode cX5_line 58 = .ok (.iastore, 1) := by decide +kernel
theorem dX5_line_59 : decode cX5_line 59 = .ok (.aload_n 0, 1) := by decide +kernel
theorem dX5_line_60 : decode cX5_line 60 = .ok (.dup, 1) := by decide +kernel
theorem dX5_line_61 : decode cX5_line 61 = .ok (.getfield 173, 3) := by decide +kernel
theorem dX5_line_64 : decode cX5_line 64 = .ok (.iconst 1, 1) := by decide +kernel
theorem dX5_line_65 : decode cX5_line 65 = .ok (.iadd, 1) := by decide +kernel
theorem dX5_line_66 : decode cX5_line 66 = .ok (.putfield 173, 3) := by decide +kernel
theorem dX5_line_69 : decode cX5_line 69 = .ok (.aload_n 0, 1) := by decide +kernel
theorem dX5_line_70 : decode cX5_line 70 = .ok (.getfield 173, 3) := by decide +kernel
theorem dX5_line_73 : decode cX5_line 73 = .ok (.ireturn, 1) := by decide +kernel
theorem dX5_clear_0 : decode cX5_clear 0 = .ok (.aload_n 0, 1) := by decide +kernel
theorem dX5_clear_1 : decode cX5_clear 1 = .ok (.getfield 173, 3) := by decide +kernel
theorem dX5_clear_4 : decode cX5_clear 4 = .ok (.istore_n 1, 1) := by decide +kernel
theorem dX5_clear_5 : decode cX5_clear 5 = .ok (.aload_n 0, 1) := by decide +kernel
theorem dX5_clear_6 : decode cX5_clear 6 = .ok (.iconst 0, 1) := by decide +kernel
theorem dX5_clear_7 : decode cX5_clear 7 = .ok (.putfield 173, 3) := by decide +kernel
theorem dX5_clear_10 : decode cX5_clear 10 = .ok (.iload_n 1, 1) := by decide +kernel
theorem dX5_clear_11 : decode cX5_clear 11 = .ok (.ireturn, 1) := by decide +kernel
theorem dX5_waveOf_0 : decode cX5_waveOf 0 = .ok (.lload_n 0, 1) := by decide +kernel
theorem dX5_waveOf_1 : decode cX5_waveOf 1 = .ok (.lload_n 2, 1) := by decide +kernel
theorem dX5_waveOf_2 : decode cX5_waveOf 2 = .ok (.iload 4, 2) := by decide +kernel
theorem dX5_waveOf_4 : decode cX5_waveOf 4 = .ok (.i2l, 1) := by decide +kernel
theorem dX5_waveOf_5 : decode cX5_waveOf 5 = .ok (.lmul, 1) := by decide +kernel
theorem dX5_waveOf_6 : decode cX5_waveOf 6 = .ok (.ldc2_w 165, 3) := by decide +kernel
theorem dX5_waveOf_9 : decode cX5_waveOf 9 = .ok (.invokestatic 120, 3) := by decide +kernel
theorem dX5_waveOf_12 : decode cX5_waveOf 12 = .ok (.ladd, 1) := by decide +kernel
theorem dX5_waveOf_13 : decode cX5_waveOf 13 = .ok (.lreturn, 1) := by decide +kernel
theorem dX5_fitting_0 : decode cX5_fitting 0 = .ok (.iconst 0, 1) := by decide +kernel
theorem dX5_fitting_1 : decode cX5_fitting 1 = .ok (.istore 6, 2) := by decide +kernel
theorem dX5_fitting_3 : decode cX5_fitting 3 = .ok (.iconst 0, 1) := by decide +kernel
theorem dX5_fitting_4 : decode cX5_fitting 4 = .ok (.istore 7, 2) := by decide +kernel
theorem dX5_fitting_6 : decode cX5_fitting 6 = .ok (.iload 7, 2) := by decide +kernel
theorem dX5_fitting_8 : decode cX5_fitting 8 = .ok (.aload_n 0, 1) := by decide +kernel
theorem dX5_fitting_9 : decode cX5_fitting 9 = .ok (.getfield 162, 3) := by decide +kernel
theorem dX5_fitting_12 : decode cX5_fitting 12 = .ok (.if_icmp .ge 103, 3) := by decide +kernel
theorem dX5_fitting_15 : decode cX5_fitting 15 = .ok (.lload_n 1, 1) := by decide +kernel
theorem dX5_fitting_16 : decode cX5_fitting 16 = .ok (.lload_n 3, 1) := by decide +kernel
theorem dX5_fitting_17 : decode cX5_fitting 17 = .ok (.aload_n 0, 1) := by decide +kernel
theorem dX5_fitting_18 : decode cX5_fitting 18 = .ok (.getfield 66, 3) := by decide +kernel
theorem dX5_fitting_21 : decode cX5_fitting 21 = .ok (.iload 7, 2) := by decide +kernel
theorem dX5_fitting_23 : decode cX5_fitting 23 = .ok (.iaload, 1) := by decide +kernel
theorem dX5_fitting_24 : decode cX5_fitting 24 = .ok (.invokestatic 176, 3) := by decide +kernel
theorem dX5_fitting_27 : decode cX5_fitting 27 = .ok (.lstore 8, 2) := by decide +kernel
theorem dX5_fitting_29 : decode cX5_fitting 29 = .ok (.iconst 0, 1) := by decide +kernel
theorem dX5_fitting_30 : decode cX5_fitting 30 = .ok (.istore 10, 2) := by decide +kernel
theorem dX5_fitting_32 : decode cX5_fitting 32 = .ok (.iconst 0, 1) := by decide +kernel
theorem dX5_fitting_33 : decode cX5_fitting 33 = .ok (.istore 11, 2) := by decide +kernel
theorem dX5_fitting_35 : decode cX5_fitting 35 = .ok (.iload 11, 2) := by decide +kernel
theorem dX5_fitting_37 : decode cX5_fitting 37 = .ok (.aload_n 0, 1) := by decide +kernel
theorem dX5_fitting_38 : decode cX5_fitting 38 = .ok (.getfield 173, 3) := by decide +kernel
theorem dX5_fitting_41 : decode cX5_fitting 41 = .ok (.if_icmp .ge 53, 3) := by decide +kernel
theorem dX5_fitting_44 : decode cX5_fitting 44 = .ok (.iload 10, 2) := by decide +kernel
theorem dX5_fitting_46 : decode cX5_fitting 46 = .ok (.ifCond .ne 48, 3) := by decide +kernel
theorem dX5_fitting_49 : decode cX5_fitting 49 = .ok (.aload_n 0, 1) := by decide +kernel
theorem dX5_fitting_50 : decode cX5_fitting 50 = .ok (.getfield 57, 3) := by decide +kernel
theorem dX5_fitting_53 : decode cX5_fitting 53 = .ok (.iload 11, 2) := by decide +kernel
theorem dX5_fitting_55 : decode cX5_fitting 55 = .ok (.iaload, 1) := by decide +kernel
theorem dX5_fitting_56 : decode cX5_fitting 56 = .ok (.i2l, 1) := by decide +kernel
theorem dX5_fitting_57 : decode cX5_fitting 57 = .ok (.lload 8, 2) := by decide +kernel
theorem dX5_fitting_59 : decode cX5_fitting 59 = .ok (.lsub, 1) := by decide +kernel
theorem dX5_fitting_60 : decode cX5_fitting 60 = .ok (.lstore 12, 2) := by decide +kernel
theorem dX5_fitting_62 : decode cX5_fitting 62 = .ok (.lload 12, 2) := by decide +kernel
theorem dX5_fitting_64 : decode cX5_fitting 64 = .ok (.iload 5, 2) := by decide +kernel
theorem dX5_fitting_66 : decode cX5_fitting 66 = .ok (.i2l, 1) := by decide +kernel
theorem dX5_fitting_67 : decode cX5_fitting 67 = .ok (.lcmp, 1) := by decide +kernel
theorem dX5_fitting_68 : decode cX5_fitting 68 = .ok (.ifCond .gt 17, 3) := by decide +kernel
theorem dX5_fitting_71 : decode cX5_fitting 71 = .ok (.lload 12, 2) := by decide +kernel
theorem dX5_fitting_73 : decode cX5_fitting 73 = .ok (.lneg, 1) := by decide +kernel
theorem dX5_fitting_74 : decode cX5_fitting 74 = .ok (.iload 5, 2) := by decide +kernel
theorem dX5_fitting_76 : decode cX5_fitting 76 = .ok (.i2l, 1) := by decide +kernel
theorem dX5_fitting_77 : decode cX5_fitting 77 = .ok (.lcmp, 1) := by decide +kernel
theorem dX5_fitting_78 : decode cX5_fitting 78 = .ok (.ifCond .gt 7, 3) := by decide +kernel
theorem dX5_fitting_81 : decode cX5_fitting 81 = .ok (.iconst 1, 1) := by decide +kernel
theorem dX5_fitting_82 : decode cX5_fitting 82 = .ok (.goto 4, 3) := by decide +kernel
theorem dX5_fitting_85 : decode cX5_fitting 85 = .ok (.iconst 0, 1) := by decide +kernel
theorem dX5_fitting_86 : decode cX5_fitting 86 = .ok (.istore 10, 2) := by decide +kernel
theorem dX5_fitting_88 : decode cX5_fitting 88 = .ok (.iinc 11 1, 3) := by decide +kernel
theorem dX5_fitting_91 : decode cX5_fitting 91 = .ok (.goto (-56), 3) := by decide +kernel
theorem dX5_fitting_94 : decode cX5_fitting 94 = .ok (.iload 6, 2) := by decide +kernel
theorem dX5_fitting_96 : decode cX5_fitting 96 = .ok (.iload 10, 2) := by decide +kernel
theorem dX5_fitting_98 : decode cX5_fitting 98 = .ok (.ifCond .eq 7, 3) := by decide +kernel
theorem dX5_fitting_101 : decode cX5_fitting 101 = .ok (.iconst 1, 1) := by decide +kernel
theorem dX5_fitting_102 : decode cX5_fitting 102 = .ok (.goto 4, 3) := by decide +kernel
theorem dX5_fitting_105 : decode cX5_fitting 105 = .ok (.iconst 0, 1) := by decide +kernel
theorem dX5_fitting_106 : decode cX5_fitting 106 = .ok (.iadd, 1) := by decide +kernel
theorem dX5_fitting_107 : decode cX5_fitting 107 = .ok (.istore 6, 2) := by decide +kernel
theorem dX5_fitting_109 : decode cX5_fitting 109 = .ok (.iinc 7 1, 3) := by decide +kernel
theorem dX5_fitting_112 : decode cX5_fitting 112 = .ok (.goto (-106), 3) := by decide +kernel
theorem dX5_fitting_115 : decode cX5_fitting 115 = .ok (.iload 6, 2) := by decide +kernel
theorem dX5_fitting_117 : decode cX5_fitting 117 = .ok (.ireturn, 1) := by decide +kernel
theorem dX5_tryLaw_0 : decode cX5_tryLaw 0 = .ok (.ldc2_w 165, 3) := by decide +kernel
theorem dX5_tryLaw_3 : decode cX5_tryLaw 3 = .ok (.iload 4, 2) := by decide +kernel
theorem dX5_tryLaw_5 : decode cX5_tryLaw 5 = .ok (.iload_n 3, 1) := by decide +kernel
theorem dX5_tryLaw_6 : decode cX5_tryLaw 6 = .ok (.isub, 1) := by decide +kernel
theorem dX5_tryLaw_7 : decode cX5_tryLaw 7 = .ok (.i2l, 1) := by decide +kernel
theorem dX5_tryLaw_8 : decode cX5_tryLaw 8 = .ok (.lmul, 1) := by decide +kernel
theorem dX5_tryLaw_9 : decode cX5_tryLaw 9 = .ok (.iload_n 2, 1) := by decide +kernel
theorem dX5_tryLaw_10 : decode cX5_tryLaw 10 = .ok (.iload_n 1, 1) := by decide +kernel
theorem dX5_tryLaw_11 : decode cX5_tryLaw 11 = .ok (.isub, 1) := by decide +kernel
theorem dX5_tryLaw_12 : decode cX5_tryLaw 12 = .ok (.i2l, 1) := by decide +kernel
theorem dX5_tryLaw_13 : decode cX5_tryLaw 13 = .ok (.ldiv, 1) := by decide +kernel
theorem dX5_tryLaw_14 : decode cX5_tryLaw 14 = .ok (.lstore 6, 2) := by decide +kernel
theorem dX5_tryLaw_16 : decode cX5_tryLaw 16 = .ok (.lload 6, 2) := by decide +kernel
theorem dX5_tryLaw_18 : decode cX5_tryLaw 18 = .ok (.lconst 1, 1) := by decide +kernel
theorem dX5_tryLaw_19 : decode cX5_tryLaw 19 = .ok (.ldc2_w 143, 3) := by decide +kernel
theorem dX5_tryLaw_22 : decode cX5_tryLaw 22 = .ok (.invokestatic 75, 3) := by decide +kernel
theorem dX5_tryLaw_25 : decode cX5_tryLaw 25 = .ok (.ifCond .ne 4, 3) := by decide +kernel
theorem dX5_tryLaw_28 : decode cX5_tryLaw 28 = .ok (.return_, 1) := by decide +kernel
theorem dX5_tryLaw_29 : decode cX5_tryLaw 29 = .ok (.iload_n 3, 1) := by decide +kernel
theorem dX5_tryLaw_30 : decode cX5_tryLaw 30 = .ok (.i2l, 1) := by decide +kernel
theorem dX5_tryLaw_31 : decode cX5_tryLaw 31 = .ok (.lload 6, 2) := by decide +kernel
theorem dX5_tryLaw_33 : decode cX5_tryLaw 33 = .ok (.iload_n 1, 1) := by decide +kernel
theorem dX5_tryLaw_34 : decode cX5_tryLaw 34 = .ok (.i2l, 1) := by decide +kernel
theorem dX5_tryLaw_35 : decode cX5_tryLaw 35 = .ok (.lmul, 1) := by decide +kernel
theorem dX5_tryLaw_36 : decode cX5_tryLaw 36 = .ok (.ldc2_w 165, 3) := by decide +kernel
theorem dX5_tryLaw_39 : decode cX5_tryLaw 39 = .ok (.invokestatic 120, 3) := by decide +kernel
theorem dX5_tryLaw_42 : decode cX5_tryLaw 42 = .ok (.lsub, 1) := by decide +kernel
theorem dX5_tryLaw_43 : decode cX5_tryLaw 43 = .ok (.lstore 8, 2) := by decide +kernel
theorem dX5_tryLaw_45 : decode cX5_tryLaw 45 = .ok (.lload 8, 2) := by decide +kernel
theorem dX5_tryLaw_47 : decode cX5_tryLaw 47 = .ok (.ldc2_w 180, 3) := by decide +kernel
theorem dX5_tryLaw_50 : decode cX5_tryLaw 50 = .ok (.ldc2_w 171, 3) := by decide +kernel
theorem dX5_tryLaw_53 : decode cX5_tryLaw 53 = .ok (.invokestatic 75, 3) := by decide +kernel
theorem dX5_tryLaw_56 : decode cX5_tryLaw 56 = .ok (.ifCond .ne 4, 3) := by decide +kernel
theorem dX5_tryLaw_59 : decode cX5_tryLaw 59 = .ok (.return_, 1) := by decide +kernel
theorem dX5_tryLaw_60 : decode cX5_tryLaw 60 = .ok (.aload_n 0, 1) := by decide +kernel
theorem dX5_tryLaw_61 : decode cX5_tryLaw 61 = .ok (.lload 8, 2) := by decide +kernel
theorem dX5_tryLaw_63 : decode cX5_tryLaw 63 = .ok (.lload 6, 2) := by decide +kernel
theorem dX5_tryLaw_65 : decode cX5_tryLaw 65 = .ok (.iload 5, 2) := by decide +kernel
theorem dX5_tryLaw_67 : decode cX5_tryLaw 67 = .ok (.invokevirtual 182, 3) := by decide +kernel
theorem dX5_tryLaw_70 : decode cX5_tryLaw 70 = .ok (.istore 10, 2) := by decide +kernel
theorem dX5_tryLaw_72 : decode cX5_tryLaw 72 = .ok (.iload 10, 2) := by decide +kernel
theorem dX5_tryLaw_74 : decode cX5_tryLaw 74 = .ok (.iconst 2, 1) := by decide +kernel
theorem dX5_tryLaw_75 : decode cX5_tryLaw 75 = .ok (.if_icmp .lt 69, 3) := by decide +kernel
theorem dX5_tryLaw_78 : decode cX5_tryLaw 78 = .ok (.iload 10, 2) := by decide +kernel
theorem dX5_tryLaw_80 : decode cX5_tryLaw 80 = .ok (.aload_n 0, 1) := by decide +kernel
theorem dX5_tryLaw_81 : decode cX5_tryLaw 81 = .ok (.getfield 186, 3) := by decide +kernel
theorem dX5_tryLaw_84 : decode cX5_tryLaw 84 = .ok (.if_icmp .gt 42, 3) := by decide +kernel
theorem dX5_tryLaw_87 : decode cX5_tryLaw 87 = .ok (.iload 10, 2) := by decide +kernel
theorem dX5_tryLaw_89 : decode cX5_tryLaw 89 = .ok (.aload_n 0, 1) := by decide +kernel
theorem dX5_tryLaw_90 : decode cX5_tryLaw 90 = .ok (.getfield 186, 3) := by decide +kernel
theorem dX5_tryLaw_93 : decode cX5_tryLaw 93 = .ok (.if_icmp .ne 51, 3) := by decide +kernel
theorem dX5_tryLaw_96 : decode cX5_tryLaw 96 = .ok (.lload 6, 2) := by decide +kernel
theorem dX5_tryLaw_98 : decode cX5_tryLaw 98 = .ok (.aload_n 0, 1) := by decide +kernel
theorem dX5_tryLaw_99 : decode cX5_tryLaw 99 = .ok (.getfield 189, 3) := by decide +kernel
theorem dX5_tryLaw_102 : decode cX5_tryLaw 102 = .ok (.lcmp, 1) := by decide +kernel
theorem dX5_tryLaw_103 : decode cX5_tryLaw 103 = .ok (.ifCond .lt 23, 3) := by decide +kernel
theorem dX5_tryLaw_106 : decode cX5_tryLaw 106 = .ok (.lload 6, 2) := by decide +kernel
theorem dX5_tryLaw_108 : decode cX5_tryLaw 108 = .ok (.aload_n 0, 1) := by decide +kernel
theorem dX5_tryLaw_109 : decode cX5_tryLaw 109 = .ok (.getfield 189, 3) := by decide +kernel
theorem dX5_tryLaw_112 : decode cX5_tryLaw 112 = .ok (.lcmp, 1) := by decide +kernel
theorem dX5_tryLaw_113 : decode cX5_tryLaw 113 = .ok (.ifCond .ne 31, 3) := by decide +kernel
theorem dX5_tryLaw_116 : decode cX5_tryLaw 116 = .ok (.lload 8, 2) := by decide +kernel
theorem dX5_tryLaw_118 : decode cX5_tryLaw 118 = .ok (.aload_n 0, 1) := by decide +kernel
theorem dX5_tryLaw_119 : decode cX5_tryLaw 119 = .ok (.getfield 193, 3) := by decide +kernel
theorem dX5_tryLaw_122 : decode cX5_tryLaw 122 = .ok (.lcmp, 1) := by decide +kernel
theorem dX5_tryLaw_123 : decode cX5_tryLaw 123 = .ok (.ifCond .ge 21, 3) := by decide +kernel
theorem dX5_tryLaw_126 : decode cX5_tryLaw 126 = .ok (.aload_n 0, 1) := by decide +kernel
theorem dX5_tryLaw_127 : decode cX5_tryLaw 127 = .ok (.iload 10, 2) := by decide +kernel
theorem dX5_tryLaw_129 : decode cX5_tryLaw 129 = .ok (.putfield 186, 3) := by decide +kernel
theorem dX5_tryLaw_132 : decode cX5_tryLaw 132 = .ok (.aload_n 0, 1) := by decide +kernel
theorem dX5_tryLaw_133 : decode cX5_tryLaw 133 = .ok (.lload 8, 2) := by decide +kernel
theorem dX5_tryLaw_135 : decode cX5_tryLaw 135 = .ok (.putfield 193, 3) := by decide +kernel
theorem dX5_tryLaw_138 : decode cX5_tryLaw 138 = .ok (.aload_n 0, 1) := by decide +kernel
theorem dX5_tryLaw_139 : decode cX5_tryLaw 139 = .ok (.lload 6, 2) := by decide +kernel
theorem dX5_tryLaw_141 : decode cX5_tryLaw 141 = .ok (.putfield 189, 3) := by decide +kernel
theorem dX5_tryLaw_144 : decode cX5_tryLaw 144 = .ok (.return_, 1) := by decide +kernel
theorem dX5_match_0 : decode cX5_match 0 = .ok (.aload_n 0, 1) := by decide +kernel
theorem dX5_match_1 : decode cX5_match 1 = .ok (.iload_n 1, 1) := by decide +kernel
theorem dX5_match_2 : decode cX5_match 2 = .ok (.invokevirtual 117, 3) := by decide +kernel
theorem dX5_match_5 : decode cX5_match 5 = .ok (.ifCond .ne 6, 3) := by decide +kernel
theorem dX5_match_8 : decode cX5_match 8 = .ok (.bipush (-101), 2) := by decide +kernel
theorem dX5_match_10 : decode cX5_match 10 = .ok (.ireturn, 1) := by decide +kernel
theorem dX5_match_11 : decode cX5_match 11 = .ok (.lload_n 2, 1) := by decide +kernel
theorem dX5_match_12 : decode cX5_match 12 = .ok (.lconst 1, 1) := by decide +kernel
theorem dX5_match_13 : decode cX5_match 13 = .ok (.lcmp, 1) := by decide +kernel
theorem dX5_match_14 : decode cX5_match 14 = .ok (.ifCond .lt 16, 3) := by decide +kernel
theorem dX5_match_17 : decode cX5_match 17 = .ok (.iload 4, 2) := by decide +kernel
theorem dX5_match_19 : decode cX5_match 19 = .ok (.i2l, 1) := by decide +kernel
theorem dX5_match_20 : decode cX5_match 20 = .ok (.lconst 0, 1) := by decide +kernel
theorem dX5_match_21 : decode cX5_match 21 = .ok (.ldc2_w 196, 3) := by decide +kernel
theorem dX5_match_24 : decode cX5_match 24 = .ok (.invokestatic 75, 3) := by decide +kernel
theorem dX5_match_27 : decode cX5_match 27 = .ok (.ifCond .ne 6, 3) := by decide +kernel
theorem dX5_match_30 : decode cX5_match 30 = .ok (.bipush (-102), 2) := by decide +kernel
theorem dX5_match_32 : decode cX5_match 32 = .ok (.ireturn, 1) := by decide +kernel
theorem dX5_match_33 : decode cX5_match 33 = .ok (.aload_n 0, 1) := by decide +kernel
theorem dX5_match_34 : decode cX5_match 34 = .ok (.iload_n 1, 1) := by decide +kernel
theorem dX5_match_35 : decode cX5_match 35 = .ok (.lload_n 2, 1) := by decide +kernel
theorem dX5_match_36 : decode cX5_match 36 = .ok (.invokevirtual 167, 3) := by decide +kernel
theorem dX5_match_39 : decode cX5_match 39 = .ok (.aload_n 0, 1) := by decide +kernel
theorem dX5_match_40 : decode cX5_match 40 = .ok (.getfield 162, 3) := by decide +kernel
theorem dX5_match_43 : decode cX5_match 43 = .ok (.bipush 9, 2) := by decide +kernel
theorem dX5_match_45 : decode cX5_match 45 = .ok (.if_icmp .gt 13, 3) := by decide +kernel
theorem dX5_match_48 : decode cX5_match 48 = .ok (.aload_n 0, 1) := by decide +kernel
theorem dX5_match_49 : decode cX5_match 49 = .ok (.getfield 198, 3) := by decide +kernel
theorem dX5_match_52 : decode cX5_match 52 = .ok (.sipush 200, 3) := by decide +kernel
theorem dX5_match_55 : decode cX5_match 55 = .ok (.if_icmp .ne 6, 3) := by decide +kernel
theorem dX5_match_58 : decode cX5_match 58 = .ok (.bipush (-104), 2) := by decide +kernel
theorem dX5_match_60 : decode cX5_match 60 = .ok (.ireturn, 1) := by decide +kernel
theorem dX5_match_61 : decode cX5_match 61 = .ok (.aload_n 0, 1) := by decide +kernel
theorem dX5_match_62 : decode cX5_match 62 = .ok (.dup, 1) := by decide +kernel
theorem dX5_match_63 : decode cX5_match 63 = .ok (.getfield 198, 3) := by decide +kernel
theorem dX5_match_66 : decode cX5_match 66 = .ok (.iconst 1, 1) := by decide +kernel
theorem dX5_match_67 : decode cX5_match 67 = .ok (.iadd, 1) := by decide +kernel
theorem dX5_match_68 : decode cX5_match 68 = .ok (.putfield 198, 3) := by decide +kernel
theorem dX5_match_71 : decode cX5_match 71 = .ok (.aload_n 0, 1) := by decide +kernel
theorem dX5_match_72 : decode cX5_match 72 = .ok (.iconst 0, 1) := by decide +kernel
theorem dX5_match_73 : decode cX5_match 73 = .ok (.putfield 186, 3) := by decide +kernel
theorem dX5_match_76 : decode cX5_match 76 = .ok (.iconst 0, 1) := by decide +kernel
theorem dX5_match_77 : decode cX5_match 77 = .ok (.istore 5, 2) := by decide +kernel
theorem dX5_match_79 : decode cX5_match 79 = .ok (.iload 5, 2) := by decide +kernel
theorem dX5_match_81 : decode cX5_match 81 = .ok (.aload_n 0, 1) := by decide +kernel
theorem dX5_match_82 : decode cX5_match 82 = .ok (.getfield 162, 3) := by decide +kernel
theorem dX5_match_85 : decode cX5_match 85 = .ok (.if_icmp .ge 103, 3) := by decide +kernel
theorem dX5_match_88 : decode cX5_match 88 = .ok (.iload 5, 2) := by decide +kernel
theorem dX5_match_90 : decode cX5_match 90 = .ok (.iconst 1, 1) := by decide +kernel
theorem dX5_match_91 : decode cX5_match 91 = .ok (.iadd, 1) := by decide +kernel
theorem dX5_match_92 : decode cX5_match 92 = .ok (.istore 6, 2) := by decide +kernel
theorem dX5_match_94 : decode cX5_match 94 = .ok (.iload 6, 2) := by decide +kernel
theorem dX5_match_96 : decode cX5_match 96 = .ok (.aload_n 0, 1) := by decide +kernel
theorem dX5_match_97 : decode cX5_match 97 = .ok (.getfield 162, 3) := by decide +kernel
theorem dX5_match_100 : decode cX5_match 100 = .ok (.if_icmp .ge 82, 3) := by decide +kernel
theorem dX5_match_103 : decode cX5_match 103 = .ok (.iconst 0, 1) := by decide +kernel
theorem dX5_match_104 : decode cX5_match 104 = .ok (.istore 7, 2) := by decide +kernel
theorem dX5_match_106 : decode cX5_match 106 = .ok (.iload 7, 2) := by decide +kernel
theorem dX5_match_108 : decode cX5_match 108 = .ok (.aload_n 0, 1) := by decide +kernel
theorem dX5_match_109 : decode cX5_match 109 = .ok (.getfield 173, 3) := by decide +kernel
theorem dX5_match_112 : decode cX5_match 112 = .ok (.if_icmp .ge 64, 3) := by decide +kernel
theorem dX5_match_115 : decode cX5_match 115 = .ok (.iload 7, 2) := by decide +kernel
theorem dX5_match_117 : decode cX5_match 117 = .ok (.iconst 1, 1) := by decide +kernel
theorem dX5_match_118 : decode cX5_match 118 = .ok (.iadd, 1) := by decide +kernel
theorem dX5_match_119 : decode cX5_match 119 = .ok (.istore 8, 2) := by decide +kernel
theorem dX5_match_121 : decode cX5_match 121 = .ok (.iload 8, 2) := by decide +kernel
theorem dX5_match_123 : decode cX5_match 123 = .ok (.aload_n 0, 1) := by decide +kernel
theorem dX5_match_124 : decode cX5_match 124 = .ok (.getfield 173, 3) := by decide +kernel
theorem dX5_match_127 : decode cX5_match 127 = .ok (.if_icmp .ge 43, 3) := by decide +kernel
theorem dX5_match_130 : decode cX5_match 130 = .ok (.aload_n 0, 1) := by decide +kernel
theorem dX5_match_131 : decode cX5_match 131 = .ok (.aload_n 0, 1) := by decide +kernel
theorem dX5_match_132 : decode cX5_match 132 = .ok (.getfield 66, 3) := by decide +kernel
theorem dX5_match_135 : decode cX5_match 135 = .ok (.iload 5, 2) := by decide +kernel
theorem dX5_match_137 : decode cX5_match 137 = .ok (.iaload, 1) := by decide +kernel
theorem dX5_match_138 : decode cX5_match 138 = .ok (.aload_n 0, 1) := by decide +kernel
theorem dX5_match_139 : decode cX5_match 139 = .ok (.getfield 66, 3) := by decide +kernel
theorem dX5_match_142 : decode cX5_match 142 = .ok (.iload 6, 2) := by decide +kernel
theorem dX5_match_144 : decode cX5_match 144 = .ok (.iaload, 1) := by decide +kernel
theorem dX5_match_145 : decode cX5_match 145 = .ok (.aload_n 0, 1) := by decide +kernel
theorem dX5_match_146 : decode cX5_match 146 = .ok (.getfield 57, 3) := by decide +kernel
theorem dX5_match_149 : decode cX5_match 149 = .ok (.iload 7, 2) := by decide +kernel
theorem dX5_match_151 : decode cX5_match 151 = .ok (.iaload, 1) := by decide +kernel
theorem dX5_match_152 : decode cX5_match 152 = .ok (.aload_n 0, 1) := by decide +kernel
theorem dX5_match_153 : decode cX5_match 153 = .ok (.getfield 57, 3) := by decide +kernel
theorem dX5_match_156 : decode cX5_match 156 = .ok (.iload 8, 2) := by decide +kernel
theorem dX5_match_158 : decode cX5_match 158 = .ok (.iaload, 1) := by decide +kernel
theorem dX5_match_159 : decode cX5_match 159 = .ok (.iload 4, 2) := by decide +kernel
theorem dX5_match_161 : decode cX5_match 161 = .ok (.invokevirtual 201, 3) := by decide +kernel
theorem dX5_match_164 : decode cX5_match 164 = .ok (.iinc 8 1, 3) := by decide +kernel
theorem dX5_match_167 : decode cX5_match 167 = .ok (.goto (-46), 3) := by decide +kernel
theorem dX5_match_170 : decode cX5_match 170 = .ok (.iinc 7 1, 3) := by decide +kernel
theorem dX5_match_173 : decode cX5_match 173 = .ok (.goto (-67), 3) := by decide +kernel
theorem dX5_match_176 : decode cX5_match 176 = .ok (.iinc 6 1, 3) := by decide +kernel
theorem dX5_match_179 : decode cX5_match 179 = .ok (.goto (-85), 3) := by decide +kernel
theorem dX5_match_182 : decode cX5_match 182 = .ok (.iinc 5 1, 3) := by decide +kernel
theorem dX5_match_185 : decode cX5_match 185 = .ok (.goto (-106), 3) := by decide +kernel
theorem dX5_match_188 : decode cX5_match 188 = .ok (.aload_n 0, 1) := by decide +kernel
theorem dX5_match_189 : decode cX5_match 189 = .ok (.getfield 186, 3) := by decide +kernel
theorem dX5_match_192 : decode cX5_match 192 = .ok (.ifCond .le 42, 3) := by decide +kernel
theorem dX5_match_195 : decode cX5_match 195 = .ok (.aload_n 0, 1) := by decide +kernel
theorem dX5_match_196 : decode cX5_match 196 = .ok (.getfield 45, 3) := by decide +kernel
theorem dX5_match_199 : decode cX5_match 199 = .ok (.iload_n 1, 1) := by decide +kernel
theorem dX5_match_200 : decode cX5_match 200 = .ok (.iconst 1, 1) := by decide +kernel
theorem dX5_match_201 : decode cX5_match 201 = .ok (.bastore, 1) := by decide +kernel
theorem dX5_match_202 : decode cX5_match 202 = .ok (.aload_n 0, 1) := by decide +kernel
theorem dX5_match_203 : decode cX5_match 203 = .ok (.getfield 48, 3) := by decide +kernel
theorem dX5_match_206 : decode cX5_match 206 = .ok (.iload_n 1, 1) := by decide +kernel
theorem dX5_match_207 : decode cX5_match 207 = .ok (.aload_n 0, 1) := by decide +kernel
theorem dX5_match_208 : decode cX5_match 208 = .ok (.getfield 193, 3) := by decide +kernel
theorem dX5_match_211 : decode cX5_match 211 = .ok (.l2i, 1) := by decide +kernel
theorem dX5_match_212 : decode cX5_match 212 = .ok (.iastore, 1) := by decide +kernel
theorem dX5_match_213 : decode cX5_match 213 = .ok (.aload_n 0, 1) := by decide +kernel
theorem dX5_match_214 : decode cX5_match 214 = .ok (.getfield 51, 3) := by decide +kernel
theorem dX5_match_217 : decode cX5_match 217 = .ok (.iload_n 1, 1) := by decide +kernel
theorem dX5_match_218 : decode cX5_match 218 = .ok (.aload_n 0, 1) := by decide +kernel
theorem dX5_match_219 : decode cX5_match 219 = .ok (.getfield 189, 3) := by decide +kernel
theorem dX5_match_222 : decode cX5_match 222 = .ok (.l2i, 1) := by decide +kernel
theorem dX5_match_223 : decode cX5_match 223 = .ok (.iastore, 1) := by decide +kernel
theorem dX5_match_224 : decode cX5_match 224 = .ok (.aload_n 0, 1) := by decide +kernel
theorem dX5_match_225 : decode cX5_match 225 = .ok (.getfield 54, 3) := by decide +kernel
theorem dX5_match_228 : decode cX5_match 228 = .ok (.iload_n 1, 1) := by decide +kernel
theorem dX5_match_229 : decode cX5_match 229 = .ok (.aload_n 0, 1) := by decide +kernel
theorem dX5_match_230 : decode cX5_match 230 = .ok (.getfield 186, 3) := by decide +kernel
theorem dX5_match_233 : decode cX5_match 233 = .ok (.iastore, 1) := by decide +kernel
theorem dX5_match_234 : decode cX5_match 234 = .ok (.aload_n 0, 1) := by decide +kernel
theorem dX5_match_235 : decode cX5_match 235 = .ok (.getfield 186, 3) := by decide +kernel
theorem dX5_match_238 : decode cX5_match 238 = .ok (.ireturn, 1) := by decide +kernel
theorem dX5_law_0 : decode cX5_law 0 = .ok (.aload_n 0, 1) := by decide +kernel
theorem dX5_law_1 : decode cX5_law 1 = .ok (.iload_n 1, 1) := by decide +kernel
theorem dX5_law_2 : decode cX5_law 2 = .ok (.invokevirtual 117, 3) := by decide +kernel
theorem dX5_law_5 : decode cX5_law 5 = .ok (.ifCond .ne 6, 3) := by decide +kernel
theorem dX5_law_8 : decode cX5_law 8 = .ok (.bipush (-101), 2) := by decide +kernel
theorem dX5_law_10 : decode cX5_law 10 = .ok (.ireturn, 1) := by decide +kernel
theorem dX5_law_11 : decode cX5_law 11 = .ok (.iload_n 2, 1) := by decide +kernel
theorem dX5_law_12 : decode cX5_law 12 = .ok (.i2l, 1) := by decide +kernel
theorem dX5_law_13 : decode cX5_law 13 = .ok (.ldc2_w 180, 3) := by decide +kernel
theorem dX5_law_16 : decode cX5_law 16 = .ok (.ldc2_w 171, 3) := by decide +kernel
theorem dX5_law_19 : decode cX5_law 19 = .ok (.invokestatic 75, 3) := by decide +kernel
theorem dX5_law_22 : decode cX5_law 22 = .ok (.ifCond .eq 15, 3) := by decide +kernel
theorem dX5_law_25 : decode cX5_law 25 = .ok (.iload_n 3, 1) := by decide +kernel
theorem dX5_law_26 : decode cX5_law 26 = .ok (.i2l, 1) := by decide +kernel
theorem dX5_law_27 : decode cX5_law 27 = .ok (.lconst 1, 1) := by decide +kernel
theorem dX5_law_28 : decode cX5_law 28 = .ok (.ldc2_w 143, 3) := by decide +kernel
theorem dX5_law_31 : decode cX5_law 31 = .ok (.invokestatic 75, 3) := by decide +kernel
theorem dX5_law_34 : decode cX5_law 34 = .ok (.ifCond .ne 6, 3) := by decide +kernel
theorem dX5_law_37 : decode cX5_law 37 = .ok (.bipush (-102), 2) := by decide +kernel
theorem dX5_law_39 : decode cX5_law 39 = .ok (.ireturn, 1) := by decide +kernel
theorem dX5_law_40 : decode cX5_law 40 = .ok (.aload_n 0, 1) := by decide +kernel
theorem dX5_law_41 : decode cX5_law 41 = .ok (.getfield 38, 3) := by decide +kernel
theorem dX5_law_44 : decode cX5_law 44 = .ok (.iload_n 1, 1) := by decide +kernel
theorem dX5_law_45 : decode cX5_law 45 = .ok (.iaload, 1) := by decide +kernel
theorem dX5_law_46 : decode cX5_law 46 = .ok (.ifCond .ne 6, 3) := by decide +kernel
theorem dX5_law_49 : decode cX5_law 49 = .ok (.bipush (-103), 2) := by decide +kernel
theorem dX5_law_51 : decode cX5_law 51 = .ok (.ireturn, 1) := by decide +kernel
theorem dX5_law_52 : decode cX5_law 52 = .ok (.aload_n 0, 1) := by decide +kernel
theorem dX5_law_53 : decode cX5_law 53 = .ok (.getfield 45, 3) := by decide +kernel
theorem dX5_law_56 : decode cX5_law 56 = .ok (.iload_n 1, 1) := by decide +kernel
theorem dX5_law_57 : decode cX5_law 57 = .ok (.iconst 1, 1) := by decide +kernel
theorem dX5_law_58 : decode cX5_law 58 = .ok (.bastore, 1) := by decide +kernel
theorem dX5_law_59 : decode cX5_law 59 = .ok (.aload_n 0, 1) := by decide +kernel
theorem dX5_law_60 : decode cX5_law 60 = .ok (.getfield 48, 3) := by decide +kernel
theorem dX5_law_63 : decode cX5_law 63 = .ok (.iload_n 1, 1) := by decide +kernel
theorem dX5_law_64 : decode cX5_law 64 = .ok (.iload_n 2, 1) := by decide +kernel
theorem dX5_law_65 : decode cX5_law 65 = .ok (.iastore, 1) := by decide +kernel
theorem dX5_law_66 : decode cX5_law 66 = .ok (.aload_n 0, 1) := by decide +kernel
theorem dX5_law_67 : decode cX5_law 67 = .ok (.getfield 51, 3) := by decide +kernel
theorem dX5_law_70 : decode cX5_law 70 = .ok (.iload_n 1, 1) := by decide +kernel
theorem dX5_law_71 : decode cX5_law 71 = .ok (.iload_n 3, 1) := by decide +kernel
theorem dX5_law_72 : decode cX5_law 72 = .ok (.iastore, 1) := by decide +kernel
theorem dX5_law_73 : decode cX5_law 73 = .ok (.aload_n 0, 1) := by decide +kernel
theorem dX5_law_74 : decode cX5_law 74 = .ok (.getfield 54, 3) := by decide +kernel
theorem dX5_law_77 : decode cX5_law 77 = .ok (.iload_n 1, 1) := by decide +kernel
theorem dX5_law_78 : decode cX5_law 78 = .ok (.iconst 0, 1) := by decide +kernel
theorem dX5_law_79 : decode cX5_law 79 = .ok (.iastore, 1) := by decide +kernel
theorem dX5_law_80 : decode cX5_law 80 = .ok (.iconst 1, 1) := by decide +kernel
theorem dX5_law_81 : decode cX5_law 81 = .ok (.ireturn, 1) := by decide +kernel
theorem dX5_wave_0 : decode cX5_wave 0 = .ok (.aload_n 0, 1) := by decide +kernel
theorem dX5_wave_1 : decode cX5_wave 1 = .ok (.iload_n 1, 1) := by decide +kernel
theorem dX5_wave_2 : decode cX5_wave 2 = .ok (.invokevirtual 117, 3) := by decide +kernel
theorem dX5_wave_5 : decode cX5_wave 5 = .ok (.ifCond .ne 6, 3) := by decide +kernel
theorem dX5_wave_8 : decode cX5_wave 8 = .ok (.ldc 205, 2) := by decide +kernel
theorem dX5_wave_10 : decode cX5_wave 10 = .ok (.ireturn, 1) := by decide +kernel
theorem dX5_wave_11 : decode cX5_wave 11 = .ok (.iload_n 2, 1) := by decide +kernel
theorem dX5_wave_12 : decode cX5_wave 12 = .ok (.i2l, 1) := by decide +kernel
theorem dX5_wave_13 : decode cX5_wave 13 = .ok (.lconst 0, 1) := by decide +kernel
theorem dX5_wave_14 : decode cX5_wave 14 = .ok (.ldc2_w 206, 3) := by decide +kernel
theorem dX5_wave_17 : decode cX5_wave 17 = .ok (.invokestatic 75, 3) := by decide +kernel
theorem dX5_wave_20 : decode cX5_wave 20 = .ok (.ifCond .ne 6, 3) := by decide +kernel
theorem dX5_wave_23 : decode cX5_wave 23 = .ok (.ldc 208, 2) := by decide +kernel
theorem dX5_wave_25 : decode cX5_wave 25 = .ok (.ireturn, 1) := by decide +kernel
theorem dX5_wave_26 : decode cX5_wave 26 = .ok (.aload_n 0, 1) := by decide +kernel
theorem dX5_wave_27 : decode cX5_wave 27 = .ok (.getfield 45, 3) := by decide +kernel
theorem dX5_wave_30 : decode cX5_wave 30 = .ok (.iload_n 1, 1) := by decide +kernel
theorem dX5_wave_31 : decode cX5_wave 31 = .ok (.baload, 1) := by decide +kernel
theorem dX5_wave_32 : decode cX5_wave 32 = .ok (.ifCond .eq 25, 3) := by decide +kernel
theorem dX5_wave_35 : decode cX5_wave 35 = .ok (.aload_n 0, 1) := by decide +kernel
theorem dX5_wave_36 : decode cX5_wave 36 = .ok (.getfield 48, 3) := by decide +kernel
theorem dX5_wave_39 : decode cX5_wave 39 = .ok (.iload_n 1, 1) := by decide +kernel
theorem dX5_wave_40 : decode cX5_wave 40 = .ok (.iaload, 1) := by decide +kernel
theorem dX5_wave_41 : decode cX5_wave 41 = .ok (.i2l, 1) := by decide +kernel
theorem dX5_wave_42 : decode cX5_wave 42 = .ok (.aload_n 0, 1) := by decide +kernel
theorem dX5_wave_43 : decode cX5_wave 43 = .ok (.getfield 51, 3) := by decide +kernel
theorem dX5_wave_46 : decode cX5_wave 46 = .ok (.iload_n 1, 1) := by decide +kernel
theorem dX5_wave_47 : decode cX5_wave 47 = .ok (.iaload, 1) := by decide +kernel
theorem dX5_wave_48 : decode cX5_wave 48 = .ok (.i2l, 1) := by decide +kernel
theorem dX5_wave_49 : decode cX5_wave 49 = .ok (.iload_n 2, 1) := by decide +kernel
theorem dX5_wave_50 : decode cX5_wave 50 = .ok (.invokestatic 176, 3) := by decide +kernel
theorem dX5_wave_53 : decode cX5_wave 53 = .ok (.l2i, 1) := by decide +kernel
theorem dX5_wave_54 : decode cX5_wave 54 = .ok (.goto 5, 3) := by decide +kernel
theorem dX5_wave_57 : decode cX5_wave 57 = .ok (.ldc 209, 2) := by decide +kernel
theorem dX5_wave_59 : decode cX5_wave 59 = .ok (.ireturn, 1) := by decide +kernel
theorem dX5_columnFor_0 : decode cX5_columnFor 0 = .ok (.lload_n 2, 1) := by decide +kernel
theorem dX5_columnFor_1 : decode cX5_columnFor 1 = .ok (.aload_n 0, 1) := by decide +kernel
theorem dX5_columnFor_2 : decode cX5_columnFor 2 = .ok (.getfield 48, 3) := by decide +kernel
theorem dX5_columnFor_5 : decode cX5_columnFor 5 = .ok (.iload_n 1, 1) := by decide +kernel
theorem dX5_columnFor_6 : decode cX5_columnFor 6 = .ok (.iaload, 1) := by decide +kernel
theorem dX5_columnFor_7 : decode cX5_columnFor 7 = .ok (.i2l, 1) := by decide +kernel
theorem dX5_columnFor_8 : decode cX5_columnFor 8 = .ok (.lsub, 1) := by decide +kernel
theorem dX5_columnFor_9 : decode cX5_columnFor 9 = .ok (.lstore 4, 2) := by decide +kernel
theorem dX5_columnFor_11 : decode cX5_columnFor 11 = .ok (.lload 4, 2) := by decide +kernel
theorem dX5_columnFor_13 : decode cX5_columnFor 13 = .ok (.lconst 0, 1) := by decide +kernel
theorem dX5_columnFor_14 : decode cX5_columnFor 14 = .ok (.lcmp, 1) := by decide +kernel
theorem dX5_columnFor_15 : decode cX5_columnFor 15 = .ok (.ifCond .ge 5, 3) := by decide +kernel
theorem dX5_columnFor_18 : decode cX5_columnFor 18 = .ok (.iconst (-1), 1) := by decide +kernel
theorem dX5_columnFor_19 : decode cX5_columnFor 19 = .ok (.ireturn, 1) := by decide +kernel
theorem dX5_columnFor_20 : decode cX5_columnFor 20 = .ok (.lload 4, 2) := by decide +kernel
theorem dX5_columnFor_22 : decode cX5_columnFor 22 = .ok (.aload_n 0, 1) := by decide +kernel
theorem dX5_columnFor_23 : decode cX5_columnFor 23 = .ok (.getfield 51, 3) := by decide +kernel
theorem dX5_columnFor_26 : decode cX5_columnFor 26 = .ok (.iload_n 1, 1) := by decide +kernel
theorem dX5_columnFor_27 : decode cX5_columnFor 27 = .ok (.iaload, 1) := by decide +kernel
theorem dX5_columnFor_28 : decode cX5_columnFor 28 = .ok (.i2l, 1) := by decide +kernel
theorem dX5_columnFor_29 : decode cX5_columnFor 29 = .ok (.ldiv, 1) := by decide +kernel
theorem dX5_columnFor_30 : decode cX5_columnFor 30 = .ok (.lstore 6, 2) := by decide +kernel
theorem dX5_columnFor_32 : decode cX5_columnFor 32 = .ok (.lload 4, 2) := by decide +kernel
theorem dX5_columnFor_34 : decode cX5_columnFor 34 = .ok (.aload_n 0, 1) := by decide +kernel
theorem dX5_columnFor_35 : decode cX5_columnFor 35 = .ok (.getfield 51, 3) := by decide +kernel
theorem dX5_columnFor_38 : decode cX5_columnFor 38 = .ok (.iload_n 1, 1) := by decide +kernel
theorem dX5_columnFor_39 : decode cX5_columnFor 39 = .ok (.iaload, 1) := by decide +kernel
theorem dX5_columnFor_40 : decode cX5_columnFor 40 = .ok (.i2l, 1) := by decide +kernel
theorem dX5_columnFor_41 : decode cX5_columnFor 41 = .ok (.lrem, 1) := by decide +kernel
theorem dX5_columnFor_42 : decode cX5_columnFor 42 = .ok (.lconst 0, 1) := by decide +kernel
theorem dX5_columnFor_43 : decode cX5_columnFor 43 = .ok (.lcmp, 1) := by decide +kernel
theorem dX5_columnFor_44 : decode cX5_columnFor 44 = .ok (.ifCond .ne 7, 3) := by decide +kernel
theorem dX5_columnFor_47 : decode cX5_columnFor 47 = .ok (.iconst 1, 1) := by decide +kernel
theorem dX5_columnFor_48 : decode cX5_columnFor 48 = .ok (.goto 4, 3) := by decide +kernel
theorem dX5_columnFor_51 : decode cX5_columnFor 51 = .ok (.iconst 0, 1) := by decide +kernel
theorem dX5_columnFor_52 : decode cX5_columnFor 52 = .ok (.istore 8, 2) := by decide +kernel
theorem dX5_columnFor_54 : decode cX5_columnFor 54 = .ok (.aload_n 0, 1) := by decide +kernel
theorem dX5_columnFor_55 : decode cX5_columnFor 55 = .ok (.getfield 38, 3) := by decide +kernel
theorem dX5_columnFor_58 : decode cX5_columnFor 58 = .ok (.iload_n 1, 1) := by decide +kernel
theorem dX5_columnFor_59 : decode cX5_columnFor 59 = .ok (.iaload, 1) := by decide +kernel
theorem dX5_columnFor_60 : decode cX5_columnFor 60 = .ok (.iconst 1, 1) := by decide +kernel
theorem dX5_columnFor_61 : decode cX5_columnFor 61 = .ok (.isub, 1) := by decide +kernel
theorem dX5_columnFor_62 : decode cX5_columnFor 62 = .ok (.i2l, 1) := by decide +kernel
theorem dX5_columnFor_63 : decode cX5_columnFor 63 = .ok (.lstore 9, 2) := by decide +kernel
theorem dX5_columnFor_65 : decode cX5_columnFor 65 = .ok (.lload 6, 2) := by decide +kernel
theorem dX5_columnFor_67 : decode cX5_columnFor 67 = .ok (.lload 9, 2) := by decide +kernel
theorem dX5_columnFor_69 : decode cX5_columnFor 69 = .ok (.lcmp, 1) := by decide +kernel
theorem dX5_columnFor_70 : decode cX5_columnFor 70 = .ok (.ifCond .le 5, 3) := by decide +kernel
theorem dX5_columnFor_73 : decode cX5_columnFor 73 = .ok (.iconst (-1), 1) := by decide +kernel
theorem dX5_columnFor_74 : decode cX5_columnFor 74 = .ok (.ireturn, 1) := by decide +kernel
theorem dX5_columnFor_75 : decode cX5_columnFor 75 = .ok (.lload 6, 2) := by decide +kernel
theorem dX5_columnFor_77 : decode cX5_columnFor 77 = .ok (.lload 9, 2) := by decide +kernel
theorem dX5_columnFor_79 : decode cX5_columnFor 79 = .ok (.lcmp, 1) := by decide +kernel
theorem dX5_columnFor_80 : decode cX5_columnFor 80 = .ok (.ifCond .lt 8, 3) := by decide +kernel
theorem dX5_columnFor_83 : decode cX5_columnFor 83 = .ok (.iload 8, 2) := by decide +kernel
theorem dX5_columnFor_85 : decode cX5_columnFor 85 = .ok (.ifCond .eq 9, 3) := by decide +kernel
theorem dX5_columnFor_88 : decode cX5_columnFor 88 = .ok (.lload 6, 2) := by decide +kernel
theorem dX5_columnFor_90 : decode cX5_columnFor 90 = .ok (.l2i, 1) := by decide +kernel
theorem dX5_columnFor_91 : decode cX5_columnFor 91 = .ok (.goto 4, 3) := by decide +kernel
theorem dX5_columnFor_94 : decode cX5_columnFor 94 = .ok (.iconst (-1), 1) := by decide +kernel
theorem dX5_columnFor_95 : decode cX5_columnFor 95 = .ok (.ireturn, 1) := by decide +kernel
theorem dX5_join_0 : decode cX5_join 0 = .ok (.iload_n 1, 1) := by decide +kernel
theorem dX5_join_1 : decode cX5_join 1 = .ok (.i2l, 1) := by decide +kernel
theorem dX5_join_2 : decode cX5_join 2 = .ok (.ldc2_w 180, 3) := by decide +kernel
theorem dX5_join_5 : decode cX5_join 5 = .ok (.ldc2_w 171, 3) := by decide +kernel
theorem dX5_join_8 : decode cX5_join 8 = .ok (.invokestatic 75, 3) := by decide +kernel
theorem dX5_join_11 : decode cX5_join 11 = .ok (.ifCond .eq 27, 3) := by decide +kernel
theorem dX5_join_14 : decode cX5_join 14 = .ok (.iload_n 2, 1) := by decide +kernel
theorem dX5_join_15 : decode cX5_join 15 = .ok (.i2l, 1) := by decide +kernel
theorem dX5_join_16 : decode cX5_join 16 = .ok (.lconst 1, 1) := by decide +kernel
theorem dX5_join_17 : decode cX5_join 17 = .ok (.ldc2_w 143, 3) := by decide +kernel
theorem dX5_join_20 : decode cX5_join 20 = .ok (.invokestatic 75, 3) := by decide +kernel
theorem dX5_join_23 : decode cX5_join 23 = .ok (.ifCond .eq 15, 3) := by decide +kernel
theorem dX5_join_26 : decode cX5_join 26 = .ok (.iload_n 3, 1) := by decide +kernel
theorem dX5_join_27 : decode cX5_join 27 = .ok (.i2l, 1) := by decide +kernel
theorem dX5_join_28 : decode cX5_join 28 = .ok (.lconst 1, 1) := by decide +kernel
theorem dX5_join_29 : decode cX5_join 29 = .ok (.ldc2_w 210, 3) := by decide +kernel
theorem dX5_join_32 : decode cX5_join 32 = .ok (.invokestatic 75, 3) := by decide +kernel
theorem dX5_join_35 : decode cX5_join 35 = .ok (.ifCond .ne 6, 3) := by decide +kernel
theorem dX5_join_38 : decode cX5_join 38 = .ok (.bipush (-102), 2) := by decide +kernel
theorem dX5_join_40 : decode cX5_join 40 = .ok (.ireturn, 1) := by decide +kernel
theorem dX5_join_41 : decode cX5_join 41 = .ok (.aload_n 0, 1) := by decide +kernel
theorem dX5_join_42 : decode cX5_join 42 = .ok (.iconst 4, 1) := by decide +kernel
theorem dX5_join_43 : decode cX5_join 43 = .ok (.invokevirtual 212, 3) := by decide +kernel
theorem dX5_join_46 : decode cX5_join 46 = .ok (.ifCond .ne 6, 3) := by decide +kernel
theorem dX5_join_49 : decode cX5_join 49 = .ok (.bipush (-103), 2) := by decide +kernel
theorem dX5_join_51 : decode cX5_join 51 = .ok (.ireturn, 1) := by decide +kernel
theorem dX5_join_52 : decode cX5_join 52 = .ok (.aload_n 0, 1) := by decide +kernel
theorem dX5_join_53 : decode cX5_join 53 = .ok (.iload_n 3, 1) := by decide +kernel
theorem dX5_join_54 : decode cX5_join 54 = .ok (.putfield 215, 3) := by decide +kernel
theorem dX5_join_57 : decode cX5_join 57 = .ok (.iconst 0, 1) := by decide +kernel
theorem dX5_join_58 : decode cX5_join 58 = .ok (.istore 4, 2) := by decide +kernel
theorem dX5_join_60 : decode cX5_join 60 = .ok (.iconst 0, 1) := by decide +kernel
theorem dX5_join_61 : decode cX5_join 61 = .ok (.istore 5, 2) := by decide +kernel
theorem dX5_join_63 : decode cX5_join 63 = .ok (.iload 5, 2) := by decide +kernel
theorem dX5_join_65 : decode cX5_join 65 = .ok (.iload_n 3, 1) := by decide +kernel
theorem dX5_join_66 : decode cX5_join 66 = .ok (.if_icmp .ge 146, 3) := by decide +kernel
theorem dX5_join_69 : decode cX5_join 69 = .ok (.lconst 0, 1) := by decide +kernel
theorem dX5_join_70 : decode cX5_join 70 = .ok (.lstore 6, 2) := by decide +kernel
theorem dX5_join_72 : decode cX5_join 72 = .ok (.lconst 0, 1) := by decide +kernel
theorem dX5_join_73 : decode cX5_join 73 = .ok (.lstore 8, 2) := by decide +kernel
theorem dX5_join_75 : decode cX5_join 75 = .ok (.iconst 0, 1) := by decide +kernel
theorem dX5_join_76 : decode cX5_join 76 = .ok (.istore 10, 2) := by decide +kernel
theorem dX5_join_78 : decode cX5_join 78 = .ok (.iload 10, 2) := by decide +kernel
theorem dX5_join_80 : decode cX5_join 80 = .ok (.aload_n 0, 1) := by decide +kernel
theorem dX5_join_81 : decode cX5_join 81 = .ok (.getfield 79, 3) := by decide +kernel
theorem dX5_join_84 : decode cX5_join 84 = .ok (.if_icmp .ge 82, 3) := by decide +kernel
theorem dX5_join_87 : decode cX5_join 87 = .ok (.aload_n 0, 1) := by decide +kernel
theorem dX5_join_88 : decode cX5_join 88 = .ok (.getfield 45, 3) := by decide +kernel
theorem dX5_join_91 : decode cX5_join 91 = .ok (.iload 10, 2) := by decide +kernel
theorem dX5_join_93 : decode cX5_join 93 = .ok (.baload, 1) := by decide +kernel
theorem dX5_join_94 : decode cX5_join 94 = .ok (.ifCond .eq 21, 3) := by decide +kernel
theorem dX5_join_97 : decode cX5_join 97 = .ok (.aload_n 0, 1) := by decide +kernel
theorem dX5_join_98 : decode cX5_join 98 = .ok (.iload 10, 2) := by decide +kernel
theorem dX5_join_100 : decode cX5_join 100 = .ok (.iload_n 1, 1) := by decide +kernel
theorem dX5_join_101 : decode cX5_join 101 = .ok (.i2l, 1) := by decide +kernel
theorem dX5_join_102 : decode cX5_join 102 = .ok (.iload_n 2, 1) := by decide +kernel
theorem dX5_join_103 : decode cX5_join 103 = .ok (.i2l, 1) := by decide +kernel
theorem dX5_join_104 : decode cX5_join 104 = .ok (.iload 5, 2) := by decide +kernel
theorem dX5_join_106 : decode cX5_join 106 = .ok (.i2l, 1) := by decide +kernel
theorem dX5_join_107 : decode cX5_join 107 = .ok (.lmul, 1) := by decide +kernel
theorem dX5_join_108 : decode cX5_join 108 = .ok (.ladd, 1) := by decide +kernel
theorem dX5_join_109 : decode cX5_join 109 = .ok (.invokevirtual 218, 3) := by decide +kernel
theorem dX5_join_112 : decode cX5_join 112 = .ok (.goto 4, 3) := by decide +kernel
theorem dX5_join_115 : decode cX5_join 115 = .ok (.iconst (-1), 1) := by decide +kernel
theorem dX5_join_116 : decode cX5_join 116 = .ok (.istore 11, 2) := by decide +kernel
theorem dX5_join_118 : decode cX5_join 118 = .ok (.iload 11, 2) := by decide +kernel
theorem dX5_join_120 : decode cX5_join 120 = .ok (.iconst (-1), 1) := by decide +kernel
theorem dX5_join_121 : decode cX5_join 121 = .ok (.if_icmp .eq 39, 3) := by decide +kernel
theorem dX5_join_124 : decode cX5_join 124 = .ok (.aload_n 0, 1) := by decide +kernel
theorem dX5_join_125 : decode cX5_join 125 = .ok (.getfield 41, 3) := by decide +kernel
theorem dX5_join_128 : decode cX5_join 128 = .ok (.bipush 20, 2) := by decide +kernel
theorem dX5_join_130 : decode cX5_join 130 = .ok (.iload 10, 2) := by decide +kernel
theorem dX5_join_132 : decode cX5_join 132 = .ok (.imul, 1) := by decide +kernel
theorem dX5_join_133 : decode cX5_join 133 = .ok (.iload 11, 2) := by decide +kernel
theorem dX5_join_135 : decode cX5_join 135 = .ok (.iadd, 1) := by decide +kernel
theorem dX5_join_136 : decode cX5_join 136 = .ok (.laload, 1) := by decide +kernel
theorem dX5_join_137 : decode cX5_join 137 = .ok (.lstore 12, 2) := by decide +kernel
theorem dX5_join_139 : decode cX5_join 139 = .ok (.lload 6, 2) := by decide +kernel
theorem dX5_join_141 : decode cX5_join 141 = .ok (.lload 12, 2) := by decide +kernel
theorem dX5_join_143 : decode cX5_join 143 = .ok (.lload 12, 2) := by decide +kernel
theorem dX5_join_145 : decode cX5_join 145 = .ok (.lconst 1, 1) := by decide +kernel
theorem dX5_join_146 : decode cX5_join 146 = .ok (.ladd, 1) := by decide +kernel
theorem dX5_join_147 : decode cX5_join 147 = .ok (.lmul, 1) := by decide +kernel
theorem dX5_join_148 : decode cX5_join 148 = .ok (.ladd, 1) := by decide +kernel
theorem dX5_join_149 : decode cX5_join 149 = .ok (.lstore 6, 2) := by decide +kernel
theorem dX5_join_151 : decode cX5_join 151 = .ok (.lload 8, 2) := by decide +kernel
theorem dX5_join_153 : decode cX5_join 153 = .ok (.lload 12, 2) := by decide +kernel
theorem dX5_join_155 : decode cX5_join 155 = .ok (.lconst 1, 1) := by decide +kernel
theorem dX5_join_156 : decode cX5_join 156 = .ok (.ladd, 1) := by decide +kernel
theorem dX5_join_157 : decode cX5_join 157 = .ok (.ladd, 1) := by decide +kernel
theorem dX5_join_158 : decode cX5_join 158 = .ok (.lstore 8, 2) := by decide +kernel
theorem dX5_join_160 : decode cX5_join 160 = .ok (.iinc 10 1, 3) := by decide +kernel
theorem dX5_join_163 : decode cX5_join 163 = .ok (.goto (-85), 3) := by decide +kernel
theorem dX5_join_166 : decode cX5_join 166 = .ok (.aload_n 0, 1) := by decide +kernel
theorem dX5_join_167 : decode cX5_join 167 = .ok (.getfield 60, 3) := by decide +kernel
theorem dX5_join_170 : decode cX5_join 170 = .ok (.iload 5, 2) := by decide +kernel
theorem dX5_join_172 : decode cX5_join 172 = .ok (.lload 8, 2) := by decide +kernel
theorem dX5_join_174 : decode cX5_join 174 = .ok (.lconst 0, 1) := by decide +kernel
theorem dX5_join_175 : decode cX5_join 175 = .ok (.lcmp, 1) := by decide +kernel
theorem dX5_join_176 : decode cX5_join 176 = .ok (.ifCond .ne 7, 3) := by decide +kernel
theorem dX5_join_179 : decode cX5_join 179 = .ok (.lconst 0, 1) := by decide +kernel
theorem dX5_join_180 : decode cX5_join 180 = .ok (.goto 8, 3) := by decide +kernel
theorem dX5_join_183 : decode cX5_join 183 = .ok (.lload 6, 2) := by decide +kernel
theorem dX5_join_185 : decode cX5_join 185 = .ok (.lload 8, 2) := by decide +kernel
theorem dX5_join_187 : decode cX5_join 187 = .ok (.ldiv, 1) := by decide +kernel
theorem dX5_join_188 : decode cX5_join 188 = .ok (.lastore, 1) := by decide +kernel
theorem dX5_join_189 : decode cX5_join 189 = .ok (.iload 4, 2) := by decide +kernel
theorem dX5_join_191 : decode cX5_join 191 = .ok (.lload 8, 2) := by decide +kernel
theorem dX5_join_193 : decode cX5_join 193 = .ok (.lconst 0, 1) := by decide +kernel
theorem dX5_join_194 : decode cX5_join 194 = .ok (.lcmp, 1) := by decide +kernel
theorem dX5_join_195 : decode cX5_join 195 = .ok (.ifCond .ne 7, 3) := by decide +kernel
theorem dX5_join_198 : decode cX5_join 198 = .ok (.iconst 0, 1) := by decide +kernel
theorem dX5_join_199 : decode cX5_join 199 = .ok (.goto 4, 3) := by decide +kernel
theorem dX5_join_202 : decode cX5_join 202 = .ok (.iconst 1, 1) := by decide +kernel
theorem dX5_join_203 : decode cX5_join 203 = .ok (.iadd, 1) := by decide +kernel
theorem dX5_join_204 : decode cX5_join 204 = .ok (.istore 4, 2) := by decide +kernel
theorem dX5_join_206 : decode cX5_join 206 = .ok (.iinc 5 1, 3) := by decide +kernel
theorem dX5_join_209 : decode cX5_join 209 = .ok (.goto (-146), 3) := by decide +kernel
theorem dX5_join_212 : decode cX5_join 212 = .ok (.iload 4, 2) := by decide +kernel
theorem dX5_join_214 : decode cX5_join 214 = .ok (.ireturn, 1) := by decide +kernel
theorem dX5_joined_0 : decode cX5_joined 0 = .ok (.iload_n 1, 1) := by decide +kernel
theorem dX5_joined_1 : decode cX5_joined 1 = .ok (.i2l, 1) := by decide +kernel
theorem dX5_joined_2 : decode cX5_joined 2 = .ok (.lconst 0, 1) := by decide +kernel
theorem dX5_joined_3 : decode cX5_joined 3 = .ok (.aload_n 0, 1) := by decide +kernel
theorem dX5_joined_4 : decode cX5_joined 4 = .ok (.getfield 215, 3) := by decide +kernel
theorem dX5_joined_7 : decode cX5_joined 7 = .ok (.iconst 1, 1) := by decide +kernel
theorem dX5_joined_8 : decode cX5_joined 8 = .ok (.isub, 1) := by decide +kernel
theorem dX5_joined_9 : decode cX5_joined 9 = .ok (.i2l, 1) := by decide +kernel
theorem dX5_joined_10 : decode cX5_joined 10 = .ok (.invokestatic 75, 3) := by decide +kernel
theorem dX5_joined_13 : decode cX5_joined 13 = .ok (.ifCond .eq 12, 3) := by decide +kernel
theorem dX5_joined_16 : decode cX5_joined 16 = .ok (.aload_n 0, 1) := by decide +kernel
theorem dX5_joined_17 : decode cX5_joined 17 = .ok (.getfield 60, 3) := by decide +kernel
theorem dX5_joined_20 : decode cX5_joined 20 = .ok (.iload_n 1, 1) := by decide +kernel
theorem dX5_joined_21 : decode cX5_joined 21 = .ok (.laload, 1) := by decide +kernel
theorem dX5_joined_22 : decode cX5_joined 22 = .ok (.goto 6, 3) := by decide +kernel
theorem dX5_joined_25 : decode cX5_joined 25 = .ok (.ldc2_w 160, 3) := by decide +kernel
theorem dX5_joined_28 : decode cX5_joined 28 = .ok (.lreturn, 1) := by decide +kernel
theorem dX5_shiftOf_0 : decode cX5_shiftOf 0 = .ok (.lconst 0, 1) := by decide +kernel
theorem dX5_shiftOf_1 : decode cX5_shiftOf 1 = .ok (.lstore 4, 2) := by decide +kernel
theorem dX5_shiftOf_3 : decode cX5_shiftOf 3 = .ok (.iconst 0, 1) := by decide +kernel
theorem dX5_shiftOf_4 : decode cX5_shiftOf 4 = .ok (.istore 6, 2) := by decide +kernel
theorem dX5_shiftOf_6 : decode cX5_shiftOf 6 = .ok (.iload 6, 2) := by decide +kernel
theorem dX5_shiftOf_8 : decode cX5_shiftOf 8 = .ok (.aload_n 0, 1) := by decide +kernel
theorem dX5_shiftOf_9 : decode cX5_shiftOf 9 = .ok (.getfield 38, 3) := by decide +kernel
theorem dX5_shiftOf_12 : decode cX5_shiftOf 12 = .ok (.iload_n 1, 1) := by decide +kernel
theorem dX5_shiftOf_13 : decode cX5_shiftOf 13 = .ok (.iaload, 1) := by decide +kernel
theorem dX5_shiftOf_14 : decode cX5_shiftOf 14 = .ok (.if_icmp .ge 62, 3) := by decide +kernel
theorem dX5_shiftOf_17 : decode cX5_shiftOf 17 = .ok (.iload 6, 2) := by decide +kernel
theorem dX5_shiftOf_19 : decode cX5_shiftOf 19 = .ok (.iload_n 3, 1) := by decide +kernel
theorem dX5_shiftOf_20 : decode cX5_shiftOf 20 = .ok (.iadd, 1) := by decide +kernel
theorem dX5_shiftOf_21 : decode cX5_shiftOf 21 = .ok (.i2l, 1) := by decide +kernel
theorem dX5_shiftOf_22 : decode cX5_shiftOf 22 = .ok (.lconst 0, 1) := by decide +kernel
theorem dX5_shiftOf_23 : decode cX5_shiftOf 23 = .ok (.aload_n 0, 1) := by decide +kernel
theorem dX5_shiftOf_24 : decode cX5_shiftOf 24 = .ok (.getfield 38, 3) := by decide +kernel
theorem dX5_shiftOf_27 : decode cX5_shiftOf 27 = .ok (.iload_n 2, 1) := by decide +kernel
theorem dX5_shiftOf_28 : decode cX5_shiftOf 28 = .ok (.iaload, 1) := by decide +kernel
theorem dX5_shiftOf_29 : decode cX5_shiftOf 29 = .ok (.iconst 1, 1) := by decide +kernel
theorem dX5_shiftOf_30 : decode cX5_shiftOf 30 = .ok (.isub, 1) := by decide +kernel
theorem dX5_shiftOf_31 : decode cX5_shiftOf 31 = .ok (.i2l, 1) := by decide +kernel
theorem dX5_shiftOf_32 : decode cX5_shiftOf 32 = .ok (.invokestatic 75, 3) := by decide +kernel
theorem dX5_shiftOf_35 : decode cX5_shiftOf 35 = .ok (.ifCond .eq 35, 3) := by decide +kernel
theorem dX5_shiftOf_38 : decode cX5_shiftOf 38 = .ok (.lload 4, 2) := by decide +kernel
theorem dX5_shiftOf_40 : decode cX5_shiftOf 40 = .ok (.aload_n 0, 1) := by decide +kernel
theorem dX5_shiftOf_41 : decode cX5_shiftOf 41 = .ok (.getfield 41, 3) := by decide +kernel
theorem dX5_shiftOf_44 : decode cX5_shiftOf 44 = .ok (.bipush 20, 2) := by decide +kernel
theorem dX5_shiftOf_46 : decode cX5_shiftOf 46 = .ok (.iload_n 1, 1) := by decide +kernel
theorem dX5_shiftOf_47 : decode cX5_shiftOf 47 = .ok (.imul, 1) := by decide +kernel
theorem dX5_shiftOf_48 : decode cX5_shiftOf 48 = .ok (.iload 6, 2) := by decide +kernel
theorem dX5_shiftOf_50 : decode cX5_shiftOf 50 = .ok (.iadd, 1) := by decide +kernel
theorem dX5_shiftOf_51 : decode cX5_shiftOf 51 = .ok (.laload, 1) := by decide +kernel
theorem dX5_shiftOf_52 : decode cX5_shiftOf 52 = .ok (.aload_n 0, 1) := by decide +kernel
theorem dX5_shiftOf_53 : decode cX5_shiftOf 53 = .ok (.getfield 41, 3) := by decide +kernel
theorem dX5_shiftOf_56 : decode cX5_shiftOf 56 = .ok (.bipush 20, 2) := by decide +kernel
theorem dX5_shiftOf_58 : decode cX5_shiftOf 58 = .ok (.iload_n 2, 1) := by decide +kernel
theorem dX5_shiftOf_59 : decode cX5_shiftOf 59 = .ok (.imul, 1) := by decide +kernel
theorem dX5_shiftOf_60 : decode cX5_shiftOf 60 = .ok (.iload 6, 2) := by decide +kernel
theorem dX5_shiftOf_62 : decode cX5_shiftOf 62 = .ok (.iadd, 1) := by decide +kernel
theorem dX5_shiftOf_63 : decode cX5_shiftOf 63 = .ok (.iload_n 3, 1) := by decide +kernel
theorem dX5_shiftOf_64 : decode cX5_shiftOf 64 = .ok (.iadd, 1) := by decide +kernel
theorem dX5_shiftOf_65 : decode cX5_shiftOf 65 = .ok (.laload, 1) := by decide +kernel
theorem dX5_shiftOf_66 : decode cX5_shiftOf 66 = .ok (.lmul, 1) := by decide +kernel
theorem dX5_shiftOf_67 : decode cX5_shiftOf 67 = .ok (.ladd, 1) := by decide +kernel
theorem dX5_shiftOf_68 : decode cX5_shiftOf 68 = .ok (.lstore 4, 2) := by decide +kernel
theorem dX5_shiftOf_70 : decode cX5_shiftOf 70 = .ok (.iinc 6 1, 3) := by decide +kernel
theorem dX5_shiftOf_73 : decode cX5_shiftOf 73 = .ok (.goto (-67), 3) := by decide +kernel
theorem dX5_shiftOf_76 : decode cX5_shiftOf 76 = .ok (.lload 4, 2) := by decide +kernel
theorem dX5_shiftOf_78 : decode cX5_shiftOf 78 = .ok (.lreturn, 1) := by decide +kernel
theorem dX5_shift_0 : decode cX5_shift 0 = .ok (.aload_n 0, 1) := by decide +kernel
theorem dX5_shift_1 : decode cX5_shift 1 = .ok (.iload_n 1, 1) := by decide +kernel
theorem dX5_shift_2 : decode cX5_shift 2 = .ok (.invokevirtual 117, 3) := by decide +kernel
theorem dX5_shift_5 : decode cX5_shift 5 = .ok (.ifCond .eq 11, 3) := by decide +kernel
theorem dX5_shift_8 : decode cX5_shift 8 = .ok (.aload_n 0, 1) := by decide +kernel
theorem dX5_shift_9 : decode cX5_shift 9 = .ok (.iload_n 2, 1) := by decide +kernel
theorem dX5_shift_10 : decode cX5_shift 10 = .ok (.invokevirtual 117, 3) := by decide +kernel
theorem dX5_shift_13 : decode cX5_shift 13 = .ok (.ifCond .ne 7, 3) := by decide +kernel
theorem dX5_shift_16 : decode cX5_shift 16 = .ok (.ldc2_w 158, 3) := by decide +kernel
theorem dX5_shift_19 : decode cX5_shift 19 = .ok (.lreturn, 1) := by decide +kernel
theorem dX5_shift_20 : decode cX5_shift 20 = .ok (.iload_n 3, 1) := by decide +kernel
theorem dX5_shift_21 : decode cX5_shift 21 = .ok (.i2l, 1) := by decide +kernel
theorem dX5_shift_22 : decode cX5_shift 22 = .ok (.ldc2_w 222, 3) := by decide +kernel
theorem dX5_shift_25 : decode cX5_shift 25 = .ok (.ldc2_w 108, 3) := by decide +kernel
theorem dX5_shift_28 : decode cX5_shift 28 = .ok (.invokestatic 75, 3) := by decide +kernel
theorem dX5_shift_31 : decode cX5_shift 31 = .ok (.ifCond .eq 13, 3) := by decide +kernel
theorem dX5_shift_34 : decode cX5_shift 34 = .ok (.aload_n 0, 1) := by decide +kernel
theorem dX5_shift_35 : decode cX5_shift 35 = .ok (.iload_n 1, 1) := by decide +kernel
theorem dX5_shift_36 : decode cX5_shift 36 = .ok (.iload_n 2, 1) := by decide +kernel
theorem dX5_shift_37 : decode cX5_shift 37 = .ok (.iload_n 3, 1) := by decide +kernel
theorem dX5_shift_38 : decode cX5_shift 38 = .ok (.invokevirtual 224, 3) := by decide +kernel
theorem dX5_shift_41 : decode cX5_shift 41 = .ok (.goto 6, 3) := by decide +kernel
theorem dX5_shift_44 : decode cX5_shift 44 = .ok (.ldc2_w 228, 3) := by decide +kernel
theorem dX5_shift_47 : decode cX5_shift 47 = .ok (.lreturn, 1) := by decide +kernel
theorem dX5_best_0 : decode cX5_best 0 = .ok (.aload_n 0, 1) := by decide +kernel
theorem dX5_best_1 : decode cX5_best 1 = .ok (.iload_n 1, 1) := by decide +kernel
theorem dX5_best_2 : decode cX5_best 2 = .ok (.invokevirtual 117, 3) := by decide +kernel
theorem dX5_best_5 : decode cX5_best 5 = .ok (.ifCond .eq 11, 3) := by decide +kernel
theorem dX5_best_8 : decode cX5_best 8 = .ok (.aload_n 0, 1) := by decide +kernel
theorem dX5_best_9 : decode cX5_best 9 = .ok (.iload_n 2, 1) := by decide +kernel
theorem dX5_best_10 : decode cX5_best 10 = .ok (.invokevirtual 117, 3) := by decide +kernel
theorem dX5_best_13 : decode cX5_best 13 = .ok (.ifCond .ne 6, 3) := by decide +kernel
theorem dX5_best_16 : decode cX5_best 16 = .ok (.bipush (-100), 2) := by decide +kernel
theorem dX5_best_18 : decode cX5_best 18 = .ok (.ireturn, 1) := by decide +kernel
theorem dX5_best_19 : decode cX5_best 19 = .ok (.aload_n 0, 1) := by decide +kernel
theorem dX5_best_20 : decode cX5_best 20 = .ok (.getfield 38, 3) := by decide +kernel
theorem dX5_best_23 : decode cX5_best 23 = .ok (.iload_n 1, 1) := by decide +kernel
theorem dX5_best_24 : decode cX5_best 24 = .ok (.iaload, 1) := by decide +kernel
theorem dX5_best_25 : decode cX5_best 25 = .ok (.ifCond .eq 12, 3) := by decide +kernel
theorem dX5_best_28 : decode cX5_best 28 = .ok (.aload_n 0, 1) := by decide +kernel
theorem dX5_best_29 : decode cX5_best 29 = .ok (.getfield 38, 3) := by decide +kernel
theorem dX5_best_32 : decode cX5_best 32 = .ok (.iload_n 2, 1) := by decide +kernel
theorem dX5_best_33 : decode cX5_best 33 = .ok (.iaload, 1) := by decide +kernel
theorem dX5_best_34 : decode cX5_best 34 = .ok (.ifCond .ne 6, 3) := by decide +kernel
theorem dX5_best_37 : decode cX5_best 37 = .ok (.bipush (-101), 2) := by decide +kernel
theorem dX5_best_39 : decode cX5_best 39 = .ok (.ireturn, 1) := by decide +kernel
theorem dX5_best_40 : decode cX5_best 40 = .ok (.iconst 0, 1) := by decide +kernel
theorem dX5_best_41 : decode cX5_best 41 = .ok (.istore_n 3, 1) := by decide +kernel
theorem dX5_best_42 : decode cX5_best 42 = .ok (.aload_n 0, 1) := by decide +kernel
theorem dX5_best_43 : decode cX5_best 43 = .ok (.iload_n 1, 1) := by decide +kernel
theorem dX5_best_44 : decode cX5_best 44 = .ok (.iload_n 2, 1) := by decide +kernel
theorem dX5_best_45 : decode cX5_best 45 = .ok (.iconst 0, 1) := by decide +kernel
theorem dX5_best_46 : decode cX5_best 46 = .ok (.invokevirtual 224, 3) := by decide +kernel
theorem dX5_best_49 : decode cX5_best 49 = .ok (.lstore 4, 2) := by decide +kernel
theorem dX5_best_51 : decode cX5_best 51 = .ok (.iconst 1, 1) := by decide +kernel
theorem dX5_best_52 : decode cX5_best 52 = .ok (.istore 6, 2) := by decide +kernel
theorem dX5_best_54 : decode cX5_best 54 = .ok (.iload 6, 2) := by decide +kernel
theorem dX5_best_56 : decode cX5_best 56 = .ok (.bipush 8, 2) := by decide +kernel
theorem dX5_best_58 : decode cX5_best 58 = .ok (.if_icmp .gt 55, 3) := by decide +kernel
theorem dX5_best_61 : decode cX5_best 61 = .ok (.iconst (-1), 1) := by decide +kernel
theorem dX5_best_62 : decode cX5_best 62 = .ok (.istore 7, 2) := by decide +kernel
theorem dX5_best_64 : decode cX5_best 64 = .ok (.iload 7, 2) := by decide +kernel
theorem dX5_best_66 : decode cX5_best 66 = .ok (.iconst 1, 1) := by decide +kernel
theorem dX5_best_67 : decode cX5_best 67 = .ok (.if_icmp .gt 40, 3) := by decide +kernel
theorem dX5_best_70 : decode cX5_best 70 = .ok (.aload_n 0, 1) := by decide +kernel
theorem dX5_best_71 : decode cX5_best 71 = .ok (.iload_n 1, 1) := by decide +kernel
theorem dX5_best_72 : decode cX5_best 72 = .ok (.iload_n 2, 1) := by decide +kernel
theorem dX5_best_73 : decode cX5_best 73 = .ok (.iload 7, 2) := by decide +kernel
theorem dX5_best_75 : decode cX5_best 75 = .ok (.iload 6, 2) := by decide +kernel
theorem dX5_best_77 : decode cX5_best 77 = .ok (.imul, 1) := by decide +kernel
theorem dX5_best_78 : decode cX5_best 78 = .ok (.invokevirtual 224, 3) := by decide +kernel
theorem dX5_best_81 : decode cX5_best 81 = .ok (.lstore 8, 2) := by decide +kernel
theorem dX5_best_83 : decode cX5_best 83 = .ok (.lload 8, 2) := by decide +kernel
theorem dX5_best_85 : decode cX5_best 85 = .ok (.lload 4, 2) := by decide +kernel
theorem dX5_best_87 : decode cX5_best 87 = .ok (.lcmp, 1) := by decide +kernel
theorem dX5_best_88 : decode cX5_best 88 = .ok (.ifCond .le 13, 3) := by decide +kernel
theorem dX5_best_91 : decode cX5_best 91 = .ok (.lload 8, 2) := by decide +kernel
theorem dX5_best_93 : decode cX5_best 93 = .ok (.lstore 4, 2) := by decide +kernel
theorem dX5_best_95 : decode cX5_best 95 = .ok (.iload 7, 2) := by decide +kernel
theorem dX5_best_97 : decode cX5_best 97 = .ok (.iload 6, 2) := by decide +kernel
theorem dX5_best_99 : decode cX5_best 99 = .ok (.imul, 1) := by decide +kernel
theorem dX5_best_100 : decode cX5_best 100 = .ok (.istore_n 3, 1) := by decide +kernel
theorem dX5_best_101 : decode cX5_best 101 = .ok (.iinc 7 2, 3) := by decide +kernel
theorem dX5_best_104 : decode cX5_best 104 = .ok (.goto (-40), 3) := by decide +kernel
theorem dX5_best_107 : decode cX5_best 107 = .ok (.iinc 6 1, 3) := by decide +kernel
theorem dX5_best_110 : decode cX5_best 110 = .ok (.goto (-56), 3) := by decide +kernel
theorem dX5_best_113 : decode cX5_best 113 = .ok (.iload_n 3, 1) := by decide +kernel
theorem dX5_best_114 : decode cX5_best 114 = .ok (.ireturn, 1) := by decide +kernel
theorem dX5_seen_0 : decode cX5_seen 0 = .ok (.aload_n 0, 1) := by decide +kernel
theorem dX5_seen_1 : decode cX5_seen 1 = .ok (.getfield 110, 3) := by decide +kernel
theorem dX5_seen_4 : decode cX5_seen 4 = .ok (.ireturn, 1) := by decide +kernel
theorem dX5_cause_0 : decode cX5_cause 0 = .ok (.aload_n 0, 1) := by decide +kernel
theorem dX5_cause_1 : decode cX5_cause 1 = .ok (.getfield 69, 3) := by decide +kernel
theorem dX5_cause_4 : decode cX5_cause 4 = .ok (.ireturn, 1) := by decide +kernel
theorem dX5_causes_0 : decode cX5_causes 0 = .ok (.iload_n 1, 1) := by decide +kernel
theorem dX5_causes_1 : decode cX5_causes 1 = .ok (.i2l, 1) := by decide +kernel
theorem dX5_causes_2 : decode cX5_causes 2 = .ok (.lconst 1, 1) := by decide +kernel
theorem dX5_causes_3 : decode cX5_causes 3 = .ok (.ldc2_w 73, 3) := by decide +kernel
theorem dX5_causes_6 : decode cX5_causes 6 = .ok (.invokestatic 75, 3) := by decide +kernel
theorem dX5_causes_9 : decode cX5_causes 9 = .ok (.ifCond .eq 12, 3) := by decide +kernel
theorem dX5_causes_12 : decode cX5_causes 12 = .ok (.aload_n 0, 1) := by decide +kernel
theorem dX5_causes_13 : decode cX5_causes 13 = .ok (.getfield 63, 3) := by decide +kernel
theorem dX5_causes_16 : decode cX5_causes 16 = .ok (.iload_n 1, 1) := by decide +kernel
theorem dX5_causes_17 : decode cX5_causes 17 = .ok (.iaload, 1) := by decide +kernel
theorem dX5_causes_18 : decode cX5_causes 18 = .ok (.goto 5, 3) := by decide +kernel
theorem dX5_causes_21 : decode cX5_causes 21 = .ok (.bipush (-102), 2) := by decide +kernel
theorem dX5_causes_23 : decode cX5_causes 23 = .ok (.ireturn, 1) := by decide +kernel
theorem dX5_count_0 : decode cX5_count 0 = .ok (.iconst 0, 1) := by decide +kernel
theorem dX5_count_1 : decode cX5_count 1 = .ok (.istore_n 2, 1) := by decide +kernel
theorem dX5_count_2 : decode cX5_count 2 = .ok (.iload_n 1, 1) := by decide +kernel
theorem dX5_count_3 : decode cX5_count 3 = .ok (.tableswitch 154 0 5 #[37, 70, 75, 80, 114, 149], 37) := by decide +kernel
theorem dX5_count_40 : decode cX5_count 40 = .ok (.iconst 0, 1) := by decide +kernel
theorem dX5_count_41 : decode cX5_count 41 = .ok (.istore_n 3, 1) := by decide +kernel
theorem dX5_count_42 : decode cX5_count 42 = .ok (.iload_n 3, 1) := by decide +kernel
theorem dX5_count_43 : decode cX5_count 43 = .ok (.bipush 6, 2) := by decide +kernel
theorem dX5_count_45 : decode cX5_count 45 = .ok (.if_icmp .ge 26, 3) := by decide +kernel
theorem dX5_count_48 : decode cX5_count 48 = .ok (.iload_n 2, 1) := by decide +kernel
theorem dX5_count_49 : decode cX5_count 49 = .ok (.aload_n 0, 1) := by decide +kernel
theorem dX5_count_50 : decode cX5_count 50 = .ok (.getfield 7, 3) := by decide +kernel
theorem dX5_count_53 : decode cX5_count 53 = .ok (.iload_n 3, 1) := by decide +kernel
theorem dX5_count_54 : decode cX5_count 54 = .ok (.baload, 1) := by decide +kernel
theorem dX5_count_55 : decode cX5_count 55 = .ok (.ifCond .eq 7, 3) := by decide +kernel
theorem dX5_count_58 : decode cX5_count 58 = .ok (.iconst 1, 1) := by decide +kernel
theorem dX5_count_59 : decode cX5_count 59 = .ok (.goto 4, 3) := by decide +kernel
theorem dX5_count_62 : decode cX5_count 62 = .ok (.iconst 0, 1) := by decide +kernel
theorem dX5_count_63 : decode cX5_count 63 = .ok (.iadd, 1) := by decide +kernel
theorem dX5_count_64 : decode cX5_count 64 = .ok (.istore_n 2, 1) := by decide +kernel
theorem dX5_count_65 : decode cX5_count 65 = .ok (.iinc 3 1, 3) := by decide +kernel
theorem dX5_count_68 : decode cX5_count 68 = .ok (.goto (-26), 3) := by decide +kernel
theorem dX5_count_71 : decode cX5_count 71 = .ok (.iload_n 2, 1) := by decide +kernel
theorem dX5_count_72 : decode cX5_count 72 = .ok (.ireturn, 1) := by decide +kernel
theorem dX5_count_73 : decode cX5_count 73 = .ok (.aload_n 0, 1) := by decide +kernel
theorem dX5_count_74 : decode cX5_count 74 = .ok (.getfield 79, 3) := by decide +kernel
theorem dX5_count_77 : decode cX5_count 77 = .ok (.ireturn, 1) := by decide +kernel
theorem dX5_count_78 : decode cX5_count 78 = .ok (.aload_n 0, 1) := by decide +kernel
theorem dX5_count_79 : decode cX5_count 79 = .ok (.getfield 173, 3) := by decide +kernel
theorem dX5_count_82 : decode cX5_count 82 = .ok (.ireturn, 1) := by decide +kernel
theorem dX5_count_83 : decode cX5_count 83 = .ok (.iconst 0, 1) := by decide +kernel
theorem dX5_count_84 : decode cX5_count 84 = .ok (.istore_n 3, 1) := by decide +kernel
theorem dX5_count_85 : decode cX5_count 85 = .ok (.iload_n 3, 1) := by decide +kernel
theorem dX5_count_86 : decode cX5_count 86 = .ok (.sipush 400, 3) := by decide +kernel
theorem dX5_count_89 : decode cX5_count 89 = .ok (.if_icmp .ge 26, 3) := by decide +kernel
theorem dX5_count_92 : decode cX5_count 92 = .ok (.iload_n 2, 1) := by decide +kernel
theorem dX5_count_93 : decode cX5_count 93 = .ok (.aload_n 0, 1) := by decide +kernel
theorem dX5_count_94 : decode cX5_count 94 = .ok (.getfield 26, 3) := by decide +kernel
theorem dX5_count_97 : decode cX5_count 97 = .ok (.iload_n 3, 1) := by decide +kernel
theorem dX5_count_98 : decode cX5_count 98 = .ok (.baload, 1) := by decide +kernel
theorem dX5_count_99 : decode cX5_count 99 = .ok (.ifCond .eq 7, 3) := by decide +kernel
theorem dX5_count_102 : decode cX5_count 102 = .ok (.iconst 1, 1) := by decide +kernel
theorem dX5_count_103 : decode cX5_count 103 = .ok (.goto 4, 3) := by decide +kernel
theorem dX5_count_106 : decode cX5_count 106 = .ok (.iconst 0, 1) := by decide +kernel
theorem dX5_count_107 : decode cX5_count 107 = .ok (.iadd, 1) := by decide +kernel
theorem dX5_count_108 : decode cX5_count 108 = .ok (.istore_n 2, 1) := by decide +kernel
theorem dX5_count_109 : decode cX5_count 109 = .ok (.iinc 3 1, 3) := by decide +kernel
theorem dX5_count_112 : decode cX5_count 112 = .ok (.goto (-27), 3) := by decide +kernel
theorem dX5_count_115 : decode cX5_count 115 = .ok (.iload_n 2, 1) := by decide +kernel
theorem dX5_count_116 : decode cX5_count 116 = .ok (.ireturn, 1) := by decide +kernel
theorem dX5_count_117 : decode cX5_count 117 = .ok (.iconst 0, 1) := by decide +kernel
theorem dX5_count_118 : decode cX5_count 118 = .ok (.istore_n 3, 1) := by decide +kernel
theorem dX5_count_119 : decode cX5_count 119 = .ok (.iload_n 3, 1) := by decide +kernel
theorem dX5_count_120 : decode cX5_count 120 = .ok (.aload_n 0, 1) := by decide +kernel
theorem dX5_count_121 : decode cX5_count 121 = .ok (.getfield 79, 3) := by decide +kernel
theorem dX5_count_124 : decode cX5_count 124 = .ok (.if_icmp .ge 26, 3) := by decide +kernel
theorem dX5_count_127 : decode cX5_count 127 = .ok (.iload_n 2, 1) := by decide +kernel
theorem dX5_count_128 : decode cX5_count 128 = .ok (.aload_n 0, 1) := by decide +kernel
theorem dX5_count_129 : decode cX5_count 129 = .ok (.getfield 45, 3) := by decide +kernel
theorem dX5_count_132 : decode cX5_count 132 = .ok (.iload_n 3, 1) := by decide +kernel
theorem dX5_count_133 : decode cX5_count 133 = .ok (.baload, 1) := by decide +kernel
theorem dX5_count_134 : decode cX5_count 134 = .ok (.ifCond .eq 7, 3) := by decide +kernel
theorem dX5_count_137 : decode cX5_count 137 = .ok (.iconst 1, 1) := by decide +kernel
theorem dX5_count_138 : decode cX5_count 138 = .ok (.goto 4, 3) := by decide +kernel
theorem dX5_count_141 : decode cX5_count 141 = .ok (.iconst 0, 1) := by decide +kernel
theorem dX5_count_142 : decode cX5_count 142 = .ok (.iadd, 1) := by decide +kernel
theorem dX5_count_143 : decode cX5_count 143 = .ok (.istore_n 2, 1) := by decide +kernel
theorem dX5_count_144 : decode cX5_count 144 = .ok (.iinc 3 1, 3) := by decide +kernel
theorem dX5_count_147 : decode cX5_count 147 = .ok (.goto (-28), 3) := by decide +kernel
theorem dX5_count_150 : decode cX5_count 150 = .ok (.iload_n 2, 1) := by decide +kernel
theorem dX5_count_151 : decode cX5_count 151 = .ok (.ireturn, 1) := by decide +kernel
theorem dX5_count_152 : decode cX5_count 152 = .ok (.aload_n 0, 1) := by decide +kernel
theorem dX5_count_153 : decode cX5_count 153 = .ok (.getfield 198, 3) := by decide +kernel
theorem dX5_count_156 : decode cX5_count 156 = .ok (.ireturn, 1) := by decide +kernel
theorem dX5_count_157 : decode cX5_count 157 = .ok (.bipush (-102), 2) := by decide +kernel
theorem dX5_count_159 : decode cX5_count 159 = .ok (.ireturn, 1) := by decide +kernel
theorem dX5_mix_0 : decode cX5_mix 0 = .ok (.aload_n 0, 1) := by decide +kernel
theorem dX5_mix_1 : decode cX5_mix 1 = .ok (.ldc2_w 230, 3) := by decide +kernel
theorem dX5_mix_4 : decode cX5_mix 4 = .ok (.aload_n 0, 1) := by decide +kernel
theorem dX5_mix_5 : decode cX5_mix 5 = .ok (.getfield 232, 3) := by decide +kernel
theorem dX5_mix_8 : decode cX5_mix 8 = .ok (.lmul, 1) := by decide +kernel
theorem dX5_mix_9 : decode cX5_mix 9 = .ok (.lload_n 1, 1) := by decide +kernel
theorem dX5_mix_10 : decode cX5_mix 10 = .ok (.ladd, 1) := by decide +kernel
theorem dX5_mix_11 : decode cX5_mix 11 = .ok (.putfield 232, 3) := by decide +kernel
theorem dX5_mix_14 : decode cX5_mix 14 = .ok (.return_, 1) := by decide +kernel
theorem dX5_digest_0 : decode cX5_digest 0 = .ok (.aload_n 0, 1) := by decide +kernel
theorem dX5_digest_1 : decode cX5_digest 1 = .ok (.ldc2_w 235, 3) := by decide +kernel
theorem dX5_digest_4 : decode cX5_digest 4 = .ok (.putfield 232, 3) := by decide +kernel
theorem dX5_digest_7 : decode cX5_digest 7 = .ok (.iconst 0, 1) := by decide +kernel
theorem dX5_digest_8 : decode cX5_digest 8 = .ok (.istore_n 1, 1) := by decide +kernel
theorem dX5_digest_9 : decode cX5_digest 9 = .ok (.iload_n 1, 1) := by decide +kernel
theorem dX5_digest_10 : decode cX5_digest 10 = .ok (.bipush 6, 2) := by decide +kernel
theorem dX5_digest_12 : decode cX5_digest 12 = .ok (.if_icmp .ge 113, 3) := by decide +kernel
theorem dX5_digest_15 : decode cX5_digest 15 = .ok (.aload_n 0, 1) := by decide +kernel
theorem dX5_digest_16 : decode cX5_digest 16 = .ok (.getfield 7, 3) := by decide +kernel
theorem dX5_digest_19 : decode cX5_digest 19 = .ok (.iload_n 1, 1) := by decide +kernel
theorem dX5_digest_20 : decode cX5_digest 20 = .ok (.baload, 1) := by decide +kernel
theorem dX5_digest_21 : decode cX5_digest 21 = .ok (.ifCond .ne 13, 3) := by decide +kernel
theorem dX5_digest_24 : decode cX5_digest 24 = .ok (.aload_n 0, 1) := by decide +kernel
theorem dX5_digest_25 : decode cX5_digest 25 = .ok (.ldc2_w 160, 3) := by decide +kernel
theorem dX5_digest_28 : decode cX5_digest 28 = .ok (.invokevirtual 237, 3) := by decide +kernel
theorem dX5_digest_31 : decode cX5_digest 31 = .ok (.goto 88, 3) := by decide +kernel
theorem dX5_digest_34 : decode cX5_digest 34 = .ok (.aload_n 0, 1) := by decide +kernel
theorem dX5_digest_35 : decode cX5_digest 35 = .ok (.aload_n 0, 1) := by decide +kernel
theorem dX5_digest_36 : decode cX5_digest 36 = .ok (.getfield 13, 3) := by decide +kernel
theorem dX5_digest_39 : decode cX5_digest 39 = .ok (.iload_n 1, 1) := by decide +kernel
theorem dX5_digest_40 : decode cX5_digest 40 = .ok (.iaload, 1) := by decide +kernel
theorem dX5_digest_41 : decode cX5_digest 41 = .ok (.i2l, 1) := by decide +kernel
theorem dX5_digest_42 : decode cX5_digest 42 = .ok (.invokevirtual 237, 3) := by decide +kernel
theorem dX5_digest_45 : decode cX5_digest 45 = .ok (.aload_n 0, 1) := by decide +kernel
theorem dX5_digest_46 : decode cX5_digest 46 = .ok (.aload_n 0, 1) := by decide +kernel
theorem dX5_digest_47 : decode cX5_digest 47 = .ok (.getfield 17, 3) := by decide +kernel
theorem dX5_digest_50 : decode cX5_digest 50 = .ok (.iload_n 1, 1) := by decide +kernel
theorem dX5_digest_51 : decode cX5_digest 51 = .ok (.iaload, 1) := by decide +kernel
theorem dX5_digest_52 : decode cX5_digest 52 = .ok (.i2l, 1) := by decide +kernel
theorem dX5_digest_53 : decode cX5_digest 53 = .ok (.invokevirtual 237, 3) := by decide +kernel
theorem dX5_digest_56 : decode cX5_digest 56 = .ok (.aload_n 0, 1) := by decide +kernel
theorem dX5_digest_57 : decode cX5_digest 57 = .ok (.aload_n 0, 1) := by decide +kernel
theorem dX5_digest_58 : decode cX5_digest 58 = .ok (.getfield 20, 3) := by decide +kernel
theorem dX5_digest_61 : decode cX5_digest 61 = .ok (.iload_n 1, 1) := by decide +kernel
theorem dX5_digest_62 : decode cX5_digest 62 = .ok (.iaload, 1) := by decide +kernel
theorem dX5_digest_63 : decode cX5_digest 63 = .ok (.i2l, 1) := by decide +kernel
theorem dX5_digest_64 : decode cX5_digest 64 = .ok (.invokevirtual 237, 3) := by decide +kernel
theorem dX5_digest_67 : decode cX5_digest 67 = .ok (.iconst 0, 1) := by decide +kernel
theorem dX5_digest_68 : decode cX5_digest 68 = .ok (.istore_n 2, 1) := by decide +kernel
theorem dX5_digest_69 : decode cX5_digest 69 = .ok (.iload_n 2, 1) := by decide +kernel
theorem dX5_digest_70 : decode cX5_digest 70 = .ok (.aload_n 0, 1) := by decide +kernel
theorem dX5_digest_71 : decode cX5_digest 71 = .ok (.getfield 20, 3) := by decide +kernel
theorem dX5_digest_74 : decode cX5_digest 74 = .ok (.iload_n 1, 1) := by decide +kernel
theorem dX5_digest_75 : decode cX5_digest 75 = .ok (.iaload, 1) := by decide +kernel
theorem dX5_digest_76 : decode cX5_digest 76 = .ok (.if_icmp .ge 43, 3) := by decide +kernel
theorem dX5_digest_79 : decode cX5_digest 79 = .ok (.iconst 0, 1) := by decide +kernel
theorem dX5_digest_80 : decode cX5_digest 80 = .ok (.istore_n 3, 1) := by decide +kernel
theorem dX5_digest_81 : decode cX5_digest 81 = .ok (.iload_n 3, 1) := by decide +kernel
theorem dX5_digest_82 : decode cX5_digest 82 = .ok (.aload_n 0, 1) := by decide +kernel
theorem dX5_digest_83 : decode cX5_digest 83 = .ok (.getfield 17, 3) := by decide +kernel
theorem dX5_digest_86 : decode cX5_digest 86 = .ok (.iload_n 1, 1) := by decide +kernel
theorem dX5_digest_87 : decode cX5_digest 87 = .ok (.iaload, 1) := by decide +kernel
theorem dX5_digest_88 : decode cX5_digest 88 = .ok (.if_icmp .ge 25, 3) := by decide +kernel
theorem dX5_digest_91 : decode cX5_digest 91 = .ok (.aload_n 0, 1) := by decide +kernel
theorem dX5_digest_92 : decode cX5_digest 92 = .ok (.aload_n 0, 1) := by decide +kernel
theorem dX5_digest_93 : decode cX5_digest 93 = .ok (.getfield 23, 3) := by decide +kernel
theorem dX5_digest_96 : decode cX5_digest 96 = .ok (.iload_n 1, 1) := by decide +kernel
theorem dX5_digest_97 : decode cX5_digest 97 = .ok (.iload_n 3, 1) := by decide +kernel
theorem dX5_digest_98 : decode cX5_digest 98 = .ok (.iload_n 2, 1) := by decide +kernel
theorem dX5_digest_99 : decode cX5_digest 99 = .ok (.invokestatic 96, 3) := by decide +kernel
theorem dX5_digest_102 : decode cX5_digest 102 = .ok (.iaload, 1) := by decide +kernel
theorem dX5_digest_103 : decode cX5_digest 103 = .ok (.i2l, 1) := by decide +kernel
theorem dX5_digest_104 : decode cX5_digest 104 = .ok (.invokevirtual 237, 3) := by decide +kernel
theorem dX5_digest_107 : decode cX5_digest 107 = .ok (.iinc 3 1, 3) := by decide +kernel
theorem dX5_digest_110 : decode cX5_digest 110 = .ok (.goto (-29), 3) := by decide +kernel
theorem dX5_digest_113 : decode cX5_digest 113 = .ok (.iinc 2 1, 3) := by decide +kernel
theorem dX5_digest_116 : decode cX5_digest 116 = .ok (.goto (-47), 3) := by decide +kernel
theorem dX5_digest_119 : decode cX5_digest 119 = .ok (.iinc 1 1, 3) := by decide +kernel
theorem dX5_digest_122 : decode cX5_digest 122 = .ok (.goto (-113), 3) := by decide +kernel
theorem dX5_digest_125 : decode cX5_digest 125 = .ok (.iconst 0, 1) := by decide +kernel
theorem dX5_digest_126 : decode cX5_digest 126 = .ok (.istore_n 1, 1) := by decide +kernel
theorem dX5_digest_127 : decode cX5_digest 127 = .ok (.iload_n 1, 1) := by decide +kernel
theorem dX5_digest_128 : decode cX5_digest 128 = .ok (.sipush 400, 3) := by decide +kernel
theorem dX5_digest_131 : decode cX5_digest 131 = .ok (.if_icmp .ge 24, 3) := by decide +kernel
theorem dX5_digest_134 : decode cX5_digest 134 = .ok (.aload_n 0, 1) := by decide +kernel
theorem dX5_digest_135 : decode cX5_digest 135 = .ok (.getfield 26, 3) := by decide +kernel
theorem dX5_digest_138 : decode cX5_digest 138 = .ok (.iload_n 1, 1) := by decide +kernel
theorem dX5_digest_139 : decode cX5_digest 139 = .ok (.baload, 1) := by decide +kernel
theorem dX5_digest_140 : decode cX5_digest 140 = .ok (.ifCond .eq 9, 3) := by decide +kernel
theorem dX5_digest_143 : decode cX5_digest 143 = .ok (.aload_n 0, 1) := by decide +kernel
theorem dX5_digest_144 : decode cX5_digest 144 = .ok (.iload_n 1, 1) := by decide +kernel
theorem dX5_digest_145 : decode cX5_digest 145 = .ok (.i2l, 1) := by decide +kernel
theorem dX5_digest_146 : decode cX5_digest 146 = .ok (.invokevirtual 237, 3) := by decide +kernel
theorem dX5_digest_149 : decode cX5_digest 149 = .ok (.iinc 1 1, 3) := by decide +kernel
theorem dX5_digest_152 : decode cX5_digest 152 = .ok (.goto (-25), 3) := by decide +kernel
theorem dX5_digest_155 : decode cX5_digest 155 = .ok (.iconst 0, 1) := by decide +kernel
theorem dX5_digest_156 : decode cX5_digest 156 = .ok (.istore_n 1, 1) := by decide +kernel
theorem dX5_digest_157 : decode cX5_digest 157 = .ok (.iload_n 1, 1) := by decide +kernel
theorem dX5_digest_158 : decode cX5_digest 158 = .ok (.aload_n 0, 1) := by decide +kernel
theorem dX5_digest_159 : decode cX5_digest 159 = .ok (.getfield 79, 3) := by decide +kernel
theorem dX5_digest_162 : decode cX5_digest 162 = .ok (.if_icmp .ge 67, 3) := by decide +kernel
theorem dX5_digest_165 : decode cX5_digest 165 = .ok (.iconst 0, 1) := by decide +kernel
theorem dX5_digest_166 : decode cX5_digest 166 = .ok (.istore_n 2, 1) := by decide +kernel
theorem dX5_digest_167 : decode cX5_digest 167 = .ok (.iload_n 2, 1) := by decide +kernel
theorem dX5_digest_168 : decode cX5_digest 168 = .ok (.bipush 8, 2) := by decide +kernel
theorem dX5_digest_170 : decode cX5_digest 170 = .ok (.if_icmp .ge 20, 3) := by decide +kernel
theorem dX5_digest_173 : decode cX5_digest 173 = .ok (.aload_n 0, 1) := by decide +kernel
theorem dX5_digest_174 : decode cX5_digest 174 = .ok (.aload_n 0, 1) := by decide +kernel
theorem dX5_digest_175 : decode cX5_digest 175 = .ok (.iload_n 1, 1) := by decide +kernel
theorem dX5_digest_176 : decode cX5_digest 176 = .ok (.iload_n 2, 1) := by decide +kernel
theorem dX5_digest_177 : decode cX5_digest 177 = .ok (.invokevirtual 241, 3) := by decide +kernel
theorem dX5_digest_180 : decode cX5_digest 180 = .ok (.i2l, 1) := by decide +kernel
theorem dX5_digest_181 : decode cX5_digest 181 = .ok (.invokevirtual 237, 3) := by decide +kernel
theorem dX5_digest_184 : decode cX5_digest 184 = .ok (.iinc 2 1, 3) := by decide +kernel
theorem dX5_digest_187 : decode cX5_digest 187 = .ok (.goto (-20), 3) := by decide +kernel
theorem dX5_digest_190 : decode cX5_digest 190 = .ok (.iconst 0, 1) := by decide +kernel
theorem dX5_digest_191 : decode cX5_digest 191 = .ok (.istore_n 2, 1) := by decide +kernel
theorem dX5_digest_192 : decode cX5_digest 192 = .ok (.iload_n 2, 1) := by decide +kernel
theorem dX5_digest_193 : decode cX5_digest 193 = .ok (.aload_n 0, 1) := by decide +kernel
theorem dX5_digest_194 : decode cX5_digest 194 = .ok (.getfield 38, 3) := by decide +kernel
theorem dX5_digest_197 : decode cX5_digest 197 = .ok (.iload_n 1, 1) := by decide +kernel
theorem dX5_digest_198 : decode cX5_digest 198 = .ok (.iaload, 1) := by decide +kernel
theorem dX5_digest_199 : decode cX5_digest 199 = .ok (.if_icmp .ge 24, 3) := by decide +kernel
theorem dX5_digest_202 : decode cX5_digest 202 = .ok (.aload_n 0, 1) := by decide +kernel
theorem dX5_digest_203 : decode cX5_digest 203 = .ok (.aload_n 0, 1) := by decide +kernel
theorem dX5_digest_204 : decode cX5_digest 204 = .ok (.getfield 41, 3) := by decide +kernel
theorem dX5_digest_207 : decode cX5_digest 207 = .ok (.bipush 20, 2) := by decide +kernel
theorem dX5_digest_209 : decode cX5_digest 209 = .ok (.iload_n 1, 1) := by decide +kernel
theorem dX5_digest_210 : decode cX5_digest 210 = .ok (.imul, 1) := by decide +kernel
theorem dX5_digest_211 : decode cX5_digest 211 = .ok (.iload_n 2, 1) := by decide +kernel
theorem dX5_digest_212 : decode cX5_digest 212 = .ok (.iadd, 1) := by decide +kernel
theorem dX5_digest_213 : decode cX5_digest 213 = .ok (.laload, 1) := by decide +kernel
theorem dX5_digest_214 : decode cX5_digest 214 = .ok (.invokevirtual 237, 3) := by decide +kernel
theorem dX5_digest_217 : decode cX5_digest 217 = .ok (.iinc 2 1, 3) := by decide +kernel
theorem dX5_digest_220 : decode cX5_digest 220 = .ok (.goto (-28), 3) := by decide +kernel
theorem dX5_digest_223 : decode cX5_digest 223 = .ok (.iinc 1 1, 3) := by decide +kernel
theorem dX5_digest_226 : decode cX5_digest 226 = .ok (.goto (-69), 3) := by decide +kernel
theorem dX5_digest_229 : decode cX5_digest 229 = .ok (.iconst 0, 1) := by decide +kernel
theorem dX5_digest_230 : decode cX5_digest 230 = .ok (.istore_n 1, 1) := by decide +kernel
theorem dX5_digest_231 : decode cX5_digest 231 = .ok (.iload_n 1, 1) := by decide +kernel
theorem dX5_digest_232 : decode cX5_digest 232 = .ok (.aload_n 0, 1) := by decide +kernel
theorem dX5_digest_233 : decode cX5_digest 233 = .ok (.getfield 173, 3) := by decide +kernel
theorem dX5_digest_236 : decode cX5_digest 236 = .ok (.if_icmp .ge 20, 3) := by decide +kernel
theorem dX5_digest_239 : decode cX5_digest 239 = .ok (.aload_n 0, 1) := by decide +kernel
theorem dX5_digest_240 : decode cX5_digest 240 = .ok (.aload_n 0, 1) := by decide +kernel
theorem dX5_digest_241 : decode cX5_digest 241 = .ok (.getfield 57, 3) := by decide +kernel
theorem dX5_digest_244 : decode cX5_digest 244 = .ok (.iload_n 1, 1) := by decide +kernel
theorem dX5_digest_245 : decode cX5_digest 245 = .ok (.iaload, 1) := by decide +kernel
theorem dX5_digest_246 : decode cX5_digest 246 = .ok (.i2l, 1) := by decide +kernel
theorem dX5_digest_247 : decode cX5_digest 247 = .ok (.invokevirtual 237, 3) := by decide +kernel
theorem dX5_digest_250 : decode cX5_digest 250 = .ok (.iinc 1 1, 3) := by decide +kernel
theorem dX5_digest_253 : decode cX5_digest 253 = .ok (.goto (-22), 3) := by decide +kernel
theorem dX5_digest_256 : decode cX5_digest 256 = .ok (.aload_n 0, 1) := by decide +kernel
theorem dX5_digest_257 : decode cX5_digest 257 = .ok (.aload_n 0, 1) := by decide +kernel
theorem dX5_digest_258 : decode cX5_digest 258 = .ok (.getfield 110, 3) := by decide +kernel
theorem dX5_digest_261 : decode cX5_digest 261 = .ok (.i2l, 1) := by decide +kernel
theorem dX5_digest_262 : decode cX5_digest 262 = .ok (.invokevirtual 237, 3) := by decide +kernel
theorem dX5_digest_265 : decode cX5_digest 265 = .ok (.aload_n 0, 1) := by decide +kernel
theorem dX5_digest_266 : decode cX5_digest 266 = .ok (.aload_n 0, 1) := by decide +kernel
theorem dX5_digest_267 : decode cX5_digest 267 = .ok (.getfield 198, 3) := by decide +kernel
theorem dX5_digest_270 : decode cX5_digest 270 = .ok (.i2l, 1) := by decide +kernel
theorem dX5_digest_271 : decode cX5_digest 271 = .ok (.invokevirtual 237, 3) := by decide +kernel
theorem dX5_digest_274 : decode cX5_digest 274 = .ok (.aload_n 0, 1) := by decide +kernel
theorem dX5_digest_275 : decode cX5_digest 275 = .ok (.getfield 232, 3) := by decide +kernel
theorem dX5_digest_278 : decode cX5_digest 278 = .ok (.lreturn, 1) := by decide +kernel
