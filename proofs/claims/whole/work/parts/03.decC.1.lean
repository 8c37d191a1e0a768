theorem dX4_digest_49 : decode cX4_digest 49 = .ok (.lload_n 1, 1) := by decide +kernel
theorem dX4_digest_50 : decode cX4_digest 50 = .ok (.iload_n 3, 1) := by decide +kernel
theorem dX4_digest_51 : decode cX4_digest 51 = .ok (.i2l, 1) := by decide +kernel
theorem dX4_digest_52 : decode cX4_digest 52 = .ok (.invokestatic 238, 3) := by decide +kernel
theorem dX4_digest_55 : decode cX4_digest 55 = .ok (.lstore_n 1, 1) := by decide +kernel
theorem dX4_digest_56 : decode cX4_digest 56 = .ok (.iinc 3 1, 3) := by decide +kernel
theorem dX4_digest_59 : decode cX4_digest 59 = .ok (.goto (-28), 3) := by decide +kernel
theorem dX4_digest_62 : decode cX4_digest 62 = .ok (.iconst 0, 1) := by decide +kernel
theorem dX4_digest_63 : decode cX4_digest 63 = .ok (.istore_n 3, 1) := by decide +kernel
theorem dX4_digest_64 : decode cX4_digest 64 = .ok (.iload_n 3, 1) := by decide +kernel
theorem dX4_digest_65 : decode cX4_digest 65 = .ok (.aload_n 0, 1) := by decide +kernel
theorem dX4_digest_66 : decode cX4_digest 66 = .ok (.getfield 110, 3) := by decide +kernel
theorem dX4_digest_69 : decode cX4_digest 69 = .ok (.if_icmp .ge 20, 3) := by decide +kernel
theorem dX4_digest_72 : decode cX4_digest 72 = .ok (.lload_n 1, 1) := by decide +kernel
theorem dX4_digest_73 : decode cX4_digest 73 = .ok (.aload_n 0, 1) := by decide +kernel
theorem dX4_digest_74 : decode cX4_digest 74 = .ok (.getfield 21, 3) := by decide +kernel
theorem dX4_digest_77 : decode cX4_digest 77 = .ok (.iload_n 3, 1) := by decide +kernel
theorem dX4_digest_78 : decode cX4_digest 78 = .ok (.aaload, 1) := by decide +kernel
theorem dX4_digest_79 : decode cX4_digest 79 = .ok (.invokestatic 242, 3) := by decide +kernel
theorem dX4_digest_82 : decode cX4_digest 82 = .ok (.lstore_n 1, 1) := by decide +kernel
theorem dX4_digest_83 : decode cX4_digest 83 = .ok (.iinc 3 1, 3) := by decide +kernel
theorem dX4_digest_86 : decode cX4_digest 86 = .ok (.goto (-22), 3) := by decide +kernel
theorem dX4_digest_89 : decode cX4_digest 89 = .ok (.iconst 0, 1) := by decide +kernel
theorem dX4_digest_90 : decode cX4_digest 90 = .ok (.istore_n 3, 1) := by decide +kernel
theorem dX4_digest_91 : decode cX4_digest 91 = .ok (.iload_n 3, 1) := by decide +kernel
theorem dX4_digest_92 : decode cX4_digest 92 = .ok (.aload_n 0, 1) := by decide +kernel
theorem dX4_digest_93 : decode cX4_digest 93 = .ok (.getfield 172, 3) := by decide +kernel
theorem dX4_digest_96 : decode cX4_digest 96 = .ok (.if_icmp .ge 21, 3) := by decide +kernel
theorem dX4_digest_99 : decode cX4_digest 99 = .ok (.lload_n 1, 1) := by decide +kernel
theorem dX4_digest_100 : decode cX4_digest 100 = .ok (.aload_n 0, 1) := by decide +kernel
theorem dX4_digest_101 : decode cX4_digest 101 = .ok (.getfield 25, 3) := by decide +kernel
theorem dX4_digest_104 : decode cX4_digest 104 = .ok (.iload_n 3, 1) := by decide +kernel
theorem dX4_digest_105 : decode cX4_digest 105 = .ok (.iaload, 1) := by decide +kernel
theorem dX4_digest_106 : decode cX4_digest 106 = .ok (.i2l, 1) := by decide +kernel
theorem dX4_digest_107 : decode cX4_digest 107 = .ok (.invokestatic 238, 3) := by decide +kernel
theorem dX4_digest_110 : decode cX4_digest 110 = .ok (.lstore_n 1, 1) := by decide +kernel
theorem dX4_digest_111 : decode cX4_digest 111 = .ok (.iinc 3 1, 3) := by decide +kernel
theorem dX4_digest_114 : decode cX4_digest 114 = .ok (.goto (-23), 3) := by decide +kernel
theorem dX4_digest_117 : decode cX4_digest 117 = .ok (.lload_n 1, 1) := by decide +kernel
theorem dX4_digest_118 : decode cX4_digest 118 = .ok (.aload_n 0, 1) := by decide +kernel
theorem dX4_digest_119 : decode cX4_digest 119 = .ok (.getfield 103, 3) := by decide +kernel
theorem dX4_digest_122 : decode cX4_digest 122 = .ok (.i2l, 1) := by decide +kernel
theorem dX4_digest_123 : decode cX4_digest 123 = .ok (.invokestatic 238, 3) := by decide +kernel
theorem dX4_digest_126 : decode cX4_digest 126 = .ok (.lstore_n 1, 1) := by decide +kernel
theorem dX4_digest_127 : decode cX4_digest 127 = .ok (.lload_n 1, 1) := by decide +kernel
theorem dX4_digest_128 : decode cX4_digest 128 = .ok (.aload_n 0, 1) := by decide +kernel
theorem dX4_digest_129 : decode cX4_digest 129 = .ok (.getfield 175, 3) := by decide +kernel
theorem dX4_digest_132 : decode cX4_digest 132 = .ok (.i2l, 1) := by decide +kernel
theorem dX4_digest_133 : decode cX4_digest 133 = .ok (.invokestatic 238, 3) := by decide +kernel
theorem dX4_digest_136 : decode cX4_digest 136 = .ok (.lreturn, 1) := by decide +kernel
theorem dX4_within_0 : decode cX4_within 0 = .ok (.iload_n 0, 1) := by decide +kernel
theorem dX4_within_1 : decode cX4_within 1 = .ok (.iload_n 1, 1) := by decide +kernel
theorem dX4_within_2 : decode cX4_within 2 = .ok (.if_icmp .lt 12, 3) := by decide +kernel
theorem dX4_within_5 : decode cX4_within 5 = .ok (.iload_n 0, 1) := by decide +kernel
theorem dX4_within_6 : decode cX4_within 6 = .ok (.iload_n 2, 1) := by decide +kernel
theorem dX4_within_7 : decode cX4_within 7 = .ok (.if_icmp .gt 7, 3) := by decide +kernel
theorem dX4_within_10 : decode cX4_within 10 = .ok (.iconst 1, 1) := by decide +kernel
theorem dX4_within_11 : decode cX4_within 11 = .ok (.goto 4, 3) := by decide +kernel
theorem dX4_within_14 : decode cX4_within 14 = .ok (.iconst 0, 1) := by decide +kernel
theorem dX4_within_15 : decode cX4_within 15 = .ok (.ireturn, 1) := by decide +kernel
theorem dX4_isLane_0 : decode cX4_isLane 0 = .ok (.iload_n 0, 1) := by decide +kernel
theorem dX4_isLane_1 : decode cX4_isLane 1 = .ok (.iconst 0, 1) := by decide +kernel
theorem dX4_isLane_2 : decode cX4_isLane 2 = .ok (.iconst 2, 1) := by decide +kernel
theorem dX4_isLane_3 : decode cX4_isLane 3 = .ok (.invokestatic 106, 3) := by decide +kernel
theorem dX4_isLane_6 : decode cX4_isLane 6 = .ok (.ireturn, 1) := by decide +kernel
theorem dX4_isCell_0 : decode cX4_isCell 0 = .ok (.iload_n 0, 1) := by decide +kernel
theorem dX4_isCell_1 : decode cX4_isCell 1 = .ok (.iconst 0, 1) := by decide +kernel
theorem dX4_isCell_2 : decode cX4_isCell 2 = .ok (.bipush 19, 2) := by decide +kernel
theorem dX4_isCell_4 : decode cX4_isCell 4 = .ok (.invokestatic 106, 3) := by decide +kernel
theorem dX4_isCell_7 : decode cX4_isCell 7 = .ok (.ifCond .eq 17, 3) := by decide +kernel
theorem dX4_isCell_10 : decode cX4_isCell 10 = .ok (.iload_n 1, 1) := by decide +kernel
theorem dX4_isCell_11 : decode cX4_isCell 11 = .ok (.iconst 0, 1) := by decide +kernel
theorem dX4_isCell_12 : decode cX4_isCell 12 = .ok (.bipush 19, 2) := by decide +kernel
theorem dX4_isCell_14 : decode cX4_isCell 14 = .ok (.invokestatic 106, 3) := by decide +kernel
theorem dX4_isCell_17 : decode cX4_isCell 17 = .ok (.ifCond .eq 7, 3) := by decide +kernel
theorem dX4_isCell_20 : decode cX4_isCell 20 = .ok (.iconst 1, 1) := by decide +kernel
theorem dX4_isCell_21 : decode cX4_isCell 21 = .ok (.goto 4, 3) := by decide +kernel
theorem dX4_isCell_24 : decode cX4_isCell 24 = .ok (.iconst 0, 1) := by decide +kernel
theorem dX4_isCell_25 : decode cX4_isCell 25 = .ok (.ireturn, 1) := by decide +kernel
theorem dX4_castToLane_0 : decode cX4_castToLane 0 = .ok (.iload_n 1, 1) := by decide +kernel
theorem dX4_castToLane_1 : decode cX4_castToLane 1 = .ok (.ifCond .ne 6, 3) := by decide +kernel
theorem dX4_castToLane_4 : decode cX4_castToLane 4 = .ok (.iload_n 0, 1) := by decide +kernel
theorem dX4_castToLane_5 : decode cX4_castToLane 5 = .ok (.i2b, 1) := by decide +kernel
theorem dX4_castToLane_6 : decode cX4_castToLane 6 = .ok (.ireturn, 1) := by decide +kernel
theorem dX4_castToLane_7 : decode cX4_castToLane 7 = .ok (.iload_n 1, 1) := by decide +kernel
theorem dX4_castToLane_8 : decode cX4_castToLane 8 = .ok (.iconst 1, 1) := by decide +kernel
theorem dX4_castToLane_9 : decode cX4_castToLane 9 = .ok (.if_icmp .ne 8, 3) := by decide +kernel
theorem dX4_castToLane_12 : decode cX4_castToLane 12 = .ok (.iload_n 0, 1) := by decide +kernel
theorem dX4_castToLane_13 : decode cX4_castToLane 13 = .ok (.i2s, 1) := by decide +kernel
theorem dX4_castToLane_14 : decode cX4_castToLane 14 = .ok (.goto 4, 3) := by decide +kernel
theorem dX4_castToLane_17 : decode cX4_castToLane 17 = .ok (.iload_n 0, 1) := by decide +kernel
theorem dX4_castToLane_18 : decode cX4_castToLane 18 = .ok (.ireturn, 1) := by decide +kernel
theorem dX4_plateOf_0 : decode cX4_plateOf 0 = .ok (.iload_n 1, 1) := by decide +kernel
theorem dX4_plateOf_1 : decode cX4_plateOf 1 = .ok (.iconst 0, 1) := by decide +kernel
theorem dX4_plateOf_2 : decode cX4_plateOf 2 = .ok (.iconst 5, 1) := by decide +kernel
theorem dX4_plateOf_3 : decode cX4_plateOf 3 = .ok (.invokestatic 106, 3) := by decide +kernel
theorem dX4_plateOf_6 : decode cX4_plateOf 6 = .ok (.ifCond .eq 12, 3) := by decide +kernel
theorem dX4_plateOf_9 : decode cX4_plateOf 9 = .ok (.aload_n 0, 1) := by decide +kernel
theorem dX4_plateOf_10 : decode cX4_plateOf 10 = .ok (.getfield 11, 3) := by decide +kernel
theorem dX4_plateOf_13 : decode cX4_plateOf 13 = .ok (.iload_n 1, 1) := by decide +kernel
theorem dX4_plateOf_14 : decode cX4_plateOf 14 = .ok (.aaload, 1) := by decide +kernel
theorem dX4_plateOf_15 : decode cX4_plateOf 15 = .ok (.goto 4, 3) := by decide +kernel
theorem dX4_plateOf_18 : decode cX4_plateOf 18 = .ok (.aconst_null, 1) := by decide +kernel
theorem dX4_plateOf_19 : decode cX4_plateOf 19 = .ok (.areturn, 1) := by decide +kernel
theorem dX4_combOf_0 : decode cX4_combOf 0 = .ok (.iload_n 1, 1) := by decide +kernel
theorem dX4_combOf_1 : decode cX4_combOf 1 = .ok (.iconst 0, 1) := by decide +kernel
theorem dX4_combOf_2 : decode cX4_combOf 2 = .ok (.aload_n 0, 1) := by decide +kernel
theorem dX4_combOf_3 : decode cX4_combOf 3 = .ok (.getfield 110, 3) := by decide +kernel
theorem dX4_combOf_6 : decode cX4_combOf 6 = .ok (.iconst 1, 1) := by decide +kernel
theorem dX4_combOf_7 : decode cX4_combOf 7 = .ok (.isub, 1) := by decide +kernel
theorem dX4_combOf_8 : decode cX4_combOf 8 = .ok (.invokestatic 106, 3) := by decide +kernel
theorem dX4_combOf_11 : decode cX4_combOf 11 = .ok (.ifCond .eq 12, 3) := by decide +kernel
theorem dX4_combOf_14 : decode cX4_combOf 14 = .ok (.aload_n 0, 1) := by decide +kernel
theorem dX4_combOf_15 : decode cX4_combOf 15 = .ok (.getfield 21, 3) := by decide +kernel
theorem dX4_combOf_18 : decode cX4_combOf 18 = .ok (.iload_n 1, 1) := by decide +kernel
theorem dX4_combOf_19 : decode cX4_combOf 19 = .ok (.aaload, 1) := by decide +kernel
theorem dX4_combOf_20 : decode cX4_combOf 20 = .ok (.goto 4, 3) := by decide +kernel
theorem dX4_combOf_23 : decode cX4_combOf 23 = .ok (.aconst_null, 1) := by decide +kernel
theorem dX4_combOf_24 : decode cX4_combOf 24 = .ok (.areturn, 1) := by decide +kernel
theorem dX4_caused_0 : decode cX4_caused 0 = .ok (.aload_n 0, 1) := by decide +kernel
theorem dX4_caused_1 : decode cX4_caused 1 = .ok (.iload_n 1, 1) := by decide +kernel
theorem dX4_caused_2 : decode cX4_caused 2 = .ok (.putfield 223, 3) := by decide +kernel
theorem dX4_caused_5 : decode cX4_caused 5 = .ok (.aload_n 0, 1) := by decide +kernel
theorem dX4_caused_6 : decode cX4_caused 6 = .ok (.getfield 33, 3) := by decide +kernel
theorem dX4_caused_9 : decode cX4_caused 9 = .ok (.iload_n 1, 1) := by decide +kernel
theorem dX4_caused_10 : decode cX4_caused 10 = .ok (.dup2, 1) := by decide +kernel
theorem dX4_caused_11 : decode cX4_caused 11 = .ok (.iaload, 1) := by decide +kernel
theorem dX4_caused_12 : decode cX4_caused 12 = .ok (.iconst 1, 1) := by decide +kernel
theorem dX4_caused_13 : decode cX4_caused 13 = .ok (.iadd, 1) := by decide +kernel
theorem dX4_caused_14 : decode cX4_caused 14 = .ok (.iastore, 1) := by decide +kernel
theorem dX4_caused_15 : decode cX4_caused 15 = .ok (.bipush (-10), 2) := by decide +kernel
theorem dX4_caused_17 : decode cX4_caused 17 = .ok (.iload_n 1, 1) := by decide +kernel
theorem dX4_caused_18 : decode cX4_caused 18 = .ok (.isub, 1) := by decide +kernel
theorem dX4_caused_19 : decode cX4_caused 19 = .ok (.ireturn, 1) := by decide +kernel
theorem dX4_isBad_0 : decode cX4_isBad 0 = .ok (.iload_n 1, 1) := by decide +kernel
theorem dX4_isBad_1 : decode cX4_isBad 1 = .ok (.iload_n 2, 1) := by decide +kernel
theorem dX4_isBad_2 : decode cX4_isBad 2 = .ok (.invokestatic 100, 3) := by decide +kernel
theorem dX4_isBad_5 : decode cX4_isBad 5 = .ok (.ifCond .eq 21, 3) := by decide +kernel
theorem dX4_isBad_8 : decode cX4_isBad 8 = .ok (.aload_n 0, 1) := by decide +kernel
theorem dX4_isBad_9 : decode cX4_isBad 9 = .ok (.getfield 15, 3) := by decide +kernel
theorem dX4_isBad_12 : decode cX4_isBad 12 = .ok (.iload_n 2, 1) := by decide +kernel
theorem dX4_isBad_13 : decode cX4_isBad 13 = .ok (.bipush 20, 2) := by decide +kernel
theorem dX4_isBad_15 : decode cX4_isBad 15 = .ok (.imul, 1) := by decide +kernel
theorem dX4_isBad_16 : decode cX4_isBad 16 = .ok (.iload_n 1, 1) := by decide +kernel
theorem dX4_isBad_17 : decode cX4_isBad 17 = .ok (.iadd, 1) := by decide +kernel
theorem dX4_isBad_18 : decode cX4_isBad 18 = .ok (.baload, 1) := by decide +kernel
theorem dX4_isBad_19 : decode cX4_isBad 19 = .ok (.ifCond .eq 7, 3) := by decide +kernel
theorem dX4_isBad_22 : decode cX4_isBad 22 = .ok (.iconst 1, 1) := by decide +kernel
theorem dX4_isBad_23 : decode cX4_isBad 23 = .ok (.goto 4, 3) := by decide +kernel
theorem dX4_isBad_26 : decode cX4_isBad 26 = .ok (.iconst 0, 1) := by decide +kernel
theorem dX4_isBad_27 : decode cX4_isBad 27 = .ok (.ireturn, 1) := by decide +kernel
theorem dX4_fact_0 : decode cX4_fact 0 = .ok (.iload_n 1, 1) := by decide +kernel
theorem dX4_fact_1 : decode cX4_fact 1 = .ok (.tableswitch 95 0 6 #[43, 48, 53, 58, 63, 79, 87], 43) := by decide +kernel
theorem dX4_fact_44 : decode cX4_fact 44 = .ok (.aload_n 0, 1) := by decide +kernel
theorem dX4_fact_45 : decode cX4_fact 45 = .ok (.getfield 113, 3) := by decide +kernel
theorem dX4_fact_48 : decode cX4_fact 48 = .ok (.ireturn, 1) := by decide +kernel
theorem dX4_fact_49 : decode cX4_fact 49 = .ok (.aload_n 0, 1) := by decide +kernel
theorem dX4_fact_50 : decode cX4_fact 50 = .ok (.getfield 116, 3) := by decide +kernel
theorem dX4_fact_53 : decode cX4_fact 53 = .ok (.ireturn, 1) := by decide +kernel
theorem dX4_fact_54 : decode cX4_fact 54 = .ok (.aload_n 0, 1) := by decide +kernel
theorem dX4_fact_55 : decode cX4_fact 55 = .ok (.getfield 119, 3) := by decide +kernel
theorem dX4_fact_58 : decode cX4_fact 58 = .ok (.ireturn, 1) := by decide +kernel
theorem dX4_fact_59 : decode cX4_fact 59 = .ok (.aload_n 0, 1) := by decide +kernel
theorem dX4_fact_60 : decode cX4_fact 60 = .ok (.getfield 141, 3) := by decide +kernel
theorem dX4_fact_63 : decode cX4_fact 63 = .ok (.ireturn, 1) := by decide +kernel
theorem dX4_fact_64 : decode cX4_fact 64 = .ok (.aload_n 0, 1) := by decide +kernel
theorem dX4_fact_65 : decode cX4_fact 65 = .ok (.getfield 151, 3) := by decide +kernel
theorem dX4_fact_68 : decode cX4_fact 68 = .ok (.getfield 182, 3) := by decide +kernel
theorem dX4_fact_71 : decode cX4_fact 71 = .ok (.ifCond .eq 7, 3) := by decide +kernel
theorem dX4_fact_74 : decode cX4_fact 74 = .ok (.iconst 1, 1) := by decide +kernel
theorem dX4_fact_75 : decode cX4_fact 75 = .ok (.goto 4, 3) := by decide +kernel
theorem dX4_fact_78 : decode cX4_fact 78 = .ok (.iconst 0, 1) := by decide +kernel
theorem dX4_fact_79 : decode cX4_fact 79 = .ok (.ireturn, 1) := by decide +kernel
theorem dX4_fact_80 : decode cX4_fact 80 = .ok (.aload_n 0, 1) := by decide +kernel
theorem dX4_fact_81 : decode cX4_fact 81 = .ok (.getfield 151, 3) := by decide +kernel
theorem dX4_fact_84 : decode cX4_fact 84 = .ok (.getfield 185, 3) := by decide +kernel
theorem dX4_fact_87 : decode cX4_fact 87 = .ok (.ireturn, 1) := by decide +kernel
theorem dX4_fact_88 : decode cX4_fact 88 = .ok (.aload_n 0, 1) := by decide +kernel
theorem dX4_fact_89 : decode cX4_fact 89 = .ok (.getfield 151, 3) := by decide +kernel
theorem dX4_fact_92 : decode cX4_fact 92 = .ok (.getfield 186, 3) := by decide +kernel
theorem dX4_fact_95 : decode cX4_fact 95 = .ok (.ireturn, 1) := by decide +kernel
theorem dX4_fact_96 : decode cX4_fact 96 = .ok (.aload_n 0, 1) := by decide +kernel
theorem dX4_fact_97 : decode cX4_fact 97 = .ok (.getfield 151, 3) := by decide +kernel
theorem dX4_fact_100 : decode cX4_fact 100 = .ok (.getfield 187, 3) := by decide +kernel
theorem dX4_fact_103 : decode cX4_fact 103 = .ok (.ireturn, 1) := by decide +kernel
theorem dX4_middleOfLight_0 : decode cX4_middleOfLight 0 = .ok (.lconst 0, 1) := by decide +kernel
theorem dX4_middleOfLight_1 : decode cX4_middleOfLight 1 = .ok (.lstore 4, 2) := by decide +kernel
theorem dX4_middleOfLight_3 : decode cX4_middleOfLight 3 = .ok (.lconst 0, 1) := by decide +kernel
theorem dX4_middleOfLight_4 : decode cX4_middleOfLight 4 = .ok (.lstore 6, 2) := by decide +kernel
theorem dX4_middleOfLight_6 : decode cX4_middleOfLight 6 = .ok (.aload_n 1, 1) := by decide +kernel
theorem dX4_middleOfLight_7 : decode cX4_middleOfLight 7 = .ok (.iload_n 3, 1) := by decide +kernel
theorem dX4_middleOfLight_8 : decode cX4_middleOfLight 8 = .ok (.aload_n 2, 1) := by decide +kernel
theorem dX4_middleOfLight_9 : decode cX4_middleOfLight 9 = .ok (.invokevirtual 134, 3) := by decide +kernel
theorem dX4_middleOfLight_12 : decode cX4_middleOfLight 12 = .ok (.istore 8, 2) := by decide +kernel
theorem dX4_middleOfLight_14 : decode cX4_middleOfLight 14 = .ok (.aload_n 1, 1) := by decide +kernel
theorem dX4_middleOfLight_15 : decode cX4_middleOfLight 15 = .ok (.iload_n 3, 1) := by decide +kernel
theorem dX4_middleOfLight_16 : decode cX4_middleOfLight 16 = .ok (.aload_n 2, 1) := by decide +kernel
theorem dX4_middleOfLight_17 : decode cX4_middleOfLight 17 = .ok (.invokevirtual 130, 3) := by decide +kernel
theorem dX4_middleOfLight_20 : decode cX4_middleOfLight 20 = .ok (.istore 9, 2) := by decide +kernel
theorem dX4_middleOfLight_22 : decode cX4_middleOfLight 22 = .ok (.iload 9, 2) := by decide +kernel
theorem dX4_middleOfLight_24 : decode cX4_middleOfLight 24 = .ok (.iload 8, 2) := by decide +kernel
theorem dX4_middleOfLight_26 : decode cX4_middleOfLight 26 = .ok (.if_icmp .gt 50, 3) := by decide +kernel
theorem dX4_middleOfLight_29 : decode cX4_middleOfLight 29 = .ok (.aload_n 0, 1) := by decide +kernel
theorem dX4_middleOfLight_30 : decode cX4_middleOfLight 30 = .ok (.iload_n 3, 1) := by decide +kernel
theorem dX4_middleOfLight_31 : decode cX4_middleOfLight 31 = .ok (.iload 9, 2) := by decide +kernel
theorem dX4_middleOfLight_33 : decode cX4_middleOfLight 33 = .ok (.invokevirtual 246, 3) := by decide +kernel
theorem dX4_middleOfLight_36 : decode cX4_middleOfLight 36 = .ok (.ifCond .ne 34, 3) := by decide +kernel
theorem dX4_middleOfLight_39 : decode cX4_middleOfLight 39 = .ok (.lload 4, 2) := by decide +kernel
theorem dX4_middleOfLight_41 : decode cX4_middleOfLight 41 = .ok (.aload_n 2, 1) := by decide +kernel
theorem dX4_middleOfLight_42 : decode cX4_middleOfLight 42 = .ok (.iload_n 3, 1) := by decide +kernel
theorem dX4_middleOfLight_43 : decode cX4_middleOfLight 43 = .ok (.iload 9, 2) := by decide +kernel
theorem dX4_middleOfLight_45 : decode cX4_middleOfLight 45 = .ok (.invokevirtual 249, 3) := by decide +kernel
theorem dX4_middleOfLight_48 : decode cX4_middleOfLight 48 = .ok (.ladd, 1) := by decide +kernel
theorem dX4_middleOfLight_49 : decode cX4_middleOfLight 49 = .ok (.lstore 4, 2) := by decide +kernel
theorem dX4_middleOfLight_51 : decode cX4_middleOfLight 51 = .ok (.lload 6, 2) := by decide +kernel
theorem dX4_middleOfLight_53 : decode cX4_middleOfLight 53 = .ok (.aload_n 2, 1) := by decide +kernel
theorem dX4_middleOfLight_54 : decode cX4_middleOfLight 54 = .ok (.iload_n 3, 1) := by decide +kernel
theorem dX4_middleOfLight_55 : decode cX4_middleOfLight 55 = .ok (.iload 9, 2) := by decide +kernel
theorem dX4_middleOfLight_57 : decode cX4_middleOfLight 57 = .ok (.invokevirtual 249, 3) := by decide +kernel
theorem dX4_middleOfLight_60 : decode cX4_middleOfLight 60 = .ok (.bipush 16, 2) := by decide +kernel
theorem dX4_middleOfLight_62 : decode cX4_middleOfLight 62 = .ok (.iload 9, 2) := by decide +kernel
theorem dX4_middleOfLight_64 : decode cX4_middleOfLight 64 = .ok (.imul, 1) := by decide +kernel
theorem dX4_middleOfLight_65 : decode cX4_middleOfLight 65 = .ok (.i2l, 1) := by decide +kernel
theorem dX4_middleOfLight_66 : decode cX4_middleOfLight 66 = .ok (.lmul, 1) := by decide +kernel
theorem dX4_middleOfLight_67 : decode cX4_middleOfLight 67 = .ok (.ladd, 1) := by decide +kernel
theorem dX4_middleOfLight_68 : decode cX4_middleOfLight 68 = .ok (.lstore 6, 2) := by decide +kernel
theorem dX4_middleOfLight_70 : decode cX4_middleOfLight 70 = .ok (.iinc 9 1, 3) := by decide +kernel
theorem dX4_middleOfLight_73 : decode cX4_middleOfLight 73 = .ok (.goto (-51), 3) := by decide +kernel
theorem dX4_middleOfLight_76 : decode cX4_middleOfLight 76 = .ok (.lload 4, 2) := by decide +kernel
theorem dX4_middleOfLight_78 : decode cX4_middleOfLight 78 = .ok (.lconst 0, 1) := by decide +kernel
theorem dX4_middleOfLight_79 : decode cX4_middleOfLight 79 = .ok (.lcmp, 1) := by decide +kernel
theorem dX4_middleOfLight_80 : decode cX4_middleOfLight 80 = .ok (.ifCond .le 14, 3) := by decide +kernel
theorem dX4_middleOfLight_83 : decode cX4_middleOfLight 83 = .ok (.lload 6, 2) := by decide +kernel
theorem dX4_middleOfLight_85 : decode cX4_middleOfLight 85 = .ok (.lload 4, 2) := by decide +kernel
theorem dX4_middleOfLight_87 : decode cX4_middleOfLight 87 = .ok (.invokestatic 253, 3) := by decide +kernel
theorem dX4_middleOfLight_90 : decode cX4_middleOfLight 90 = .ok (.l2i, 1) := by decide +kernel
theorem dX4_middleOfLight_91 : decode cX4_middleOfLight 91 = .ok (.goto 4, 3) := by decide +kernel
theorem dX4_middleOfLight_94 : decode cX4_middleOfLight 94 = .ok (.iconst (-1), 1) := by decide +kernel
theorem dX4_middleOfLight_95 : decode cX4_middleOfLight 95 = .ok (.ireturn, 1) := by decide +kernel
theorem dX4_drawnNumber_0 : decode cX4_drawnNumber 0 = .ok (.aload_n 0, 1) := by decide +kernel
theorem dX4_drawnNumber_1 : decode cX4_drawnNumber 1 = .ok (.aload_n 1, 1) := by decide +kernel
theorem dX4_drawnNumber_2 : decode cX4_drawnNumber 2 = .ok (.aload_n 2, 1) := by decide +kernel
theorem dX4_drawnNumber_3 : decode cX4_drawnNumber 3 = .ok (.aload_n 3, 1) := by decide +kernel
theorem dX4_drawnNumber_4 : decode cX4_drawnNumber 4 = .ok (.iload 4, 2) := by decide +kernel
theorem dX4_drawnNumber_6 : decode cX4_drawnNumber 6 = .ok (.iconst (-1), 1) := by decide +kernel
theorem dX4_drawnNumber_7 : decode cX4_drawnNumber 7 = .ok (.invokevirtual 258, 3) := by decide +kernel
theorem dX4_drawnNumber_10 : decode cX4_drawnNumber 10 = .ok (.iload 5, 2) := by decide +kernel
theorem dX4_drawnNumber_12 : decode cX4_drawnNumber 12 = .ok (.ifCond .le 44, 3) := by decide +kernel
theorem dX4_drawnNumber_15 : decode cX4_drawnNumber 15 = .ok (.aload_n 0, 1) := by decide +kernel
theorem dX4_drawnNumber_16 : decode cX4_drawnNumber 16 = .ok (.getfield 42, 3) := by decide +kernel
theorem dX4_drawnNumber_19 : decode cX4_drawnNumber 19 = .ok (.getfield 262, 3) := by decide +kernel
theorem dX4_drawnNumber_22 : decode cX4_drawnNumber 22 = .ok (.iconst 3, 1) := by decide +kernel
theorem dX4_drawnNumber_23 : decode cX4_drawnNumber 23 = .ok (.if_icmp .lt 33, 3) := by decide +kernel
theorem dX4_drawnNumber_26 : decode cX4_drawnNumber 26 = .ok (.aload_n 0, 1) := by decide +kernel
theorem dX4_drawnNumber_27 : decode cX4_drawnNumber 27 = .ok (.aload_n 1, 1) := by decide +kernel
theorem dX4_drawnNumber_28 : decode cX4_drawnNumber 28 = .ok (.aload_n 2, 1) := by decide +kernel
theorem dX4_drawnNumber_29 : decode cX4_drawnNumber 29 = .ok (.aload_n 3, 1) := by decide +kernel
theorem dX4_drawnNumber_30 : decode cX4_drawnNumber 30 = .ok (.iload 4, 2) := by decide +kernel
theorem dX4_drawnNumber_32 : decode cX4_drawnNumber 32 = .ok (.iload 5, 2) := by decide +kernel
theorem dX4_drawnNumber_34 : decode cX4_drawnNumber 34 = .ok (.invokevirtual 265, 3) := by decide +kernel
theorem dX4_drawnNumber_37 : decode cX4_drawnNumber 37 = .ok (.istore 6, 2) := by decide +kernel
theorem dX4_drawnNumber_39 : decode cX4_drawnNumber 39 = .ok (.iload 6, 2) := by decide +kernel
theorem dX4_drawnNumber_41 : decode cX4_drawnNumber 41 = .ok (.iconst (-1), 1) := by decide +kernel
theorem dX4_drawnNumber_42 : decode cX4_drawnNumber 42 = .ok (.if_icmp .eq 14, 3) := by decide +kernel
theorem dX4_drawnNumber_45 : decode cX4_drawnNumber 45 = .ok (.aload_n 0, 1) := by decide +kernel
theorem dX4_drawnNumber_46 : decode cX4_drawnNumber 46 = .ok (.aload_n 1, 1) := by decide +kernel
theorem dX4_drawnNumber_47 : decode cX4_drawnNumber 47 = .ok (.aload_n 2, 1) := by decide +kernel
theorem dX4_drawnNumber_48 : decode cX4_drawnNumber 48 = .ok (.aload_n 3, 1) := by decide +kernel
theorem dX4_drawnNumber_49 : decode cX4_drawnNumber 49 = .ok (.iload 4, 2) := by decide +kernel
theorem dX4_drawnNumber_51 : decode cX4_drawnNumber 51 = .ok (.iload 6, 2) := by decide +kernel
theorem dX4_drawnNumber_53 : decode cX4_drawnNumber 53 = .ok (.invokevirtual 258, 3) := by decide +kernel
theorem dX4_drawnNumber_56 : decode cX4_drawnNumber 56 = .ok (.aload_n 0, 1) := by decide +kernel
theorem dX4_drawnNumber_57 : decode cX4_drawnNumber 57 = .ok (.getfield 42, 3) := by decide +kernel
theorem dX4_drawnNumber_60 : decode cX4_drawnNumber 60 = .ok (.invokevirtual 269, 3) := by decide +kernel
theorem dX4_drawnNumber_63 : decode cX4_drawnNumber 63 = .ok (.lreturn, 1) := by decide +kernel
theorem dX4_sumColumn_0 : decode cX4_sumColumn 0 = .ok (.aload_n 0, 1) := by decide +kernel
theorem dX4_sumColumn_1 : decode cX4_sumColumn 1 = .ok (.getfield 42, 3) := by decide +kernel
theorem dX4_sumColumn_4 : decode cX4_sumColumn 4 = .ok (.invokevirtual 273, 3) := by decide +kernel
theorem dX4_sumColumn_7 : decode cX4_sumColumn 7 = .ok (.aload_n 1, 1) := by decide +kernel
theorem dX4_sumColumn_8 : decode cX4_sumColumn 8 = .ok (.iload 4, 2) := by decide +kernel
theorem dX4_sumColumn_10 : decode cX4_sumColumn 10 = .ok (.aload_n 3, 1) := by decide +kernel
theorem dX4_sumColumn_11 : decode cX4_sumColumn 11 = .ok (.invokevirtual 134, 3) := by decide +kernel
theorem dX4_sumColumn_14 : decode cX4_sumColumn 14 = .ok (.istore 6, 2) := by decide +kernel
theorem dX4_sumColumn_16 : decode cX4_sumColumn 16 = .ok (.aload_n 1, 1) := by decide +kernel
theorem dX4_sumColumn_17 : decode cX4_sumColumn 17 = .ok (.iload 4, 2) := by decide +kernel
theorem dX4_sumColumn_19 : decode cX4_sumColumn 19 = .ok (.aload_n 3, 1) := by decide +kernel
theorem dX4_sumColumn_20 : decode cX4_sumColumn 20 = .ok (.invokevirtual 130, 3) := by decide +kernel
theorem dX4_sumColumn_23 : decode cX4_sumColumn 23 = .ok (.istore 7, 2) := by decide +kernel
theorem dX4_sumColumn_25 : decode cX4_sumColumn 25 = .ok (.iload 7, 2) := by decide +kernel
theorem dX4_sumColumn_27 : decode cX4_sumColumn 27 = .ok (.iload 6, 2) := by decide +kernel
theorem dX4_sumColumn_29 : decode cX4_sumColumn 29 = .ok (.if_icmp .gt 51, 3) := by decide +kernel
theorem dX4_sumColumn_32 : decode cX4_sumColumn 32 = .ok (.iload 7, 2) := by decide +kernel
theorem dX4_sumColumn_34 : decode cX4_sumColumn 34 = .ok (.iload 5, 2) := by decide +kernel
theorem dX4_sumColumn_36 : decode cX4_sumColumn 36 = .ok (.if_icmp .eq 38, 3) := by decide +kernel
theorem dX4_sumColumn_39 : decode cX4_sumColumn 39 = .ok (.aload_n 0, 1) := by decide +kernel
theorem dX4_sumColumn_40 : decode cX4_sumColumn 40 = .ok (.aload_n 3, 1) := by decide +kernel
theorem dX4_sumColumn_41 : decode cX4_sumColumn 41 = .ok (.iload 4, 2) := by decide +kernel
theorem dX4_sumColumn_43 : decode cX4_sumColumn 43 = .ok (.iload 7, 2) := by decide +kernel
theorem dX4_sumColumn_45 : decode cX4_sumColumn 45 = .ok (.invokevirtual 276, 3) := by decide +kernel
theorem dX4_sumColumn_48 : decode cX4_sumColumn 48 = .ok (.ifCond .eq 26, 3) := by decide +kernel
theorem dX4_sumColumn_51 : decode cX4_sumColumn 51 = .ok (.aload_n 0, 1) := by decide +kernel
theorem dX4_sumColumn_52 : decode cX4_sumColumn 52 = .ok (.getfield 42, 3) := by decide +kernel
theorem dX4_sumColumn_55 : decode cX4_sumColumn 55 = .ok (.aload_n 2, 1) := by decide +kernel
theorem dX4_sumColumn_56 : decode cX4_sumColumn 56 = .ok (.iload 4, 2) := by decide +kernel
theorem dX4_sumColumn_58 : decode cX4_sumColumn 58 = .ok (.iload 7, 2) := by decide +kernel
theorem dX4_sumColumn_60 : decode cX4_sumColumn 60 = .ok (.invokevirtual 249, 3) := by decide +kernel
theorem dX4_sumColumn_63 : decode cX4_sumColumn 63 = .ok (.aload_n 3, 1) := by decide +kernel
theorem dX4_sumColumn_64 : decode cX4_sumColumn 64 = .ok (.iload 4, 2) := by decide +kernel
theorem dX4_sumColumn_66 : decode cX4_sumColumn 66 = .ok (.iload 7, 2) := by decide +kernel
theorem dX4_sumColumn_68 : decode cX4_sumColumn 68 = .ok (.invokevirtual 249, 3) := by decide +kernel
theorem dX4_sumColumn_71 : decode cX4_sumColumn 71 = .ok (.invokevirtual 280, 3) := by decide +kernel
theorem dX4_sumColumn_74 : decode cX4_sumColumn 74 = .ok (.iinc 7 1, 3) := by decide +kernel
theorem dX4_sumColumn_77 : decode cX4_sumColumn 77 = .ok (.goto (-52), 3) := by decide +kernel
theorem dX4_sumColumn_80 : decode cX4_sumColumn 80 = .ok (.return_, 1) := by decide +kernel
theorem dX4_counts_0 : decode cX4_counts 0 = .ok (.aload_n 0, 1) := by decide +kernel
theorem dX4_counts_1 : decode cX4_counts 1 = .ok (.iload_n 2, 1) := by decide +kernel
theorem dX4_counts_2 : decode cX4_counts 2 = .ok (.iload_n 3, 1) := by decide +kernel
theorem dX4_counts_3 : decode cX4_counts 3 = .ok (.invokevirtual 246, 3) := by decide +kernel
theorem dX4_counts_6 : decode cX4_counts 6 = .ok (.ifCond .ne 18, 3) := by decide +kernel
theorem dX4_counts_9 : decode cX4_counts 9 = .ok (.aload_n 1, 1) := by decide +kernel
theorem dX4_counts_10 : decode cX4_counts 10 = .ok (.iload_n 2, 1) := by decide +kernel
theorem dX4_counts_11 : decode cX4_counts 11 = .ok (.iload_n 3, 1) := by decide +kernel
theorem dX4_counts_12 : decode cX4_counts 12 = .ok (.invokevirtual 249, 3) := by decide +kernel
theorem dX4_counts_15 : decode cX4_counts 15 = .ok (.lconst 0, 1) := by decide +kernel
theorem dX4_counts_16 : decode cX4_counts 16 = .ok (.lcmp, 1) := by decide +kernel
theorem dX4_counts_17 : decode cX4_counts 17 = .ok (.ifCond .le 7, 3) := by decide +kernel
theorem dX4_counts_20 : decode cX4_counts 20 = .ok (.iconst 1, 1) := by decide +kernel
theorem dX4_counts_21 : decode cX4_counts 21 = .ok (.goto 4, 3) := by decide +kernel
theorem dX4_counts_24 : decode cX4_counts 24 = .ok (.iconst 0, 1) := by decide +kernel
theorem dX4_counts_25 : decode cX4_counts 25 = .ok (.ireturn, 1) := by decide +kernel
theorem dX4_rayRow_0 : decode cX4_rayRow 0 = .ok (.iconst (-1), 1) := by decide +kernel
theorem dX4_rayRow_1 : decode cX4_rayRow 1 = .ok (.istore 6, 2) := by decide +kernel
theorem dX4_rayRow_3 : decode cX4_rayRow 3 = .ok (.lconst 0, 1) := by decide +kernel
theorem dX4_rayRow_4 : decode cX4_rayRow 4 = .ok (.lstore 7, 2) := by decide +kernel
theorem dX4_rayRow_6 : decode cX4_rayRow 6 = .ok (.aload_n 1, 1) := by decide +kernel
theorem dX4_rayRow_7 : decode cX4_rayRow 7 = .ok (.iload 4, 2) := by decide +kernel
theorem dX4_rayRow_9 : decode cX4_rayRow 9 = .ok (.aload_n 3, 1) := by decide +kernel
theorem dX4_rayRow_10 : decode cX4_rayRow 10 = .ok (.invokevirtual 134, 3) := by decide +kernel
theorem dX4_rayRow_13 : decode cX4_rayRow 13 = .ok (.istore 9, 2) := by decide +kernel
theorem dX4_rayRow_15 : decode cX4_rayRow 15 = .ok (.aload_n 1, 1) := by decide +kernel
theorem dX4_rayRow_16 : decode cX4_rayRow 16 = .ok (.iload 4, 2) := by decide +kernel
theorem dX4_rayRow_18 : decode cX4_rayRow 18 = .ok (.aload_n 3, 1) := by decide +kernel
theorem dX4_rayRow_19 : decode cX4_rayRow 19 = .ok (.invokevirtual 130, 3) := by decide +kernel
theorem dX4_rayRow_22 : decode cX4_rayRow 22 = .ok (.istore 10, 2) := by decide +kernel
theorem dX4_rayRow_24 : decode cX4_rayRow 24 = .ok (.iload 10, 2) := by decide +kernel
theorem dX4_rayRow_26 : decode cX4_rayRow 26 = .ok (.iload 9, 2) := by decide +kernel
theorem dX4_rayRow_28 : decode cX4_rayRow 28 = .ok (.if_icmp .gt 78, 3) := by decide +kernel
theorem dX4_rayRow_31 : decode cX4_rayRow 31 = .ok (.aload_n 0, 1) := by decide +kernel
theorem dX4_rayRow_32 : decode cX4_rayRow 32 = .ok (.aload_n 3, 1) := by decide +kernel
theorem dX4_rayRow_33 : decode cX4_rayRow 33 = .ok (.iload 4, 2) := by decide +kernel
theorem dX4_rayRow_35 : decode cX4_rayRow 35 = .ok (.iload 10, 2) := by decide +kernel
theorem dX4_rayRow_37 : decode cX4_rayRow 37 = .ok (.invokevirtual 276, 3) := by decide +kernel
theorem dX4_rayRow_40 : decode cX4_rayRow 40 = .ok (.ifCond .eq 60, 3) := by decide +kernel
theorem dX4_rayRow_43 : decode cX4_rayRow 43 = .ok (.aload_n 2, 1) := by decide +kernel
theorem dX4_rayRow_44 : decode cX4_rayRow 44 = .ok (.iload 4, 2) := by decide +kernel
theorem dX4_rayRow_46 : decode cX4_rayRow 46 = .ok (.iload 10, 2) := by decide +kernel
theorem dX4_rayRow_48 : decode cX4_rayRow 48 = .ok (.invokevirtual 249, 3) := by decide +kernel
theorem dX4_rayRow_51 : decode cX4_rayRow 51 = .ok (.aload_n 0, 1) := by decide +kernel
theorem dX4_rayRow_52 : decode cX4_rayRow 52 = .ok (.getfield 42, 3) := by decide +kernel
theorem dX4_rayRow_55 : decode cX4_rayRow 55 = .ok (.getfield 284, 3) := by decide +kernel
theorem dX4_rayRow_58 : decode cX4_rayRow 58 = .ok (.lmul, 1) := by decide +kernel
theorem dX4_rayRow_59 : decode cX4_rayRow 59 = .ok (.aload_n 3, 1) := by decide +kernel
theorem dX4_rayRow_60 : decode cX4_rayRow 60 = .ok (.iload 4, 2) := by decide +kernel
theorem dX4_rayRow_62 : decode cX4_rayRow 62 = .ok (.iload 10, 2) := by decide +kernel
theorem dX4_rayRow_64 : decode cX4_rayRow 64 = .ok (.invokevirtual 249, 3) := by decide +kernel
theorem dX4_rayRow_67 : decode cX4_rayRow 67 = .ok (.aload_n 0, 1) := by decide +kernel
theorem dX4_rayRow_68 : decode cX4_rayRow 68 = .ok (.getfield 42, 3) := by decide +kernel
theorem dX4_rayRow_71 : decode cX4_rayRow 71 = .ok (.getfield 288, 3) := by decide +kernel
theorem dX4_rayRow_74 : decode cX4_rayRow 74 = .ok (.lmul, 1) := by decide +kernel
theorem dX4_rayRow_75 : decode cX4_rayRow 75 = .ok (.lsub, 1) := by decide +kernel
theorem dX4_rayRow_76 : decode cX4_rayRow 76 = .ok (.lstore 11, 2) := by decide +kernel
theorem dX4_rayRow_78 : decode cX4_rayRow 78 = .ok (.iload 6, 2) := by decide +kernel
theorem dX4_rayRow_80 : decode cX4_rayRow 80 = .ok (.iconst (-1), 1) := by decide +kernel
theorem dX4_rayRow_81 : decode cX4_rayRow 81 = .ok (.if_icmp .eq 11, 3) := by decide +kernel
theorem dX4_rayRow_84 : decode cX4_rayRow 84 = .ok (.lload 11, 2) := by decide +kernel
theorem dX4_rayRow_86 : decode cX4_rayRow 86 = .ok (.lload 7, 2) := by decide +kernel
theorem dX4_rayRow_88 : decode cX4_rayRow 88 = .ok (.lcmp, 1) := by decide +kernel
theorem dX4_rayRow_89 : decode cX4_rayRow 89 = .ok (.ifCond .le 11, 3) := by decide +kernel
theorem dX4_rayRow_92 : decode cX4_rayRow 92 = .ok (.iload 10, 2) := by decide +kernel
theorem dX4_rayRow_94 : decode cX4_rayRow 94 = .ok (.istore 6, 2) := by decide +kernel
theorem dX4_rayRow_96 : decode cX4_rayRow 96 = .ok (.lload 11, 2) := by decide +kernel
theorem dX4_rayRow_98 : decode cX4_rayRow 98 = .ok (.lstore 7, 2) := by decide +kernel
theorem dX4_rayRow_100 : decode cX4_rayRow 100 = .ok (.iinc 10 1, 3) := by decide +kernel
theorem dX4_rayRow_103 : decode cX4_rayRow 103 = .ok (.goto (-79), 3) := by decide +kernel
theorem dX4_rayRow_106 : decode cX4_rayRow 106 = .ok (.iload 6, 2) := by decide +kernel
theorem dX4_rayRow_108 : decode cX4_rayRow 108 = .ok (.iconst (-1), 1) := by decide +kernel
theorem dX4_rayRow_109 : decode cX4_rayRow 109 = .ok (.if_icmp .eq 29, 3) := by decide +kernel
theorem dX4_rayRow_112 : decode cX4_rayRow 112 = .ok (.lload 7, 2) := by decide +kernel
theorem dX4_rayRow_114 : decode cX4_rayRow 114 = .ok (.iload 5, 2) := by decide +kernel
theorem dX4_rayRow_116 : decode cX4_rayRow 116 = .ok (.i2l, 1) := by decide +kernel
theorem dX4_rayRow_117 : decode cX4_rayRow 117 = .ok (.aload_n 3, 1) := by decide +kernel
theorem dX4_rayRow_118 : decode cX4_rayRow 118 = .ok (.iload 4, 2) := by decide +kernel
theorem dX4_rayRow_120 : decode cX4_rayRow 120 = .ok (.iload 6, 2) := by decide +kernel
theorem dX4_rayRow_122 : decode cX4_rayRow 122 = .ok (.invokevirtual 249, 3) := by decide +kernel
theorem dX4_rayRow_125 : decode cX4_rayRow 125 = .ok (.lmul, 1) := by decide +kernel
theorem dX4_rayRow_126 : decode cX4_rayRow 126 = .ok (.aload_n 0, 1) := by decide +kernel
theorem dX4_rayRow_127 : decode cX4_rayRow 127 = .ok (.getfield 42, 3) := by decide +kernel
theorem dX4_rayRow_130 : decode cX4_rayRow 130 = .ok (.getfield 288, 3) := by decide +kernel
theorem dX4_rayRow_133 : decode cX4_rayRow 133 = .ok (.lmul, 1) := by decide +kernel
theorem dX4_rayRow_134 : decode cX4_rayRow 134 = .ok (.lcmp, 1) := by decide +kernel
theorem dX4_rayRow_135 : decode cX4_rayRow 135 = .ok (.ifCond .gt 5, 3) := by decide +kernel
theorem dX4_rayRow_138 : decode cX4_rayRow 138 = .ok (.iconst (-1), 1) := by decide +kernel
theorem dX4_rayRow_139 : decode cX4_rayRow 139 = .ok (.ireturn, 1) := by decide +kernel
theorem dX4_rayRow_140 : decode cX4_rayRow 140 = .ok (.iload 6, 2) := by decide +kernel
theorem dX4_rayRow_142 : decode cX4_rayRow 142 = .ok (.ireturn, 1) := by decide +kernel
theorem dX4_findPlaces_0 : decode cX4_findPlaces 0 = .ok (.iconst 0, 1) := by decide +kernel
theorem dX4_findPlaces_1 : decode cX4_findPlaces 1 = .ok (.istore 4, 2) := by decide +kernel
theorem dX4_findPlaces_3 : decode cX4_findPlaces 3 = .ok (.iconst 1, 1) := by decide +kernel
theorem dX4_findPlaces_4 : decode cX4_findPlaces 4 = .ok (.istore 5, 2) := by decide +kernel
theorem dX4_findPlaces_6 : decode cX4_findPlaces 6 = .ok (.iload 5, 2) := by decide +kernel
theorem dX4_findPlaces_8 : decode cX4_findPlaces 8 = .ok (.aload_n 1, 1) := by decide +kernel
theorem dX4_findPlaces_9 : decode cX4_findPlaces 9 = .ok (.getfield 141, 3) := by decide +kernel
theorem dX4_findPlaces_12 : decode cX4_findPlaces 12 = .ok (.iconst 1, 1) := by decide +kernel
theorem dX4_findPlaces_13 : decode cX4_findPlaces 13 = .ok (.isub, 1) := by decide +kernel
theorem dX4_findPlaces_14 : decode cX4_findPlaces 14 = .ok (.if_icmp .ge 45, 3) := by decide +kernel
theorem dX4_findPlaces_17 : decode cX4_findPlaces 17 = .ok (.iload 4, 2) := by decide +kernel
theorem dX4_findPlaces_19 : decode cX4_findPlaces 19 = .ok (.aload_n 0, 1) := by decide +kernel
theorem dX4_findPlaces_20 : decode cX4_findPlaces 20 = .ok (.getfield 36, 3) := by decide +kernel
theorem dX4_findPlaces_23 : decode cX4_findPlaces 23 = .ok (.arraylength, 1) := by decide +kernel
theorem dX4_findPlaces_24 : decode cX4_findPlaces 24 = .ok (.if_icmp .ge 35, 3) := by decide +kernel
theorem dX4_findPlaces_27 : decode cX4_findPlaces 27 = .ok (.aload_n 1, 1) := by decide +kernel
theorem dX4_findPlaces_28 : decode cX4_findPlaces 28 = .ok (.iload 5, 2) := by decide +kernel
theorem dX4_findPlaces_30 : decode cX4_findPlaces 30 = .ok (.lload_n 2, 1) := by decide +kernel
theorem dX4_findPlaces_31 : decode cX4_findPlaces 31 = .ok (.invokevirtual 291, 3) := by decide +kernel
theorem dX4_findPlaces_34 : decode cX4_findPlaces 34 = .ok (.ifCond .eq 19, 3) := by decide +kernel
theorem dX4_findPlaces_37 : decode cX4_findPlaces 37 = .ok (.aload_n 0, 1) := by decide +kernel
theorem dX4_findPlaces_38 : decode cX4_findPlaces 38 = .ok (.getfield 36, 3) := by decide +kernel
theorem dX4_findPlaces_41 : decode cX4_findPlaces 41 = .ok (.iload 4, 2) := by decide +kernel
theorem dX4_findPlaces_43 : decode cX4_findPlaces 43 = .ok (.aload_n 1, 1) := by decide +kernel
theorem dX4_findPlaces_44 : decode cX4_findPlaces 44 = .ok (.iload 5, 2) := by decide +kernel
theorem dX4_findPlaces_46 : decode cX4_findPlaces 46 = .ok (.invokevirtual 294, 3) := by decide +kernel
theorem dX4_findPlaces_49 : decode cX4_findPlaces 49 = .ok (.iastore, 1) := by decide +kernel
theorem dX4_findPlaces_50 : decode cX4_findPlaces 50 = .ok (.iinc 4 1, 3) := by decide +kernel
theorem dX4_findPlaces_53 : decode cX4_findPlaces 53 = .ok (.iinc 5 1, 3) := by decide +kernel
theorem dX4_findPlaces_56 : decode cX4_findPlaces 56 = .ok (.goto (-50), 3) := by decide +kernel
theorem dX4_findPlaces_59 : decode cX4_findPlaces 59 = .ok (.iload 4, 2) := by decide +kernel
theorem dX4_findPlaces_61 : decode cX4_findPlaces 61 = .ok (.ireturn, 1) := by decide +kernel
theorem dX4_waveAt_0 : decode cX4_waveAt 0 = .ok (.lload_n 0, 1) := by decide +kernel
theorem dX4_waveAt_1 : decode cX4_waveAt 1 = .ok (.lload_n 2, 1) := by decide +kernel
theorem dX4_waveAt_2 : decode cX4_waveAt 2 = .ok (.iload 4, 2) := by decide +kernel
theorem dX4_waveAt_4 : decode cX4_waveAt 4 = .ok (.i2l, 1) := by decide +kernel
theorem dX4_waveAt_5 : decode cX4_waveAt 5 = .ok (.lmul, 1) := by decide +kernel
theorem dX4_waveAt_6 : decode cX4_waveAt 6 = .ok (.ldc2_w 297, 3) := by decide +kernel
theorem dX4_waveAt_9 : decode cX4_waveAt 9 = .ok (.invokestatic 253, 3) := by decide +kernel
theorem dX4_waveAt_12 : decode cX4_waveAt 12 = .ok (.ladd, 1) := by decide +kernel
theorem dX4_waveAt_13 : decode cX4_waveAt 13 = .ok (.lreturn, 1) := by decide +kernel
theorem dX4_tryPair_0 : decode cX4_tryPair 0 = .ok (.aload_n 0, 1) := by decide +kernel
theorem dX4_tryPair_1 : decode cX4_tryPair 1 = .ok (.getfield 36, 3) := by decide +kernel
theorem dX4_tryPair_4 : decode cX4_tryPair 4 = .ok (.iload_n 2, 1) := by decide +kernel
theorem dX4_tryPair_5 : decode cX4_tryPair 5 = .ok (.iaload, 1) := by decide +kernel
theorem dX4_tryPair_6 : decode cX4_tryPair 6 = .ok (.aload_n 0, 1) := by decide +kernel
theorem dX4_tryPair_7 : decode cX4_tryPair 7 = .ok (.getfield 36, 3) := by decide +kernel
theorem dX4_tryPair_10 : decode cX4_tryPair 10 = .ok (.iload_n 1, 1) := by decide +kernel
theorem dX4_tryPair_11 : decode cX4_tryPair 11 = .ok (.iaload, 1) := by decide +kernel
theorem dX4_tryPair_12 : decode cX4_tryPair 12 = .ok (.isub, 1) := by decide +kernel
theorem dX4_tryPair_13 : decode cX4_tryPair 13 = .ok (.i2l, 1) := by decide +kernel
theorem dX4_tryPair_14 : decode cX4_tryPair 14 = .ok (.lstore 5, 2) := by decide +kernel
theorem dX4_tryPair_16 : decode cX4_tryPair 16 = .ok (.lload 5, 2) := by decide +kernel
theorem dX4_tryPair_18 : decode cX4_tryPair 18 = .ok (.lconst 0, 1) := by decide +kernel
theorem dX4_tryPair_19 : decode cX4_tryPair 19 = .ok (.lcmp, 1) := by decide +kernel
theorem dX4_tryPair_20 : decode cX4_tryPair 20 = .ok (.ifCond .gt 4, 3) := by decide +kernel
theorem dX4_tryPair_23 : decode cX4_tryPair 23 = .ok (.return_, 1) := by decide +kernel
theorem dX4_tryPair_24 : decode cX4_tryPair 24 = .ok (.iconst 0, 1) := by decide +kernel
theorem dX4_tryPair_25 : decode cX4_tryPair 25 = .ok (.istore 7, 2) := by decide +kernel
theorem dX4_tryPair_27 : decode cX4_tryPair 27 = .ok (.iload 7, 2) := by decide +kernel
theorem dX4_tryPair_29 : decode cX4_tryPair 29 = .ok (.aload_n 0, 1) := by decide +kernel
theorem dX4_tryPair_30 : decode cX4_tryPair 30 = .ok (.getfield 172, 3) := by decide +kernel
theorem dX4_tryPair_33 : decode cX4_tryPair 33 = .ok (.if_icmp .ge 131, 3) := by decide +kernel
theorem dX4_tryPair_36 : decode cX4_tryPair 36 = .ok (.iload 7, 2) := by decide +kernel
theorem dX4_tryPair_38 : decode cX4_tryPair 38 = .ok (.iconst 1, 1) := by decide +kernel
theorem dX4_tryPair_39 : decode cX4_tryPair 39 = .ok (.iadd, 1) := by decide +kernel
theorem dX4_tryPair_40 : decode cX4_tryPair 40 = .ok (.istore 8, 2) := by decide +kernel
theorem dX4_tryPair_42 : decode cX4_tryPair 42 = .ok (.iload 8, 2) := by decide +kernel
theorem dX4_tryPair_44 : decode cX4_tryPair 44 = .ok (.aload_n 0, 1) := by decide +kernel
theorem dX4_tryPair_45 : decode cX4_tryPair 45 = .ok (.getfield 172, 3) := by decide +kernel
theorem dX4_tryPair_48 : decode cX4_tryPair 48 = .ok (.if_icmp .ge 110, 3) := by decide +kernel
theorem dX4_tryPair_51 : decode cX4_tryPair 51 = .ok (.ldc2_w 297, 3) := by decide +kernel
theorem dX4_tryPair_54 : decode cX4_tryPair 54 = .ok (.aload_n 0, 1) := by decide +kernel
theorem dX4_tryPair_55 : decode cX4_tryPair 55 = .ok (.getfield 25, 3) := by decide +kernel
theorem dX4_tryPair_58 : decode cX4_tryPair 58 = .ok (.iload 8, 2) := by decide +kernel
theorem dX4_tryPair_60 : decode cX4_tryPair 60 = .ok (.iaload, 1) := by decide +kernel
theorem dX4_tryPair_61 : decode cX4_tryPair 61 = .ok (.aload_n 0, 1) := by decide +kernel
theorem dX4_tryPair_62 : decode cX4_tryPair 62 = .ok (.getfield 25, 3) := by decide +kernel
theorem dX4_tryPair_65 : decode cX4_tryPair 65 = .ok (.iload 7, 2) := by decide +kernel
theorem dX4_tryPair_67 : decode cX4_tryPair 67 = .ok (.iaload, 1) := by decide +kernel
theorem dX4_tryPair_68 : decode cX4_tryPair 68 = .ok (.isub, 1) := by decide +kernel
theorem dX4_tryPair_69 : decode cX4_tryPair 69 = .ok (.i2l, 1) := by decide +kernel
theorem dX4_tryPair_70 : decode cX4_tryPair 70 = .ok (.lmul, 1) := by decide +kernel
theorem dX4_tryPair_71 : decode cX4_tryPair 71 = .ok (.lload 5, 2) := by decide +kernel
theorem dX4_tryPair_73 : decode cX4_tryPair 73 = .ok (.invokestatic 253, 3) := by decide +kernel
theorem dX4_tryPair_76 : decode cX4_tryPair 76 = .ok (.lstore 9, 2) := by decide +kernel
theorem dX4_tryPair_78 : decode cX4_tryPair 78 = .ok (.aload_n 0, 1) := by decide +kernel
theorem dX4_tryPair_79 : decode cX4_tryPair 79 = .ok (.getfield 25, 3) := by decide +kernel
theorem dX4_tryPair_82 : decode cX4_tryPair 82 = .ok (.iload 7, 2) := by decide +kernel
theorem dX4_tryPair_84 : decode cX4_tryPair 84 = .ok (.iaload, 1) := by decide +kernel
theorem dX4_tryPair_85 : decode cX4_tryPair 85 = .ok (.i2l, 1) := by decide +kernel
theorem dX4_tryPair_86 : decode cX4_tryPair 86 = .ok (.lload 9, 2) := by decide +kernel
theorem dX4_tryPair_88 : decode cX4_tryPair 88 = .ok (.aload_n 0, 1) := by decide +kernel
theorem dX4_tryPair_89 : decode cX4_tryPair 89 = .ok (.getfield 36, 3) := by decide +kernel
theorem dX4_tryPair_92 : decode cX4_tryPair 92 = .ok (.iload_n 1, 1) := by decide +kernel
theorem dX4_tryPair_93 : decode cX4_tryPair 93 = .ok (.iaload, 1) := by decide +kernel
theorem dX4_tryPair_94 : decode cX4_tryPair 94 = .ok (.i2l, 1) := by decide +kernel
theorem dX4_tryPair_95 : decode cX4_tryPair 95 = .ok (.lmul, 1) := by decide +kernel
theorem dX4_tryPair_96 : decode cX4_tryPair 96 = .ok (.ldc2_w 297, 3) := by decide +kernel
theorem dX4_tryPair_99 : decode cX4_tryPair 99 = .ok (.invokestatic 253, 3) := by decide +kernel
theorem dX4_tryPair_102 : decode cX4_tryPair 102 = .ok (.lsub, 1) := by decide +kernel
theorem dX4_tryPair_103 : decode cX4_tryPair 103 = .ok (.lstore 11, 2) := by decide +kernel
theorem dX4_tryPair_105 : decode cX4_tryPair 105 = .ok (.lload 9, 2) := by decide +kernel
theorem dX4_tryPair_107 : decode cX4_tryPair 107 = .ok (.lconst 1, 1) := by decide +kernel
theorem dX4_tryPair_108 : decode cX4_tryPair 108 = .ok (.lcmp, 1) := by decide +kernel
theorem dX4_tryPair_109 : decode cX4_tryPair 109 = .ok (.ifCond .lt 43, 3) := by decide +kernel
theorem dX4_tryPair_112 : decode cX4_tryPair 112 = .ok (.lload 9, 2) := by decide +kernel
theorem dX4_tryPair_114 : decode cX4_tryPair 114 = .ok (.ldc2_w 299, 3) := by decide +kernel
theorem dX4_tryPair_117 : decode cX4_tryPair 117 = .ok (.lcmp, 1) := by decide +kernel
theorem dX4_tryPair_118 : decode cX4_tryPair 118 = .ok (.ifCond .gt 34, 3) := by decide +kernel
theorem dX4_tryPair_121 : decode cX4_tryPair 121 = .ok (.lload 11, 2) := by decide +kernel
theorem dX4_tryPair_123 : decode cX4_tryPair 123 = .ok (.ldc2_w 301, 3) := by decide +kernel
theorem dX4_tryPair_126 : decode cX4_tryPair 126 = .ok (.lcmp, 1) := by decide +kernel
theorem dX4_tryPair_127 : decode cX4_tryPair 127 = .ok (.ifCond .lt 25, 3) := by decide +kernel
theorem dX4_tryPair_130 : decode cX4_tryPair 130 = .ok (.lload 11, 2) := by decide +kernel
theorem dX4_tryPair_132 : decode cX4_tryPair 132 = .ok (.ldc2_w 303, 3) := by decide +kernel
theorem dX4_tryPair_135 : decode cX4_tryPair 135 = .ok (.lcmp, 1) := by decide +kernel
theorem dX4_tryPair_136 : decode cX4_tryPair 136 = .ok (.ifCond .gt 16, 3) := by decide +kernel
theorem dX4_tryPair_139 : decode cX4_tryPair 139 = .ok (.aload_n 0, 1) := by decide +kernel
theorem dX4_tryPair_140 : decode cX4_tryPair 140 = .ok (.lload 11, 2) := by decide +kernel
theorem dX4_tryPair_142 : decode cX4_tryPair 142 = .ok (.l2i, 1) := by decide +kernel
theorem dX4_tryPair_143 : decode cX4_tryPair 143 = .ok (.lload 9, 2) := by decide +kernel
theorem dX4_tryPair_145 : decode cX4_tryPair 145 = .ok (.l2i, 1) := by decide +kernel
theorem dX4_tryPair_146 : decode cX4_tryPair 146 = .ok (.iload_n 3, 1) := by decide +kernel
theorem dX4_tryPair_147 : decode cX4_tryPair 147 = .ok (.iload 4, 2) := by decide +kernel
theorem dX4_tryPair_149 : decode cX4_tryPair 149 = .ok (.invokevirtual 305, 3) := by decide +kernel
theorem dX4_tryPair_152 : decode cX4_tryPair 152 = .ok (.iinc 8 1, 3) := by decide +kernel
theorem dX4_tryPair_155 : decode cX4_tryPair 155 = .ok (.goto (-113), 3) := by decide +kernel
theorem dX4_tryPair_158 : decode cX4_tryPair 158 = .ok (.iinc 7 1, 3) := by decide +kernel
theorem dX4_tryPair_161 : decode cX4_tryPair 161 = .ok (.goto (-134), 3) := by decide +kernel
theorem dX4_tryPair_164 : decode cX4_tryPair 164 = .ok (.return_, 1) := by decide +kernel
theorem dX4_offer_0 : decode cX4_offer 0 = .ok (.iconst 0, 1) := by decide +kernel
theorem dX4_offer_1 : decode cX4_offer 1 = .ok (.istore 5, 2) := by decide +kernel
theorem dX4_offer_3 : decode cX4_offer 3 = .ok (.iconst 0, 1) := by decide +kernel
theorem dX4_offer_4 : decode cX4_offer 4 = .ok (.istore 6, 2) := by decide +kernel
theorem dX4_offer_6 : decode cX4_offer 6 = .ok (.iload 6, 2) := by decide +kernel
theorem dX4_offer_8 : decode cX4_offer 8 = .ok (.iload_n 3, 1) := by decide +kernel
theorem dX4_offer_9 : decode cX4_offer 9 = .ok (.if_icmp .ge 35, 3) := by decide +kernel
theorem dX4_offer_12 : decode cX4_offer 12 = .ok (.aload_n 0, 1) := by decide +kernel
theorem dX4_offer_13 : decode cX4_offer 13 = .ok (.iload_n 1, 1) := by decide +kernel
theorem dX4_offer_14 : decode cX4_offer 14 = .ok (.i2l, 1) := by decide +kernel
theorem dX4_offer_15 : decode cX4_offer 15 = .ok (.iload_n 2, 1) := by decide +kernel
theorem dX4_offer_16 : decode cX4_offer 16 = .ok (.i2l, 1) := by decide +kernel
theorem dX4_offer_17 : decode cX4_offer 17 = .ok (.aload_n 0, 1) := by decide +kernel
theorem dX4_offer_18 : decode cX4_offer 18 = .ok (.getfield 36, 3) := by decide +kernel
theorem dX4_offer_21 : decode cX4_offer 21 = .ok (.iload 6, 2) := by decide +kernel
theorem dX4_offer_23 : decode cX4_offer 23 = .ok (.iaload, 1) := by decide +kernel
theorem dX4_offer_24 : decode cX4_offer 24 = .ok (.invokestatic 198, 3) := by decide +kernel
theorem dX4_offer_27 : decode cX4_offer 27 = .ok (.iload 4, 2) := by decide +kernel
theorem dX4_offer_29 : decode cX4_offer 29 = .ok (.invokevirtual 308, 3) := by decide +kernel
theorem dX4_offer_32 : decode cX4_offer 32 = .ok (.ifCond .eq 6, 3) := by decide +kernel
theorem dX4_offer_35 : decode cX4_offer 35 = .ok (.iinc 5 1, 3) := by decide +kernel
theorem dX4_offer_38 : decode cX4_offer 38 = .ok (.iinc 6 1, 3) := by decide +kernel
theorem dX4_offer_41 : decode cX4_offer 41 = .ok (.goto (-35), 3) := by decide +kernel
theorem dX4_offer_44 : decode cX4_offer 44 = .ok (.iload 5, 2) := by decide +kernel
theorem dX4_offer_46 : decode cX4_offer 46 = .ok (.iconst 2, 1) := by decide +kernel
theorem dX4_offer_47 : decode cX4_offer 47 = .ok (.if_icmp .lt 28, 3) := by decide +kernel
theorem dX4_offer_50 : decode cX4_offer 50 = .ok (.aload_n 0, 1) := by decide +kernel
theorem dX4_offer_51 : decode cX4_offer 51 = .ok (.getfield 49, 3) := by decide +kernel
theorem dX4_offer_54 : decode cX4_offer 54 = .ok (.iload_n 1, 1) := by decide +kernel
theorem dX4_offer_55 : decode cX4_offer 55 = .ok (.iload_n 2, 1) := by decide +kernel
theorem dX4_offer_56 : decode cX4_offer 56 = .ok (.iload 5, 2) := by decide +kernel
theorem dX4_offer_58 : decode cX4_offer 58 = .ok (.invokevirtual 312, 3) := by decide +kernel
theorem dX4_offer_61 : decode cX4_offer 61 = .ok (.ifCond .eq 14, 3) := by decide +kernel
theorem dX4_offer_64 : decode cX4_offer 64 = .ok (.aload_n 0, 1) := by decide +kernel
theorem dX4_offer_65 : decode cX4_offer 65 = .ok (.getfield 49, 3) := by decide +kernel
theorem dX4_offer_68 : decode cX4_offer 68 = .ok (.iload_n 1, 1) := by decide +kernel
theorem dX4_offer_69 : decode cX4_offer 69 = .ok (.iload_n 2, 1) := by decide +kernel
theorem dX4_offer_70 : decode cX4_offer 70 = .ok (.iload 5, 2) := by decide +kernel
theorem dX4_offer_72 : decode cX4_offer 72 = .ok (.invokevirtual 190, 3) := by decide +kernel
theorem dX4_offer_75 : decode cX4_offer 75 = .ok (.return_, 1) := by decide +kernel
theorem dX4_nearLine_0 : decode cX4_nearLine 0 = .ok (.iconst 0, 1) := by decide +kernel
theorem dX4_nearLine_1 : decode cX4_nearLine 1 = .ok (.istore 4, 2) := by decide +kernel
theorem dX4_nearLine_3 : decode cX4_nearLine 3 = .ok (.iload 4, 2) := by decide +kernel
theorem dX4_nearLine_5 : decode cX4_nearLine 5 = .ok (.aload_n 0, 1) := by decide +kernel
theorem dX4_nearLine_6 : decode cX4_nearLine 6 = .ok (.getfield 172, 3) := by decide +kernel
theorem dX4_nearLine_9 : decode cX4_nearLine 9 = .ok (.if_icmp .ge 30, 3) := by decide +kernel
theorem dX4_nearLine_12 : decode cX4_nearLine 12 = .ok (.aload_n 0, 1) := by decide +kernel
theorem dX4_nearLine_13 : decode cX4_nearLine 13 = .ok (.getfield 25, 3) := by decide +kernel
theorem dX4_nearLine_16 : decode cX4_nearLine 16 = .ok (.iload 4, 2) := by decide +kernel
theorem dX4_nearLine_18 : decode cX4_nearLine 18 = .ok (.iaload, 1) := by decide +kernel
theorem dX4_nearLine_19 : decode cX4_nearLine 19 = .ok (.i2l, 1) := by decide +kernel
theorem dX4_nearLine_20 : decode cX4_nearLine 20 = .ok (.lload_n 1, 1) := by decide +kernel
theorem dX4_nearLine_21 : decode cX4_nearLine 21 = .ok (.lsub, 1) := by decide +kernel
theorem dX4_nearLine_22 : decode cX4_nearLine 22 = .ok (.invokestatic 315, 3) := by decide +kernel
theorem dX4_nearLine_25 : decode cX4_nearLine 25 = .ok (.iload_n 3, 1) := by decide +kernel
theorem dX4_nearLine_26 : decode cX4_nearLine 26 = .ok (.i2l, 1) := by decide +kernel
theorem dX4_nearLine_27 : decode cX4_nearLine 27 = .ok (.lcmp, 1) := by decide +kernel
theorem dX4_nearLine_28 : decode cX4_nearLine 28 = .ok (.ifCond .gt 5, 3) := by decide +kernel
theorem dX4_nearLine_31 : decode cX4_nearLine 31 = .ok (.iconst 1, 1) := by decide +kernel
theorem dX4_nearLine_32 : decode cX4_nearLine 32 = .ok (.ireturn, 1) := by decide +kernel
theorem dX4_nearLine_33 : decode cX4_nearLine 33 = .ok (.iinc 4 1, 3) := by decide +kernel
theorem dX4_nearLine_36 : decode cX4_nearLine 36 = .ok (.goto (-33), 3) := by decide +kernel
theorem dX4_nearLine_39 : decode cX4_nearLine 39 = .ok (.iconst 0, 1) := by decide +kernel
theorem dX4_nearLine_40 : decode cX4_nearLine 40 = .ok (.ireturn, 1) := by decide +kernel
theorem dX4_joinAt_0 : decode cX4_joinAt 0 = .ok (.lconst 0, 1) := by decide +kernel
theorem dX4_joinAt_1 : decode cX4_joinAt 1 = .ok (.lstore 4, 2) := by decide +kernel
theorem dX4_joinAt_3 : decode cX4_joinAt 3 = .ok (.lconst 0, 1) := by decide +kernel
theorem dX4_joinAt_4 : decode cX4_joinAt 4 = .ok (.lstore 6, 2) := by decide +kernel
theorem dX4_joinAt_6 : decode cX4_joinAt 6 = .ok (.iconst 0, 1) := by decide +kernel
theorem dX4_joinAt_7 : decode cX4_joinAt 7 = .ok (.istore 8, 2) := by decide +kernel
theorem dX4_joinAt_9 : decode cX4_joinAt 9 = .ok (.iload 8, 2) := by decide +kernel
theorem dX4_joinAt_11 : decode cX4_joinAt 11 = .ok (.aload_n 0, 1) := by decide +kernel
theorem dX4_joinAt_12 : decode cX4_joinAt 12 = .ok (.getfield 110, 3) := by decide +kernel
theorem dX4_joinAt_15 : decode cX4_joinAt 15 = .ok (.if_icmp .ge 63, 3) := by decide +kernel
theorem dX4_joinAt_18 : decode cX4_joinAt 18 = .ok (.aload_n 0, 1) := by decide +kernel
theorem dX4_joinAt_19 : decode cX4_joinAt 19 = .ok (.getfield 21, 3) := by decide +kernel
theorem dX4_joinAt_22 : decode cX4_joinAt 22 = .ok (.iload 8, 2) := by decide +kernel
theorem dX4_joinAt_24 : decode cX4_joinAt 24 = .ok (.aaload, 1) := by decide +kernel
theorem dX4_joinAt_25 : decode cX4_joinAt 25 = .ok (.lload_n 2, 1) := by decide +kernel
theorem dX4_joinAt_26 : decode cX4_joinAt 26 = .ok (.invokestatic 319, 3) := by decide +kernel
theorem dX4_joinAt_29 : decode cX4_joinAt 29 = .ok (.istore 9, 2) := by decide +kernel
theorem dX4_joinAt_31 : decode cX4_joinAt 31 = .ok (.iload 9, 2) := by decide +kernel
theorem dX4_joinAt_33 : decode cX4_joinAt 33 = .ok (.iconst (-1), 1) := by decide +kernel
theorem dX4_joinAt_34 : decode cX4_joinAt 34 = .ok (.if_icmp .eq 38, 3) := by decide +kernel
theorem dX4_joinAt_37 : decode cX4_joinAt 37 = .ok (.aload_n 0, 1) := by decide +kernel
theorem dX4_joinAt_38 : decode cX4_joinAt 38 = .ok (.getfield 21, 3) := by decide +kernel
theorem dX4_joinAt_41 : decode cX4_joinAt 41 = .ok (.iload 8, 2) := by decide +kernel
theorem dX4_joinAt_43 : decode cX4_joinAt 43 = .ok (.aaload, 1) := by decide +kernel
theorem dX4_joinAt_44 : decode cX4_joinAt 44 = .ok (.iload 9, 2) := by decide +kernel
theorem dX4_joinAt_46 : decode cX4_joinAt 46 = .ok (.invokevirtual 162, 3) := by decide +kernel
theorem dX4_joinAt_49 : decode cX4_joinAt 49 = .ok (.lstore 10, 2) := by decide +kernel
theorem dX4_joinAt_51 : decode cX4_joinAt 51 = .ok (.lload 4, 2) := by decide +kernel
theorem dX4_joinAt_53 : decode cX4_joinAt 53 = .ok (.lload 10, 2) := by decide +kernel
theorem dX4_joinAt_55 : decode cX4_joinAt 55 = .ok (.lload 10, 2) := by decide +kernel
theorem dX4_joinAt_57 : decode cX4_joinAt 57 = .ok (.lconst 1, 1) := by decide +kernel
theorem dX4_joinAt_58 : decode cX4_joinAt 58 = .ok (.ladd, 1) := by decide +kernel
theorem dX4_joinAt_59 : decode cX4_joinAt 59 = .ok (.lmul, 1) := by decide +kernel
theorem dX4_joinAt_60 : decode cX4_joinAt 60 = .ok (.ladd, 1) := by decide +kernel
theorem dX4_joinAt_61 : decode cX4_joinAt 61 = .ok (.lstore 4, 2) := by decide +kernel
theorem dX4_joinAt_63 : decode cX4_joinAt 63 = .ok (.lload 6, 2) := by decide +kernel
theorem dX4_joinAt_65 : decode cX4_joinAt 65 = .ok (.lload 10, 2) := by decide +kernel
theorem dX4_joinAt_67 : decode cX4_joinAt 67 = .ok (.lconst 1, 1) := by decide +kernel
theorem dX4_joinAt_68 : decode cX4_joinAt 68 = .ok (.ladd, 1) := by decide +kernel
theorem dX4_joinAt_69 : decode cX4_joinAt 69 = .ok (.ladd, 1) := by decide +kernel
theorem dX4_joinAt_70 : decode cX4_joinAt 70 = .ok (.lstore 6, 2) := by decide +kernel
theorem dX4_joinAt_72 : decode cX4_joinAt 72 = .ok (.iinc 8 1, 3) := by decide +kernel
theorem dX4_joinAt_75 : decode cX4_joinAt 75 = .ok (.goto (-66), 3) := by decide +kernel
theorem dX4_joinAt_78 : decode cX4_joinAt 78 = .ok (.aload_n 0, 1) := by decide +kernel
theorem dX4_joinAt_79 : decode cX4_joinAt 79 = .ok (.getfield 29, 3) := by decide +kernel
theorem dX4_joinAt_82 : decode cX4_joinAt 82 = .ok (.iload_n 1, 1) := by decide +kernel
theorem dX4_joinAt_83 : decode cX4_joinAt 83 = .ok (.lload 6, 2) := by decide +kernel
theorem dX4_joinAt_85 : decode cX4_joinAt 85 = .ok (.lconst 0, 1) := by decide +kernel
theorem dX4_joinAt_86 : decode cX4_joinAt 86 = .ok (.lcmp, 1) := by decide +kernel
theorem dX4_joinAt_87 : decode cX4_joinAt 87 = .ok (.ifCond .le 13, 3) := by decide +kernel
theorem dX4_joinAt_90 : decode cX4_joinAt 90 = .ok (.lload 4, 2) := by decide +kernel
theorem dX4_joinAt_92 : decode cX4_joinAt 92 = .ok (.lload 6, 2) := by decide +kernel
theorem dX4_joinAt_94 : decode cX4_joinAt 94 = .ok (.invokestatic 253, 3) := by decide +kernel
theorem dX4_joinAt_97 : decode cX4_joinAt 97 = .ok (.goto 4, 3) := by decide +kernel
theorem dX4_joinAt_100 : decode cX4_joinAt 100 = .ok (.lconst 0, 1) := by decide +kernel
theorem dX4_joinAt_101 : decode cX4_joinAt 101 = .ok (.lastore, 1) := by decide +kernel
theorem dX4_joinAt_102 : decode cX4_joinAt 102 = .ok (.lload 6, 2) := by decide +kernel
theorem dX4_joinAt_104 : decode cX4_joinAt 104 = .ok (.lconst 0, 1) := by decide +kernel
theorem dX4_joinAt_105 : decode cX4_joinAt 105 = .ok (.lcmp, 1) := by decide +kernel
theorem dX4_joinAt_106 : decode cX4_joinAt 106 = .ok (.ifCond .le 7, 3) := by decide +kernel
theorem dX4_joinAt_109 : decode cX4_joinAt 109 = .ok (.iconst 1, 1) := by decide +kernel
theorem dX4_joinAt_110 : decode cX4_joinAt 110 = .ok (.goto 4, 3) := by decide +kernel
theorem dX4_joinAt_113 : decode cX4_joinAt 113 = .ok (.iconst 0, 1) := by decide +kernel
theorem dX4_joinAt_114 : decode cX4_joinAt 114 = .ok (.ireturn, 1) := by decide +kernel
theorem dX4_columnAt_0 : decode cX4_columnAt 0 = .ok (.aload_n 0, 1) := by decide +kernel
theorem dX4_columnAt_1 : decode cX4_columnAt 1 = .ok (.getfield 151, 3) := by decide +kernel
theorem dX4_columnAt_4 : decode cX4_columnAt 4 = .ok (.getfield 182, 3) := by decide +kernel
theorem dX4_columnAt_7 : decode cX4_columnAt 7 = .ok (.ifCond .ne 5, 3) := by decide +kernel
theorem dX4_columnAt_10 : decode cX4_columnAt 10 = .ok (.iconst (-1), 1) := by decide +kernel
theorem dX4_columnAt_11 : decode cX4_columnAt 11 = .ok (.ireturn, 1) := by decide +kernel
theorem dX4_columnAt_12 : decode cX4_columnAt 12 = .ok (.aload_n 0, 1) := by decide +kernel
theorem dX4_columnAt_13 : decode cX4_columnAt 13 = .ok (.getfield 141, 3) := by decide +kernel
theorem dX4_columnAt_16 : decode cX4_columnAt 16 = .ok (.iconst 1, 1) := by decide +kernel
theorem dX4_columnAt_17 : decode cX4_columnAt 17 = .ok (.isub, 1) := by decide +kernel
theorem dX4_columnAt_18 : decode cX4_columnAt 18 = .ok (.istore_n 3, 1) := by decide +kernel
theorem dX4_columnAt_19 : decode cX4_columnAt 19 = .ok (.iload_n 3, 1) := by decide +kernel
theorem dX4_columnAt_20 : decode cX4_columnAt 20 = .ok (.ifCond .lt 64, 3) := by decide +kernel
theorem dX4_columnAt_23 : decode cX4_columnAt 23 = .ok (.aload_n 0, 1) := by decide +kernel
theorem dX4_columnAt_24 : decode cX4_columnAt 24 = .ok (.getfield 151, 3) := by decide +kernel
theorem dX4_columnAt_27 : decode cX4_columnAt 27 = .ok (.getfield 185, 3) := by decide +kernel
theorem dX4_columnAt_30 : decode cX4_columnAt 30 = .ok (.i2l, 1) := by decide +kernel
theorem dX4_columnAt_31 : decode cX4_columnAt 31 = .ok (.aload_n 0, 1) := by decide +kernel
theorem dX4_columnAt_32 : decode cX4_columnAt 32 = .ok (.getfield 151, 3) := by decide +kernel
theorem dX4_columnAt_35 : decode cX4_columnAt 35 = .ok (.getfield 186, 3) := by decide +kernel
theorem dX4_columnAt_38 : decode cX4_columnAt 38 = .ok (.i2l, 1) := by decide +kernel
theorem dX4_columnAt_39 : decode cX4_columnAt 39 = .ok (.bipush 64, 2) := by decide +kernel
theorem dX4_columnAt_41 : decode cX4_columnAt 41 = .ok (.iload_n 3, 1) := by decide +kernel
theorem dX4_columnAt_42 : decode cX4_columnAt 42 = .ok (.imul, 1) := by decide +kernel
theorem dX4_columnAt_43 : decode cX4_columnAt 43 = .ok (.invokestatic 198, 3) := by decide +kernel
theorem dX4_columnAt_46 : decode cX4_columnAt 46 = .ok (.lstore 4, 2) := by decide +kernel
theorem dX4_columnAt_48 : decode cX4_columnAt 48 = .ok (.lload 4, 2) := by decide +kernel
theorem dX4_columnAt_50 : decode cX4_columnAt 50 = .ok (.lload_n 1, 1) := by decide +kernel
theorem dX4_columnAt_51 : decode cX4_columnAt 51 = .ok (.lcmp, 1) := by decide +kernel
theorem dX4_columnAt_52 : decode cX4_columnAt 52 = .ok (.ifCond .gt 26, 3) := by decide +kernel
theorem dX4_columnAt_55 : decode cX4_columnAt 55 = .ok (.aload_n 0, 1) := by decide +kernel
theorem dX4_columnAt_56 : decode cX4_columnAt 56 = .ok (.iload_n 3, 1) := by decide +kernel
theorem dX4_columnAt_57 : decode cX4_columnAt 57 = .ok (.iconst 1, 1) := by decide +kernel
theorem dX4_columnAt_58 : decode cX4_columnAt 58 = .ok (.iadd, 1) := by decide +kernel
theorem dX4_columnAt_59 : decode cX4_columnAt 59 = .ok (.invokevirtual 159, 3) := by decide +kernel
theorem dX4_columnAt_62 : decode cX4_columnAt 62 = .ok (.ifCond .ne 10, 3) := by decide +kernel
theorem dX4_columnAt_65 : decode cX4_columnAt 65 = .ok (.lload 4, 2) := by decide +kernel
theorem dX4_columnAt_67 : decode cX4_columnAt 67 = .ok (.lload_n 1, 1) := by decide +kernel
theorem dX4_columnAt_68 : decode cX4_columnAt 68 = .ok (.lcmp, 1) := by decide +kernel
theorem dX4_columnAt_69 : decode cX4_columnAt 69 = .ok (.ifCond .ne 7, 3) := by decide +kernel
theorem dX4_columnAt_72 : decode cX4_columnAt 72 = .ok (.iload_n 3, 1) := by decide +kernel
theorem dX4_columnAt_73 : decode cX4_columnAt 73 = .ok (.goto 4, 3) := by decide +kernel
theorem dX4_columnAt_76 : decode cX4_columnAt 76 = .ok (.iconst (-1), 1) := by decide +kernel
theorem dX4_columnAt_77 : decode cX4_columnAt 77 = .ok (.ireturn, 1) := by decide +kernel
theorem dX4_columnAt_78 : decode cX4_columnAt 78 = .ok (.iinc 3 (-1), 3) := by decide +kernel
theorem dX4_columnAt_81 : decode cX4_columnAt 81 = .ok (.goto (-62), 3) := by decide +kernel
theorem dX4_columnAt_84 : decode cX4_columnAt 84 = .ok (.iconst (-1), 1) := by decide +kernel
theorem dX4_columnAt_85 : decode cX4_columnAt 85 = .ok (.ireturn, 1) := by decide +kernel
theorem dX4_betterShift_0 : decode cX4_betterShift 0 = .ok (.aload_n 0, 1) := by decide +kernel
theorem dX4_betterShift_1 : decode cX4_betterShift 1 = .ok (.aload_n 1, 1) := by decide +kernel
theorem dX4_betterShift_2 : decode cX4_betterShift 2 = .ok (.iload_n 3, 1) := by decide +kernel
theorem dX4_betterShift_3 : decode cX4_betterShift 3 = .ok (.invokestatic 215, 3) := by decide +kernel
theorem dX4_betterShift_6 : decode cX4_betterShift 6 = .ok (.aload_n 0, 1) := by decide +kernel
theorem dX4_betterShift_7 : decode cX4_betterShift 7 = .ok (.aload_n 1, 1) := by decide +kernel
theorem dX4_betterShift_8 : decode cX4_betterShift 8 = .ok (.iload_n 2, 1) := by decide +kernel
theorem dX4_betterShift_9 : decode cX4_betterShift 9 = .ok (.invokestatic 215, 3) := by decide +kernel
theorem dX4_betterShift_12 : decode cX4_betterShift 12 = .ok (.lcmp, 1) := by decide +kernel
theorem dX4_betterShift_13 : decode cX4_betterShift 13 = .ok (.ifCond .le 7, 3) := by decide +kernel
theorem dX4_betterShift_16 : decode cX4_betterShift 16 = .ok (.iload_n 3, 1) := by decide +kernel
theorem dX4_betterShift_17 : decode cX4_betterShift 17 = .ok (.goto 4, 3) := by decide +kernel
theorem dX4_betterShift_20 : decode cX4_betterShift 20 = .ok (.iload_n 2, 1) := by decide +kernel
theorem dX4_betterShift_21 : decode cX4_betterShift 21 = .ok (.ireturn, 1) := by decide +kernel
theorem dX4_crossSum_0 : decode cX4_crossSum 0 = .ok (.lconst 0, 1) := by decide +kernel
theorem dX4_crossSum_1 : decode cX4_crossSum 1 = .ok (.lstore_n 3, 1) := by decide +kernel
theorem dX4_crossSum_2 : decode cX4_crossSum 2 = .ok (.iconst 0, 1) := by decide +kernel
theorem dX4_crossSum_3 : decode cX4_crossSum 3 = .ok (.istore 5, 2) := by decide +kernel
theorem dX4_crossSum_5 : decode cX4_crossSum 5 = .ok (.iload 5, 2) := by decide +kernel
theorem dX4_crossSum_7 : decode cX4_crossSum 7 = .ok (.aload_n 0, 1) := by decide +kernel
theorem dX4_crossSum_8 : decode cX4_crossSum 8 = .ok (.getfield 141, 3) := by decide +kernel
theorem dX4_crossSum_11 : decode cX4_crossSum 11 = .ok (.if_icmp .ge 38, 3) := by decide +kernel
theorem dX4_crossSum_14 : decode cX4_crossSum 14 = .ok (.aload_n 1, 1) := by decide +kernel
theorem dX4_crossSum_15 : decode cX4_crossSum 15 = .ok (.iload 5, 2) := by decide +kernel
theorem dX4_crossSum_17 : decode cX4_crossSum 17 = .ok (.iload_n 2, 1) := by decide +kernel
theorem dX4_crossSum_18 : decode cX4_crossSum 18 = .ok (.iadd, 1) := by decide +kernel
theorem dX4_crossSum_19 : decode cX4_crossSum 19 = .ok (.invokevirtual 159, 3) := by decide +kernel
theorem dX4_crossSum_22 : decode cX4_crossSum 22 = .ok (.ifCond .eq 21, 3) := by decide +kernel
theorem dX4_crossSum_25 : decode cX4_crossSum 25 = .ok (.lload_n 3, 1) := by decide +kernel
theorem dX4_crossSum_26 : decode cX4_crossSum 26 = .ok (.aload_n 0, 1) := by decide +kernel
theorem dX4_crossSum_27 : decode cX4_crossSum 27 = .ok (.iload 5, 2) := by decide +kernel
theorem dX4_crossSum_29 : decode cX4_crossSum 29 = .ok (.invokevirtual 162, 3) := by decide +kernel
theorem dX4_crossSum_32 : decode cX4_crossSum 32 = .ok (.aload_n 1, 1) := by decide +kernel
theorem dX4_crossSum_33 : decode cX4_crossSum 33 = .ok (.iload 5, 2) := by decide +kernel
theorem dX4_crossSum_35 : decode cX4_crossSum 35 = .ok (.iload_n 2, 1) := by decide +kernel
theorem dX4_crossSum_36 : decode cX4_crossSum 36 = .ok (.iadd, 1) := by decide +kernel
theorem dX4_crossSum_37 : decode cX4_crossSum 37 = .ok (.invokevirtual 162, 3) := by decide +kernel
theorem dX4_crossSum_40 : decode cX4_crossSum 40 = .ok (.lmul, 1) := by decide +kernel
theorem dX4_crossSum_41 : decode cX4_crossSum 41 = .ok (.ladd, 1) := by decide +kernel
theorem dX4_crossSum_42 : decode cX4_crossSum 42 = .ok (.lstore_n 3, 1) := by decide +kernel
theorem dX4_crossSum_43 : decode cX4_crossSum 43 = .ok (.iinc 5 1, 3) := by decide +kernel
theorem dX4_crossSum_46 : decode cX4_crossSum 46 = .ok (.goto (-41), 3) := by decide +kernel
theorem dX4_crossSum_49 : decode cX4_crossSum 49 = .ok (.lload_n 3, 1) := by decide +kernel
theorem dX4_crossSum_50 : decode cX4_crossSum 50 = .ok (.lreturn, 1) := by decide +kernel
theorem dX4_plateCount_0 : decode cX4_plateCount 0 = .ok (.iconst 0, 1) := by decide +kernel
theorem dX4_plateCount_1 : decode cX4_plateCount 1 = .ok (.istore_n 1, 1) := by decide +kernel
theorem dX4_plateCount_2 : decode cX4_plateCount 2 = .ok (.iconst 0, 1) := by decide +kernel
theorem dX4_plateCount_3 : decode cX4_plateCount 3 = .ok (.istore_n 2, 1) := by decide +kernel
theorem dX4_plateCount_4 : decode cX4_plateCount 4 = .ok (.iload_n 2, 1) := by decide +kernel
theorem dX4_plateCount_5 : decode cX4_plateCount 5 = .ok (.bipush 6, 2) := by decide +kernel
theorem dX4_plateCount_7 : decode cX4_plateCount 7 = .ok (.if_icmp .ge 24, 3) := by decide +kernel
theorem dX4_plateCount_10 : decode cX4_plateCount 10 = .ok (.aload_n 0, 1) := by decide +kernel
theorem dX4_plateCount_11 : decode cX4_plateCount 11 = .ok (.getfield 11, 3) := by decide +kernel
theorem dX4_plateCount_14 : decode cX4_plateCount 14 = .ok (.iload_n 2, 1) := by decide +kernel
theorem dX4_plateCount_15 : decode cX4_plateCount 15 = .ok (.aaload, 1) := by decide +kernel
theorem dX4_plateCount_16 : decode cX4_plateCount 16 = .ok (.getfield 71, 3) := by decide +kernel
theorem dX4_plateCount_19 : decode cX4_plateCount 19 = .ok (.ifCond .ne 6, 3) := by decide +kernel
theorem dX4_plateCount_22 : decode cX4_plateCount 22 = .ok (.iinc 1 1, 3) := by decide +kernel
theorem dX4_plateCount_25 : decode cX4_plateCount 25 = .ok (.iinc 2 1, 3) := by decide +kernel
theorem dX4_plateCount_28 : decode cX4_plateCount 28 = .ok (.goto (-24), 3) := by decide +kernel
theorem dX4_plateCount_31 : decode cX4_plateCount 31 = .ok (.iload_n 1, 1) := by decide +kernel
theorem dX4_plateCount_32 : decode cX4_plateCount 32 = .ok (.ireturn, 1) := by decide +kernel
theorem dX4_badCount_0 : decode cX4_badCount 0 = .ok (.iconst 0, 1) := by decide +kernel
theorem dX4_badCount_1 : decode cX4_badCount 1 = .ok (.istore_n 1, 1) := by decide +kernel
theorem dX4_badCount_2 : decode cX4_badCount 2 = .ok (.iconst 0, 1) := by decide +kernel
theorem dX4_badCount_3 : decode cX4_badCount 3 = .ok (.istore_n 2, 1) := by decide +kernel
theorem dX4_badCount_4 : decode cX4_badCount 4 = .ok (.iload_n 2, 1) := by decide +kernel
theorem dX4_badCount_5 : decode cX4_badCount 5 = .ok (.aload_n 0, 1) := by decide +kernel
theorem dX4_badCount_6 : decode cX4_badCount 6 = .ok (.getfield 15, 3) := by decide +kernel
theorem dX4_badCount_9 : decode cX4_badCount 9 = .ok (.arraylength, 1) := by decide +kernel
theorem dX4_badCount_10 : decode cX4_badCount 10 = .ok (.if_icmp .ge 21, 3) := by decide +kernel
theorem dX4_badCount_13 : decode cX4_badCount 13 = .ok (.aload_n 0, 1) := by decide +kernel
theorem dX4_badCount_14 : decode cX4_badCount 14 = .ok (.getfield 15, 3) := by decide +kernel
theorem dX4_badCount_17 : decode cX4_badCount 17 = .ok (.iload_n 2, 1) := by decide +kernel
theorem dX4_badCount_18 : decode cX4_badCount 18 = .ok (.baload, 1) := by decide +kernel
theorem dX4_badCount_19 : decode cX4_badCount 19 = .ok (.ifCond .eq 6, 3) := by decide +kernel
theorem dX4_badCount_22 : decode cX4_badCount 22 = .ok (.iinc 1 1, 3) := by decide +kernel
theorem dX4_badCount_25 : decode cX4_badCount 25 = .ok (.iinc 2 1, 3) := by decide +kernel
theorem dX4_badCount_28 : decode cX4_badCount 28 = .ok (.goto (-24), 3) := by decide +kernel
theorem dX4_badCount_31 : decode cX4_badCount 31 = .ok (.iload_n 1, 1) := by decide +kernel
theorem dX4_badCount_32 : decode cX4_badCount 32 = .ok (.ireturn, 1) := by decide +kernel
theorem dX4_lawCount_0 : decode cX4_lawCount 0 = .ok (.iconst 0, 1) := by decide +kernel
theorem dX4_lawCount_1 : decode cX4_lawCount 1 = .ok (.istore_n 1, 1) := by decide +kernel
theorem dX4_lawCount_2 : decode cX4_lawCount 2 = .ok (.iconst 0, 1) := by decide +kernel
theorem dX4_lawCount_3 : decode cX4_lawCount 3 = .ok (.istore_n 2, 1) := by decide +kernel
theorem dX4_lawCount_4 : decode cX4_lawCount 4 = .ok (.iload_n 2, 1) := by decide +kernel
theorem dX4_lawCount_5 : decode cX4_lawCount 5 = .ok (.aload_n 0, 1) := by decide +kernel
theorem dX4_lawCount_6 : decode cX4_lawCount 6 = .ok (.getfield 110, 3) := by decide +kernel
theorem dX4_lawCount_9 : decode cX4_lawCount 9 = .ok (.if_icmp .ge 27, 3) := by decide +kernel
theorem dX4_lawCount_12 : decode cX4_lawCount 12 = .ok (.aload_n 0, 1) := by decide +kernel
theorem dX4_lawCount_13 : decode cX4_lawCount 13 = .ok (.getfield 21, 3) := by decide +kernel
theorem dX4_lawCount_16 : decode cX4_lawCount 16 = .ok (.iload_n 2, 1) := by decide +kernel
theorem dX4_lawCount_17 : decode cX4_lawCount 17 = .ok (.aaload, 1) := by decide +kernel
theorem dX4_lawCount_18 : decode cX4_lawCount 18 = .ok (.getfield 151, 3) := by decide +kernel
theorem dX4_lawCount_21 : decode cX4_lawCount 21 = .ok (.getfield 182, 3) := by decide +kernel
theorem dX4_lawCount_24 : decode cX4_lawCount 24 = .ok (.ifCond .eq 6, 3) := by decide +kernel
theorem dX4_lawCount_27 : decode cX4_lawCount 27 = .ok (.iinc 1 1, 3) := by decide +kernel
theorem dX4_lawCount_30 : decode cX4_lawCount 30 = .ok (.iinc 2 1, 3) := by decide +kernel
theorem dX4_lawCount_33 : decode cX4_lawCount 33 = .ok (.goto (-29), 3) := by decide +kernel
theorem dX4_lawCount_36 : decode cX4_lawCount 36 = .ok (.iload_n 1, 1) := by decide +kernel
theorem dX4_lawCount_37 : decode cX4_lawCount 37 = .ok (.ireturn, 1) := by decide +kernel
theorem dX4_mix_0 : decode cX4_mix 0 = .ok (.ldc2_w 322, 3) := by decide +kernel
theorem dX4_mix_3 : decode cX4_mix 3 = .ok (.lload_n 0, 1) := by decide +kernel
theorem dX4_mix_4 : decode cX4_mix 4 = .ok (.lmul, 1) := by decide +kernel
theorem dX4_mix_5 : decode cX4_mix 5 = .ok (.lload_n 2, 1) := by decide +kernel
theorem dX4_mix_6 : decode cX4_mix 6 = .ok (.ladd, 1) := by decide +kernel
theorem dX4_mix_7 : decode cX4_mix 7 = .ok (.lreturn, 1) := by decide +kernel
theorem dX4_digestPlate_0 : decode cX4_digestPlate 0 = .ok (.aload_n 2, 1) := by decide +kernel
theorem dX4_digestPlate_1 : decode cX4_digestPlate 1 = .ok (.getfield 71, 3) := by decide +kernel
theorem dX4_digestPlate_4 : decode cX4_digestPlate 4 = .ok (.ifCond .eq 11, 3) := by decide +kernel
theorem dX4_digestPlate_7 : decode cX4_digestPlate 7 = .ok (.lload_n 0, 1) := by decide +kernel
theorem dX4_digestPlate_8 : decode cX4_digestPlate 8 = .ok (.ldc2_w 165, 3) := by decide +kernel
theorem dX4_digestPlate_11 : decode cX4_digestPlate 11 = .ok (.invokestatic 238, 3) := by decide +kernel
theorem dX4_digestPlate_14 : decode cX4_digestPlate 14 = .ok (.lreturn, 1) := by decide +kernel
theorem dX4_digestPlate_15 : decode cX4_digestPlate 15 = .ok (.lload_n 0, 1) := by decide +kernel
theorem dX4_digestPlate_16 : decode cX4_digestPlate 16 = .ok (.aload_n 2, 1) := by decide +kernel
theorem dX4_digestPlate_17 : decode cX4_digestPlate 17 = .ok (.getfield 75, 3) := by decide +kernel
theorem dX4_digestPlate_20 : decode cX4_digestPlate 20 = .ok (.i2l, 1) := by decide +kernel
theorem dX4_digestPlate_21 : decode cX4_digestPlate 21 = .ok (.invokestatic 238, 3) := by decide +kernel
theorem dX4_digestPlate_24 : decode cX4_digestPlate 24 = .ok (.aload_n 2, 1) := by decide +kernel
theorem dX4_digestPlate_25 : decode cX4_digestPlate 25 = .ok (.getfield 93, 3) := by decide +kernel
theorem dX4_digestPlate_28 : decode cX4_digestPlate 28 = .ok (.i2l, 1) := by decide +kernel
theorem dX4_digestPlate_29 : decode cX4_digestPlate 29 = .ok (.invokestatic 238, 3) := by decide +kernel
theorem dX4_digestPlate_32 : decode cX4_digestPlate 32 = .ok (.aload_n 2, 1) := by decide +kernel
theorem dX4_digestPlate_33 : decode cX4_digestPlate 33 = .ok (.getfield 90, 3) := by decide +kernel
theorem dX4_digestPlate_36 : decode cX4_digestPlate 36 = .ok (.i2l, 1) := by decide +kernel
theorem dX4_digestPlate_37 : decode cX4_digestPlate 37 = .ok (.invokestatic 238, 3) := by decide +kernel
theorem dX4_digestPlate_40 : decode cX4_digestPlate 40 = .ok (.lstore_n 3, 1) := by decide +kernel
theorem dX4_digestPlate_41 : decode cX4_digestPlate 41 = .ok (.iconst 0, 1) := by decide +kernel
theorem dX4_digestPlate_42 : decode cX4_digestPlate 42 = .ok (.istore 5, 2) := by decide +kernel
theorem dX4_digestPlate_44 : decode cX4_digestPlate 44 = .ok (.iload 5, 2) := by decide +kernel
theorem dX4_digestPlate_46 : decode cX4_digestPlate 46 = .ok (.aload_n 2, 1) := by decide +kernel
theorem dX4_digestPlate_47 : decode cX4_digestPlate 47 = .ok (.getfield 90, 3) := by decide +kernel
theorem dX4_digestPlate_50 : decode cX4_digestPlate 50 = .ok (.if_icmp .ge 41, 3) := by decide +kernel
theorem dX4_digestPlate_53 : decode cX4_digestPlate 53 = .ok (.iconst 0, 1) := by decide +kernel
theorem dX4_digestPlate_54 : decode cX4_digestPlate 54 = .ok (.istore 6, 2) := by decide +kernel
theorem dX4_digestPlate_56 : decode cX4_digestPlate 56 = .ok (.iload 6, 2) := by decide +kernel
theorem dX4_digestPlate_58 : decode cX4_digestPlate 58 = .ok (.aload_n 2, 1) := by decide +kernel
theorem dX4_digestPlate_59 : decode cX4_digestPlate 59 = .ok (.getfield 93, 3) := by decide +kernel
theorem dX4_digestPlate_62 : decode cX4_digestPlate 62 = .ok (.if_icmp .ge 23, 3) := by decide +kernel
theorem dX4_digestPlate_65 : decode cX4_digestPlate 65 = .ok (.lload_n 3, 1) := by decide +kernel
theorem dX4_digestPlate_66 : decode cX4_digestPlate 66 = .ok (.aload_n 2, 1) := by decide +kernel
theorem dX4_digestPlate_67 : decode cX4_digestPlate 67 = .ok (.iload 6, 2) := by decide +kernel
theorem dX4_digestPlate_69 : decode cX4_digestPlate 69 = .ok (.iload 5, 2) := by decide +kernel
theorem dX4_digestPlate_71 : decode cX4_digestPlate 71 = .ok (.invokevirtual 96, 3) := by decide +kernel
theorem dX4_digestPlate_74 : decode cX4_digestPlate 74 = .ok (.i2l, 1) := by decide +kernel
theorem dX4_digestPlate_75 : decode cX4_digestPlate 75 = .ok (.invokestatic 238, 3) := by decide +kernel
theorem dX4_digestPlate_78 : decode cX4_digestPlate 78 = .ok (.lstore_n 3, 1) := by decide +kernel
theorem dX4_digestPlate_79 : decode cX4_digestPlate 79 = .ok (.iinc 6 1, 3) := by decide +kernel
theorem dX4_digestPlate_82 : decode cX4_digestPlate 82 = .ok (.goto (-26), 3) := by decide +kernel
theorem dX4_digestPlate_85 : decode cX4_digestPlate 85 = .ok (.iinc 5 1, 3) := by decide +kernel
theorem dX4_digestPlate_88 : decode cX4_digestPlate 88 = .ok (.goto (-44), 3) := by decide +kernel
theorem dX4_digestPlate_91 : decode cX4_digestPlate 91 = .ok (.lload_n 3, 1) := by decide +kernel
theorem dX4_digestPlate_92 : decode cX4_digestPlate 92 = .ok (.lreturn, 1) := by decide +kernel
theorem dX4_digestComb_0 : decode cX4_digestComb 0 = .ok (.lload_n 0, 1) := by decide +kernel
theorem dX4_digestComb_1 : decode cX4_digestComb 1 = .ok (.lstore_n 3, 1) := by decide +kernel
theorem dX4_digestComb_2 : decode cX4_digestComb 2 = .ok (.iconst 0, 1) := by decide +kernel
theorem dX4_digestComb_3 : decode cX4_digestComb 3 = .ok (.istore 5, 2) := by decide +kernel
theorem dX4_digestComb_5 : decode cX4_digestComb 5 = .ok (.iload 5, 2) := by decide +kernel
theorem dX4_digestComb_7 : decode cX4_digestComb 7 = .ok (.bipush 8, 2) := by decide +kernel
theorem dX4_digestComb_9 : decode cX4_digestComb 9 = .ok (.if_icmp .ge 21, 3) := by decide +kernel
theorem dX4_digestComb_12 : decode cX4_digestComb 12 = .ok (.lload_n 3, 1) := by decide +kernel
theorem dX4_digestComb_13 : decode cX4_digestComb 13 = .ok (.aload_n 2, 1) := by decide +kernel
theorem dX4_digestComb_14 : decode cX4_digestComb 14 = .ok (.iload 5, 2) := by decide +kernel
theorem dX4_digestComb_16 : decode cX4_digestComb 16 = .ok (.invokestatic 126, 3) := by decide +kernel
theorem dX4_digestComb_19 : decode cX4_digestComb 19 = .ok (.i2l, 1) := by decide +kernel
theorem dX4_digestComb_20 : decode cX4_digestComb 20 = .ok (.invokestatic 238, 3) := by decide +kernel
theorem dX4_digestComb_23 : decode cX4_digestComb 23 = .ok (.lstore_n 3, 1) := by decide +kernel
theorem dX4_digestComb_24 : decode cX4_digestComb 24 = .ok (.iinc 5 1, 3) := by decide +kernel
theorem dX4_digestComb_27 : decode cX4_digestComb 27 = .ok (.goto (-22), 3) := by decide +kernel
theorem dX4_digestComb_30 : decode cX4_digestComb 30 = .ok (.iconst 0, 1) := by decide +kernel
theorem dX4_digestComb_31 : decode cX4_digestComb 31 = .ok (.istore 5, 2) := by decide +kernel
theorem dX4_digestComb_33 : decode cX4_digestComb 33 = .ok (.iload 5, 2) := by decide +kernel
theorem dX4_digestComb_35 : decode cX4_digestComb 35 = .ok (.aload_n 2, 1) := by decide +kernel
theorem dX4_digestComb_36 : decode cX4_digestComb 36 = .ok (.getfield 141, 3) := by decide +kernel
theorem dX4_digestComb_39 : decode cX4_digestComb 39 = .ok (.if_icmp .ge 20, 3) := by decide +kernel
theorem dX4_digestComb_42 : decode cX4_digestComb 42 = .ok (.lload_n 3, 1) := by decide +kernel
theorem dX4_digestComb_43 : decode cX4_digestComb 43 = .ok (.aload_n 2, 1) := by decide +kernel
theorem dX4_digestComb_44 : decode cX4_digestComb 44 = .ok (.iload 5, 2) := by decide +kernel
theorem dX4_digestComb_46 : decode cX4_digestComb 46 = .ok (.invokevirtual 162, 3) := by decide +kernel
theorem dX4_digestComb_49 : decode cX4_digestComb 49 = .ok (.invokestatic 238, 3) := by decide +kernel
theorem dX4_digestComb_52 : decode cX4_digestComb 52 = .ok (.lstore_n 3, 1) := by decide +kernel
theorem dX4_digestComb_53 : decode cX4_digestComb 53 = .ok (.iinc 5 1, 3) := by decide +kernel
theorem dX4_digestComb_56 : decode cX4_digestComb 56 = .ok (.goto (-23), 3) := by decide +kernel
theorem dX4_digestComb_59 : decode cX4_digestComb 59 = .ok (.lload_n 3, 1) := by decide +kernel
theorem dX4_digestComb_60 : decode cX4_digestComb 60 = .ok (.lreturn, 1) := by decide +kernel
