theorem d_M_mark_0 : decode b_M_mark 0 = .ok (.iconst 0, 1) := by decide +kernel
theorem d_M_mark_1 : decode b_M_mark 1 = .ok (.istore_n 2, 1) := by decide +kernel
theorem d_M_mark_2 : decode b_M_mark 2 = .ok (.iload_n 2, 1) := by decide +kernel
theorem d_M_mark_3 : decode b_M_mark 3 = .ok (.bipush 60, 2) := by decide +kernel
theorem d_M_mark_5 : decode b_M_mark 5 = .ok (.if_icmp .ge 16, 3) := by decide +kernel
theorem d_M_mark_8 : decode b_M_mark 8 = .ok (.aload_n 0, 1) := by decide +kernel
theorem d_M_mark_9 : decode b_M_mark 9 = .ok (.getfield 60, 3) := by decide +kernel
theorem d_M_mark_12 : decode b_M_mark 12 = .ok (.iload_n 2, 1) := by decide +kernel
theorem d_M_mark_13 : decode b_M_mark 13 = .ok (.iconst 0, 1) := by decide +kernel
theorem d_M_mark_14 : decode b_M_mark 14 = .ok (.bastore, 1) := by decide +kernel
theorem d_M_mark_15 : decode b_M_mark 15 = .ok (.iinc 2 1, 3) := by decide +kernel
theorem d_M_mark_18 : decode b_M_mark 18 = .ok (.goto (-16), 3) := by decide +kernel
theorem d_M_mark_21 : decode b_M_mark 21 = .ok (.iconst 1, 1) := by decide +kernel
theorem d_M_mark_22 : decode b_M_mark 22 = .ok (.istore_n 2, 1) := by decide +kernel
theorem d_M_mark_23 : decode b_M_mark 23 = .ok (.iload_n 2, 1) := by decide +kernel
theorem d_M_mark_24 : decode b_M_mark 24 = .ok (.aload_n 0, 1) := by decide +kernel
theorem d_M_mark_25 : decode b_M_mark 25 = .ok (.getfield 7, 3) := by decide +kernel
theorem d_M_mark_28 : decode b_M_mark 28 = .ok (.if_icmp .ge 52, 3) := by decide +kernel
theorem d_M_mark_31 : decode b_M_mark 31 = .ok (.aload_n 0, 1) := by decide +kernel
theorem d_M_mark_32 : decode b_M_mark 32 = .ok (.iload_n 1, 1) := by decide +kernel
theorem d_M_mark_33 : decode b_M_mark 33 = .ok (.iload_n 2, 1) := by decide +kernel
theorem d_M_mark_34 : decode b_M_mark 34 = .ok (.invokevirtual 99, 3) := by decide +kernel
theorem d_M_mark_37 : decode b_M_mark 37 = .ok (.ifCond .eq 37, 3) := by decide +kernel
theorem d_M_mark_40 : decode b_M_mark 40 = .ok (.aload_n 0, 1) := by decide +kernel
theorem d_M_mark_41 : decode b_M_mark 41 = .ok (.iload_n 1, 1) := by decide +kernel
theorem d_M_mark_42 : decode b_M_mark 42 = .ok (.iload_n 2, 1) := by decide +kernel
theorem d_M_mark_43 : decode b_M_mark 43 = .ok (.iconst 1, 1) := by decide +kernel
theorem d_M_mark_44 : decode b_M_mark 44 = .ok (.invokevirtual 95, 3) := by decide +kernel
theorem d_M_mark_47 : decode b_M_mark 47 = .ok (.ifCond .eq 27, 3) := by decide +kernel
theorem d_M_mark_50 : decode b_M_mark 50 = .ok (.iload_n 2, 1) := by decide +kernel
theorem d_M_mark_51 : decode b_M_mark 51 = .ok (.istore_n 3, 1) := by decide +kernel
theorem d_M_mark_52 : decode b_M_mark 52 = .ok (.iload_n 3, 1) := by decide +kernel
theorem d_M_mark_53 : decode b_M_mark 53 = .ok (.iconst (-1), 1) := by decide +kernel
theorem d_M_mark_54 : decode b_M_mark 54 = .ok (.if_icmp .eq 20, 3) := by decide +kernel
theorem d_M_mark_57 : decode b_M_mark 57 = .ok (.aload_n 0, 1) := by decide +kernel
theorem d_M_mark_58 : decode b_M_mark 58 = .ok (.getfield 60, 3) := by decide +kernel
theorem d_M_mark_61 : decode b_M_mark 61 = .ok (.iload_n 3, 1) := by decide +kernel
theorem d_M_mark_62 : decode b_M_mark 62 = .ok (.iconst 1, 1) := by decide +kernel
theorem d_M_mark_63 : decode b_M_mark 63 = .ok (.bastore, 1) := by decide +kernel
theorem d_M_mark_64 : decode b_M_mark 64 = .ok (.aload_n 0, 1) := by decide +kernel
theorem d_M_mark_65 : decode b_M_mark 65 = .ok (.getfield 13, 3) := by decide +kernel
theorem d_M_mark_68 : decode b_M_mark 68 = .ok (.iload_n 3, 1) := by decide +kernel
theorem d_M_mark_69 : decode b_M_mark 69 = .ok (.iaload, 1) := by decide +kernel
theorem d_M_mark_70 : decode b_M_mark 70 = .ok (.istore_n 3, 1) := by decide +kernel
theorem d_M_mark_71 : decode b_M_mark 71 = .ok (.goto (-19), 3) := by decide +kernel
theorem d_M_mark_74 : decode b_M_mark 74 = .ok (.iinc 2 1, 3) := by decide +kernel
theorem d_M_mark_77 : decode b_M_mark 77 = .ok (.goto (-54), 3) := by decide +kernel
theorem d_M_mark_80 : decode b_M_mark 80 = .ok (.return_, 1) := by decide +kernel
theorem d_M_clashes_0 : decode b_M_clashes 0 = .ok (.iconst 0, 1) := by decide +kernel
theorem d_M_clashes_1 : decode b_M_clashes 1 = .ok (.istore_n 1, 1) := by decide +kernel
theorem d_M_clashes_2 : decode b_M_clashes 2 = .ok (.iconst 1, 1) := by decide +kernel
theorem d_M_clashes_3 : decode b_M_clashes 3 = .ok (.istore_n 2, 1) := by decide +kernel
theorem d_M_clashes_4 : decode b_M_clashes 4 = .ok (.iload_n 2, 1) := by decide +kernel
theorem d_M_clashes_5 : decode b_M_clashes 5 = .ok (.aload_n 0, 1) := by decide +kernel
theorem d_M_clashes_6 : decode b_M_clashes 6 = .ok (.getfield 7, 3) := by decide +kernel
theorem d_M_clashes_9 : decode b_M_clashes 9 = .ok (.if_icmp .ge 86, 3) := by decide +kernel
theorem d_M_clashes_12 : decode b_M_clashes 12 = .ok (.iconst 1, 1) := by decide +kernel
theorem d_M_clashes_13 : decode b_M_clashes 13 = .ok (.istore_n 3, 1) := by decide +kernel
theorem d_M_clashes_14 : decode b_M_clashes 14 = .ok (.iload_n 3, 1) := by decide +kernel
theorem d_M_clashes_15 : decode b_M_clashes 15 = .ok (.iload_n 2, 1) := by decide +kernel
theorem d_M_clashes_16 : decode b_M_clashes 16 = .ok (.if_icmp .ge 73, 3) := by decide +kernel
theorem d_M_clashes_19 : decode b_M_clashes 19 = .ok (.iload_n 1, 1) := by decide +kernel
theorem d_M_clashes_20 : decode b_M_clashes 20 = .ok (.ifCond .ne 57, 3) := by decide +kernel
theorem d_M_clashes_23 : decode b_M_clashes 23 = .ok (.aload_n 0, 1) := by decide +kernel
theorem d_M_clashes_24 : decode b_M_clashes 24 = .ok (.getfield 60, 3) := by decide +kernel
theorem d_M_clashes_27 : decode b_M_clashes 27 = .ok (.iload_n 2, 1) := by decide +kernel
theorem d_M_clashes_28 : decode b_M_clashes 28 = .ok (.baload, 1) := by decide +kernel
theorem d_M_clashes_29 : decode b_M_clashes 29 = .ok (.ifCond .eq 52, 3) := by decide +kernel
theorem d_M_clashes_32 : decode b_M_clashes 32 = .ok (.aload_n 0, 1) := by decide +kernel
theorem d_M_clashes_33 : decode b_M_clashes 33 = .ok (.getfield 60, 3) := by decide +kernel
theorem d_M_clashes_36 : decode b_M_clashes 36 = .ok (.iload_n 3, 1) := by decide +kernel
theorem d_M_clashes_37 : decode b_M_clashes 37 = .ok (.baload, 1) := by decide +kernel
theorem d_M_clashes_38 : decode b_M_clashes 38 = .ok (.ifCond .eq 43, 3) := by decide +kernel
theorem d_M_clashes_41 : decode b_M_clashes 41 = .ok (.aload_n 0, 1) := by decide +kernel
theorem d_M_clashes_42 : decode b_M_clashes 42 = .ok (.getfield 13, 3) := by decide +kernel
theorem d_M_clashes_45 : decode b_M_clashes 45 = .ok (.iload_n 2, 1) := by decide +kernel
theorem d_M_clashes_46 : decode b_M_clashes 46 = .ok (.iaload, 1) := by decide +kernel
theorem d_M_clashes_47 : decode b_M_clashes 47 = .ok (.aload_n 0, 1) := by decide +kernel
theorem d_M_clashes_48 : decode b_M_clashes 48 = .ok (.getfield 13, 3) := by decide +kernel
theorem d_M_clashes_51 : decode b_M_clashes 51 = .ok (.iload_n 3, 1) := by decide +kernel
theorem d_M_clashes_52 : decode b_M_clashes 52 = .ok (.iaload, 1) := by decide +kernel
theorem d_M_clashes_53 : decode b_M_clashes 53 = .ok (.if_icmp .ne 28, 3) := by decide +kernel
theorem d_M_clashes_56 : decode b_M_clashes 56 = .ok (.aload_n 0, 1) := by decide +kernel
theorem d_M_clashes_57 : decode b_M_clashes 57 = .ok (.getfield 17, 3) := by decide +kernel
theorem d_M_clashes_60 : decode b_M_clashes 60 = .ok (.iload_n 2, 1) := by decide +kernel
theorem d_M_clashes_61 : decode b_M_clashes 61 = .ok (.iaload, 1) := by decide +kernel
theorem d_M_clashes_62 : decode b_M_clashes 62 = .ok (.invokestatic 76, 3) := by decide +kernel
theorem d_M_clashes_65 : decode b_M_clashes 65 = .ok (.aload_n 0, 1) := by decide +kernel
theorem d_M_clashes_66 : decode b_M_clashes 66 = .ok (.getfield 17, 3) := by decide +kernel
theorem d_M_clashes_69 : decode b_M_clashes 69 = .ok (.iload_n 3, 1) := by decide +kernel
theorem d_M_clashes_70 : decode b_M_clashes 70 = .ok (.iaload, 1) := by decide +kernel
theorem d_M_clashes_71 : decode b_M_clashes 71 = .ok (.invokestatic 76, 3) := by decide +kernel
theorem d_M_clashes_74 : decode b_M_clashes 74 = .ok (.if_icmp .ne 7, 3) := by decide +kernel
theorem d_M_clashes_77 : decode b_M_clashes 77 = .ok (.iconst 1, 1) := by decide +kernel
theorem d_M_clashes_78 : decode b_M_clashes 78 = .ok (.goto 4, 3) := by decide +kernel
theorem d_M_clashes_81 : decode b_M_clashes 81 = .ok (.iconst 0, 1) := by decide +kernel
theorem d_M_clashes_82 : decode b_M_clashes 82 = .ok (.istore_n 1, 1) := by decide +kernel
theorem d_M_clashes_83 : decode b_M_clashes 83 = .ok (.iinc 3 1, 3) := by decide +kernel
theorem d_M_clashes_86 : decode b_M_clashes 86 = .ok (.goto (-72), 3) := by decide +kernel
theorem d_M_clashes_89 : decode b_M_clashes 89 = .ok (.iinc 2 1, 3) := by decide +kernel
theorem d_M_clashes_92 : decode b_M_clashes 92 = .ok (.goto (-88), 3) := by decide +kernel
theorem d_M_clashes_95 : decode b_M_clashes 95 = .ok (.iload_n 1, 1) := by decide +kernel
theorem d_M_clashes_96 : decode b_M_clashes 96 = .ok (.ireturn, 1) := by decide +kernel
theorem d_M_ended_0 : decode b_M_ended 0 = .ok (.iload_n 2, 1) := by decide +kernel
theorem d_M_ended_1 : decode b_M_ended 1 = .ok (.ifCond .eq 5, 3) := by decide +kernel
theorem d_M_ended_4 : decode b_M_ended 4 = .ok (.iconst 0, 1) := by decide +kernel
theorem d_M_ended_5 : decode b_M_ended 5 = .ok (.ireturn, 1) := by decide +kernel
theorem d_M_ended_6 : decode b_M_ended 6 = .ok (.aload_n 0, 1) := by decide +kernel
theorem d_M_ended_7 : decode b_M_ended 7 = .ok (.getfield 54, 3) := by decide +kernel
theorem d_M_ended_10 : decode b_M_ended 10 = .ok (.iload_n 1, 1) := by decide +kernel
theorem d_M_ended_11 : decode b_M_ended 11 = .ok (.baload, 1) := by decide +kernel
theorem d_M_ended_12 : decode b_M_ended 12 = .ok (.ifCond .eq 6, 3) := by decide +kernel
theorem d_M_ended_15 : decode b_M_ended 15 = .ok (.bipush (-2), 2) := by decide +kernel
theorem d_M_ended_17 : decode b_M_ended 17 = .ok (.ireturn, 1) := by decide +kernel
theorem d_M_ended_18 : decode b_M_ended 18 = .ok (.iconst 0, 1) := by decide +kernel
theorem d_M_ended_19 : decode b_M_ended 19 = .ok (.istore_n 3, 1) := by decide +kernel
theorem d_M_ended_20 : decode b_M_ended 20 = .ok (.iconst 0, 1) := by decide +kernel
theorem d_M_ended_21 : decode b_M_ended 21 = .ok (.istore 4, 2) := by decide +kernel
theorem d_M_ended_23 : decode b_M_ended 23 = .ok (.iload 4, 2) := by decide +kernel
theorem d_M_ended_25 : decode b_M_ended 25 = .ok (.aload_n 0, 1) := by decide +kernel
theorem d_M_ended_26 : decode b_M_ended 26 = .ok (.getfield 26, 3) := by decide +kernel
theorem d_M_ended_29 : decode b_M_ended 29 = .ok (.iload_n 1, 1) := by decide +kernel
theorem d_M_ended_30 : decode b_M_ended 30 = .ok (.iaload, 1) := by decide +kernel
theorem d_M_ended_31 : decode b_M_ended 31 = .ok (.if_icmp .ge 78, 3) := by decide +kernel
theorem d_M_ended_34 : decode b_M_ended 34 = .ok (.aload_n 0, 1) := by decide +kernel
theorem d_M_ended_35 : decode b_M_ended 35 = .ok (.getfield 47, 3) := by decide +kernel
theorem d_M_ended_38 : decode b_M_ended 38 = .ok (.bipush 12, 2) := by decide +kernel
theorem d_M_ended_40 : decode b_M_ended 40 = .ok (.iload_n 1, 1) := by decide +kernel
theorem d_M_ended_41 : decode b_M_ended 41 = .ok (.imul, 1) := by decide +kernel
theorem d_M_ended_42 : decode b_M_ended 42 = .ok (.iload 4, 2) := by decide +kernel
theorem d_M_ended_44 : decode b_M_ended 44 = .ok (.iadd, 1) := by decide +kernel
theorem d_M_ended_45 : decode b_M_ended 45 = .ok (.baload, 1) := by decide +kernel
theorem d_M_ended_46 : decode b_M_ended 46 = .ok (.ifCond .ne 6, 3) := by decide +kernel
theorem d_M_ended_49 : decode b_M_ended 49 = .ok (.goto 54, 3) := by decide +kernel
theorem d_M_ended_52 : decode b_M_ended 52 = .ok (.aload_n 0, 1) := by decide +kernel
theorem d_M_ended_53 : decode b_M_ended 53 = .ok (.getfield 29, 3) := by decide +kernel
theorem d_M_ended_56 : decode b_M_ended 56 = .ok (.bipush 12, 2) := by decide +kernel
theorem d_M_ended_58 : decode b_M_ended 58 = .ok (.iload_n 1, 1) := by decide +kernel
theorem d_M_ended_59 : decode b_M_ended 59 = .ok (.imul, 1) := by decide +kernel
theorem d_M_ended_60 : decode b_M_ended 60 = .ok (.iload 4, 2) := by decide +kernel
theorem d_M_ended_62 : decode b_M_ended 62 = .ok (.iadd, 1) := by decide +kernel
theorem d_M_ended_63 : decode b_M_ended 63 = .ok (.iaload, 1) := by decide +kernel
theorem d_M_ended_64 : decode b_M_ended 64 = .ok (.istore 5, 2) := by decide +kernel
theorem d_M_ended_66 : decode b_M_ended 66 = .ok (.aload_n 0, 1) := by decide +kernel
theorem d_M_ended_67 : decode b_M_ended 67 = .ok (.iload_n 1, 1) := by decide +kernel
theorem d_M_ended_68 : decode b_M_ended 68 = .ok (.iload 5, 2) := by decide +kernel
theorem d_M_ended_70 : decode b_M_ended 70 = .ok (.invokevirtual 121, 3) := by decide +kernel
theorem d_M_ended_73 : decode b_M_ended 73 = .ok (.ifCond .ne 10, 3) := by decide +kernel
theorem d_M_ended_76 : decode b_M_ended 76 = .ok (.bipush (-10), 2) := by decide +kernel
theorem d_M_ended_78 : decode b_M_ended 78 = .ok (.iconst 2, 1) := by decide +kernel
theorem d_M_ended_79 : decode b_M_ended 79 = .ok (.iload_n 3, 1) := by decide +kernel
theorem d_M_ended_80 : decode b_M_ended 80 = .ok (.imul, 1) := by decide +kernel
theorem d_M_ended_81 : decode b_M_ended 81 = .ok (.isub, 1) := by decide +kernel
theorem d_M_ended_82 : decode b_M_ended 82 = .ok (.ireturn, 1) := by decide +kernel
theorem d_M_ended_83 : decode b_M_ended 83 = .ok (.aload_n 0, 1) := by decide +kernel
theorem d_M_ended_84 : decode b_M_ended 84 = .ok (.iload_n 1, 1) := by decide +kernel
theorem d_M_ended_85 : decode b_M_ended 85 = .ok (.iload 5, 2) := by decide +kernel
theorem d_M_ended_87 : decode b_M_ended 87 = .ok (.invokevirtual 124, 3) := by decide +kernel
theorem d_M_ended_90 : decode b_M_ended 90 = .ok (.ifCond .eq 10, 3) := by decide +kernel
theorem d_M_ended_93 : decode b_M_ended 93 = .ok (.bipush (-11), 2) := by decide +kernel
theorem d_M_ended_95 : decode b_M_ended 95 = .ok (.iconst 2, 1) := by decide +kernel
theorem d_M_ended_96 : decode b_M_ended 96 = .ok (.iload_n 3, 1) := by decide +kernel
theorem d_M_ended_97 : decode b_M_ended 97 = .ok (.imul, 1) := by decide +kernel
theorem d_M_ended_98 : decode b_M_ended 98 = .ok (.isub, 1) := by decide +kernel
theorem d_M_ended_99 : decode b_M_ended 99 = .ok (.ireturn, 1) := by decide +kernel
theorem d_M_ended_100 : decode b_M_ended 100 = .ok (.iinc 3 1, 3) := by decide +kernel
theorem d_M_ended_103 : decode b_M_ended 103 = .ok (.iinc 4 1, 3) := by decide +kernel
theorem d_M_ended_106 : decode b_M_ended 106 = .ok (.goto (-83), 3) := by decide +kernel
theorem d_M_ended_109 : decode b_M_ended 109 = .ok (.aload_n 0, 1) := by decide +kernel
theorem d_M_ended_110 : decode b_M_ended 110 = .ok (.iload_n 1, 1) := by decide +kernel
theorem d_M_ended_111 : decode b_M_ended 111 = .ok (.invokevirtual 127, 3) := by decide +kernel
theorem d_M_ended_114 : decode b_M_ended 114 = .ok (.aload_n 0, 1) := by decide +kernel
theorem d_M_ended_115 : decode b_M_ended 115 = .ok (.invokevirtual 131, 3) := by decide +kernel
theorem d_M_ended_118 : decode b_M_ended 118 = .ok (.ifCond .eq 6, 3) := by decide +kernel
theorem d_M_ended_121 : decode b_M_ended 121 = .ok (.bipush (-3), 2) := by decide +kernel
theorem d_M_ended_123 : decode b_M_ended 123 = .ok (.ireturn, 1) := by decide +kernel
theorem d_M_ended_124 : decode b_M_ended 124 = .ok (.iconst 1, 1) := by decide +kernel
theorem d_M_ended_125 : decode b_M_ended 125 = .ok (.istore 4, 2) := by decide +kernel
theorem d_M_ended_127 : decode b_M_ended 127 = .ok (.iload 4, 2) := by decide +kernel
theorem d_M_ended_129 : decode b_M_ended 129 = .ok (.aload_n 0, 1) := by decide +kernel
theorem d_M_ended_130 : decode b_M_ended 130 = .ok (.getfield 7, 3) := by decide +kernel
theorem d_M_ended_133 : decode b_M_ended 133 = .ok (.if_icmp .ge 43, 3) := by decide +kernel
theorem d_M_ended_136 : decode b_M_ended 136 = .ok (.aload_n 0, 1) := by decide +kernel
theorem d_M_ended_137 : decode b_M_ended 137 = .ok (.getfield 60, 3) := by decide +kernel
theorem d_M_ended_140 : decode b_M_ended 140 = .ok (.iload 4, 2) := by decide +kernel
theorem d_M_ended_142 : decode b_M_ended 142 = .ok (.baload, 1) := by decide +kernel
theorem d_M_ended_143 : decode b_M_ended 143 = .ok (.ifCond .eq 27, 3) := by decide +kernel
theorem d_M_ended_146 : decode b_M_ended 146 = .ok (.aload_n 0, 1) := by decide +kernel
theorem d_M_ended_147 : decode b_M_ended 147 = .ok (.getfield 20, 3) := by decide +kernel
theorem d_M_ended_150 : decode b_M_ended 150 = .ok (.iload 4, 2) := by decide +kernel
theorem d_M_ended_152 : decode b_M_ended 152 = .ok (.iaload, 1) := by decide +kernel
theorem d_M_ended_153 : decode b_M_ended 153 = .ok (.ifCond .le 17, 3) := by decide +kernel
theorem d_M_ended_156 : decode b_M_ended 156 = .ok (.aload_n 0, 1) := by decide +kernel
theorem d_M_ended_157 : decode b_M_ended 157 = .ok (.iload_n 1, 1) := by decide +kernel
theorem d_M_ended_158 : decode b_M_ended 158 = .ok (.iload 4, 2) := by decide +kernel
theorem d_M_ended_160 : decode b_M_ended 160 = .ok (.iconst 1, 1) := by decide +kernel
theorem d_M_ended_161 : decode b_M_ended 161 = .ok (.invokevirtual 95, 3) := by decide +kernel
theorem d_M_ended_164 : decode b_M_ended 164 = .ok (.ifCond .ne 6, 3) := by decide +kernel
theorem d_M_ended_167 : decode b_M_ended 167 = .ok (.bipush (-4), 2) := by decide +kernel
theorem d_M_ended_169 : decode b_M_ended 169 = .ok (.ireturn, 1) := by decide +kernel
theorem d_M_ended_170 : decode b_M_ended 170 = .ok (.iinc 4 1, 3) := by decide +kernel
theorem d_M_ended_173 : decode b_M_ended 173 = .ok (.goto (-46), 3) := by decide +kernel
theorem d_M_ended_176 : decode b_M_ended 176 = .ok (.iconst 0, 1) := by decide +kernel
theorem d_M_ended_177 : decode b_M_ended 177 = .ok (.istore 4, 2) := by decide +kernel
theorem d_M_ended_179 : decode b_M_ended 179 = .ok (.iconst 0, 1) := by decide +kernel
theorem d_M_ended_180 : decode b_M_ended 180 = .ok (.istore 5, 2) := by decide +kernel
theorem d_M_ended_182 : decode b_M_ended 182 = .ok (.iload 5, 2) := by decide +kernel
theorem d_M_ended_184 : decode b_M_ended 184 = .ok (.aload_n 0, 1) := by decide +kernel
theorem d_M_ended_185 : decode b_M_ended 185 = .ok (.getfield 7, 3) := by decide +kernel
theorem d_M_ended_188 : decode b_M_ended 188 = .ok (.if_icmp .ge 23, 3) := by decide +kernel
theorem d_M_ended_191 : decode b_M_ended 191 = .ok (.aload_n 0, 1) := by decide +kernel
theorem d_M_ended_192 : decode b_M_ended 192 = .ok (.getfield 23, 3) := by decide +kernel
theorem d_M_ended_195 : decode b_M_ended 195 = .ok (.iload 5, 2) := by decide +kernel
theorem d_M_ended_197 : decode b_M_ended 197 = .ok (.aload_n 0, 1) := by decide +kernel
theorem d_M_ended_198 : decode b_M_ended 198 = .ok (.iload_n 1, 1) := by decide +kernel
theorem d_M_ended_199 : decode b_M_ended 199 = .ok (.iload 5, 2) := by decide +kernel
theorem d_M_ended_201 : decode b_M_ended 201 = .ok (.invokevirtual 109, 3) := by decide +kernel
theorem d_M_ended_204 : decode b_M_ended 204 = .ok (.iastore, 1) := by decide +kernel
theorem d_M_ended_205 : decode b_M_ended 205 = .ok (.iinc 5 1, 3) := by decide +kernel
theorem d_M_ended_208 : decode b_M_ended 208 = .ok (.goto (-26), 3) := by decide +kernel
theorem d_M_ended_211 : decode b_M_ended 211 = .ok (.iconst 1, 1) := by decide +kernel
theorem d_M_ended_212 : decode b_M_ended 212 = .ok (.istore 5, 2) := by decide +kernel
theorem d_M_ended_214 : decode b_M_ended 214 = .ok (.iload 5, 2) := by decide +kernel
theorem d_M_ended_216 : decode b_M_ended 216 = .ok (.aload_n 0, 1) := by decide +kernel
theorem d_M_ended_217 : decode b_M_ended 217 = .ok (.getfield 7, 3) := by decide +kernel
theorem d_M_ended_220 : decode b_M_ended 220 = .ok (.if_icmp .ge 57, 3) := by decide +kernel
theorem d_M_ended_223 : decode b_M_ended 223 = .ok (.aload_n 0, 1) := by decide +kernel
theorem d_M_ended_224 : decode b_M_ended 224 = .ok (.iload_n 1, 1) := by decide +kernel
theorem d_M_ended_225 : decode b_M_ended 225 = .ok (.iload 5, 2) := by decide +kernel
theorem d_M_ended_227 : decode b_M_ended 227 = .ok (.iconst 1, 1) := by decide +kernel
theorem d_M_ended_228 : decode b_M_ended 228 = .ok (.invokevirtual 95, 3) := by decide +kernel
theorem d_M_ended_231 : decode b_M_ended 231 = .ok (.ifCond .ne 6, 3) := by decide +kernel
theorem d_M_ended_234 : decode b_M_ended 234 = .ok (.goto 37, 3) := by decide +kernel
theorem d_M_ended_237 : decode b_M_ended 237 = .ok (.aload_n 0, 1) := by decide +kernel
theorem d_M_ended_238 : decode b_M_ended 238 = .ok (.getfield 20, 3) := by decide +kernel
theorem d_M_ended_241 : decode b_M_ended 241 = .ok (.iload 5, 2) := by decide +kernel
theorem d_M_ended_243 : decode b_M_ended 243 = .ok (.aload_n 0, 1) := by decide +kernel
theorem d_M_ended_244 : decode b_M_ended 244 = .ok (.getfield 23, 3) := by decide +kernel
theorem d_M_ended_247 : decode b_M_ended 247 = .ok (.iload 5, 2) := by decide +kernel
theorem d_M_ended_249 : decode b_M_ended 249 = .ok (.iaload, 1) := by decide +kernel
theorem d_M_ended_250 : decode b_M_ended 250 = .ok (.iastore, 1) := by decide +kernel
theorem d_M_ended_251 : decode b_M_ended 251 = .ok (.iload 4, 2) := by decide +kernel
theorem d_M_ended_253 : decode b_M_ended 253 = .ok (.aload_n 0, 1) := by decide +kernel
theorem d_M_ended_254 : decode b_M_ended 254 = .ok (.getfield 23, 3) := by decide +kernel
theorem d_M_ended_257 : decode b_M_ended 257 = .ok (.iload 5, 2) := by decide +kernel
theorem d_M_ended_259 : decode b_M_ended 259 = .ok (.iaload, 1) := by decide +kernel
theorem d_M_ended_260 : decode b_M_ended 260 = .ok (.ifCond .le 7, 3) := by decide +kernel
theorem d_M_ended_263 : decode b_M_ended 263 = .ok (.iconst 1, 1) := by decide +kernel
theorem d_M_ended_264 : decode b_M_ended 264 = .ok (.goto 4, 3) := by decide +kernel
theorem d_M_ended_267 : decode b_M_ended 267 = .ok (.iconst 0, 1) := by decide +kernel
theorem d_M_ended_268 : decode b_M_ended 268 = .ok (.iadd, 1) := by decide +kernel
theorem d_M_ended_269 : decode b_M_ended 269 = .ok (.istore 4, 2) := by decide +kernel
theorem d_M_ended_271 : decode b_M_ended 271 = .ok (.iinc 5 1, 3) := by decide +kernel
theorem d_M_ended_274 : decode b_M_ended 274 = .ok (.goto (-60), 3) := by decide +kernel
theorem d_M_ended_277 : decode b_M_ended 277 = .ok (.iload 4, 2) := by decide +kernel
theorem d_M_ended_279 : decode b_M_ended 279 = .ok (.ireturn, 1) := by decide +kernel
theorem d_M_finish_0 : decode b_M_finish 0 = .ok (.aload_n 0, 1) := by decide +kernel
theorem d_M_finish_1 : decode b_M_finish 1 = .ok (.iconst 0, 1) := by decide +kernel
theorem d_M_finish_2 : decode b_M_finish 2 = .ok (.putfield 66, 3) := by decide +kernel
theorem d_M_finish_5 : decode b_M_finish 5 = .ok (.aload_n 0, 1) := by decide +kernel
theorem d_M_finish_6 : decode b_M_finish 6 = .ok (.iload_n 1, 1) := by decide +kernel
theorem d_M_finish_7 : decode b_M_finish 7 = .ok (.invokevirtual 88, 3) := by decide +kernel
theorem d_M_finish_10 : decode b_M_finish 10 = .ok (.ifCond .eq 12, 3) := by decide +kernel
theorem d_M_finish_13 : decode b_M_finish 13 = .ok (.aload_n 0, 1) := by decide +kernel
theorem d_M_finish_14 : decode b_M_finish 14 = .ok (.getfield 51, 3) := by decide +kernel
theorem d_M_finish_17 : decode b_M_finish 17 = .ok (.iload_n 1, 1) := by decide +kernel
theorem d_M_finish_18 : decode b_M_finish 18 = .ok (.baload, 1) := by decide +kernel
theorem d_M_finish_19 : decode b_M_finish 19 = .ok (.ifCond .ne 5, 3) := by decide +kernel
theorem d_M_finish_22 : decode b_M_finish 22 = .ok (.iconst (-1), 1) := by decide +kernel
theorem d_M_finish_23 : decode b_M_finish 23 = .ok (.ireturn, 1) := by decide +kernel
theorem d_M_finish_24 : decode b_M_finish 24 = .ok (.aload_n 0, 1) := by decide +kernel
theorem d_M_finish_25 : decode b_M_finish 25 = .ok (.iload_n 1, 1) := by decide +kernel
theorem d_M_finish_26 : decode b_M_finish 26 = .ok (.iload_n 2, 1) := by decide +kernel
theorem d_M_finish_27 : decode b_M_finish 27 = .ok (.invokevirtual 135, 3) := by decide +kernel
theorem d_M_finish_30 : decode b_M_finish 30 = .ok (.istore_n 3, 1) := by decide +kernel
theorem d_M_finish_31 : decode b_M_finish 31 = .ok (.aload_n 0, 1) := by decide +kernel
theorem d_M_finish_32 : decode b_M_finish 32 = .ok (.getfield 51, 3) := by decide +kernel
theorem d_M_finish_35 : decode b_M_finish 35 = .ok (.iload_n 1, 1) := by decide +kernel
theorem d_M_finish_36 : decode b_M_finish 36 = .ok (.iconst 0, 1) := by decide +kernel
theorem d_M_finish_37 : decode b_M_finish 37 = .ok (.bastore, 1) := by decide +kernel
theorem d_M_finish_38 : decode b_M_finish 38 = .ok (.iload_n 3, 1) := by decide +kernel
theorem d_M_finish_39 : decode b_M_finish 39 = .ok (.ireturn, 1) := by decide +kernel
theorem d_M_tried_0 : decode b_M_tried 0 = .ok (.aload_n 0, 1) := by decide +kernel
theorem d_M_tried_1 : decode b_M_tried 1 = .ok (.iconst 0, 1) := by decide +kernel
theorem d_M_tried_2 : decode b_M_tried 2 = .ok (.putfield 66, 3) := by decide +kernel
theorem d_M_tried_5 : decode b_M_tried 5 = .ok (.aload_n 0, 1) := by decide +kernel
theorem d_M_tried_6 : decode b_M_tried 6 = .ok (.iload_n 1, 1) := by decide +kernel
theorem d_M_tried_7 : decode b_M_tried 7 = .ok (.invokevirtual 88, 3) := by decide +kernel
theorem d_M_tried_10 : decode b_M_tried 10 = .ok (.ifCond .eq 31, 3) := by decide +kernel
theorem d_M_tried_13 : decode b_M_tried 13 = .ok (.iload_n 2, 1) := by decide +kernel
theorem d_M_tried_14 : decode b_M_tried 14 = .ok (.ifCond .lt 27, 3) := by decide +kernel
theorem d_M_tried_17 : decode b_M_tried 17 = .ok (.iload_n 2, 1) := by decide +kernel
theorem d_M_tried_18 : decode b_M_tried 18 = .ok (.aload_n 0, 1) := by decide +kernel
theorem d_M_tried_19 : decode b_M_tried 19 = .ok (.getfield 38, 3) := by decide +kernel
theorem d_M_tried_22 : decode b_M_tried 22 = .ok (.iload_n 1, 1) := by decide +kernel
theorem d_M_tried_23 : decode b_M_tried 23 = .ok (.iaload, 1) := by decide +kernel
theorem d_M_tried_24 : decode b_M_tried 24 = .ok (.if_icmp .ge 17, 3) := by decide +kernel
theorem d_M_tried_27 : decode b_M_tried 27 = .ok (.aload_n 0, 1) := by decide +kernel
theorem d_M_tried_28 : decode b_M_tried 28 = .ok (.getfield 41, 3) := by decide +kernel
theorem d_M_tried_31 : decode b_M_tried 31 = .ok (.bipush 60, 2) := by decide +kernel
theorem d_M_tried_33 : decode b_M_tried 33 = .ok (.iload_n 1, 1) := by decide +kernel
theorem d_M_tried_34 : decode b_M_tried 34 = .ok (.imul, 1) := by decide +kernel
theorem d_M_tried_35 : decode b_M_tried 35 = .ok (.iload_n 2, 1) := by decide +kernel
theorem d_M_tried_36 : decode b_M_tried 36 = .ok (.iadd, 1) := by decide +kernel
theorem d_M_tried_37 : decode b_M_tried 37 = .ok (.iaload, 1) := by decide +kernel
theorem d_M_tried_38 : decode b_M_tried 38 = .ok (.goto 4, 3) := by decide +kernel
theorem d_M_tried_41 : decode b_M_tried 41 = .ok (.iconst (-1), 1) := by decide +kernel
theorem d_M_tried_42 : decode b_M_tried 42 = .ok (.ireturn, 1) := by decide +kernel
theorem d_M_about_0 : decode b_M_about 0 = .ok (.aload_n 0, 1) := by decide +kernel
theorem d_M_about_1 : decode b_M_about 1 = .ok (.iconst 0, 1) := by decide +kernel
theorem d_M_about_2 : decode b_M_about 2 = .ok (.putfield 66, 3) := by decide +kernel
theorem d_M_about_5 : decode b_M_about 5 = .ok (.aload_n 0, 1) := by decide +kernel
theorem d_M_about_6 : decode b_M_about 6 = .ok (.iload_n 1, 1) := by decide +kernel
theorem d_M_about_7 : decode b_M_about 7 = .ok (.invokevirtual 88, 3) := by decide +kernel
theorem d_M_about_10 : decode b_M_about 10 = .ok (.ifCond .ne 5, 3) := by decide +kernel
theorem d_M_about_13 : decode b_M_about 13 = .ok (.iconst (-1), 1) := by decide +kernel
theorem d_M_about_14 : decode b_M_about 14 = .ok (.ireturn, 1) := by decide +kernel
theorem d_M_about_15 : decode b_M_about 15 = .ok (.iload_n 2, 1) := by decide +kernel
theorem d_M_about_16 : decode b_M_about 16 = .ok (.ifCond .ne 18, 3) := by decide +kernel
theorem d_M_about_19 : decode b_M_about 19 = .ok (.aload_n 0, 1) := by decide +kernel
theorem d_M_about_20 : decode b_M_about 20 = .ok (.getfield 51, 3) := by decide +kernel
theorem d_M_about_23 : decode b_M_about 23 = .ok (.iload_n 1, 1) := by decide +kernel
theorem d_M_about_24 : decode b_M_about 24 = .ok (.baload, 1) := by decide +kernel
theorem d_M_about_25 : decode b_M_about 25 = .ok (.ifCond .eq 7, 3) := by decide +kernel
theorem d_M_about_28 : decode b_M_about 28 = .ok (.iconst 1, 1) := by decide +kernel
theorem d_M_about_29 : decode b_M_about 29 = .ok (.goto 4, 3) := by decide +kernel
theorem d_M_about_32 : decode b_M_about 32 = .ok (.iconst 0, 1) := by decide +kernel
theorem d_M_about_33 : decode b_M_about 33 = .ok (.ireturn, 1) := by decide +kernel
theorem d_M_about_34 : decode b_M_about 34 = .ok (.aload_n 0, 1) := by decide +kernel
theorem d_M_about_35 : decode b_M_about 35 = .ok (.getfield 57, 3) := by decide +kernel
theorem d_M_about_38 : decode b_M_about 38 = .ok (.iload_n 1, 1) := by decide +kernel
theorem d_M_about_39 : decode b_M_about 39 = .ok (.baload, 1) := by decide +kernel
theorem d_M_about_40 : decode b_M_about 40 = .ok (.ifCond .ne 5, 3) := by decide +kernel
theorem d_M_about_43 : decode b_M_about 43 = .ok (.iconst (-1), 1) := by decide +kernel
theorem d_M_about_44 : decode b_M_about 44 = .ok (.ireturn, 1) := by decide +kernel
theorem d_M_about_45 : decode b_M_about 45 = .ok (.iload_n 2, 1) := by decide +kernel
theorem d_M_about_46 : decode b_M_about 46 = .ok (.iconst 1, 1) := by decide +kernel
theorem d_M_about_47 : decode b_M_about 47 = .ok (.if_icmp .ne 12, 3) := by decide +kernel
theorem d_M_about_50 : decode b_M_about 50 = .ok (.aload_n 0, 1) := by decide +kernel
theorem d_M_about_51 : decode b_M_about 51 = .ok (.getfield 32, 3) := by decide +kernel
theorem d_M_about_54 : decode b_M_about 54 = .ok (.iload_n 1, 1) := by decide +kernel
theorem d_M_about_55 : decode b_M_about 55 = .ok (.iaload, 1) := by decide +kernel
theorem d_M_about_56 : decode b_M_about 56 = .ok (.goto 40, 3) := by decide +kernel
theorem d_M_about_59 : decode b_M_about 59 = .ok (.iload_n 2, 1) := by decide +kernel
theorem d_M_about_60 : decode b_M_about 60 = .ok (.iconst 2, 1) := by decide +kernel
theorem d_M_about_61 : decode b_M_about 61 = .ok (.if_icmp .ne 12, 3) := by decide +kernel
theorem d_M_about_64 : decode b_M_about 64 = .ok (.aload_n 0, 1) := by decide +kernel
theorem d_M_about_65 : decode b_M_about 65 = .ok (.getfield 35, 3) := by decide +kernel
theorem d_M_about_68 : decode b_M_about 68 = .ok (.iload_n 1, 1) := by decide +kernel
theorem d_M_about_69 : decode b_M_about 69 = .ok (.iaload, 1) := by decide +kernel
theorem d_M_about_70 : decode b_M_about 70 = .ok (.goto 26, 3) := by decide +kernel
theorem d_M_about_73 : decode b_M_about 73 = .ok (.iload_n 2, 1) := by decide +kernel
theorem d_M_about_74 : decode b_M_about 74 = .ok (.iconst 3, 1) := by decide +kernel
theorem d_M_about_75 : decode b_M_about 75 = .ok (.if_icmp .ne 20, 3) := by decide +kernel
theorem d_M_about_78 : decode b_M_about 78 = .ok (.aload_n 0, 1) := by decide +kernel
theorem d_M_about_79 : decode b_M_about 79 = .ok (.getfield 54, 3) := by decide +kernel
theorem d_M_about_82 : decode b_M_about 82 = .ok (.iload_n 1, 1) := by decide +kernel
theorem d_M_about_83 : decode b_M_about 83 = .ok (.baload, 1) := by decide +kernel
theorem d_M_about_84 : decode b_M_about 84 = .ok (.ifCond .eq 7, 3) := by decide +kernel
theorem d_M_about_87 : decode b_M_about 87 = .ok (.iconst 1, 1) := by decide +kernel
theorem d_M_about_88 : decode b_M_about 88 = .ok (.goto 8, 3) := by decide +kernel
theorem d_M_about_91 : decode b_M_about 91 = .ok (.iconst 0, 1) := by decide +kernel
theorem d_M_about_92 : decode b_M_about 92 = .ok (.goto 4, 3) := by decide +kernel
theorem d_M_about_95 : decode b_M_about 95 = .ok (.iconst (-1), 1) := by decide +kernel
theorem d_M_about_96 : decode b_M_about 96 = .ok (.ireturn, 1) := by decide +kernel
theorem d_A_init_0 : decode b_A_init 0 = .ok (.aload_n 0, 1) := by decide +kernel
theorem d_A_init_1 : decode b_A_init 1 = .ok (.invokespecial 3, 3) := by decide +kernel
theorem d_A_init_4 : decode b_A_init 4 = .ok (.aload_n 0, 1) := by decide +kernel
theorem d_A_init_5 : decode b_A_init 5 = .ok (.bipush 12, 2) := by decide +kernel
theorem d_A_init_7 : decode b_A_init 7 = .ok (.newarray .int, 2) := by decide +kernel
theorem d_A_init_9 : decode b_A_init 9 = .ok (.putfield 9, 3) := by decide +kernel
theorem d_A_init_12 : decode b_A_init 12 = .ok (.aload_n 0, 1) := by decide +kernel
theorem d_A_init_13 : decode b_A_init 13 = .ok (.bipush 12, 2) := by decide +kernel
theorem d_A_init_15 : decode b_A_init 15 = .ok (.newarray .boolean, 2) := by decide +kernel
theorem d_A_init_17 : decode b_A_init 17 = .ok (.putfield 15, 3) := by decide +kernel
theorem d_A_init_20 : decode b_A_init 20 = .ok (.aload_n 0, 1) := by decide +kernel
theorem d_A_init_21 : decode b_A_init 21 = .ok (.new 19, 3) := by decide +kernel
theorem d_A_init_24 : decode b_A_init 24 = .ok (.dup, 1) := by decide +kernel
theorem d_A_init_25 : decode b_A_init 25 = .ok (.invokespecial 21, 3) := by decide +kernel
theorem d_A_init_28 : decode b_A_init 28 = .ok (.putfield 22, 3) := by decide +kernel
theorem d_A_init_31 : decode b_A_init 31 = .ok (.aload_n 0, 1) := by decide +kernel
theorem d_A_init_32 : decode b_A_init 32 = .ok (.bipush 60, 2) := by decide +kernel
theorem d_A_init_34 : decode b_A_init 34 = .ok (.newarray .int, 2) := by decide +kernel
theorem d_A_init_36 : decode b_A_init 36 = .ok (.putfield 26, 3) := by decide +kernel
theorem d_A_init_39 : decode b_A_init 39 = .ok (.return_, 1) := by decide +kernel
theorem d_A_addDeclared_0 : decode b_A_addDeclared 0 = .ok (.aload_n 0, 1) := by decide +kernel
theorem d_A_addDeclared_1 : decode b_A_addDeclared 1 = .ok (.getfield 29, 3) := by decide +kernel
theorem d_A_addDeclared_4 : decode b_A_addDeclared 4 = .ok (.bipush 12, 2) := by decide +kernel
theorem d_A_addDeclared_6 : decode b_A_addDeclared 6 = .ok (.if_icmp .ge 33, 3) := by decide +kernel
theorem d_A_addDeclared_9 : decode b_A_addDeclared 9 = .ok (.aload_n 0, 1) := by decide +kernel
theorem d_A_addDeclared_10 : decode b_A_addDeclared 10 = .ok (.getfield 9, 3) := by decide +kernel
theorem d_A_addDeclared_13 : decode b_A_addDeclared 13 = .ok (.aload_n 0, 1) := by decide +kernel
theorem d_A_addDeclared_14 : decode b_A_addDeclared 14 = .ok (.getfield 29, 3) := by decide +kernel
theorem d_A_addDeclared_17 : decode b_A_addDeclared 17 = .ok (.iload_n 1, 1) := by decide +kernel
theorem d_A_addDeclared_18 : decode b_A_addDeclared 18 = .ok (.iastore, 1) := by decide +kernel
theorem d_A_addDeclared_19 : decode b_A_addDeclared 19 = .ok (.aload_n 0, 1) := by decide +kernel
theorem d_A_addDeclared_20 : decode b_A_addDeclared 20 = .ok (.getfield 15, 3) := by decide +kernel
theorem d_A_addDeclared_23 : decode b_A_addDeclared 23 = .ok (.aload_n 0, 1) := by decide +kernel
theorem d_A_addDeclared_24 : decode b_A_addDeclared 24 = .ok (.getfield 29, 3) := by decide +kernel
theorem d_A_addDeclared_27 : decode b_A_addDeclared 27 = .ok (.iload_n 2, 1) := by decide +kernel
theorem d_A_addDeclared_28 : decode b_A_addDeclared 28 = .ok (.bastore, 1) := by decide +kernel
theorem d_A_addDeclared_29 : decode b_A_addDeclared 29 = .ok (.aload_n 0, 1) := by decide +kernel
theorem d_A_addDeclared_30 : decode b_A_addDeclared 30 = .ok (.dup, 1) := by decide +kernel
theorem d_A_addDeclared_31 : decode b_A_addDeclared 31 = .ok (.getfield 29, 3) := by decide +kernel
theorem d_A_addDeclared_34 : decode b_A_addDeclared 34 = .ok (.iconst 1, 1) := by decide +kernel
theorem d_A_addDeclared_35 : decode b_A_addDeclared 35 = .ok (.iadd, 1) := by decide +kernel
theorem d_A_addDeclared_36 : decode b_A_addDeclared 36 = .ok (.putfield 29, 3) := by decide +kernel
theorem d_A_addDeclared_39 : decode b_A_addDeclared 39 = .ok (.return_, 1) := by decide +kernel
theorem d_A_startWorld_0 : decode b_A_startWorld 0 = .ok (.aload_n 0, 1) := by decide +kernel
theorem d_A_startWorld_1 : decode b_A_startWorld 1 = .ok (.iconst 1, 1) := by decide +kernel
theorem d_A_startWorld_2 : decode b_A_startWorld 2 = .ok (.putfield 33, 3) := by decide +kernel
theorem d_A_startWorld_5 : decode b_A_startWorld 5 = .ok (.aload_n 0, 1) := by decide +kernel
theorem d_A_startWorld_6 : decode b_A_startWorld 6 = .ok (.iconst 1, 1) := by decide +kernel
theorem d_A_startWorld_7 : decode b_A_startWorld 7 = .ok (.putfield 37, 3) := by decide +kernel
theorem d_A_startWorld_10 : decode b_A_startWorld 10 = .ok (.aload_n 0, 1) := by decide +kernel
theorem d_A_startWorld_11 : decode b_A_startWorld 11 = .ok (.iconst 0, 1) := by decide +kernel
theorem d_A_startWorld_12 : decode b_A_startWorld 12 = .ok (.putfield 40, 3) := by decide +kernel
theorem d_A_startWorld_15 : decode b_A_startWorld 15 = .ok (.aload_n 0, 1) := by decide +kernel
theorem d_A_startWorld_16 : decode b_A_startWorld 16 = .ok (.iconst 0, 1) := by decide +kernel
theorem d_A_startWorld_17 : decode b_A_startWorld 17 = .ok (.putfield 43, 3) := by decide +kernel
theorem d_A_startWorld_20 : decode b_A_startWorld 20 = .ok (.aload_n 0, 1) := by decide +kernel
theorem d_A_startWorld_21 : decode b_A_startWorld 21 = .ok (.iconst 0, 1) := by decide +kernel
theorem d_A_startWorld_22 : decode b_A_startWorld 22 = .ok (.putfield 46, 3) := by decide +kernel
theorem d_A_startWorld_25 : decode b_A_startWorld 25 = .ok (.aload_n 0, 1) := by decide +kernel
theorem d_A_startWorld_26 : decode b_A_startWorld 26 = .ok (.iconst 0, 1) := by decide +kernel
theorem d_A_startWorld_27 : decode b_A_startWorld 27 = .ok (.putfield 49, 3) := by decide +kernel
theorem d_A_startWorld_30 : decode b_A_startWorld 30 = .ok (.aload_n 0, 1) := by decide +kernel
theorem d_A_startWorld_31 : decode b_A_startWorld 31 = .ok (.lconst 0, 1) := by decide +kernel
theorem d_A_startWorld_32 : decode b_A_startWorld 32 = .ok (.putfield 52, 3) := by decide +kernel
theorem d_A_startWorld_35 : decode b_A_startWorld 35 = .ok (.return_, 1) := by decide +kernel
theorem d_A_startOperation_0 : decode b_A_startOperation 0 = .ok (.aload_n 0, 1) := by decide +kernel
theorem d_A_startOperation_1 : decode b_A_startOperation 1 = .ok (.getfield 43, 3) := by decide +kernel
theorem d_A_startOperation_4 : decode b_A_startOperation 4 = .ok (.iload_n 1, 1) := by decide +kernel
theorem d_A_startOperation_5 : decode b_A_startOperation 5 = .ok (.if_icmp .lt 10, 3) := by decide +kernel
theorem d_A_startOperation_8 : decode b_A_startOperation 8 = .ok (.aload_n 0, 1) := by decide +kernel
theorem d_A_startOperation_9 : decode b_A_startOperation 9 = .ok (.iconst 1, 1) := by decide +kernel
theorem d_A_startOperation_10 : decode b_A_startOperation 10 = .ok (.putfield 40, 3) := by decide +kernel
theorem d_A_startOperation_13 : decode b_A_startOperation 13 = .ok (.iconst 0, 1) := by decide +kernel
theorem d_A_startOperation_14 : decode b_A_startOperation 14 = .ok (.ireturn, 1) := by decide +kernel
theorem d_A_startOperation_15 : decode b_A_startOperation 15 = .ok (.aload_n 0, 1) := by decide +kernel
theorem d_A_startOperation_16 : decode b_A_startOperation 16 = .ok (.dup, 1) := by decide +kernel
theorem d_A_startOperation_17 : decode b_A_startOperation 17 = .ok (.getfield 43, 3) := by decide +kernel
theorem d_A_startOperation_20 : decode b_A_startOperation 20 = .ok (.iconst 1, 1) := by decide +kernel
theorem d_A_startOperation_21 : decode b_A_startOperation 21 = .ok (.iadd, 1) := by decide +kernel
theorem d_A_startOperation_22 : decode b_A_startOperation 22 = .ok (.putfield 43, 3) := by decide +kernel
theorem d_A_startOperation_25 : decode b_A_startOperation 25 = .ok (.iconst 1, 1) := by decide +kernel
theorem d_A_startOperation_26 : decode b_A_startOperation 26 = .ok (.ireturn, 1) := by decide +kernel
theorem d_A_noteTried_0 : decode b_A_noteTried 0 = .ok (.aload_n 0, 1) := by decide +kernel
theorem d_A_noteTried_1 : decode b_A_noteTried 1 = .ok (.getfield 49, 3) := by decide +kernel
theorem d_A_noteTried_4 : decode b_A_noteTried 4 = .ok (.bipush 60, 2) := by decide +kernel
theorem d_A_noteTried_6 : decode b_A_noteTried 6 = .ok (.if_icmp .ge 47, 3) := by decide +kernel
theorem d_A_noteTried_9 : decode b_A_noteTried 9 = .ok (.aload_n 0, 1) := by decide +kernel
theorem d_A_noteTried_10 : decode b_A_noteTried 10 = .ok (.getfield 52, 3) := by decide +kernel
theorem d_A_noteTried_13 : decode b_A_noteTried 13 = .ok (.iload_n 1, 1) := by decide +kernel
theorem d_A_noteTried_14 : decode b_A_noteTried 14 = .ok (.invokestatic 56, 3) := by decide +kernel
theorem d_A_noteTried_17 : decode b_A_noteTried 17 = .ok (.ifCond .ne 36, 3) := by decide +kernel
theorem d_A_noteTried_20 : decode b_A_noteTried 20 = .ok (.aload_n 0, 1) := by decide +kernel
theorem d_A_noteTried_21 : decode b_A_noteTried 21 = .ok (.dup, 1) := by decide +kernel
theorem d_A_noteTried_22 : decode b_A_noteTried 22 = .ok (.getfield 52, 3) := by decide +kernel
theorem d_A_noteTried_25 : decode b_A_noteTried 25 = .ok (.iload_n 1, 1) := by decide +kernel
theorem d_A_noteTried_26 : decode b_A_noteTried 26 = .ok (.invokestatic 60, 3) := by decide +kernel
theorem d_A_noteTried_29 : decode b_A_noteTried 29 = .ok (.lor, 1) := by decide +kernel
theorem d_A_noteTried_30 : decode b_A_noteTried 30 = .ok (.putfield 52, 3) := by decide +kernel
theorem d_A_noteTried_33 : decode b_A_noteTried 33 = .ok (.aload_n 0, 1) := by decide +kernel
theorem d_A_noteTried_34 : decode b_A_noteTried 34 = .ok (.getfield 26, 3) := by decide +kernel
theorem d_A_noteTried_37 : decode b_A_noteTried 37 = .ok (.aload_n 0, 1) := by decide +kernel
theorem d_A_noteTried_38 : decode b_A_noteTried 38 = .ok (.getfield 49, 3) := by decide +kernel
theorem d_A_noteTried_41 : decode b_A_noteTried 41 = .ok (.iload_n 1, 1) := by decide +kernel
theorem d_A_noteTried_42 : decode b_A_noteTried 42 = .ok (.iastore, 1) := by decide +kernel
theorem d_A_noteTried_43 : decode b_A_noteTried 43 = .ok (.aload_n 0, 1) := by decide +kernel
theorem d_A_noteTried_44 : decode b_A_noteTried 44 = .ok (.dup, 1) := by decide +kernel
theorem d_A_noteTried_45 : decode b_A_noteTried 45 = .ok (.getfield 49, 3) := by decide +kernel
theorem d_A_noteTried_48 : decode b_A_noteTried 48 = .ok (.iconst 1, 1) := by decide +kernel
theorem d_A_noteTried_49 : decode b_A_noteTried 49 = .ok (.iadd, 1) := by decide +kernel
theorem d_A_noteTried_50 : decode b_A_noteTried 50 = .ok (.putfield 49, 3) := by decide +kernel
theorem d_A_noteTried_53 : decode b_A_noteTried 53 = .ok (.return_, 1) := by decide +kernel
