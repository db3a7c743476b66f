/-! ===== the law's own instructions ===== -/
theorem dL_cell_0 : decode cL_cell 0 = .ok (.iload_n 1, 1) := by decide +kernel
theorem dL_cell_1 : decode cL_cell 1 = .ok (.aload_n 0, 1) := by decide +kernel
theorem dL_cell_2 : decode cL_cell 2 = .ok (.arraylength, 1) := by decide +kernel
theorem dL_cell_3 : decode cL_cell 3 = .ok (.if_icmp .ge 9, 3) := by decide +kernel
theorem dL_cell_6 : decode cL_cell 6 = .ok (.aload_n 0, 1) := by decide +kernel
theorem dL_cell_7 : decode cL_cell 7 = .ok (.iload_n 1, 1) := by decide +kernel
theorem dL_cell_8 : decode cL_cell 8 = .ok (.iaload, 1) := by decide +kernel
theorem dL_cell_9 : decode cL_cell 9 = .ok (.goto 18, 3) := by decide +kernel
theorem dL_cell_12 : decode cL_cell 12 = .ok (.sipush 7919, 3) := by decide +kernel
theorem dL_cell_15 : decode cL_cell 15 = .ok (.iload_n 1, 1) := by decide +kernel
theorem dL_cell_16 : decode cL_cell 16 = .ok (.sipush 433, 3) := by decide +kernel
theorem dL_cell_19 : decode cL_cell 19 = .ok (.iadd, 1) := by decide +kernel
theorem dL_cell_20 : decode cL_cell 20 = .ok (.imul, 1) := by decide +kernel
theorem dL_cell_21 : decode cL_cell 21 = .ok (.iload_n 1, 1) := by decide +kernel
theorem dL_cell_22 : decode cL_cell 22 = .ok (.sipush 2719, 3) := by decide +kernel
theorem dL_cell_25 : decode cL_cell 25 = .ok (.iadd, 1) := by decide +kernel
theorem dL_cell_26 : decode cL_cell 26 = .ok (.imul, 1) := by decide +kernel
theorem dL_cell_27 : decode cL_cell 27 = .ok (.ireturn, 1) := by decide +kernel
theorem dL_low_0 : decode cL_low 0 = .ok (.iload_n 0, 1) := by decide +kernel
theorem dL_low_1 : decode cL_low 1 = .ok (.ldc 7, 2) := by decide +kernel
theorem dL_low_3 : decode cL_low 3 = .ok (.iand, 1) := by decide +kernel
theorem dL_low_4 : decode cL_low 4 = .ok (.iload_n 1, 1) := by decide +kernel
theorem dL_low_5 : decode cL_low 5 = .ok (.irem, 1) := by decide +kernel
theorem dL_low_6 : decode cL_low 6 = .ok (.ireturn, 1) := by decide +kernel
theorem dL_does_0 : decode cL_does 0 = .ok (.iload_n 1, 1) := by decide +kernel
theorem dL_does_1 : decode cL_does 1 = .ok (.ifCond .ne 12, 3) := by decide +kernel
theorem dL_does_4 : decode cL_does 4 = .ok (.aload_n 0, 1) := by decide +kernel
theorem dL_does_5 : decode cL_does 5 = .ok (.iload_n 2, 1) := by decide +kernel
theorem dL_does_6 : decode cL_does 6 = .ok (.iload_n 3, 1) := by decide +kernel
theorem dL_does_7 : decode cL_does 7 = .ok (.invokevirtual 8, 3) := by decide +kernel
theorem dL_does_10 : decode cL_does 10 = .ok (.goto 93, 3) := by decide +kernel
theorem dL_does_13 : decode cL_does 13 = .ok (.iload_n 1, 1) := by decide +kernel
theorem dL_does_14 : decode cL_does 14 = .ok (.iconst 1, 1) := by decide +kernel
theorem dL_does_15 : decode cL_does 15 = .ok (.if_icmp .ne 14, 3) := by decide +kernel
theorem dL_does_18 : decode cL_does 18 = .ok (.aload_n 0, 1) := by decide +kernel
theorem dL_does_19 : decode cL_does 19 = .ok (.iload_n 2, 1) := by decide +kernel
theorem dL_does_20 : decode cL_does 20 = .ok (.iload_n 3, 1) := by decide +kernel
theorem dL_does_21 : decode cL_does 21 = .ok (.iload 4, 2) := by decide +kernel
theorem dL_does_23 : decode cL_does 23 = .ok (.invokevirtual 14, 3) := by decide +kernel
theorem dL_does_26 : decode cL_does 26 = .ok (.goto 77, 3) := by decide +kernel
theorem dL_does_29 : decode cL_does 29 = .ok (.iload_n 1, 1) := by decide +kernel
theorem dL_does_30 : decode cL_does 30 = .ok (.iconst 2, 1) := by decide +kernel
theorem dL_does_31 : decode cL_does 31 = .ok (.if_icmp .ne 12, 3) := by decide +kernel
theorem dL_does_34 : decode cL_does 34 = .ok (.aload_n 0, 1) := by decide +kernel
theorem dL_does_35 : decode cL_does 35 = .ok (.iload_n 2, 1) := by decide +kernel
theorem dL_does_36 : decode cL_does 36 = .ok (.iload_n 3, 1) := by decide +kernel
theorem dL_does_37 : decode cL_does 37 = .ok (.invokestatic 18, 3) := by decide +kernel
theorem dL_does_40 : decode cL_does 40 = .ok (.goto 63, 3) := by decide +kernel
theorem dL_does_43 : decode cL_does 43 = .ok (.iload_n 1, 1) := by decide +kernel
theorem dL_does_44 : decode cL_does 44 = .ok (.iconst 3, 1) := by decide +kernel
theorem dL_does_45 : decode cL_does 45 = .ok (.if_icmp .ne 11, 3) := by decide +kernel
theorem dL_does_48 : decode cL_does 48 = .ok (.aload_n 0, 1) := by decide +kernel
theorem dL_does_49 : decode cL_does 49 = .ok (.iload_n 2, 1) := by decide +kernel
theorem dL_does_50 : decode cL_does 50 = .ok (.invokevirtual 24, 3) := by decide +kernel
theorem dL_does_53 : decode cL_does 53 = .ok (.goto 50, 3) := by decide +kernel
theorem dL_does_56 : decode cL_does 56 = .ok (.iload_n 1, 1) := by decide +kernel
theorem dL_does_57 : decode cL_does 57 = .ok (.iconst 4, 1) := by decide +kernel
theorem dL_does_58 : decode cL_does 58 = .ok (.if_icmp .ne 11, 3) := by decide +kernel
theorem dL_does_61 : decode cL_does 61 = .ok (.aload_n 0, 1) := by decide +kernel
theorem dL_does_62 : decode cL_does 62 = .ok (.iload_n 2, 1) := by decide +kernel
theorem dL_does_63 : decode cL_does 63 = .ok (.invokevirtual 28, 3) := by decide +kernel
theorem dL_does_66 : decode cL_does 66 = .ok (.goto 37, 3) := by decide +kernel
theorem dL_does_69 : decode cL_does 69 = .ok (.iload_n 1, 1) := by decide +kernel
theorem dL_does_70 : decode cL_does 70 = .ok (.iconst 5, 1) := by decide +kernel
theorem dL_does_71 : decode cL_does 71 = .ok (.if_icmp .ne 12, 3) := by decide +kernel
theorem dL_does_74 : decode cL_does 74 = .ok (.aload_n 0, 1) := by decide +kernel
theorem dL_does_75 : decode cL_does 75 = .ok (.iload_n 2, 1) := by decide +kernel
theorem dL_does_76 : decode cL_does 76 = .ok (.iload_n 3, 1) := by decide +kernel
theorem dL_does_77 : decode cL_does 77 = .ok (.invokevirtual 31, 3) := by decide +kernel
theorem dL_does_80 : decode cL_does 80 = .ok (.goto 23, 3) := by decide +kernel
theorem dL_does_83 : decode cL_does 83 = .ok (.iload_n 1, 1) := by decide +kernel
theorem dL_does_84 : decode cL_does 84 = .ok (.bipush 6, 2) := by decide +kernel
theorem dL_does_86 : decode cL_does 86 = .ok (.if_icmp .ne 12, 3) := by decide +kernel
theorem dL_does_89 : decode cL_does 89 = .ok (.aload_n 0, 1) := by decide +kernel
theorem dL_does_90 : decode cL_does 90 = .ok (.iload_n 2, 1) := by decide +kernel
theorem dL_does_91 : decode cL_does 91 = .ok (.iload_n 3, 1) := by decide +kernel
theorem dL_does_92 : decode cL_does 92 = .ok (.invokevirtual 34, 3) := by decide +kernel
theorem dL_does_95 : decode cL_does 95 = .ok (.goto 8, 3) := by decide +kernel
theorem dL_does_98 : decode cL_does 98 = .ok (.aload_n 0, 1) := by decide +kernel
theorem dL_does_99 : decode cL_does 99 = .ok (.iload_n 2, 1) := by decide +kernel
theorem dL_does_100 : decode cL_does 100 = .ok (.invokevirtual 37, 3) := by decide +kernel
theorem dL_does_103 : decode cL_does 103 = .ok (.ireturn, 1) := by decide +kernel
theorem dL_does_104 : decode cL_does 104 = .ok (.astore 5, 2) := by decide +kernel
theorem dL_does_106 : decode cL_does 106 = .ok (.ldc 42, 2) := by decide +kernel
theorem dL_does_108 : decode cL_does 108 = .ok (.ireturn, 1) := by decide +kernel
theorem dL_does_109 : decode cL_does 109 = .ok (.astore 5, 2) := by decide +kernel
theorem dL_does_111 : decode cL_does 111 = .ok (.ldc 42, 2) := by decide +kernel
theorem dL_does_113 : decode cL_does 113 = .ok (.ireturn, 1) := by decide +kernel
theorem dL_does_114 : decode cL_does 114 = .ok (.astore 5, 2) := by decide +kernel
theorem dL_does_116 : decode cL_does 116 = .ok (.ldc 42, 2) := by decide +kernel
theorem dL_does_118 : decode cL_does 118 = .ok (.ireturn, 1) := by decide +kernel
theorem dL_shift_0 : decode cL_shift 0 = .ok (.aload_n 0, 1) := by decide +kernel
theorem dL_shift_1 : decode cL_shift 1 = .ok (.iload_n 1, 1) := by decide +kernel
theorem dL_shift_2 : decode cL_shift 2 = .ok (.iload_n 2, 1) := by decide +kernel
theorem dL_shift_3 : decode cL_shift 3 = .ok (.invokevirtual 47, 3) := by decide +kernel
theorem dL_shift_6 : decode cL_shift 6 = .ok (.iconst 0, 1) := by decide +kernel
theorem dL_shift_7 : decode cL_shift 7 = .ok (.ireturn, 1) := by decide +kernel
theorem dL_sets_0 : decode cL_sets 0 = .ok (.iload_n 1, 1) := by decide +kernel
theorem dL_sets_1 : decode cL_sets 1 = .ok (.ifCond .ne 16, 3) := by decide +kernel
theorem dL_sets_4 : decode cL_sets 4 = .ok (.aload_n 0, 1) := by decide +kernel
theorem dL_sets_5 : decode cL_sets 5 = .ok (.iload_n 2, 1) := by decide +kernel
theorem dL_sets_6 : decode cL_sets 6 = .ok (.iload_n 3, 1) := by decide +kernel
theorem dL_sets_7 : decode cL_sets 7 = .ok (.iload 4, 2) := by decide +kernel
theorem dL_sets_9 : decode cL_sets 9 = .ok (.iload 5, 2) := by decide +kernel
theorem dL_sets_11 : decode cL_sets 11 = .ok (.invokevirtual 50, 3) := by decide +kernel
theorem dL_sets_14 : decode cL_sets 14 = .ok (.goto 11, 3) := by decide +kernel
theorem dL_sets_17 : decode cL_sets 17 = .ok (.aload_n 0, 1) := by decide +kernel
theorem dL_sets_18 : decode cL_sets 18 = .ok (.iload_n 2, 1) := by decide +kernel
theorem dL_sets_19 : decode cL_sets 19 = .ok (.iload_n 3, 1) := by decide +kernel
theorem dL_sets_20 : decode cL_sets 20 = .ok (.iload 4, 2) := by decide +kernel
theorem dL_sets_22 : decode cL_sets 22 = .ok (.invokestatic 54, 3) := by decide +kernel
theorem dL_sets_25 : decode cL_sets 25 = .ok (.ireturn, 1) := by decide +kernel
theorem dL_sets_26 : decode cL_sets 26 = .ok (.astore 6, 2) := by decide +kernel
theorem dL_sets_28 : decode cL_sets 28 = .ok (.ldc 42, 2) := by decide +kernel
theorem dL_sets_30 : decode cL_sets 30 = .ok (.ireturn, 1) := by decide +kernel
theorem dL_sets_31 : decode cL_sets 31 = .ok (.astore 6, 2) := by decide +kernel
theorem dL_sets_33 : decode cL_sets 33 = .ok (.ldc 42, 2) := by decide +kernel
theorem dL_sets_35 : decode cL_sets 35 = .ok (.ireturn, 1) := by decide +kernel
theorem dL_costs_0 : decode cL_costs 0 = .ok (.aload_n 0, 1) := by decide +kernel
theorem dL_costs_1 : decode cL_costs 1 = .ok (.iload_n 1, 1) := by decide +kernel
theorem dL_costs_2 : decode cL_costs 2 = .ok (.iload_n 2, 1) := by decide +kernel
theorem dL_costs_3 : decode cL_costs 3 = .ok (.iload_n 3, 1) := by decide +kernel
theorem dL_costs_4 : decode cL_costs 4 = .ok (.invokevirtual 58, 3) := by decide +kernel
theorem dL_costs_7 : decode cL_costs 7 = .ok (.iconst 0, 1) := by decide +kernel
theorem dL_costs_8 : decode cL_costs 8 = .ok (.ireturn, 1) := by decide +kernel
theorem dL_cost_0 : decode cL_cost 0 = .ok (.aload_n 0, 1) := by decide +kernel
theorem dL_cost_1 : decode cL_cost 1 = .ok (.iload_n 1, 1) := by decide +kernel
theorem dL_cost_2 : decode cL_cost 2 = .ok (.invokevirtual 62, 3) := by decide +kernel
theorem dL_cost_5 : decode cL_cost 5 = .ok (.ireturn, 1) := by decide +kernel
theorem dL_cost_6 : decode cL_cost 6 = .ok (.astore_n 2, 1) := by decide +kernel
theorem dL_cost_7 : decode cL_cost 7 = .ok (.ldc 42, 2) := by decide +kernel
theorem dL_cost_9 : decode cL_cost 9 = .ok (.ireturn, 1) := by decide +kernel
theorem dL_act_0 : decode cL_act 0 = .ok (.iload_n 1, 1) := by decide +kernel
theorem dL_act_1 : decode cL_act 1 = .ok (.bipush 24, 2) := by decide +kernel
theorem dL_act_3 : decode cL_act 3 = .ok (.ishr, 1) := by decide +kernel
theorem dL_act_4 : decode cL_act 4 = .ok (.bipush 8, 2) := by decide +kernel
theorem dL_act_6 : decode cL_act 6 = .ok (.invokestatic 65, 3) := by decide +kernel
theorem dL_act_9 : decode cL_act 9 = .ok (.ifCond .ne 7, 3) := by decide +kernel
theorem dL_act_12 : decode cL_act 12 = .ok (.iconst 1, 1) := by decide +kernel
theorem dL_act_13 : decode cL_act 13 = .ok (.goto 4, 3) := by decide +kernel
theorem dL_act_16 : decode cL_act 16 = .ok (.iconst 0, 1) := by decide +kernel
theorem dL_act_17 : decode cL_act 17 = .ok (.istore_n 2, 1) := by decide +kernel
theorem dL_act_18 : decode cL_act 18 = .ok (.iload_n 1, 1) := by decide +kernel
theorem dL_act_19 : decode cL_act 19 = .ok (.bipush 32, 2) := by decide +kernel
theorem dL_act_21 : decode cL_act 21 = .ok (.invokestatic 65, 3) := by decide +kernel
theorem dL_act_24 : decode cL_act 24 = .ok (.istore_n 3, 1) := by decide +kernel
theorem dL_act_25 : decode cL_act 25 = .ok (.iload_n 1, 1) := by decide +kernel
theorem dL_act_26 : decode cL_act 26 = .ok (.iconst 4, 1) := by decide +kernel
theorem dL_act_27 : decode cL_act 27 = .ok (.ishr, 1) := by decide +kernel
theorem dL_act_28 : decode cL_act 28 = .ok (.iload_n 2, 1) := by decide +kernel
theorem dL_act_29 : decode cL_act 29 = .ok (.ifCond .eq 8, 3) := by decide +kernel
theorem dL_act_32 : decode cL_act 32 = .ok (.bipush 20, 2) := by decide +kernel
theorem dL_act_34 : decode cL_act 34 = .ok (.goto 9, 3) := by decide +kernel
theorem dL_act_37 : decode cL_act 37 = .ok (.aload_n 0, 1) := by decide +kernel
theorem dL_act_38 : decode cL_act 38 = .ok (.invokevirtual 68, 3) := by decide +kernel
theorem dL_act_41 : decode cL_act 41 = .ok (.iconst 1, 1) := by decide +kernel
theorem dL_act_42 : decode cL_act 42 = .ok (.iadd, 1) := by decide +kernel
theorem dL_act_43 : decode cL_act 43 = .ok (.invokestatic 65, 3) := by decide +kernel
theorem dL_act_46 : decode cL_act 46 = .ok (.istore 4, 2) := by decide +kernel
theorem dL_act_48 : decode cL_act 48 = .ok (.iload_n 2, 1) := by decide +kernel
theorem dL_act_49 : decode cL_act 49 = .ok (.ifCond .eq 15, 3) := by decide +kernel
theorem dL_act_52 : decode cL_act 52 = .ok (.iload_n 1, 1) := by decide +kernel
theorem dL_act_53 : decode cL_act 53 = .ok (.bipush 7, 2) := by decide +kernel
theorem dL_act_55 : decode cL_act 55 = .ok (.ishr, 1) := by decide +kernel
theorem dL_act_56 : decode cL_act 56 = .ok (.bipush 66, 2) := by decide +kernel
theorem dL_act_58 : decode cL_act 58 = .ok (.invokestatic 65, 3) := by decide +kernel
theorem dL_act_61 : decode cL_act 61 = .ok (.goto 36, 3) := by decide +kernel
theorem dL_act_64 : decode cL_act 64 = .ok (.iload_n 1, 1) := by decide +kernel
theorem dL_act_65 : decode cL_act 65 = .ok (.bipush 15, 2) := by decide +kernel
theorem dL_act_67 : decode cL_act 67 = .ok (.ishr, 1) := by decide +kernel
theorem dL_act_68 : decode cL_act 68 = .ok (.iconst 3, 1) := by decide +kernel
theorem dL_act_69 : decode cL_act 69 = .ok (.iand, 1) := by decide +kernel
theorem dL_act_70 : decode cL_act 70 = .ok (.ifCond .ne 15, 3) := by decide +kernel
theorem dL_act_73 : decode cL_act 73 = .ok (.iload_n 1, 1) := by decide +kernel
theorem dL_act_74 : decode cL_act 74 = .ok (.bipush 7, 2) := by decide +kernel
theorem dL_act_76 : decode cL_act 76 = .ok (.ishr, 1) := by decide +kernel
theorem dL_act_77 : decode cL_act 77 = .ok (.bipush 61, 2) := by decide +kernel
theorem dL_act_79 : decode cL_act 79 = .ok (.invokestatic 65, 3) := by decide +kernel
theorem dL_act_82 : decode cL_act 82 = .ok (.goto 15, 3) := by decide +kernel
theorem dL_act_85 : decode cL_act 85 = .ok (.bipush 20, 2) := by decide +kernel
theorem dL_act_87 : decode cL_act 87 = .ok (.iload_n 1, 1) := by decide +kernel
theorem dL_act_88 : decode cL_act 88 = .ok (.bipush 7, 2) := by decide +kernel
theorem dL_act_90 : decode cL_act 90 = .ok (.ishr, 1) := by decide +kernel
theorem dL_act_91 : decode cL_act 91 = .ok (.bipush 9, 2) := by decide +kernel
theorem dL_act_93 : decode cL_act 93 = .ok (.invokestatic 65, 3) := by decide +kernel
theorem dL_act_96 : decode cL_act 96 = .ok (.iadd, 1) := by decide +kernel
theorem dL_act_97 : decode cL_act 97 = .ok (.istore 5, 2) := by decide +kernel
theorem dL_act_99 : decode cL_act 99 = .ok (.iload_n 2, 1) := by decide +kernel
theorem dL_act_100 : decode cL_act 100 = .ok (.ifCond .eq 15, 3) := by decide +kernel
theorem dL_act_103 : decode cL_act 103 = .ok (.iload_n 1, 1) := by decide +kernel
theorem dL_act_104 : decode cL_act 104 = .ok (.bipush 10, 2) := by decide +kernel
theorem dL_act_106 : decode cL_act 106 = .ok (.ishr, 1) := by decide +kernel
theorem dL_act_107 : decode cL_act 107 = .ok (.bipush 11, 2) := by decide +kernel
theorem dL_act_109 : decode cL_act 109 = .ok (.invokestatic 65, 3) := by decide +kernel
theorem dL_act_112 : decode cL_act 112 = .ok (.goto 14, 3) := by decide +kernel
theorem dL_act_115 : decode cL_act 115 = .ok (.iconst 1, 1) := by decide +kernel
theorem dL_act_116 : decode cL_act 116 = .ok (.iload_n 1, 1) := by decide +kernel
theorem dL_act_117 : decode cL_act 117 = .ok (.bipush 10, 2) := by decide +kernel
theorem dL_act_119 : decode cL_act 119 = .ok (.ishr, 1) := by decide +kernel
theorem dL_act_120 : decode cL_act 120 = .ok (.bipush 8, 2) := by decide +kernel
theorem dL_act_122 : decode cL_act 122 = .ok (.invokestatic 65, 3) := by decide +kernel
theorem dL_act_125 : decode cL_act 125 = .ok (.iadd, 1) := by decide +kernel
theorem dL_act_126 : decode cL_act 126 = .ok (.istore 6, 2) := by decide +kernel
theorem dL_act_128 : decode cL_act 128 = .ok (.iload_n 3, 1) := by decide +kernel
theorem dL_act_129 : decode cL_act 129 = .ok (.bipush 14, 2) := by decide +kernel
theorem dL_act_131 : decode cL_act 131 = .ok (.if_icmp .ge 33, 3) := by decide +kernel
theorem dL_act_134 : decode cL_act 134 = .ok (.iload_n 3, 1) := by decide +kernel
theorem dL_act_135 : decode cL_act 135 = .ok (.iconst 3, 1) := by decide +kernel
theorem dL_act_136 : decode cL_act 136 = .ok (.if_icmp .ge 16, 3) := by decide +kernel
theorem dL_act_139 : decode cL_act 139 = .ok (.aload_n 0, 1) := by decide +kernel
theorem dL_act_140 : decode cL_act 140 = .ok (.iconst 0, 1) := by decide +kernel
theorem dL_act_141 : decode cL_act 141 = .ok (.iload 5, 2) := by decide +kernel
theorem dL_act_143 : decode cL_act 143 = .ok (.iload 6, 2) := by decide +kernel
theorem dL_act_145 : decode cL_act 145 = .ok (.iconst 0, 1) := by decide +kernel
theorem dL_act_146 : decode cL_act 146 = .ok (.invokestatic 72, 3) := by decide +kernel
theorem dL_act_149 : decode cL_act 149 = .ok (.goto 14, 3) := by decide +kernel
theorem dL_act_152 : decode cL_act 152 = .ok (.aload_n 0, 1) := by decide +kernel
theorem dL_act_153 : decode cL_act 153 = .ok (.iconst 1, 1) := by decide +kernel
theorem dL_act_154 : decode cL_act 154 = .ok (.iload 4, 2) := by decide +kernel
theorem dL_act_156 : decode cL_act 156 = .ok (.iload 5, 2) := by decide +kernel
theorem dL_act_158 : decode cL_act 158 = .ok (.iload 6, 2) := by decide +kernel
theorem dL_act_160 : decode cL_act 160 = .ok (.invokestatic 72, 3) := by decide +kernel
theorem dL_act_163 : decode cL_act 163 = .ok (.ireturn, 1) := by decide +kernel
theorem dL_act_164 : decode cL_act 164 = .ok (.iload_n 3, 1) := by decide +kernel
theorem dL_act_165 : decode cL_act 165 = .ok (.bipush 17, 2) := by decide +kernel
theorem dL_act_167 : decode cL_act 167 = .ok (.if_icmp .ge 82, 3) := by decide +kernel
theorem dL_act_170 : decode cL_act 170 = .ok (.iload_n 3, 1) := by decide +kernel
theorem dL_act_171 : decode cL_act 171 = .ok (.bipush 14, 2) := by decide +kernel
theorem dL_act_173 : decode cL_act 173 = .ok (.if_icmp .ne 46, 3) := by decide +kernel
theorem dL_act_176 : decode cL_act 176 = .ok (.aload_n 0, 1) := by decide +kernel
theorem dL_act_177 : decode cL_act 177 = .ok (.iconst 2, 1) := by decide +kernel
theorem dL_act_178 : decode cL_act 178 = .ok (.iload 4, 2) := by decide +kernel
theorem dL_act_180 : decode cL_act 180 = .ok (.iload_n 2, 1) := by decide +kernel
theorem dL_act_181 : decode cL_act 181 = .ok (.ifCond .eq 19, 3) := by decide +kernel
theorem dL_act_184 : decode cL_act 184 = .ok (.iload_n 1, 1) := by decide +kernel
theorem dL_act_185 : decode cL_act 185 = .ok (.bipush 6, 2) := by decide +kernel
theorem dL_act_187 : decode cL_act 187 = .ok (.ishr, 1) := by decide +kernel
theorem dL_act_188 : decode cL_act 188 = .ok (.sipush 140, 3) := by decide +kernel
theorem dL_act_191 : decode cL_act 191 = .ok (.invokestatic 65, 3) := by decide +kernel
theorem dL_act_194 : decode cL_act 194 = .ok (.bipush 70, 2) := by decide +kernel
theorem dL_act_196 : decode cL_act 196 = .ok (.isub, 1) := by decide +kernel
theorem dL_act_197 : decode cL_act 197 = .ok (.goto 15, 3) := by decide +kernel
theorem dL_act_200 : decode cL_act 200 = .ok (.iload_n 1, 1) := by decide +kernel
theorem dL_act_201 : decode cL_act 201 = .ok (.bipush 6, 2) := by decide +kernel
theorem dL_act_203 : decode cL_act 203 = .ok (.ishr, 1) := by decide +kernel
theorem dL_act_204 : decode cL_act 204 = .ok (.bipush 13, 2) := by decide +kernel
theorem dL_act_206 : decode cL_act 206 = .ok (.invokestatic 65, 3) := by decide +kernel
theorem dL_act_209 : decode cL_act 209 = .ok (.bipush 6, 2) := by decide +kernel
theorem dL_act_211 : decode cL_act 211 = .ok (.isub, 1) := by decide +kernel
theorem dL_act_212 : decode cL_act 212 = .ok (.iconst 0, 1) := by decide +kernel
theorem dL_act_213 : decode cL_act 213 = .ok (.invokestatic 72, 3) := by decide +kernel
theorem dL_act_216 : decode cL_act 216 = .ok (.goto 32, 3) := by decide +kernel
theorem dL_act_219 : decode cL_act 219 = .ok (.aload_n 0, 1) := by decide +kernel
theorem dL_act_220 : decode cL_act 220 = .ok (.iconst 0, 1) := by decide +kernel
theorem dL_act_221 : decode cL_act 221 = .ok (.iload 4, 2) := by decide +kernel
theorem dL_act_223 : decode cL_act 223 = .ok (.iload_n 1, 1) := by decide +kernel
theorem dL_act_224 : decode cL_act 224 = .ok (.bipush 11, 2) := by decide +kernel
theorem dL_act_226 : decode cL_act 226 = .ok (.ishr, 1) := by decide +kernel
theorem dL_act_227 : decode cL_act 227 = .ok (.iload_n 2, 1) := by decide +kernel
theorem dL_act_228 : decode cL_act 228 = .ok (.ifCond .eq 8, 3) := by decide +kernel
theorem dL_act_231 : decode cL_act 231 = .ok (.bipush 30, 2) := by decide +kernel
theorem dL_act_233 : decode cL_act 233 = .ok (.goto 5, 3) := by decide +kernel
theorem dL_act_236 : decode cL_act 236 = .ok (.bipush 9, 2) := by decide +kernel
theorem dL_act_238 : decode cL_act 238 = .ok (.invokestatic 65, 3) := by decide +kernel
theorem dL_act_241 : decode cL_act 241 = .ok (.iload 5, 2) := by decide +kernel
theorem dL_act_243 : decode cL_act 243 = .ok (.iload 6, 2) := by decide +kernel
theorem dL_act_245 : decode cL_act 245 = .ok (.invokestatic 76, 3) := by decide +kernel
theorem dL_act_248 : decode cL_act 248 = .ok (.ireturn, 1) := by decide +kernel
theorem dL_act_249 : decode cL_act 249 = .ok (.iload_n 3, 1) := by decide +kernel
theorem dL_act_250 : decode cL_act 250 = .ok (.bipush 24, 2) := by decide +kernel
theorem dL_act_252 : decode cL_act 252 = .ok (.if_icmp .ge 13, 3) := by decide +kernel
theorem dL_act_255 : decode cL_act 255 = .ok (.aload_n 0, 1) := by decide +kernel
theorem dL_act_256 : decode cL_act 256 = .ok (.iconst 4, 1) := by decide +kernel
theorem dL_act_257 : decode cL_act 257 = .ok (.iload 5, 2) := by decide +kernel
theorem dL_act_259 : decode cL_act 259 = .ok (.iconst 0, 1) := by decide +kernel
theorem dL_act_260 : decode cL_act 260 = .ok (.iconst 0, 1) := by decide +kernel
theorem dL_act_261 : decode cL_act 261 = .ok (.invokestatic 72, 3) := by decide +kernel
theorem dL_act_264 : decode cL_act 264 = .ok (.ireturn, 1) := by decide +kernel
theorem dL_act_265 : decode cL_act 265 = .ok (.iload_n 3, 1) := by decide +kernel
theorem dL_act_266 : decode cL_act 266 = .ok (.bipush 26, 2) := by decide +kernel
theorem dL_act_268 : decode cL_act 268 = .ok (.if_icmp .ge 38, 3) := by decide +kernel
theorem dL_act_271 : decode cL_act 271 = .ok (.iload_n 1, 1) := by decide +kernel
theorem dL_act_272 : decode cL_act 272 = .ok (.bipush 9, 2) := by decide +kernel
theorem dL_act_274 : decode cL_act 274 = .ok (.ishr, 1) := by decide +kernel
theorem dL_act_275 : decode cL_act 275 = .ok (.iconst 3, 1) := by decide +kernel
theorem dL_act_276 : decode cL_act 276 = .ok (.iand, 1) := by decide +kernel
theorem dL_act_277 : decode cL_act 277 = .ok (.ifCond .ne 10, 3) := by decide +kernel
theorem dL_act_280 : decode cL_act 280 = .ok (.aload_n 0, 1) := by decide +kernel
theorem dL_act_281 : decode cL_act 281 = .ok (.invokevirtual 80, 3) := by decide +kernel
theorem dL_act_284 : decode cL_act 284 = .ok (.goto 21, 3) := by decide +kernel
theorem dL_act_287 : decode cL_act 287 = .ok (.aload_n 0, 1) := by decide +kernel
theorem dL_act_288 : decode cL_act 288 = .ok (.iconst 4, 1) := by decide +kernel
theorem dL_act_289 : decode cL_act 289 = .ok (.bipush 20, 2) := by decide +kernel
theorem dL_act_291 : decode cL_act 291 = .ok (.iload_n 1, 1) := by decide +kernel
theorem dL_act_292 : decode cL_act 292 = .ok (.bipush 8, 2) := by decide +kernel
theorem dL_act_294 : decode cL_act 294 = .ok (.ishr, 1) := by decide +kernel
theorem dL_act_295 : decode cL_act 295 = .ok (.iconst 5, 1) := by decide +kernel
theorem dL_act_296 : decode cL_act 296 = .ok (.invokestatic 65, 3) := by decide +kernel
theorem dL_act_299 : decode cL_act 299 = .ok (.iadd, 1) := by decide +kernel
theorem dL_act_300 : decode cL_act 300 = .ok (.iconst 0, 1) := by decide +kernel
theorem dL_act_301 : decode cL_act 301 = .ok (.iconst 0, 1) := by decide +kernel
theorem dL_act_302 : decode cL_act 302 = .ok (.invokestatic 72, 3) := by decide +kernel
theorem dL_act_305 : decode cL_act 305 = .ok (.ireturn, 1) := by decide +kernel
theorem dL_act_306 : decode cL_act 306 = .ok (.iload_n 3, 1) := by decide +kernel
theorem dL_act_307 : decode cL_act 307 = .ok (.bipush 28, 2) := by decide +kernel
theorem dL_act_309 : decode cL_act 309 = .ok (.if_icmp .ge 45, 3) := by decide +kernel
theorem dL_act_312 : decode cL_act 312 = .ok (.aload_n 0, 1) := by decide +kernel
theorem dL_act_313 : decode cL_act 313 = .ok (.iconst 1, 1) := by decide +kernel
theorem dL_act_314 : decode cL_act 314 = .ok (.iload_n 1, 1) := by decide +kernel
theorem dL_act_315 : decode cL_act 315 = .ok (.iconst 3, 1) := by decide +kernel
theorem dL_act_316 : decode cL_act 316 = .ok (.ishr, 1) := by decide +kernel
theorem dL_act_317 : decode cL_act 317 = .ok (.iload_n 2, 1) := by decide +kernel
theorem dL_act_318 : decode cL_act 318 = .ok (.ifCond .eq 8, 3) := by decide +kernel
theorem dL_act_321 : decode cL_act 321 = .ok (.bipush 23, 2) := by decide +kernel
theorem dL_act_323 : decode cL_act 323 = .ok (.goto 5, 3) := by decide +kernel
theorem dL_act_326 : decode cL_act 326 = .ok (.bipush 21, 2) := by decide +kernel
theorem dL_act_328 : decode cL_act 328 = .ok (.invokestatic 65, 3) := by decide +kernel
theorem dL_act_331 : decode cL_act 331 = .ok (.iload_n 1, 1) := by decide +kernel
theorem dL_act_332 : decode cL_act 332 = .ok (.bipush 6, 2) := by decide +kernel
theorem dL_act_334 : decode cL_act 334 = .ok (.ishr, 1) := by decide +kernel
theorem dL_act_335 : decode cL_act 335 = .ok (.bipush 21, 2) := by decide +kernel
theorem dL_act_337 : decode cL_act 337 = .ok (.invokestatic 65, 3) := by decide +kernel
theorem dL_act_340 : decode cL_act 340 = .ok (.iload_n 1, 1) := by decide +kernel
theorem dL_act_341 : decode cL_act 341 = .ok (.bipush 9, 2) := by decide +kernel
theorem dL_act_343 : decode cL_act 343 = .ok (.ishr, 1) := by decide +kernel
theorem dL_act_344 : decode cL_act 344 = .ok (.bipush 21, 2) := by decide +kernel
theorem dL_act_346 : decode cL_act 346 = .ok (.invokestatic 65, 3) := by decide +kernel
theorem dL_act_349 : decode cL_act 349 = .ok (.iconst 0, 1) := by decide +kernel
theorem dL_act_350 : decode cL_act 350 = .ok (.invokestatic 76, 3) := by decide +kernel
theorem dL_act_353 : decode cL_act 353 = .ok (.ireturn, 1) := by decide +kernel
theorem dL_act_354 : decode cL_act 354 = .ok (.iload_n 3, 1) := by decide +kernel
theorem dL_act_355 : decode cL_act 355 = .ok (.bipush 28, 2) := by decide +kernel
theorem dL_act_357 : decode cL_act 357 = .ok (.if_icmp .ne 22, 3) := by decide +kernel
theorem dL_act_360 : decode cL_act 360 = .ok (.iload_n 1, 1) := by decide +kernel
theorem dL_act_361 : decode cL_act 361 = .ok (.bipush 12, 2) := by decide +kernel
theorem dL_act_363 : decode cL_act 363 = .ok (.ishr, 1) := by decide +kernel
theorem dL_act_364 : decode cL_act 364 = .ok (.iconst 3, 1) := by decide +kernel
theorem dL_act_365 : decode cL_act 365 = .ok (.iand, 1) := by decide +kernel
theorem dL_act_366 : decode cL_act 366 = .ok (.ifCond .ne 13, 3) := by decide +kernel
theorem dL_act_369 : decode cL_act 369 = .ok (.aload_n 0, 1) := by decide +kernel
theorem dL_act_370 : decode cL_act 370 = .ok (.iconst 3, 1) := by decide +kernel
theorem dL_act_371 : decode cL_act 371 = .ok (.iload 4, 2) := by decide +kernel
theorem dL_act_373 : decode cL_act 373 = .ok (.iconst 0, 1) := by decide +kernel
theorem dL_act_374 : decode cL_act 374 = .ok (.iconst 0, 1) := by decide +kernel
theorem dL_act_375 : decode cL_act 375 = .ok (.invokestatic 72, 3) := by decide +kernel
theorem dL_act_378 : decode cL_act 378 = .ok (.ireturn, 1) := by decide +kernel
theorem dL_act_379 : decode cL_act 379 = .ok (.aload_n 0, 1) := by decide +kernel
theorem dL_act_380 : decode cL_act 380 = .ok (.iload_n 3, 1) := by decide +kernel
theorem dL_act_381 : decode cL_act 381 = .ok (.bipush 31, 2) := by decide +kernel
theorem dL_act_383 : decode cL_act 383 = .ok (.if_icmp .ge 7, 3) := by decide +kernel
theorem dL_act_386 : decode cL_act 386 = .ok (.iconst 5, 1) := by decide +kernel
theorem dL_act_387 : decode cL_act 387 = .ok (.goto 5, 3) := by decide +kernel
theorem dL_act_390 : decode cL_act 390 = .ok (.bipush 6, 2) := by decide +kernel
theorem dL_act_392 : decode cL_act 392 = .ok (.iload 4, 2) := by decide +kernel
theorem dL_act_394 : decode cL_act 394 = .ok (.iload_n 1, 1) := by decide +kernel
theorem dL_act_395 : decode cL_act 395 = .ok (.bipush 8, 2) := by decide +kernel
theorem dL_act_397 : decode cL_act 397 = .ok (.ishr, 1) := by decide +kernel
theorem dL_act_398 : decode cL_act 398 = .ok (.iload_n 2, 1) := by decide +kernel
theorem dL_act_399 : decode cL_act 399 = .ok (.ifCond .eq 8, 3) := by decide +kernel
theorem dL_act_402 : decode cL_act 402 = .ok (.bipush 20, 2) := by decide +kernel
theorem dL_act_404 : decode cL_act 404 = .ok (.goto 9, 3) := by decide +kernel
theorem dL_act_407 : decode cL_act 407 = .ok (.aload_n 0, 1) := by decide +kernel
theorem dL_act_408 : decode cL_act 408 = .ok (.invokevirtual 68, 3) := by decide +kernel
theorem dL_act_411 : decode cL_act 411 = .ok (.iconst 1, 1) := by decide +kernel
theorem dL_act_412 : decode cL_act 412 = .ok (.iadd, 1) := by decide +kernel
theorem dL_act_413 : decode cL_act 413 = .ok (.invokestatic 65, 3) := by decide +kernel
theorem dL_act_416 : decode cL_act 416 = .ok (.iconst 0, 1) := by decide +kernel
theorem dL_act_417 : decode cL_act 417 = .ok (.invokestatic 72, 3) := by decide +kernel
theorem dL_act_420 : decode cL_act 420 = .ok (.ireturn, 1) := by decide +kernel
theorem dL_areAlike_0 : decode cL_areAlike 0 = .ok (.aload_n 0, 1) := by decide +kernel
theorem dL_areAlike_1 : decode cL_areAlike 1 = .ok (.invokevirtual 68, 3) := by decide +kernel
theorem dL_areAlike_4 : decode cL_areAlike 4 = .ok (.aload_n 1, 1) := by decide +kernel
theorem dL_areAlike_5 : decode cL_areAlike 5 = .ok (.invokevirtual 68, 3) := by decide +kernel
theorem dL_areAlike_8 : decode cL_areAlike 8 = .ok (.if_icmp .ne 51, 3) := by decide +kernel
theorem dL_areAlike_11 : decode cL_areAlike 11 = .ok (.aload_n 0, 1) := by decide +kernel
theorem dL_areAlike_12 : decode cL_areAlike 12 = .ok (.invokevirtual 83, 3) := by decide +kernel
theorem dL_areAlike_15 : decode cL_areAlike 15 = .ok (.aload_n 1, 1) := by decide +kernel
theorem dL_areAlike_16 : decode cL_areAlike 16 = .ok (.invokevirtual 83, 3) := by decide +kernel
theorem dL_areAlike_19 : decode cL_areAlike 19 = .ok (.if_icmp .ne 40, 3) := by decide +kernel
theorem dL_areAlike_22 : decode cL_areAlike 22 = .ok (.aload_n 0, 1) := by decide +kernel
theorem dL_areAlike_23 : decode cL_areAlike 23 = .ok (.invokevirtual 86, 3) := by decide +kernel
theorem dL_areAlike_26 : decode cL_areAlike 26 = .ok (.aload_n 1, 1) := by decide +kernel
theorem dL_areAlike_27 : decode cL_areAlike 27 = .ok (.invokevirtual 86, 3) := by decide +kernel
theorem dL_areAlike_30 : decode cL_areAlike 30 = .ok (.if_icmp .ne 29, 3) := by decide +kernel
theorem dL_areAlike_33 : decode cL_areAlike 33 = .ok (.aload_n 0, 1) := by decide +kernel
theorem dL_areAlike_34 : decode cL_areAlike 34 = .ok (.invokevirtual 89, 3) := by decide +kernel
theorem dL_areAlike_37 : decode cL_areAlike 37 = .ok (.aload_n 1, 1) := by decide +kernel
theorem dL_areAlike_38 : decode cL_areAlike 38 = .ok (.invokevirtual 89, 3) := by decide +kernel
theorem dL_areAlike_41 : decode cL_areAlike 41 = .ok (.if_icmp .ne 18, 3) := by decide +kernel
theorem dL_areAlike_44 : decode cL_areAlike 44 = .ok (.aload_n 0, 1) := by decide +kernel
theorem dL_areAlike_45 : decode cL_areAlike 45 = .ok (.invokevirtual 92, 3) := by decide +kernel
theorem dL_areAlike_48 : decode cL_areAlike 48 = .ok (.aload_n 1, 1) := by decide +kernel
theorem dL_areAlike_49 : decode cL_areAlike 49 = .ok (.invokevirtual 92, 3) := by decide +kernel
theorem dL_areAlike_52 : decode cL_areAlike 52 = .ok (.if_icmp .ne 7, 3) := by decide +kernel
theorem dL_areAlike_55 : decode cL_areAlike 55 = .ok (.iconst 1, 1) := by decide +kernel
theorem dL_areAlike_56 : decode cL_areAlike 56 = .ok (.goto 4, 3) := by decide +kernel
theorem dL_areAlike_59 : decode cL_areAlike 59 = .ok (.iconst 0, 1) := by decide +kernel
theorem dL_areAlike_60 : decode cL_areAlike 60 = .ok (.istore_n 2, 1) := by decide +kernel
theorem dL_areAlike_61 : decode cL_areAlike 61 = .ok (.iconst 0, 1) := by decide +kernel
theorem dL_areAlike_62 : decode cL_areAlike 62 = .ok (.istore_n 3, 1) := by decide +kernel
theorem dL_areAlike_63 : decode cL_areAlike 63 = .ok (.iload_n 3, 1) := by decide +kernel
theorem dL_areAlike_64 : decode cL_areAlike 64 = .ok (.aload_n 0, 1) := by decide +kernel
theorem dL_areAlike_65 : decode cL_areAlike 65 = .ok (.invokevirtual 68, 3) := by decide +kernel
theorem dL_areAlike_68 : decode cL_areAlike 68 = .ok (.if_icmp .ge 82, 3) := by decide +kernel
theorem dL_areAlike_71 : decode cL_areAlike 71 = .ok (.iload_n 2, 1) := by decide +kernel
theorem dL_areAlike_72 : decode cL_areAlike 72 = .ok (.ifCond .eq 78, 3) := by decide +kernel
theorem dL_areAlike_75 : decode cL_areAlike 75 = .ok (.aload_n 0, 1) := by decide +kernel
theorem dL_areAlike_76 : decode cL_areAlike 76 = .ok (.iload_n 3, 1) := by decide +kernel
theorem dL_areAlike_77 : decode cL_areAlike 77 = .ok (.invokevirtual 95, 3) := by decide +kernel
theorem dL_areAlike_80 : decode cL_areAlike 80 = .ok (.aload_n 1, 1) := by decide +kernel
theorem dL_areAlike_81 : decode cL_areAlike 81 = .ok (.iload_n 3, 1) := by decide +kernel
theorem dL_areAlike_82 : decode cL_areAlike 82 = .ok (.invokevirtual 95, 3) := by decide +kernel
theorem dL_areAlike_85 : decode cL_areAlike 85 = .ok (.if_icmp .ne 57, 3) := by decide +kernel
theorem dL_areAlike_88 : decode cL_areAlike 88 = .ok (.aload_n 0, 1) := by decide +kernel
theorem dL_areAlike_89 : decode cL_areAlike 89 = .ok (.iload_n 3, 1) := by decide +kernel
theorem dL_areAlike_90 : decode cL_areAlike 90 = .ok (.invokestatic 98, 3) := by decide +kernel
theorem dL_areAlike_93 : decode cL_areAlike 93 = .ok (.aload_n 1, 1) := by decide +kernel
theorem dL_areAlike_94 : decode cL_areAlike 94 = .ok (.iload_n 3, 1) := by decide +kernel
theorem dL_areAlike_95 : decode cL_areAlike 95 = .ok (.invokestatic 98, 3) := by decide +kernel
theorem dL_areAlike_98 : decode cL_areAlike 98 = .ok (.if_icmp .ne 44, 3) := by decide +kernel
theorem dL_areAlike_101 : decode cL_areAlike 101 = .ok (.aload_n 0, 1) := by decide +kernel
theorem dL_areAlike_102 : decode cL_areAlike 102 = .ok (.iload_n 3, 1) := by decide +kernel
theorem dL_areAlike_103 : decode cL_areAlike 103 = .ok (.invokevirtual 101, 3) := by decide +kernel
theorem dL_areAlike_106 : decode cL_areAlike 106 = .ok (.aload_n 1, 1) := by decide +kernel
theorem dL_areAlike_107 : decode cL_areAlike 107 = .ok (.iload_n 3, 1) := by decide +kernel
theorem dL_areAlike_108 : decode cL_areAlike 108 = .ok (.invokevirtual 101, 3) := by decide +kernel
theorem dL_areAlike_111 : decode cL_areAlike 111 = .ok (.if_icmp .ne 31, 3) := by decide +kernel
theorem dL_areAlike_114 : decode cL_areAlike 114 = .ok (.aload_n 0, 1) := by decide +kernel
theorem dL_areAlike_115 : decode cL_areAlike 115 = .ok (.iload_n 3, 1) := by decide +kernel
theorem dL_areAlike_116 : decode cL_areAlike 116 = .ok (.invokevirtual 95, 3) := by decide +kernel
theorem dL_areAlike_119 : decode cL_areAlike 119 = .ok (.iconst 2, 1) := by decide +kernel
theorem dL_areAlike_120 : decode cL_areAlike 120 = .ok (.if_icmp .lt 18, 3) := by decide +kernel
theorem dL_areAlike_123 : decode cL_areAlike 123 = .ok (.aload_n 0, 1) := by decide +kernel
theorem dL_areAlike_124 : decode cL_areAlike 124 = .ok (.iload_n 3, 1) := by decide +kernel
theorem dL_areAlike_125 : decode cL_areAlike 125 = .ok (.iconst 0, 1) := by decide +kernel
theorem dL_areAlike_126 : decode cL_areAlike 126 = .ok (.invokevirtual 104, 3) := by decide +kernel
theorem dL_areAlike_129 : decode cL_areAlike 129 = .ok (.aload_n 1, 1) := by decide +kernel
theorem dL_areAlike_130 : decode cL_areAlike 130 = .ok (.iload_n 3, 1) := by decide +kernel
theorem dL_areAlike_131 : decode cL_areAlike 131 = .ok (.iconst 0, 1) := by decide +kernel
theorem dL_areAlike_132 : decode cL_areAlike 132 = .ok (.invokevirtual 104, 3) := by decide +kernel
theorem dL_areAlike_135 : decode cL_areAlike 135 = .ok (.if_icmp .ne 7, 3) := by decide +kernel
theorem dL_areAlike_138 : decode cL_areAlike 138 = .ok (.iconst 1, 1) := by decide +kernel
theorem dL_areAlike_139 : decode cL_areAlike 139 = .ok (.goto 4, 3) := by decide +kernel
theorem dL_areAlike_142 : decode cL_areAlike 142 = .ok (.iconst 0, 1) := by decide +kernel
theorem dL_areAlike_143 : decode cL_areAlike 143 = .ok (.istore_n 2, 1) := by decide +kernel
theorem dL_areAlike_144 : decode cL_areAlike 144 = .ok (.iinc 3 1, 3) := by decide +kernel
theorem dL_areAlike_147 : decode cL_areAlike 147 = .ok (.goto (-84), 3) := by decide +kernel
theorem dL_areAlike_150 : decode cL_areAlike 150 = .ok (.iconst 1, 1) := by decide +kernel
theorem dL_areAlike_151 : decode cL_areAlike 151 = .ok (.istore_n 3, 1) := by decide +kernel
theorem dL_areAlike_152 : decode cL_areAlike 152 = .ok (.iload_n 3, 1) := by decide +kernel
theorem dL_areAlike_153 : decode cL_areAlike 153 = .ok (.iconst 5, 1) := by decide +kernel
theorem dL_areAlike_154 : decode cL_areAlike 154 = .ok (.if_icmp .ge 40, 3) := by decide +kernel
theorem dL_areAlike_157 : decode cL_areAlike 157 = .ok (.iload_n 2, 1) := by decide +kernel
theorem dL_areAlike_158 : decode cL_areAlike 158 = .ok (.ifCond .eq 36, 3) := by decide +kernel
theorem dL_areAlike_161 : decode cL_areAlike 161 = .ok (.aload_n 0, 1) := by decide +kernel
theorem dL_areAlike_162 : decode cL_areAlike 162 = .ok (.bipush 7, 2) := by decide +kernel
theorem dL_areAlike_164 : decode cL_areAlike 164 = .ok (.iload_n 3, 1) := by decide +kernel
theorem dL_areAlike_165 : decode cL_areAlike 165 = .ok (.iconst 0, 1) := by decide +kernel
theorem dL_areAlike_166 : decode cL_areAlike 166 = .ok (.iconst 0, 1) := by decide +kernel
theorem dL_areAlike_167 : decode cL_areAlike 167 = .ok (.invokestatic 72, 3) := by decide +kernel
theorem dL_areAlike_170 : decode cL_areAlike 170 = .ok (.aload_n 1, 1) := by decide +kernel
theorem dL_areAlike_171 : decode cL_areAlike 171 = .ok (.bipush 7, 2) := by decide +kernel
theorem dL_areAlike_173 : decode cL_areAlike 173 = .ok (.iload_n 3, 1) := by decide +kernel
theorem dL_areAlike_174 : decode cL_areAlike 174 = .ok (.iconst 0, 1) := by decide +kernel
theorem dL_areAlike_175 : decode cL_areAlike 175 = .ok (.iconst 0, 1) := by decide +kernel
theorem dL_areAlike_176 : decode cL_areAlike 176 = .ok (.invokestatic 72, 3) := by decide +kernel
theorem dL_areAlike_179 : decode cL_areAlike 179 = .ok (.if_icmp .ne 7, 3) := by decide +kernel
theorem dL_areAlike_182 : decode cL_areAlike 182 = .ok (.iconst 1, 1) := by decide +kernel
theorem dL_areAlike_183 : decode cL_areAlike 183 = .ok (.goto 4, 3) := by decide +kernel
theorem dL_areAlike_186 : decode cL_areAlike 186 = .ok (.iconst 0, 1) := by decide +kernel
theorem dL_areAlike_187 : decode cL_areAlike 187 = .ok (.istore_n 2, 1) := by decide +kernel
theorem dL_areAlike_188 : decode cL_areAlike 188 = .ok (.iinc 3 1, 3) := by decide +kernel
theorem dL_areAlike_191 : decode cL_areAlike 191 = .ok (.goto (-39), 3) := by decide +kernel
theorem dL_areAlike_194 : decode cL_areAlike 194 = .ok (.iload_n 2, 1) := by decide +kernel
theorem dL_areAlike_195 : decode cL_areAlike 195 = .ok (.ireturn, 1) := by decide +kernel
theorem dL_areTunesSo_0 : decode cL_areTunesSo 0 = .ok (.iconst 0, 1) := by decide +kernel
theorem dL_areTunesSo_1 : decode cL_areTunesSo 1 = .ok (.istore_n 2, 1) := by decide +kernel
theorem dL_areTunesSo_2 : decode cL_areTunesSo 2 = .ok (.iconst 0, 1) := by decide +kernel
theorem dL_areTunesSo_3 : decode cL_areTunesSo 3 = .ok (.istore_n 3, 1) := by decide +kernel
theorem dL_areTunesSo_4 : decode cL_areTunesSo 4 = .ok (.iconst 0, 1) := by decide +kernel
theorem dL_areTunesSo_5 : decode cL_areTunesSo 5 = .ok (.istore 4, 2) := by decide +kernel
theorem dL_areTunesSo_7 : decode cL_areTunesSo 7 = .ok (.aload_n 0, 1) := by decide +kernel
theorem dL_areTunesSo_8 : decode cL_areTunesSo 8 = .ok (.invokevirtual 83, 3) := by decide +kernel
theorem dL_areTunesSo_11 : decode cL_areTunesSo 11 = .ok (.ifCond .lt 16, 3) := by decide +kernel
theorem dL_areTunesSo_14 : decode cL_areTunesSo 14 = .ok (.aload_n 0, 1) := by decide +kernel
theorem dL_areTunesSo_15 : decode cL_areTunesSo 15 = .ok (.invokevirtual 83, 3) := by decide +kernel
theorem dL_areTunesSo_18 : decode cL_areTunesSo 18 = .ok (.bipush 12, 2) := by decide +kernel
theorem dL_areTunesSo_20 : decode cL_areTunesSo 20 = .ok (.if_icmp .gt 7, 3) := by decide +kernel
theorem dL_areTunesSo_23 : decode cL_areTunesSo 23 = .ok (.iconst 1, 1) := by decide +kernel
theorem dL_areTunesSo_24 : decode cL_areTunesSo 24 = .ok (.goto 4, 3) := by decide +kernel
theorem dL_areTunesSo_27 : decode cL_areTunesSo 27 = .ok (.iconst 0, 1) := by decide +kernel
theorem dL_areTunesSo_28 : decode cL_areTunesSo 28 = .ok (.istore 5, 2) := by decide +kernel
theorem dL_areTunesSo_30 : decode cL_areTunesSo 30 = .ok (.iconst 0, 1) := by decide +kernel
theorem dL_areTunesSo_31 : decode cL_areTunesSo 31 = .ok (.istore 6, 2) := by decide +kernel
theorem dL_areTunesSo_33 : decode cL_areTunesSo 33 = .ok (.iload 6, 2) := by decide +kernel
theorem dL_areTunesSo_35 : decode cL_areTunesSo 35 = .ok (.aload_n 0, 1) := by decide +kernel
theorem dL_areTunesSo_36 : decode cL_areTunesSo 36 = .ok (.invokevirtual 68, 3) := by decide +kernel
theorem dL_areTunesSo_39 : decode cL_areTunesSo 39 = .ok (.if_icmp .ge 257, 3) := by decide +kernel
theorem dL_areTunesSo_42 : decode cL_areTunesSo 42 = .ok (.iload 5, 2) := by decide +kernel
theorem dL_areTunesSo_44 : decode cL_areTunesSo 44 = .ok (.ifCond .eq 252, 3) := by decide +kernel
