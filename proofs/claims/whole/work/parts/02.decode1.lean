theorem dX5_shapeOf_84 : decode cX5_shapeOf 84 = .ok (.iconst 0, 1) := by decide +kernel
theorem dX5_shapeOf_85 : decode cX5_shapeOf 85 = .ok (.goto 4, 3) := by decide +kernel
theorem dX5_shapeOf_88 : decode cX5_shapeOf 88 = .ok (.iconst 1, 1) := by decide +kernel
theorem dX5_shapeOf_89 : decode cX5_shapeOf 89 = .ok (.ireturn, 1) := by decide +kernel
theorem dX5_shapeOf_90 : decode cX5_shapeOf 90 = .ok (.iload 5, 2) := by decide +kernel
theorem dX5_shapeOf_92 : decode cX5_shapeOf 92 = .ok (.iconst (-1), 1) := by decide +kernel
theorem dX5_shapeOf_93 : decode cX5_shapeOf 93 = .ok (.if_icmp .eq 13, 3) := by decide +kernel
theorem dX5_shapeOf_96 : decode cX5_shapeOf 96 = .ok (.iload_n 3, 1) := by decide +kernel
theorem dX5_shapeOf_97 : decode cX5_shapeOf 97 = .ok (.iconst 4, 1) := by decide +kernel
theorem dX5_shapeOf_98 : decode cX5_shapeOf 98 = .ok (.if_icmp .ne 11, 3) := by decide +kernel
theorem dX5_shapeOf_101 : decode cX5_shapeOf 101 = .ok (.iload_n 2, 1) := by decide +kernel
theorem dX5_shapeOf_102 : decode cX5_shapeOf 102 = .ok (.iconst 1, 1) := by decide +kernel
theorem dX5_shapeOf_103 : decode cX5_shapeOf 103 = .ok (.if_icmp .ne 6, 3) := by decide +kernel
theorem dX5_shapeOf_106 : decode cX5_shapeOf 106 = .ok (.ldc 83, 2) := by decide +kernel
theorem dX5_shapeOf_108 : decode cX5_shapeOf 108 = .ok (.ireturn, 1) := by decide +kernel
theorem dX5_shapeOf_109 : decode cX5_shapeOf 109 = .ok (.iload 5, 2) := by decide +kernel
theorem dX5_shapeOf_111 : decode cX5_shapeOf 111 = .ok (.iload_n 2, 1) := by decide +kernel
theorem dX5_shapeOf_112 : decode cX5_shapeOf 112 = .ok (.iload_n 3, 1) := by decide +kernel
theorem dX5_shapeOf_113 : decode cX5_shapeOf 113 = .ok (.iconst 2, 1) := by decide +kernel
theorem dX5_shapeOf_114 : decode cX5_shapeOf 114 = .ok (.isub, 1) := by decide +kernel
theorem dX5_shapeOf_115 : decode cX5_shapeOf 115 = .ok (.invokestatic 84, 3) := by decide +kernel
theorem dX5_shapeOf_118 : decode cX5_shapeOf 118 = .ok (.ireturn, 1) := by decide +kernel
theorem dX5_queued_0 : decode cX5_queued 0 = .ok (.iload_n 1, 1) := by decide +kernel
theorem dX5_queued_1 : decode cX5_queued 1 = .ok (.ifCond .lt 11, 3) := by decide +kernel
theorem dX5_queued_4 : decode cX5_queued 4 = .ok (.iload_n 2, 1) := by decide +kernel
theorem dX5_queued_5 : decode cX5_queued 5 = .ok (.iconst 4, 1) := by decide +kernel
theorem dX5_queued_6 : decode cX5_queued 6 = .ok (.invokestatic 74, 3) := by decide +kernel
theorem dX5_queued_9 : decode cX5_queued 9 = .ok (.ifCond .ne 6, 3) := by decide +kernel
theorem dX5_queued_12 : decode cX5_queued 12 = .ok (.ldc 78, 2) := by decide +kernel
theorem dX5_queued_14 : decode cX5_queued 14 = .ok (.ireturn, 1) := by decide +kernel
theorem dX5_queued_15 : decode cX5_queued 15 = .ok (.iload_n 1, 1) := by decide +kernel
theorem dX5_queued_16 : decode cX5_queued 16 = .ok (.aload_n 0, 1) := by decide +kernel
theorem dX5_queued_17 : decode cX5_queued 17 = .ok (.getfield 16, 3) := by decide +kernel
theorem dX5_queued_20 : decode cX5_queued 20 = .ok (.getfield 107, 3) := by decide +kernel
theorem dX5_queued_23 : decode cX5_queued 23 = .ok (.getfield 111, 3) := by decide +kernel
theorem dX5_queued_26 : decode cX5_queued 26 = .ok (.if_icmp .lt 6, 3) := by decide +kernel
theorem dX5_queued_29 : decode cX5_queued 29 = .ok (.ldc 83, 2) := by decide +kernel
theorem dX5_queued_31 : decode cX5_queued 31 = .ok (.ireturn, 1) := by decide +kernel
theorem dX5_queued_32 : decode cX5_queued 32 = .ok (.iload_n 2, 1) := by decide +kernel
theorem dX5_queued_33 : decode cX5_queued 33 = .ok (.tableswitch 61 0 2 #[27, 40, 53], 27) := by decide +kernel
theorem dX5_queued_60 : decode cX5_queued 60 = .ok (.aload_n 0, 1) := by decide +kernel
theorem dX5_queued_61 : decode cX5_queued 61 = .ok (.getfield 16, 3) := by decide +kernel
theorem dX5_queued_64 : decode cX5_queued 64 = .ok (.getfield 107, 3) := by decide +kernel
theorem dX5_queued_67 : decode cX5_queued 67 = .ok (.getfield 117, 3) := by decide +kernel
theorem dX5_queued_70 : decode cX5_queued 70 = .ok (.iload_n 1, 1) := by decide +kernel
theorem dX5_queued_71 : decode cX5_queued 71 = .ok (.iaload, 1) := by decide +kernel
theorem dX5_queued_72 : decode cX5_queued 72 = .ok (.ireturn, 1) := by decide +kernel
theorem dX5_queued_73 : decode cX5_queued 73 = .ok (.aload_n 0, 1) := by decide +kernel
theorem dX5_queued_74 : decode cX5_queued 74 = .ok (.getfield 16, 3) := by decide +kernel
theorem dX5_queued_77 : decode cX5_queued 77 = .ok (.getfield 107, 3) := by decide +kernel
theorem dX5_queued_80 : decode cX5_queued 80 = .ok (.getfield 120, 3) := by decide +kernel
theorem dX5_queued_83 : decode cX5_queued 83 = .ok (.iload_n 1, 1) := by decide +kernel
theorem dX5_queued_84 : decode cX5_queued 84 = .ok (.iaload, 1) := by decide +kernel
theorem dX5_queued_85 : decode cX5_queued 85 = .ok (.ireturn, 1) := by decide +kernel
theorem dX5_queued_86 : decode cX5_queued 86 = .ok (.aload_n 0, 1) := by decide +kernel
theorem dX5_queued_87 : decode cX5_queued 87 = .ok (.getfield 16, 3) := by decide +kernel
theorem dX5_queued_90 : decode cX5_queued 90 = .ok (.invokevirtual 121, 3) := by decide +kernel
theorem dX5_queued_93 : decode cX5_queued 93 = .ok (.ireturn, 1) := by decide +kernel
theorem dX5_queued_94 : decode cX5_queued 94 = .ok (.aload_n 0, 1) := by decide +kernel
theorem dX5_queued_95 : decode cX5_queued 95 = .ok (.getfield 16, 3) := by decide +kernel
theorem dX5_queued_98 : decode cX5_queued 98 = .ok (.getfield 107, 3) := by decide +kernel
theorem dX5_queued_101 : decode cX5_queued 101 = .ok (.getfield 124, 3) := by decide +kernel
theorem dX5_queued_104 : decode cX5_queued 104 = .ok (.iload_n 1, 1) := by decide +kernel
theorem dX5_queued_105 : decode cX5_queued 105 = .ok (.iaload, 1) := by decide +kernel
theorem dX5_queued_106 : decode cX5_queued 106 = .ok (.iconst (-1), 1) := by decide +kernel
theorem dX5_queued_107 : decode cX5_queued 107 = .ok (.if_icmp .ne 7, 3) := by decide +kernel
theorem dX5_queued_110 : decode cX5_queued 110 = .ok (.iconst 1, 1) := by decide +kernel
theorem dX5_queued_111 : decode cX5_queued 111 = .ok (.goto 4, 3) := by decide +kernel
theorem dX5_queued_114 : decode cX5_queued 114 = .ok (.iconst 0, 1) := by decide +kernel
theorem dX5_queued_115 : decode cX5_queued 115 = .ok (.ireturn, 1) := by decide +kernel
theorem dX5_keys_0 : decode cX5_keys 0 = .ok (.iload_n 1, 1) := by decide +kernel
theorem dX5_keys_1 : decode cX5_keys 1 = .ok (.iconst 2, 1) := by decide +kernel
theorem dX5_keys_2 : decode cX5_keys 2 = .ok (.invokestatic 74, 3) := by decide +kernel
theorem dX5_keys_5 : decode cX5_keys 5 = .ok (.ifCond .eq 14, 3) := by decide +kernel
theorem dX5_keys_8 : decode cX5_keys 8 = .ok (.aload_n 0, 1) := by decide +kernel
theorem dX5_keys_9 : decode cX5_keys 9 = .ok (.getfield 16, 3) := by decide +kernel
theorem dX5_keys_12 : decode cX5_keys 12 = .ok (.iload_n 1, 1) := by decide +kernel
theorem dX5_keys_13 : decode cX5_keys 13 = .ok (.invokevirtual 125, 3) := by decide +kernel
theorem dX5_keys_16 : decode cX5_keys 16 = .ok (.goto 5, 3) := by decide +kernel
theorem dX5_keys_19 : decode cX5_keys 19 = .ok (.ldc 78, 2) := by decide +kernel
theorem dX5_keys_21 : decode cX5_keys 21 = .ok (.ireturn, 1) := by decide +kernel
theorem dX5_check_0 : decode cX5_check 0 = .ok (.aload_n 0, 1) := by decide +kernel
theorem dX5_check_1 : decode cX5_check 1 = .ok (.getfield 16, 3) := by decide +kernel
theorem dX5_check_4 : decode cX5_check 4 = .ok (.invokevirtual 128, 3) := by decide +kernel
theorem dX5_check_7 : decode cX5_check 7 = .ok (.ifCond .eq 13, 3) := by decide +kernel
theorem dX5_check_10 : decode cX5_check 10 = .ok (.aload_n 0, 1) := by decide +kernel
theorem dX5_check_11 : decode cX5_check 11 = .ok (.getfield 16, 3) := by decide +kernel
theorem dX5_check_14 : decode cX5_check 14 = .ok (.invokevirtual 132, 3) := by decide +kernel
theorem dX5_check_17 : decode cX5_check 17 = .ok (.goto 5, 3) := by decide +kernel
theorem dX5_check_20 : decode cX5_check 20 = .ok (.ldc 93, 2) := by decide +kernel
theorem dX5_check_22 : decode cX5_check 22 = .ok (.ireturn, 1) := by decide +kernel
theorem dX5_quarrel_0 : decode cX5_quarrel 0 = .ok (.aload_n 0, 1) := by decide +kernel
theorem dX5_quarrel_1 : decode cX5_quarrel 1 = .ok (.getfield 16, 3) := by decide +kernel
theorem dX5_quarrel_4 : decode cX5_quarrel 4 = .ok (.invokevirtual 135, 3) := by decide +kernel
theorem dX5_quarrel_7 : decode cX5_quarrel 7 = .ok (.ireturn, 1) := by decide +kernel
theorem dX5_atRisk_0 : decode cX5_atRisk 0 = .ok (.aload_n 0, 1) := by decide +kernel
theorem dX5_atRisk_1 : decode cX5_atRisk 1 = .ok (.getfield 16, 3) := by decide +kernel
theorem dX5_atRisk_4 : decode cX5_atRisk 4 = .ok (.iconst 0, 1) := by decide +kernel
theorem dX5_atRisk_5 : decode cX5_atRisk 5 = .ok (.invokevirtual 89, 3) := by decide +kernel
theorem dX5_atRisk_8 : decode cX5_atRisk 8 = .ok (.ifCond .eq 13, 3) := by decide +kernel
theorem dX5_atRisk_11 : decode cX5_atRisk 11 = .ok (.aload_n 0, 1) := by decide +kernel
theorem dX5_atRisk_12 : decode cX5_atRisk 12 = .ok (.getfield 16, 3) := by decide +kernel
theorem dX5_atRisk_15 : decode cX5_atRisk 15 = .ok (.invokevirtual 138, 3) := by decide +kernel
theorem dX5_atRisk_18 : decode cX5_atRisk 18 = .ok (.goto 5, 3) := by decide +kernel
theorem dX5_atRisk_21 : decode cX5_atRisk 21 = .ok (.ldc 93, 2) := by decide +kernel
theorem dX5_atRisk_23 : decode cX5_atRisk 23 = .ok (.ireturn, 1) := by decide +kernel
theorem dX5_walk_0 : decode cX5_walk 0 = .ok (.aload_n 0, 1) := by decide +kernel
theorem dX5_walk_1 : decode cX5_walk 1 = .ok (.aload_n 0, 1) := by decide +kernel
theorem dX5_walk_2 : decode cX5_walk 2 = .ok (.invokevirtual 30, 3) := by decide +kernel
theorem dX5_walk_5 : decode cX5_walk 5 = .ok (.iload_n 1, 1) := by decide +kernel
theorem dX5_walk_6 : decode cX5_walk 6 = .ok (.iload_n 2, 1) := by decide +kernel
theorem dX5_walk_7 : decode cX5_walk 7 = .ok (.invokevirtual 141, 3) := by decide +kernel
theorem dX5_walk_10 : decode cX5_walk 10 = .ok (.invokevirtual 38, 3) := by decide +kernel
theorem dX5_walk_13 : decode cX5_walk 13 = .ok (.ireturn, 1) := by decide +kernel
theorem dX5_step_0 : decode cX5_step 0 = .ok (.aload_n 0, 1) := by decide +kernel
theorem dX5_step_1 : decode cX5_step 1 = .ok (.aload_n 0, 1) := by decide +kernel
theorem dX5_step_2 : decode cX5_step 2 = .ok (.invokevirtual 30, 3) := by decide +kernel
theorem dX5_step_5 : decode cX5_step 5 = .ok (.iload_n 1, 1) := by decide +kernel
theorem dX5_step_6 : decode cX5_step 6 = .ok (.invokevirtual 144, 3) := by decide +kernel
theorem dX5_step_9 : decode cX5_step 9 = .ok (.invokevirtual 38, 3) := by decide +kernel
theorem dX5_step_12 : decode cX5_step 12 = .ok (.ireturn, 1) := by decide +kernel
theorem dX5_count_0 : decode cX5_count 0 = .ok (.iload_n 1, 1) := by decide +kernel
theorem dX5_count_1 : decode cX5_count 1 = .ok (.tableswitch 207 0 12 #[67, 75, 83, 107, 118, 129, 140, 151, 162, 178, 186, 194, 199], 67) := by decide +kernel
theorem dX5_count_68 : decode cX5_count 68 = .ok (.aload_n 0, 1) := by decide +kernel
theorem dX5_count_69 : decode cX5_count 69 = .ok (.getfield 16, 3) := by decide +kernel
theorem dX5_count_72 : decode cX5_count 72 = .ok (.getfield 147, 3) := by decide +kernel
theorem dX5_count_75 : decode cX5_count 75 = .ok (.ireturn, 1) := by decide +kernel
theorem dX5_count_76 : decode cX5_count 76 = .ok (.aload_n 0, 1) := by decide +kernel
theorem dX5_count_77 : decode cX5_count 77 = .ok (.getfield 16, 3) := by decide +kernel
theorem dX5_count_80 : decode cX5_count 80 = .ok (.getfield 150, 3) := by decide +kernel
theorem dX5_count_83 : decode cX5_count 83 = .ok (.ireturn, 1) := by decide +kernel
theorem dX5_count_84 : decode cX5_count 84 = .ok (.aload_n 0, 1) := by decide +kernel
theorem dX5_count_85 : decode cX5_count 85 = .ok (.getfield 16, 3) := by decide +kernel
theorem dX5_count_88 : decode cX5_count 88 = .ok (.getfield 147, 3) := by decide +kernel
theorem dX5_count_91 : decode cX5_count 91 = .ok (.iconst 1, 1) := by decide +kernel
theorem dX5_count_92 : decode cX5_count 92 = .ok (.if_icmp .ne 13, 3) := by decide +kernel
theorem dX5_count_95 : decode cX5_count 95 = .ok (.aload_n 0, 1) := by decide +kernel
theorem dX5_count_96 : decode cX5_count 96 = .ok (.getfield 16, 3) := by decide +kernel
theorem dX5_count_99 : decode cX5_count 99 = .ok (.getfield 153, 3) := by decide +kernel
theorem dX5_count_102 : decode cX5_count 102 = .ok (.goto 5, 3) := by decide +kernel
theorem dX5_count_105 : decode cX5_count 105 = .ok (.ldc 83, 2) := by decide +kernel
theorem dX5_count_107 : decode cX5_count 107 = .ok (.ireturn, 1) := by decide +kernel
theorem dX5_count_108 : decode cX5_count 108 = .ok (.aload_n 0, 1) := by decide +kernel
theorem dX5_count_109 : decode cX5_count 109 = .ok (.getfield 16, 3) := by decide +kernel
theorem dX5_count_112 : decode cX5_count 112 = .ok (.getfield 107, 3) := by decide +kernel
theorem dX5_count_115 : decode cX5_count 115 = .ok (.getfield 111, 3) := by decide +kernel
theorem dX5_count_118 : decode cX5_count 118 = .ok (.ireturn, 1) := by decide +kernel
theorem dX5_count_119 : decode cX5_count 119 = .ok (.aload_n 0, 1) := by decide +kernel
theorem dX5_count_120 : decode cX5_count 120 = .ok (.getfield 16, 3) := by decide +kernel
theorem dX5_count_123 : decode cX5_count 123 = .ok (.getfield 156, 3) := by decide +kernel
theorem dX5_count_126 : decode cX5_count 126 = .ok (.invokevirtual 160, 3) := by decide +kernel
theorem dX5_count_129 : decode cX5_count 129 = .ok (.ireturn, 1) := by decide +kernel
theorem dX5_count_130 : decode cX5_count 130 = .ok (.aload_n 0, 1) := by decide +kernel
theorem dX5_count_131 : decode cX5_count 131 = .ok (.getfield 16, 3) := by decide +kernel
theorem dX5_count_134 : decode cX5_count 134 = .ok (.getfield 163, 3) := by decide +kernel
theorem dX5_count_137 : decode cX5_count 137 = .ok (.invokevirtual 160, 3) := by decide +kernel
theorem dX5_count_140 : decode cX5_count 140 = .ok (.ireturn, 1) := by decide +kernel
theorem dX5_count_141 : decode cX5_count 141 = .ok (.aload_n 0, 1) := by decide +kernel
theorem dX5_count_142 : decode cX5_count 142 = .ok (.getfield 16, 3) := by decide +kernel
theorem dX5_count_145 : decode cX5_count 145 = .ok (.getfield 163, 3) := by decide +kernel
theorem dX5_count_148 : decode cX5_count 148 = .ok (.invokevirtual 166, 3) := by decide +kernel
theorem dX5_count_151 : decode cX5_count 151 = .ok (.ireturn, 1) := by decide +kernel
theorem dX5_count_152 : decode cX5_count 152 = .ok (.aload_n 0, 1) := by decide +kernel
theorem dX5_count_153 : decode cX5_count 153 = .ok (.getfield 16, 3) := by decide +kernel
theorem dX5_count_156 : decode cX5_count 156 = .ok (.getfield 163, 3) := by decide +kernel
theorem dX5_count_159 : decode cX5_count 159 = .ok (.invokevirtual 169, 3) := by decide +kernel
theorem dX5_count_162 : decode cX5_count 162 = .ok (.ireturn, 1) := by decide +kernel
theorem dX5_count_163 : decode cX5_count 163 = .ok (.aload_n 0, 1) := by decide +kernel
theorem dX5_count_164 : decode cX5_count 164 = .ok (.getfield 16, 3) := by decide +kernel
theorem dX5_count_167 : decode cX5_count 167 = .ok (.invokevirtual 172, 3) := by decide +kernel
theorem dX5_count_170 : decode cX5_count 170 = .ok (.ifCond .eq 7, 3) := by decide +kernel
theorem dX5_count_173 : decode cX5_count 173 = .ok (.iconst 1, 1) := by decide +kernel
theorem dX5_count_174 : decode cX5_count 174 = .ok (.goto 4, 3) := by decide +kernel
theorem dX5_count_177 : decode cX5_count 177 = .ok (.iconst 0, 1) := by decide +kernel
theorem dX5_count_178 : decode cX5_count 178 = .ok (.ireturn, 1) := by decide +kernel
theorem dX5_count_179 : decode cX5_count 179 = .ok (.aload_n 0, 1) := by decide +kernel
theorem dX5_count_180 : decode cX5_count 180 = .ok (.getfield 16, 3) := by decide +kernel
theorem dX5_count_183 : decode cX5_count 183 = .ok (.getfield 175, 3) := by decide +kernel
theorem dX5_count_186 : decode cX5_count 186 = .ok (.ireturn, 1) := by decide +kernel
theorem dX5_count_187 : decode cX5_count 187 = .ok (.aload_n 0, 1) := by decide +kernel
theorem dX5_count_188 : decode cX5_count 188 = .ok (.getfield 16, 3) := by decide +kernel
theorem dX5_count_191 : decode cX5_count 191 = .ok (.getfield 178, 3) := by decide +kernel
theorem dX5_count_194 : decode cX5_count 194 = .ok (.ireturn, 1) := by decide +kernel
theorem dX5_count_195 : decode cX5_count 195 = .ok (.aload_n 0, 1) := by decide +kernel
theorem dX5_count_196 : decode cX5_count 196 = .ok (.getfield 181, 3) := by decide +kernel
theorem dX5_count_199 : decode cX5_count 199 = .ok (.ireturn, 1) := by decide +kernel
theorem dX5_count_200 : decode cX5_count 200 = .ok (.aload_n 0, 1) := by decide +kernel
theorem dX5_count_201 : decode cX5_count 201 = .ok (.getfield 26, 3) := by decide +kernel
theorem dX5_count_204 : decode cX5_count 204 = .ok (.getfield 184, 3) := by decide +kernel
theorem dX5_count_207 : decode cX5_count 207 = .ok (.ireturn, 1) := by decide +kernel
theorem dX5_count_208 : decode cX5_count 208 = .ok (.ldc 78, 2) := by decide +kernel
theorem dX5_count_210 : decode cX5_count 210 = .ok (.ireturn, 1) := by decide +kernel
theorem dX5_undo_0 : decode cX5_undo 0 = .ok (.aload_n 0, 1) := by decide +kernel
theorem dX5_undo_1 : decode cX5_undo 1 = .ok (.getfield 181, 3) := by decide +kernel
theorem dX5_undo_4 : decode cX5_undo 4 = .ok (.ifCond .ne 6, 3) := by decide +kernel
theorem dX5_undo_7 : decode cX5_undo 7 = .ok (.ldc 93, 2) := by decide +kernel
theorem dX5_undo_9 : decode cX5_undo 9 = .ok (.ireturn, 1) := by decide +kernel
theorem dX5_undo_10 : decode cX5_undo 10 = .ok (.aload_n 0, 1) := by decide +kernel
theorem dX5_undo_11 : decode cX5_undo 11 = .ok (.dup, 1) := by decide +kernel
theorem dX5_undo_12 : decode cX5_undo 12 = .ok (.getfield 181, 3) := by decide +kernel
theorem dX5_undo_15 : decode cX5_undo 15 = .ok (.iconst 1, 1) := by decide +kernel
theorem dX5_undo_16 : decode cX5_undo 16 = .ok (.isub, 1) := by decide +kernel
theorem dX5_undo_17 : decode cX5_undo 17 = .ok (.putfield 181, 3) := by decide +kernel
theorem dX5_undo_20 : decode cX5_undo 20 = .ok (.aload_n 0, 1) := by decide +kernel
theorem dX5_undo_21 : decode cX5_undo 21 = .ok (.getfield 16, 3) := by decide +kernel
theorem dX5_undo_24 : decode cX5_undo 24 = .ok (.astore_n 1, 1) := by decide +kernel
theorem dX5_undo_25 : decode cX5_undo 25 = .ok (.aload_n 0, 1) := by decide +kernel
theorem dX5_undo_26 : decode cX5_undo 26 = .ok (.aload_n 0, 1) := by decide +kernel
theorem dX5_undo_27 : decode cX5_undo 27 = .ok (.getfield 11, 3) := by decide +kernel
theorem dX5_undo_30 : decode cX5_undo 30 = .ok (.aload_n 0, 1) := by decide +kernel
theorem dX5_undo_31 : decode cX5_undo 31 = .ok (.getfield 181, 3) := by decide +kernel
theorem dX5_undo_34 : decode cX5_undo 34 = .ok (.aaload, 1) := by decide +kernel
theorem dX5_undo_35 : decode cX5_undo 35 = .ok (.putfield 16, 3) := by decide +kernel
theorem dX5_undo_38 : decode cX5_undo 38 = .ok (.aload_n 0, 1) := by decide +kernel
theorem dX5_undo_39 : decode cX5_undo 39 = .ok (.getfield 11, 3) := by decide +kernel
theorem dX5_undo_42 : decode cX5_undo 42 = .ok (.aload_n 0, 1) := by decide +kernel
theorem dX5_undo_43 : decode cX5_undo 43 = .ok (.getfield 181, 3) := by decide +kernel
theorem dX5_undo_46 : decode cX5_undo 46 = .ok (.aload_n 1, 1) := by decide +kernel
theorem dX5_undo_47 : decode cX5_undo 47 = .ok (.aastore, 1) := by decide +kernel
theorem dX5_undo_48 : decode cX5_undo 48 = .ok (.aload_n 0, 1) := by decide +kernel
theorem dX5_undo_49 : decode cX5_undo 49 = .ok (.getfield 181, 3) := by decide +kernel
theorem dX5_undo_52 : decode cX5_undo 52 = .ok (.ireturn, 1) := by decide +kernel
theorem dX5_type_0 : decode cX5_type 0 = .ok (.iload_n 1, 1) := by decide +kernel
theorem dX5_type_1 : decode cX5_type 1 = .ok (.bipush 32, 2) := by decide +kernel
theorem dX5_type_3 : decode cX5_type 3 = .ok (.if_icmp .lt 9, 3) := by decide +kernel
theorem dX5_type_6 : decode cX5_type 6 = .ok (.iload_n 1, 1) := by decide +kernel
theorem dX5_type_7 : decode cX5_type 7 = .ok (.bipush 126, 2) := by decide +kernel
theorem dX5_type_9 : decode cX5_type 9 = .ok (.if_icmp .le 6, 3) := by decide +kernel
theorem dX5_type_12 : decode cX5_type 12 = .ok (.ldc 78, 2) := by decide +kernel
theorem dX5_type_14 : decode cX5_type 14 = .ok (.ireturn, 1) := by decide +kernel
theorem dX5_type_15 : decode cX5_type 15 = .ok (.aload_n 0, 1) := by decide +kernel
theorem dX5_type_16 : decode cX5_type 16 = .ok (.getfield 26, 3) := by decide +kernel
theorem dX5_type_19 : decode cX5_type 19 = .ok (.getfield 184, 3) := by decide +kernel
theorem dX5_type_22 : decode cX5_type 22 = .ok (.bipush 60, 2) := by decide +kernel
theorem dX5_type_24 : decode cX5_type 24 = .ok (.if_icmp .lt 6, 3) := by decide +kernel
theorem dX5_type_27 : decode cX5_type 27 = .ok (.ldc 185, 2) := by decide +kernel
theorem dX5_type_29 : decode cX5_type 29 = .ok (.ireturn, 1) := by decide +kernel
theorem dX5_type_30 : decode cX5_type 30 = .ok (.aload_n 0, 1) := by decide +kernel
theorem dX5_type_31 : decode cX5_type 31 = .ok (.getfield 26, 3) := by decide +kernel
theorem dX5_type_34 : decode cX5_type 34 = .ok (.iload_n 1, 1) := by decide +kernel
theorem dX5_type_35 : decode cX5_type 35 = .ok (.invokevirtual 186, 3) := by decide +kernel
theorem dX5_type_38 : decode cX5_type 38 = .ok (.aload_n 0, 1) := by decide +kernel
theorem dX5_type_39 : decode cX5_type 39 = .ok (.getfield 26, 3) := by decide +kernel
theorem dX5_type_42 : decode cX5_type 42 = .ok (.getfield 184, 3) := by decide +kernel
theorem dX5_type_45 : decode cX5_type 45 = .ok (.ireturn, 1) := by decide +kernel
theorem dX5_clearText_0 : decode cX5_clearText 0 = .ok (.aload_n 0, 1) := by decide +kernel
theorem dX5_clearText_1 : decode cX5_clearText 1 = .ok (.getfield 26, 3) := by decide +kernel
theorem dX5_clearText_4 : decode cX5_clearText 4 = .ok (.getfield 184, 3) := by decide +kernel
theorem dX5_clearText_7 : decode cX5_clearText 7 = .ok (.istore_n 1, 1) := by decide +kernel
theorem dX5_clearText_8 : decode cX5_clearText 8 = .ok (.aload_n 0, 1) := by decide +kernel
theorem dX5_clearText_9 : decode cX5_clearText 9 = .ok (.getfield 26, 3) := by decide +kernel
theorem dX5_clearText_12 : decode cX5_clearText 12 = .ok (.iconst 0, 1) := by decide +kernel
theorem dX5_clearText_13 : decode cX5_clearText 13 = .ok (.putfield 184, 3) := by decide +kernel
theorem dX5_clearText_16 : decode cX5_clearText 16 = .ok (.iload_n 1, 1) := by decide +kernel
theorem dX5_clearText_17 : decode cX5_clearText 17 = .ok (.ireturn, 1) := by decide +kernel
theorem dX5_fault_0 : decode cX5_fault 0 = .ok (.iload_n 1, 1) := by decide +kernel
theorem dX5_fault_1 : decode cX5_fault 1 = .ok (.iconst 2, 1) := by decide +kernel
theorem dX5_fault_2 : decode cX5_fault 2 = .ok (.invokestatic 74, 3) := by decide +kernel
theorem dX5_fault_5 : decode cX5_fault 5 = .ok (.ifCond .ne 6, 3) := by decide +kernel
theorem dX5_fault_8 : decode cX5_fault 8 = .ok (.ldc 78, 2) := by decide +kernel
theorem dX5_fault_10 : decode cX5_fault 10 = .ok (.ireturn, 1) := by decide +kernel
theorem dX5_fault_11 : decode cX5_fault 11 = .ok (.aload_n 0, 1) := by decide +kernel
theorem dX5_fault_12 : decode cX5_fault 12 = .ok (.getfield 26, 3) := by decide +kernel
theorem dX5_fault_15 : decode cX5_fault 15 = .ok (.aload_n 0, 1) := by decide +kernel
theorem dX5_fault_16 : decode cX5_fault 16 = .ok (.invokevirtual 30, 3) := by decide +kernel
theorem dX5_fault_19 : decode cX5_fault 19 = .ok (.invokevirtual 190, 3) := by decide +kernel
theorem dX5_fault_22 : decode cX5_fault 22 = .ok (.aload_n 0, 1) := by decide +kernel
theorem dX5_fault_23 : decode cX5_fault 23 = .ok (.getfield 26, 3) := by decide +kernel
theorem dX5_fault_26 : decode cX5_fault 26 = .ok (.getfield 194, 3) := by decide +kernel
theorem dX5_fault_29 : decode cX5_fault 29 = .ok (.ifCond .ne 6, 3) := by decide +kernel
theorem dX5_fault_32 : decode cX5_fault 32 = .ok (.ldc 83, 2) := by decide +kernel
theorem dX5_fault_34 : decode cX5_fault 34 = .ok (.ireturn, 1) := by decide +kernel
theorem dX5_fault_35 : decode cX5_fault 35 = .ok (.iload_n 1, 1) := by decide +kernel
theorem dX5_fault_36 : decode cX5_fault 36 = .ok (.ifCond .ne 13, 3) := by decide +kernel
theorem dX5_fault_39 : decode cX5_fault 39 = .ok (.aload_n 0, 1) := by decide +kernel
theorem dX5_fault_40 : decode cX5_fault 40 = .ok (.getfield 26, 3) := by decide +kernel
theorem dX5_fault_43 : decode cX5_fault 43 = .ok (.getfield 197, 3) := by decide +kernel
theorem dX5_fault_46 : decode cX5_fault 46 = .ok (.goto 10, 3) := by decide +kernel
theorem dX5_fault_49 : decode cX5_fault 49 = .ok (.aload_n 0, 1) := by decide +kernel
theorem dX5_fault_50 : decode cX5_fault 50 = .ok (.getfield 26, 3) := by decide +kernel
theorem dX5_fault_53 : decode cX5_fault 53 = .ok (.getfield 194, 3) := by decide +kernel
theorem dX5_fault_56 : decode cX5_fault 56 = .ok (.ireturn, 1) := by decide +kernel
theorem dX5_play_0 : decode cX5_play 0 = .ok (.aload_n 0, 1) := by decide +kernel
theorem dX5_play_1 : decode cX5_play 1 = .ok (.getfield 26, 3) := by decide +kernel
theorem dX5_play_4 : decode cX5_play 4 = .ok (.aload_n 0, 1) := by decide +kernel
theorem dX5_play_5 : decode cX5_play 5 = .ok (.invokevirtual 30, 3) := by decide +kernel
theorem dX5_play_8 : decode cX5_play 8 = .ok (.invokevirtual 190, 3) := by decide +kernel
theorem dX5_play_11 : decode cX5_play 11 = .ok (.aload_n 0, 1) := by decide +kernel
theorem dX5_play_12 : decode cX5_play 12 = .ok (.aload_n 0, 1) := by decide +kernel
theorem dX5_play_13 : decode cX5_play 13 = .ok (.getfield 26, 3) := by decide +kernel
theorem dX5_play_16 : decode cX5_play 16 = .ok (.getfield 194, 3) := by decide +kernel
theorem dX5_play_19 : decode cX5_play 19 = .ok (.ifCond .ne 13, 3) := by decide +kernel
theorem dX5_play_22 : decode cX5_play 22 = .ok (.aload_n 0, 1) := by decide +kernel
theorem dX5_play_23 : decode cX5_play 23 = .ok (.getfield 26, 3) := by decide +kernel
theorem dX5_play_26 : decode cX5_play 26 = .ok (.getfield 200, 3) := by decide +kernel
theorem dX5_play_29 : decode cX5_play 29 = .ok (.goto 5, 3) := by decide +kernel
theorem dX5_play_32 : decode cX5_play 32 = .ok (.ldc 93, 2) := by decide +kernel
theorem dX5_play_34 : decode cX5_play 34 = .ok (.invokevirtual 38, 3) := by decide +kernel
theorem dX5_play_37 : decode cX5_play 37 = .ok (.ireturn, 1) := by decide +kernel
theorem dX5_newTrial_0 : decode cX5_newTrial 0 = .ok (.aload_n 0, 1) := by decide +kernel
theorem dX5_newTrial_1 : decode cX5_newTrial 1 = .ok (.getfield 20, 3) := by decide +kernel
theorem dX5_newTrial_4 : decode cX5_newTrial 4 = .ok (.aload_n 0, 1) := by decide +kernel
theorem dX5_newTrial_5 : decode cX5_newTrial 5 = .ok (.getfield 16, 3) := by decide +kernel
theorem dX5_newTrial_8 : decode cX5_newTrial 8 = .ok (.invokevirtual 203, 3) := by decide +kernel
theorem dX5_newTrial_11 : decode cX5_newTrial 11 = .ok (.aload_n 0, 1) := by decide +kernel
theorem dX5_newTrial_12 : decode cX5_newTrial 12 = .ok (.getfield 20, 3) := by decide +kernel
theorem dX5_newTrial_15 : decode cX5_newTrial 15 = .ok (.areturn, 1) := by decide +kernel
theorem dX5_settle_0 : decode cX5_settle 0 = .ok (.iload_n 1, 1) := by decide +kernel
theorem dX5_settle_1 : decode cX5_settle 1 = .ok (.ifCond .ge 5, 3) := by decide +kernel
theorem dX5_settle_4 : decode cX5_settle 4 = .ok (.iload_n 1, 1) := by decide +kernel
theorem dX5_settle_5 : decode cX5_settle 5 = .ok (.ireturn, 1) := by decide +kernel
theorem dX5_settle_6 : decode cX5_settle 6 = .ok (.aload_n 0, 1) := by decide +kernel
theorem dX5_settle_7 : decode cX5_settle 7 = .ok (.getfield 181, 3) := by decide +kernel
theorem dX5_settle_10 : decode cX5_settle 10 = .ok (.iconst 4, 1) := by decide +kernel
theorem dX5_settle_11 : decode cX5_settle 11 = .ok (.if_icmp .ge 39, 3) := by decide +kernel
theorem dX5_settle_14 : decode cX5_settle 14 = .ok (.aload_n 0, 1) := by decide +kernel
theorem dX5_settle_15 : decode cX5_settle 15 = .ok (.getfield 11, 3) := by decide +kernel
theorem dX5_settle_18 : decode cX5_settle 18 = .ok (.aload_n 0, 1) := by decide +kernel
theorem dX5_settle_19 : decode cX5_settle 19 = .ok (.getfield 181, 3) := by decide +kernel
theorem dX5_settle_22 : decode cX5_settle 22 = .ok (.aaload, 1) := by decide +kernel
theorem dX5_settle_23 : decode cX5_settle 23 = .ok (.astore_n 2, 1) := by decide +kernel
theorem dX5_settle_24 : decode cX5_settle 24 = .ok (.aload_n 0, 1) := by decide +kernel
theorem dX5_settle_25 : decode cX5_settle 25 = .ok (.getfield 11, 3) := by decide +kernel
theorem dX5_settle_28 : decode cX5_settle 28 = .ok (.aload_n 0, 1) := by decide +kernel
theorem dX5_settle_29 : decode cX5_settle 29 = .ok (.getfield 181, 3) := by decide +kernel
theorem dX5_settle_32 : decode cX5_settle 32 = .ok (.aload_n 0, 1) := by decide +kernel
theorem dX5_settle_33 : decode cX5_settle 33 = .ok (.getfield 16, 3) := by decide +kernel
theorem dX5_settle_36 : decode cX5_settle 36 = .ok (.aastore, 1) := by decide +kernel
theorem dX5_settle_37 : decode cX5_settle 37 = .ok (.aload_n 0, 1) := by decide +kernel
theorem dX5_settle_38 : decode cX5_settle 38 = .ok (.dup, 1) := by decide +kernel
theorem dX5_settle_39 : decode cX5_settle 39 = .ok (.getfield 181, 3) := by decide +kernel
theorem dX5_settle_42 : decode cX5_settle 42 = .ok (.iconst 1, 1) := by decide +kernel
theorem dX5_settle_43 : decode cX5_settle 43 = .ok (.iadd, 1) := by decide +kernel
theorem dX5_settle_44 : decode cX5_settle 44 = .ok (.putfield 181, 3) := by decide +kernel
theorem dX5_settle_47 : decode cX5_settle 47 = .ok (.goto 47, 3) := by decide +kernel
theorem dX5_settle_50 : decode cX5_settle 50 = .ok (.aload_n 0, 1) := by decide +kernel
theorem dX5_settle_51 : decode cX5_settle 51 = .ok (.getfield 11, 3) := by decide +kernel
theorem dX5_settle_54 : decode cX5_settle 54 = .ok (.iconst 0, 1) := by decide +kernel
theorem dX5_settle_55 : decode cX5_settle 55 = .ok (.aaload, 1) := by decide +kernel
theorem dX5_settle_56 : decode cX5_settle 56 = .ok (.astore_n 2, 1) := by decide +kernel
theorem dX5_settle_57 : decode cX5_settle 57 = .ok (.iconst 1, 1) := by decide +kernel
theorem dX5_settle_58 : decode cX5_settle 58 = .ok (.istore_n 3, 1) := by decide +kernel
theorem dX5_settle_59 : decode cX5_settle 59 = .ok (.iload_n 3, 1) := by decide +kernel
theorem dX5_settle_60 : decode cX5_settle 60 = .ok (.iconst 4, 1) := by decide +kernel
theorem dX5_settle_61 : decode cX5_settle 61 = .ok (.if_icmp .ge 23, 3) := by decide +kernel
theorem dX5_settle_64 : decode cX5_settle 64 = .ok (.aload_n 0, 1) := by decide +kernel
theorem dX5_settle_65 : decode cX5_settle 65 = .ok (.getfield 11, 3) := by decide +kernel
theorem dX5_settle_68 : decode cX5_settle 68 = .ok (.iload_n 3, 1) := by decide +kernel
theorem dX5_settle_69 : decode cX5_settle 69 = .ok (.iconst 1, 1) := by decide +kernel
theorem dX5_settle_70 : decode cX5_settle 70 = .ok (.isub, 1) := by decide +kernel
theorem dX5_settle_71 : decode cX5_settle 71 = .ok (.aload_n 0, 1) := by decide +kernel
theorem dX5_settle_72 : decode cX5_settle 72 = .ok (.getfield 11, 3) := by decide +kernel
theorem dX5_settle_75 : decode cX5_settle 75 = .ok (.iload_n 3, 1) := by decide +kernel
theorem dX5_settle_76 : decode cX5_settle 76 = .ok (.aaload, 1) := by decide +kernel
theorem dX5_settle_77 : decode cX5_settle 77 = .ok (.aastore, 1) := by decide +kernel
theorem dX5_settle_78 : decode cX5_settle 78 = .ok (.iinc 3 1, 3) := by decide +kernel
theorem dX5_settle_81 : decode cX5_settle 81 = .ok (.goto (-22), 3) := by decide +kernel
theorem dX5_settle_84 : decode cX5_settle 84 = .ok (.aload_n 0, 1) := by decide +kernel
theorem dX5_settle_85 : decode cX5_settle 85 = .ok (.getfield 11, 3) := by decide +kernel
theorem dX5_settle_88 : decode cX5_settle 88 = .ok (.iconst 3, 1) := by decide +kernel
theorem dX5_settle_89 : decode cX5_settle 89 = .ok (.aload_n 0, 1) := by decide +kernel
theorem dX5_settle_90 : decode cX5_settle 90 = .ok (.getfield 16, 3) := by decide +kernel
theorem dX5_settle_93 : decode cX5_settle 93 = .ok (.aastore, 1) := by decide +kernel
theorem dX5_settle_94 : decode cX5_settle 94 = .ok (.aload_n 0, 1) := by decide +kernel
theorem dX5_settle_95 : decode cX5_settle 95 = .ok (.aload_n 0, 1) := by decide +kernel
theorem dX5_settle_96 : decode cX5_settle 96 = .ok (.getfield 20, 3) := by decide +kernel
theorem dX5_settle_99 : decode cX5_settle 99 = .ok (.putfield 16, 3) := by decide +kernel
theorem dX5_settle_102 : decode cX5_settle 102 = .ok (.aload_n 0, 1) := by decide +kernel
theorem dX5_settle_103 : decode cX5_settle 103 = .ok (.aload_n 2, 1) := by decide +kernel
theorem dX5_settle_104 : decode cX5_settle 104 = .ok (.putfield 20, 3) := by decide +kernel
theorem dX5_settle_107 : decode cX5_settle 107 = .ok (.iload_n 1, 1) := by decide +kernel
theorem dX5_settle_108 : decode cX5_settle 108 = .ok (.ireturn, 1) := by decide +kernel
theorem dX5_isBelow_0 : decode cX5_isBelow 0 = .ok (.iload_n 0, 1) := by decide +kernel
theorem dX5_isBelow_1 : decode cX5_isBelow 1 = .ok (.ifCond .lt 12, 3) := by decide +kernel
theorem dX5_isBelow_4 : decode cX5_isBelow 4 = .ok (.iload_n 0, 1) := by decide +kernel
theorem dX5_isBelow_5 : decode cX5_isBelow 5 = .ok (.iload_n 1, 1) := by decide +kernel
theorem dX5_isBelow_6 : decode cX5_isBelow 6 = .ok (.if_icmp .ge 7, 3) := by decide +kernel
theorem dX5_isBelow_9 : decode cX5_isBelow 9 = .ok (.iconst 1, 1) := by decide +kernel
theorem dX5_isBelow_10 : decode cX5_isBelow 10 = .ok (.goto 4, 3) := by decide +kernel
theorem dX5_isBelow_13 : decode cX5_isBelow 13 = .ok (.iconst 0, 1) := by decide +kernel
theorem dX5_isBelow_14 : decode cX5_isBelow 14 = .ok (.ireturn, 1) := by decide +kernel
theorem dX6_init_0 : decode cX6_init 0 = .ok (.aload_n 0, 1) := by decide +kernel
theorem dX6_init_1 : decode cX6_init 1 = .ok (.invokespecial 1, 3) := by decide +kernel
theorem dX6_init_4 : decode cX6_init 4 = .ok (.aload_n 0, 1) := by decide +kernel
theorem dX6_init_5 : decode cX6_init 5 = .ok (.sipush 411, 3) := by decide +kernel
theorem dX6_init_8 : decode cX6_init 8 = .ok (.newarray .int, 2) := by decide +kernel
theorem dX6_init_10 : decode cX6_init 10 = .ok (.putfield 7, 3) := by decide +kernel
theorem dX6_init_13 : decode cX6_init 13 = .ok (.aload_n 0, 1) := by decide +kernel
theorem dX6_init_14 : decode cX6_init 14 = .ok (.sipush 1644, 3) := by decide +kernel
theorem dX6_init_17 : decode cX6_init 17 = .ok (.newarray .int, 2) := by decide +kernel
theorem dX6_init_19 : decode cX6_init 19 = .ok (.putfield 13, 3) := by decide +kernel
theorem dX6_init_22 : decode cX6_init 22 = .ok (.aload_n 0, 1) := by decide +kernel
theorem dX6_init_23 : decode cX6_init 23 = .ok (.sipush 411, 3) := by decide +kernel
theorem dX6_init_26 : decode cX6_init 26 = .ok (.newarray .int, 2) := by decide +kernel
theorem dX6_init_28 : decode cX6_init 28 = .ok (.putfield 16, 3) := by decide +kernel
theorem dX6_init_31 : decode cX6_init 31 = .ok (.aload_n 0, 1) := by decide +kernel
theorem dX6_init_32 : decode cX6_init 32 = .ok (.sipush 411, 3) := by decide +kernel
theorem dX6_init_35 : decode cX6_init 35 = .ok (.newarray .int, 2) := by decide +kernel
theorem dX6_init_37 : decode cX6_init 37 = .ok (.putfield 19, 3) := by decide +kernel
theorem dX6_init_40 : decode cX6_init 40 = .ok (.aload_n 0, 1) := by decide +kernel
theorem dX6_init_41 : decode cX6_init 41 = .ok (.bipush 60, 2) := by decide +kernel
theorem dX6_init_43 : decode cX6_init 43 = .ok (.newarray .char, 2) := by decide +kernel
theorem dX6_init_45 : decode cX6_init 45 = .ok (.putfield 22, 3) := by decide +kernel
theorem dX6_init_48 : decode cX6_init 48 = .ok (.aload_n 0, 1) := by decide +kernel
theorem dX6_init_49 : decode cX6_init 49 = .ok (.iconst 4, 1) := by decide +kernel
theorem dX6_init_50 : decode cX6_init 50 = .ok (.newarray .int, 2) := by decide +kernel
theorem dX6_init_52 : decode cX6_init 52 = .ok (.putfield 26, 3) := by decide +kernel
theorem dX6_init_55 : decode cX6_init 55 = .ok (.aload_n 0, 1) := by decide +kernel
theorem dX6_init_56 : decode cX6_init 56 = .ok (.iconst 4, 1) := by decide +kernel
theorem dX6_init_57 : decode cX6_init 57 = .ok (.newarray .int, 2) := by decide +kernel
theorem dX6_init_59 : decode cX6_init 59 = .ok (.putfield 29, 3) := by decide +kernel
theorem dX6_init_62 : decode cX6_init 62 = .ok (.aload_n 0, 1) := by decide +kernel
theorem dX6_init_63 : decode cX6_init 63 = .ok (.iconst 4, 1) := by decide +kernel
theorem dX6_init_64 : decode cX6_init 64 = .ok (.newarray .int, 2) := by decide +kernel
theorem dX6_init_66 : decode cX6_init 66 = .ok (.putfield 32, 3) := by decide +kernel
theorem dX6_init_69 : decode cX6_init 69 = .ok (.return_, 1) := by decide +kernel
theorem dX6_in_0 : decode cX6_in 0 = .ok (.iload_n 0, 1) := by decide +kernel
theorem dX6_in_1 : decode cX6_in 1 = .ok (.iload_n 1, 1) := by decide +kernel
theorem dX6_in_2 : decode cX6_in 2 = .ok (.if_icmp .lt 12, 3) := by decide +kernel
theorem dX6_in_5 : decode cX6_in 5 = .ok (.iload_n 0, 1) := by decide +kernel
theorem dX6_in_6 : decode cX6_in 6 = .ok (.iload_n 2, 1) := by decide +kernel
theorem dX6_in_7 : decode cX6_in 7 = .ok (.if_icmp .gt 7, 3) := by decide +kernel
theorem dX6_in_10 : decode cX6_in 10 = .ok (.iconst 1, 1) := by decide +kernel
theorem dX6_in_11 : decode cX6_in 11 = .ok (.goto 4, 3) := by decide +kernel
theorem dX6_in_14 : decode cX6_in 14 = .ok (.iconst 0, 1) := by decide +kernel
theorem dX6_in_15 : decode cX6_in 15 = .ok (.ireturn, 1) := by decide +kernel
theorem dX6_place_0 : decode cX6_place 0 = .ok (.bipush 101, 2) := by decide +kernel
theorem dX6_place_2 : decode cX6_place 2 = .ok (.sipush 155, 3) := by decide +kernel
theorem dX6_place_5 : decode cX6_place 5 = .ok (.iload_n 0, 1) := by decide +kernel
theorem dX6_place_6 : decode cX6_place 6 = .ok (.imul, 1) := by decide +kernel
theorem dX6_place_7 : decode cX6_place 7 = .ok (.iadd, 1) := by decide +kernel
theorem dX6_place_8 : decode cX6_place 8 = .ok (.iconst 5, 1) := by decide +kernel
theorem dX6_place_9 : decode cX6_place 9 = .ok (.iload_n 1, 1) := by decide +kernel
theorem dX6_place_10 : decode cX6_place 10 = .ok (.imul, 1) := by decide +kernel
theorem dX6_place_11 : decode cX6_place 11 = .ok (.iadd, 1) := by decide +kernel
theorem dX6_place_12 : decode cX6_place 12 = .ok (.ireturn, 1) := by decide +kernel
theorem dX6_of_0 : decode cX6_of 0 = .ok (.aload_n 0, 1) := by decide +kernel
theorem dX6_of_1 : decode cX6_of 1 = .ok (.getfield 7, 3) := by decide +kernel
theorem dX6_of_4 : decode cX6_of 4 = .ok (.iload_n 1, 1) := by decide +kernel
theorem dX6_of_5 : decode cX6_of 5 = .ok (.iload_n 2, 1) := by decide +kernel
theorem dX6_of_6 : decode cX6_of 6 = .ok (.invokestatic 35, 3) := by decide +kernel
theorem dX6_of_9 : decode cX6_of 9 = .ok (.iload_n 3, 1) := by decide +kernel
theorem dX6_of_10 : decode cX6_of 10 = .ok (.iadd, 1) := by decide +kernel
theorem dX6_of_11 : decode cX6_of 11 = .ok (.iaload, 1) := by decide +kernel
theorem dX6_of_12 : decode cX6_of 12 = .ok (.ireturn, 1) := by decide +kernel
theorem dX6_isThere_0 : decode cX6_isThere 0 = .ok (.iload_n 1, 1) := by decide +kernel
theorem dX6_isThere_1 : decode cX6_isThere 1 = .ok (.ifCond .ne 21, 3) := by decide +kernel
theorem dX6_isThere_4 : decode cX6_isThere 4 = .ok (.aload_n 0, 1) := by decide +kernel
theorem dX6_isThere_5 : decode cX6_isThere 5 = .ok (.getfield 7, 3) := by decide +kernel
theorem dX6_isThere_8 : decode cX6_isThere 8 = .ok (.iconst 0, 1) := by decide +kernel
theorem dX6_isThere_9 : decode cX6_isThere 9 = .ok (.iaload, 1) := by decide +kernel
theorem dX6_isThere_10 : decode cX6_isThere 10 = .ok (.iconst 3, 1) := by decide +kernel
theorem dX6_isThere_11 : decode cX6_isThere 11 = .ok (.if_icmp .ge 7, 3) := by decide +kernel
theorem dX6_isThere_14 : decode cX6_isThere 14 = .ok (.iconst 1, 1) := by decide +kernel
theorem dX6_isThere_15 : decode cX6_isThere 15 = .ok (.goto 21, 3) := by decide +kernel
theorem dX6_isThere_18 : decode cX6_isThere 18 = .ok (.iconst 0, 1) := by decide +kernel
theorem dX6_isThere_19 : decode cX6_isThere 19 = .ok (.goto 17, 3) := by decide +kernel
theorem dX6_isThere_22 : decode cX6_isThere 22 = .ok (.aload_n 0, 1) := by decide +kernel
theorem dX6_isThere_23 : decode cX6_isThere 23 = .ok (.getfield 7, 3) := by decide +kernel
theorem dX6_isThere_26 : decode cX6_isThere 26 = .ok (.iconst 0, 1) := by decide +kernel
theorem dX6_isThere_27 : decode cX6_isThere 27 = .ok (.iaload, 1) := by decide +kernel
theorem dX6_isThere_28 : decode cX6_isThere 28 = .ok (.ifCond .le 7, 3) := by decide +kernel
theorem dX6_isThere_31 : decode cX6_isThere 31 = .ok (.iconst 1, 1) := by decide +kernel
theorem dX6_isThere_32 : decode cX6_isThere 32 = .ok (.goto 4, 3) := by decide +kernel
theorem dX6_isThere_35 : decode cX6_isThere 35 = .ok (.iconst 0, 1) := by decide +kernel
theorem dX6_isThere_36 : decode cX6_isThere 36 = .ok (.ireturn, 1) := by decide +kernel
theorem dX6_areBoth_0 : decode cX6_areBoth 0 = .ok (.aload_n 0, 1) := by decide +kernel
theorem dX6_areBoth_1 : decode cX6_areBoth 1 = .ok (.getfield 7, 3) := by decide +kernel
theorem dX6_areBoth_4 : decode cX6_areBoth 4 = .ok (.iconst 0, 1) := by decide +kernel
theorem dX6_areBoth_5 : decode cX6_areBoth 5 = .ok (.iaload, 1) := by decide +kernel
theorem dX6_areBoth_6 : decode cX6_areBoth 6 = .ok (.iconst 1, 1) := by decide +kernel
theorem dX6_areBoth_7 : decode cX6_areBoth 7 = .ok (.if_icmp .eq 13, 3) := by decide +kernel
theorem dX6_areBoth_10 : decode cX6_areBoth 10 = .ok (.aload_n 0, 1) := by decide +kernel
theorem dX6_areBoth_11 : decode cX6_areBoth 11 = .ok (.getfield 7, 3) := by decide +kernel
theorem dX6_areBoth_14 : decode cX6_areBoth 14 = .ok (.iconst 0, 1) := by decide +kernel
theorem dX6_areBoth_15 : decode cX6_areBoth 15 = .ok (.iaload, 1) := by decide +kernel
theorem dX6_areBoth_16 : decode cX6_areBoth 16 = .ok (.iconst 2, 1) := by decide +kernel
theorem dX6_areBoth_17 : decode cX6_areBoth 17 = .ok (.if_icmp .ne 7, 3) := by decide +kernel
theorem dX6_areBoth_20 : decode cX6_areBoth 20 = .ok (.iconst 1, 1) := by decide +kernel
theorem dX6_areBoth_21 : decode cX6_areBoth 21 = .ok (.goto 4, 3) := by decide +kernel
theorem dX6_areBoth_24 : decode cX6_areBoth 24 = .ok (.iconst 0, 1) := by decide +kernel
theorem dX6_areBoth_25 : decode cX6_areBoth 25 = .ok (.ireturn, 1) := by decide +kernel
theorem dX6_first_0 : decode cX6_first 0 = .ok (.aload_n 0, 1) := by decide +kernel
theorem dX6_first_1 : decode cX6_first 1 = .ok (.getfield 7, 3) := by decide +kernel
theorem dX6_first_4 : decode cX6_first 4 = .ok (.iconst 0, 1) := by decide +kernel
theorem dX6_first_5 : decode cX6_first 5 = .ok (.iaload, 1) := by decide +kernel
theorem dX6_first_6 : decode cX6_first 6 = .ok (.iconst 2, 1) := by decide +kernel
theorem dX6_first_7 : decode cX6_first 7 = .ok (.if_icmp .ge 7, 3) := by decide +kernel
theorem dX6_first_10 : decode cX6_first 10 = .ok (.iconst 0, 1) := by decide +kernel
theorem dX6_first_11 : decode cX6_first 11 = .ok (.goto 4, 3) := by decide +kernel
theorem dX6_first_14 : decode cX6_first 14 = .ok (.iconst 1, 1) := by decide +kernel
theorem dX6_first_15 : decode cX6_first 15 = .ok (.ireturn, 1) := by decide +kernel
theorem dX6_keeps_0 : decode cX6_keeps 0 = .ok (.iconst 0, 1) := by decide +kernel
theorem dX6_keeps_1 : decode cX6_keeps 1 = .ok (.istore_n 1, 1) := by decide +kernel
theorem dX6_keeps_2 : decode cX6_keeps 2 = .ok (.iload_n 1, 1) := by decide +kernel
theorem dX6_keeps_3 : decode cX6_keeps 3 = .ok (.sipush 411, 3) := by decide +kernel
theorem dX6_keeps_6 : decode cX6_keeps 6 = .ok (.if_icmp .ge 21, 3) := by decide +kernel
theorem dX6_keeps_9 : decode cX6_keeps 9 = .ok (.aload_n 0, 1) := by decide +kernel
theorem dX6_keeps_10 : decode cX6_keeps 10 = .ok (.getfield 16, 3) := by decide +kernel
theorem dX6_keeps_13 : decode cX6_keeps 13 = .ok (.iload_n 1, 1) := by decide +kernel
theorem dX6_keeps_14 : decode cX6_keeps 14 = .ok (.aload_n 0, 1) := by decide +kernel
theorem dX6_keeps_15 : decode cX6_keeps 15 = .ok (.getfield 7, 3) := by decide +kernel
theorem dX6_keeps_18 : decode cX6_keeps 18 = .ok (.iload_n 1, 1) := by decide +kernel
theorem dX6_keeps_19 : decode cX6_keeps 19 = .ok (.iaload, 1) := by decide +kernel
theorem dX6_keeps_20 : decode cX6_keeps 20 = .ok (.iastore, 1) := by decide +kernel
theorem dX6_keeps_21 : decode cX6_keeps 21 = .ok (.iinc 1 1, 3) := by decide +kernel
theorem dX6_keeps_24 : decode cX6_keeps 24 = .ok (.goto (-22), 3) := by decide +kernel
theorem dX6_keeps_27 : decode cX6_keeps 27 = .ok (.return_, 1) := by decide +kernel
theorem dX6_acted_0 : decode cX6_acted 0 = .ok (.iload_n 1, 1) := by decide +kernel
theorem dX6_acted_1 : decode cX6_acted 1 = .ok (.ldc 39, 2) := by decide +kernel
theorem dX6_acted_3 : decode cX6_acted 3 = .ok (.if_icmp .le 98, 3) := by decide +kernel
theorem dX6_acted_6 : decode cX6_acted 6 = .ok (.aload_n 0, 1) := by decide +kernel
theorem dX6_acted_7 : decode cX6_acted 7 = .ok (.getfield 40, 3) := by decide +kernel
theorem dX6_acted_10 : decode cX6_acted 10 = .ok (.iconst 4, 1) := by decide +kernel
theorem dX6_acted_11 : decode cX6_acted 11 = .ok (.if_icmp .ne 44, 3) := by decide +kernel
theorem dX6_acted_14 : decode cX6_acted 14 = .ok (.iconst 0, 1) := by decide +kernel
theorem dX6_acted_15 : decode cX6_acted 15 = .ok (.istore_n 2, 1) := by decide +kernel
theorem dX6_acted_16 : decode cX6_acted 16 = .ok (.iload_n 2, 1) := by decide +kernel
theorem dX6_acted_17 : decode cX6_acted 17 = .ok (.sipush 1233, 3) := by decide +kernel
theorem dX6_acted_20 : decode cX6_acted 20 = .ok (.if_icmp .ge 25, 3) := by decide +kernel
theorem dX6_acted_23 : decode cX6_acted 23 = .ok (.aload_n 0, 1) := by decide +kernel
theorem dX6_acted_24 : decode cX6_acted 24 = .ok (.getfield 13, 3) := by decide +kernel
theorem dX6_acted_27 : decode cX6_acted 27 = .ok (.iload_n 2, 1) := by decide +kernel
theorem dX6_acted_28 : decode cX6_acted 28 = .ok (.aload_n 0, 1) := by decide +kernel
theorem dX6_acted_29 : decode cX6_acted 29 = .ok (.getfield 13, 3) := by decide +kernel
theorem dX6_acted_32 : decode cX6_acted 32 = .ok (.iload_n 2, 1) := by decide +kernel
theorem dX6_acted_33 : decode cX6_acted 33 = .ok (.sipush 411, 3) := by decide +kernel
theorem dX6_acted_36 : decode cX6_acted 36 = .ok (.iadd, 1) := by decide +kernel
theorem dX6_acted_37 : decode cX6_acted 37 = .ok (.iaload, 1) := by decide +kernel
theorem dX6_acted_38 : decode cX6_acted 38 = .ok (.iastore, 1) := by decide +kernel
theorem dX6_acted_39 : decode cX6_acted 39 = .ok (.iinc 2 1, 3) := by decide +kernel
theorem dX6_acted_42 : decode cX6_acted 42 = .ok (.goto (-26), 3) := by decide +kernel
theorem dX6_acted_45 : decode cX6_acted 45 = .ok (.aload_n 0, 1) := by decide +kernel
theorem dX6_acted_46 : decode cX6_acted 46 = .ok (.dup, 1) := by decide +kernel
theorem dX6_acted_47 : decode cX6_acted 47 = .ok (.getfield 40, 3) := by decide +kernel
theorem dX6_acted_50 : decode cX6_acted 50 = .ok (.iconst 1, 1) := by decide +kernel
theorem dX6_acted_51 : decode cX6_acted 51 = .ok (.isub, 1) := by decide +kernel
theorem dX6_acted_52 : decode cX6_acted 52 = .ok (.putfield 40, 3) := by decide +kernel
theorem dX6_acted_55 : decode cX6_acted 55 = .ok (.iconst 0, 1) := by decide +kernel
theorem dX6_acted_56 : decode cX6_acted 56 = .ok (.istore_n 2, 1) := by decide +kernel
theorem dX6_acted_57 : decode cX6_acted 57 = .ok (.iload_n 2, 1) := by decide +kernel
theorem dX6_acted_58 : decode cX6_acted 58 = .ok (.sipush 411, 3) := by decide +kernel
theorem dX6_acted_61 : decode cX6_acted 61 = .ok (.if_icmp .ge 30, 3) := by decide +kernel
theorem dX6_acted_64 : decode cX6_acted 64 = .ok (.aload_n 0, 1) := by decide +kernel
theorem dX6_acted_65 : decode cX6_acted 65 = .ok (.getfield 13, 3) := by decide +kernel
theorem dX6_acted_68 : decode cX6_acted 68 = .ok (.sipush 411, 3) := by decide +kernel
theorem dX6_acted_71 : decode cX6_acted 71 = .ok (.aload_n 0, 1) := by decide +kernel
theorem dX6_acted_72 : decode cX6_acted 72 = .ok (.getfield 40, 3) := by decide +kernel
theorem dX6_acted_75 : decode cX6_acted 75 = .ok (.imul, 1) := by decide +kernel
theorem dX6_acted_76 : decode cX6_acted 76 = .ok (.iload_n 2, 1) := by decide +kernel
theorem dX6_acted_77 : decode cX6_acted 77 = .ok (.iadd, 1) := by decide +kernel
theorem dX6_acted_78 : decode cX6_acted 78 = .ok (.aload_n 0, 1) := by decide +kernel
theorem dX6_acted_79 : decode cX6_acted 79 = .ok (.getfield 16, 3) := by decide +kernel
theorem dX6_acted_82 : decode cX6_acted 82 = .ok (.iload_n 2, 1) := by decide +kernel
theorem dX6_acted_83 : decode cX6_acted 83 = .ok (.iaload, 1) := by decide +kernel
theorem dX6_acted_84 : decode cX6_acted 84 = .ok (.iastore, 1) := by decide +kernel
theorem dX6_acted_85 : decode cX6_acted 85 = .ok (.iinc 2 1, 3) := by decide +kernel
theorem dX6_acted_88 : decode cX6_acted 88 = .ok (.goto (-31), 3) := by decide +kernel
theorem dX6_acted_91 : decode cX6_acted 91 = .ok (.aload_n 0, 1) := by decide +kernel
theorem dX6_acted_92 : decode cX6_acted 92 = .ok (.dup, 1) := by decide +kernel
theorem dX6_acted_93 : decode cX6_acted 93 = .ok (.getfield 40, 3) := by decide +kernel
theorem dX6_acted_96 : decode cX6_acted 96 = .ok (.iconst 1, 1) := by decide +kernel
theorem dX6_acted_97 : decode cX6_acted 97 = .ok (.iadd, 1) := by decide +kernel
theorem dX6_acted_98 : decode cX6_acted 98 = .ok (.putfield 40, 3) := by decide +kernel
theorem dX6_acted_101 : decode cX6_acted 101 = .ok (.iload_n 1, 1) := by decide +kernel
theorem dX6_acted_102 : decode cX6_acted 102 = .ok (.ireturn, 1) := by decide +kernel
theorem dX6_restores_0 : decode cX6_restores 0 = .ok (.iconst 0, 1) := by decide +kernel
theorem dX6_restores_1 : decode cX6_restores 1 = .ok (.istore_n 1, 1) := by decide +kernel
theorem dX6_restores_2 : decode cX6_restores 2 = .ok (.iload_n 1, 1) := by decide +kernel
theorem dX6_restores_3 : decode cX6_restores 3 = .ok (.sipush 411, 3) := by decide +kernel
theorem dX6_restores_6 : decode cX6_restores 6 = .ok (.if_icmp .ge 21, 3) := by decide +kernel
theorem dX6_restores_9 : decode cX6_restores 9 = .ok (.aload_n 0, 1) := by decide +kernel
theorem dX6_restores_10 : decode cX6_restores 10 = .ok (.getfield 7, 3) := by decide +kernel
theorem dX6_restores_13 : decode cX6_restores 13 = .ok (.iload_n 1, 1) := by decide +kernel
theorem dX6_restores_14 : decode cX6_restores 14 = .ok (.aload_n 0, 1) := by decide +kernel
theorem dX6_restores_15 : decode cX6_restores 15 = .ok (.getfield 19, 3) := by decide +kernel
theorem dX6_restores_18 : decode cX6_restores 18 = .ok (.iload_n 1, 1) := by decide +kernel
theorem dX6_restores_19 : decode cX6_restores 19 = .ok (.iaload, 1) := by decide +kernel
theorem dX6_restores_20 : decode cX6_restores 20 = .ok (.iastore, 1) := by decide +kernel
theorem dX6_restores_21 : decode cX6_restores 21 = .ok (.iinc 1 1, 3) := by decide +kernel
theorem dX6_restores_24 : decode cX6_restores 24 = .ok (.goto (-22), 3) := by decide +kernel
theorem dX6_restores_27 : decode cX6_restores 27 = .ok (.return_, 1) := by decide +kernel
theorem dX6_makes_0 : decode cX6_makes 0 = .ok (.aload_n 0, 1) := by decide +kernel
theorem dX6_makes_1 : decode cX6_makes 1 = .ok (.getfield 29, 3) := by decide +kernel
theorem dX6_makes_4 : decode cX6_makes 4 = .ok (.iconst 1, 1) := by decide +kernel
theorem dX6_makes_5 : decode cX6_makes 5 = .ok (.iaload, 1) := by decide +kernel
theorem dX6_makes_6 : decode cX6_makes 6 = .ok (.istore_n 3, 1) := by decide +kernel
theorem dX6_makes_7 : decode cX6_makes 7 = .ok (.aload_n 0, 1) := by decide +kernel
theorem dX6_makes_8 : decode cX6_makes 8 = .ok (.getfield 29, 3) := by decide +kernel
theorem dX6_makes_11 : decode cX6_makes 11 = .ok (.iconst 2, 1) := by decide +kernel
theorem dX6_makes_12 : decode cX6_makes 12 = .ok (.iaload, 1) := by decide +kernel
theorem dX6_makes_13 : decode cX6_makes 13 = .ok (.istore 4, 2) := by decide +kernel
theorem dX6_makes_15 : decode cX6_makes 15 = .ok (.iload_n 1, 1) := by decide +kernel
theorem dX6_makes_16 : decode cX6_makes 16 = .ok (.ifCond .ne 40, 3) := by decide +kernel
theorem dX6_makes_19 : decode cX6_makes 19 = .ok (.iload_n 2, 1) := by decide +kernel
theorem dX6_makes_20 : decode cX6_makes 20 = .ok (.iconst 1, 1) := by decide +kernel
theorem dX6_makes_21 : decode cX6_makes 21 = .ok (.if_icmp .ne 35, 3) := by decide +kernel
theorem dX6_makes_24 : decode cX6_makes 24 = .ok (.aload_n 0, 1) := by decide +kernel
theorem dX6_makes_25 : decode cX6_makes 25 = .ok (.getfield 29, 3) := by decide +kernel
theorem dX6_makes_28 : decode cX6_makes 28 = .ok (.iconst 1, 1) := by decide +kernel
theorem dX6_makes_29 : decode cX6_makes 29 = .ok (.bipush 10, 2) := by decide +kernel
theorem dX6_makes_31 : decode cX6_makes 31 = .ok (.iload_n 3, 1) := by decide +kernel
theorem dX6_makes_32 : decode cX6_makes 32 = .ok (.imul, 1) := by decide +kernel
theorem dX6_makes_33 : decode cX6_makes 33 = .ok (.iload 4, 2) := by decide +kernel
theorem dX6_makes_35 : decode cX6_makes 35 = .ok (.iadd, 1) := by decide +kernel
theorem dX6_makes_36 : decode cX6_makes 36 = .ok (.iastore, 1) := by decide +kernel
theorem dX6_makes_37 : decode cX6_makes 37 = .ok (.aload_n 0, 1) := by decide +kernel
theorem dX6_makes_38 : decode cX6_makes 38 = .ok (.getfield 29, 3) := by decide +kernel
theorem dX6_makes_41 : decode cX6_makes 41 = .ok (.iconst 2, 1) := by decide +kernel
theorem dX6_makes_42 : decode cX6_makes 42 = .ok (.aload_n 0, 1) := by decide +kernel
theorem dX6_makes_43 : decode cX6_makes 43 = .ok (.getfield 29, 3) := by decide +kernel
theorem dX6_makes_46 : decode cX6_makes 46 = .ok (.iconst 3, 1) := by decide +kernel
theorem dX6_makes_47 : decode cX6_makes 47 = .ok (.iaload, 1) := by decide +kernel
theorem dX6_makes_48 : decode cX6_makes 48 = .ok (.iastore, 1) := by decide +kernel
theorem dX6_makes_49 : decode cX6_makes 49 = .ok (.aload_n 0, 1) := by decide +kernel
theorem dX6_makes_50 : decode cX6_makes 50 = .ok (.getfield 29, 3) := by decide +kernel
theorem dX6_makes_53 : decode cX6_makes 53 = .ok (.iconst 3, 1) := by decide +kernel
theorem dX6_makes_54 : decode cX6_makes 54 = .ok (.iconst 0, 1) := by decide +kernel
theorem dX6_makes_55 : decode cX6_makes 55 = .ok (.iastore, 1) := by decide +kernel
theorem dX6_makes_56 : decode cX6_makes 56 = .ok (.iload_n 1, 1) := by decide +kernel
theorem dX6_makes_57 : decode cX6_makes 57 = .ok (.iconst 1, 1) := by decide +kernel
theorem dX6_makes_58 : decode cX6_makes 58 = .ok (.if_icmp .ne 43, 3) := by decide +kernel
theorem dX6_makes_61 : decode cX6_makes 61 = .ok (.iload_n 2, 1) := by decide +kernel
theorem dX6_makes_62 : decode cX6_makes 62 = .ok (.ifCond .ne 39, 3) := by decide +kernel
theorem dX6_makes_65 : decode cX6_makes 65 = .ok (.aload_n 0, 1) := by decide +kernel
theorem dX6_makes_66 : decode cX6_makes 66 = .ok (.getfield 29, 3) := by decide +kernel
theorem dX6_makes_69 : decode cX6_makes 69 = .ok (.iconst 1, 1) := by decide +kernel
theorem dX6_makes_70 : decode cX6_makes 70 = .ok (.iload_n 3, 1) := by decide +kernel
theorem dX6_makes_71 : decode cX6_makes 71 = .ok (.bipush 10, 2) := by decide +kernel
theorem dX6_makes_73 : decode cX6_makes 73 = .ok (.idiv, 1) := by decide +kernel
theorem dX6_makes_74 : decode cX6_makes 74 = .ok (.iastore, 1) := by decide +kernel
theorem dX6_makes_75 : decode cX6_makes 75 = .ok (.aload_n 0, 1) := by decide +kernel
theorem dX6_makes_76 : decode cX6_makes 76 = .ok (.getfield 29, 3) := by decide +kernel
theorem dX6_makes_79 : decode cX6_makes 79 = .ok (.iconst 2, 1) := by decide +kernel
theorem dX6_makes_80 : decode cX6_makes 80 = .ok (.iload_n 3, 1) := by decide +kernel
theorem dX6_makes_81 : decode cX6_makes 81 = .ok (.bipush 10, 2) := by decide +kernel
theorem dX6_makes_83 : decode cX6_makes 83 = .ok (.irem, 1) := by decide +kernel
theorem dX6_makes_84 : decode cX6_makes 84 = .ok (.iastore, 1) := by decide +kernel
theorem dX6_makes_85 : decode cX6_makes 85 = .ok (.aload_n 0, 1) := by decide +kernel
theorem dX6_makes_86 : decode cX6_makes 86 = .ok (.getfield 29, 3) := by decide +kernel
theorem dX6_makes_89 : decode cX6_makes 89 = .ok (.iconst 3, 1) := by decide +kernel
theorem dX6_makes_90 : decode cX6_makes 90 = .ok (.iload 4, 2) := by decide +kernel
theorem dX6_makes_92 : decode cX6_makes 92 = .ok (.ifCond .ne 7, 3) := by decide +kernel
theorem dX6_makes_95 : decode cX6_makes 95 = .ok (.iconst 0, 1) := by decide +kernel
theorem dX6_makes_96 : decode cX6_makes 96 = .ok (.goto 4, 3) := by decide +kernel
theorem dX6_makes_99 : decode cX6_makes 99 = .ok (.iconst 1, 1) := by decide +kernel
theorem dX6_makes_100 : decode cX6_makes 100 = .ok (.iastore, 1) := by decide +kernel
theorem dX6_makes_101 : decode cX6_makes 101 = .ok (.return_, 1) := by decide +kernel
theorem dX6_takes_0 : decode cX6_takes 0 = .ok (.iconst 0, 1) := by decide +kernel
theorem dX6_takes_1 : decode cX6_takes 1 = .ok (.istore_n 3, 1) := by decide +kernel
theorem dX6_takes_2 : decode cX6_takes 2 = .ok (.iload_n 3, 1) := by decide +kernel
theorem dX6_takes_3 : decode cX6_takes 3 = .ok (.iconst 4, 1) := by decide +kernel
theorem dX6_takes_4 : decode cX6_takes 4 = .ok (.if_icmp .ge 24, 3) := by decide +kernel
theorem dX6_takes_7 : decode cX6_takes 7 = .ok (.aload_n 0, 1) := by decide +kernel
theorem dX6_takes_8 : decode cX6_takes 8 = .ok (.getfield 29, 3) := by decide +kernel
theorem dX6_takes_11 : decode cX6_takes 11 = .ok (.iload_n 3, 1) := by decide +kernel
theorem dX6_takes_12 : decode cX6_takes 12 = .ok (.aload_n 0, 1) := by decide +kernel
theorem dX6_takes_13 : decode cX6_takes 13 = .ok (.iload_n 1, 1) := by decide +kernel
theorem dX6_takes_14 : decode cX6_takes 14 = .ok (.iload_n 2, 1) := by decide +kernel
theorem dX6_takes_15 : decode cX6_takes 15 = .ok (.iconst 1, 1) := by decide +kernel
theorem dX6_takes_16 : decode cX6_takes 16 = .ok (.iload_n 3, 1) := by decide +kernel
theorem dX6_takes_17 : decode cX6_takes 17 = .ok (.iadd, 1) := by decide +kernel
theorem dX6_takes_18 : decode cX6_takes 18 = .ok (.invokevirtual 44, 3) := by decide +kernel
theorem dX6_takes_21 : decode cX6_takes 21 = .ok (.iastore, 1) := by decide +kernel
theorem dX6_takes_22 : decode cX6_takes 22 = .ok (.iinc 3 1, 3) := by decide +kernel
theorem dX6_takes_25 : decode cX6_takes 25 = .ok (.goto (-23), 3) := by decide +kernel
theorem dX6_takes_28 : decode cX6_takes 28 = .ok (.return_, 1) := by decide +kernel
theorem dX6_lays_0 : decode cX6_lays 0 = .ok (.iload_n 1, 1) := by decide +kernel
theorem dX6_lays_1 : decode cX6_lays 1 = .ok (.iload_n 2, 1) := by decide +kernel
theorem dX6_lays_2 : decode cX6_lays 2 = .ok (.invokestatic 35, 3) := by decide +kernel
theorem dX6_lays_5 : decode cX6_lays 5 = .ok (.istore 4, 2) := by decide +kernel
theorem dX6_lays_7 : decode cX6_lays 7 = .ok (.aload_n 0, 1) := by decide +kernel
theorem dX6_lays_8 : decode cX6_lays 8 = .ok (.getfield 7, 3) := by decide +kernel
theorem dX6_lays_11 : decode cX6_lays 11 = .ok (.iload 4, 2) := by decide +kernel
theorem dX6_lays_13 : decode cX6_lays 13 = .ok (.iconst 0, 1) := by decide +kernel
theorem dX6_lays_14 : decode cX6_lays 14 = .ok (.iadd, 1) := by decide +kernel
theorem dX6_lays_15 : decode cX6_lays 15 = .ok (.iload_n 3, 1) := by decide +kernel
theorem dX6_lays_16 : decode cX6_lays 16 = .ok (.iastore, 1) := by decide +kernel
theorem dX6_lays_17 : decode cX6_lays 17 = .ok (.iconst 0, 1) := by decide +kernel
theorem dX6_lays_18 : decode cX6_lays 18 = .ok (.istore 5, 2) := by decide +kernel
theorem dX6_lays_20 : decode cX6_lays 20 = .ok (.iload 5, 2) := by decide +kernel
theorem dX6_lays_22 : decode cX6_lays 22 = .ok (.iconst 4, 1) := by decide +kernel
theorem dX6_lays_23 : decode cX6_lays 23 = .ok (.if_icmp .ge 41, 3) := by decide +kernel
theorem dX6_lays_26 : decode cX6_lays 26 = .ok (.aload_n 0, 1) := by decide +kernel
theorem dX6_lays_27 : decode cX6_lays 27 = .ok (.getfield 7, 3) := by decide +kernel
theorem dX6_lays_30 : decode cX6_lays 30 = .ok (.iload 4, 2) := by decide +kernel
theorem dX6_lays_32 : decode cX6_lays 32 = .ok (.iconst 1, 1) := by decide +kernel
theorem dX6_lays_33 : decode cX6_lays 33 = .ok (.iadd, 1) := by decide +kernel
theorem dX6_lays_34 : decode cX6_lays 34 = .ok (.iload 5, 2) := by decide +kernel
theorem dX6_lays_36 : decode cX6_lays 36 = .ok (.iadd, 1) := by decide +kernel
theorem dX6_lays_37 : decode cX6_lays 37 = .ok (.aload_n 0, 1) := by decide +kernel
theorem dX6_lays_38 : decode cX6_lays 38 = .ok (.getfield 29, 3) := by decide +kernel
theorem dX6_lays_41 : decode cX6_lays 41 = .ok (.iconst 0, 1) := by decide +kernel
theorem dX6_lays_42 : decode cX6_lays 42 = .ok (.iaload, 1) := by decide +kernel
theorem dX6_lays_43 : decode cX6_lays 43 = .ok (.ifCond .ne 7, 3) := by decide +kernel
theorem dX6_lays_46 : decode cX6_lays 46 = .ok (.iconst 0, 1) := by decide +kernel
theorem dX6_lays_47 : decode cX6_lays 47 = .ok (.goto 10, 3) := by decide +kernel
theorem dX6_lays_50 : decode cX6_lays 50 = .ok (.aload_n 0, 1) := by decide +kernel
theorem dX6_lays_51 : decode cX6_lays 51 = .ok (.getfield 29, 3) := by decide +kernel
theorem dX6_lays_54 : decode cX6_lays 54 = .ok (.iload 5, 2) := by decide +kernel
theorem dX6_lays_56 : decode cX6_lays 56 = .ok (.iaload, 1) := by decide +kernel
theorem dX6_lays_57 : decode cX6_lays 57 = .ok (.iastore, 1) := by decide +kernel
theorem dX6_lays_58 : decode cX6_lays 58 = .ok (.iinc 5 1, 3) := by decide +kernel
theorem dX6_lays_61 : decode cX6_lays 61 = .ok (.goto (-41), 3) := by decide +kernel
theorem dX6_lays_64 : decode cX6_lays 64 = .ok (.return_, 1) := by decide +kernel
theorem dX6_rows_0 : decode cX6_rows 0 = .ok (.iconst 0, 1) := by decide +kernel
theorem dX6_rows_1 : decode cX6_rows 1 = .ok (.istore_n 2, 1) := by decide +kernel
theorem dX6_rows_2 : decode cX6_rows 2 = .ok (.iconst 0, 1) := by decide +kernel
theorem dX6_rows_3 : decode cX6_rows 3 = .ok (.istore_n 3, 1) := by decide +kernel
theorem dX6_rows_4 : decode cX6_rows 4 = .ok (.iload_n 3, 1) := by decide +kernel
theorem dX6_rows_5 : decode cX6_rows 5 = .ok (.bipush 31, 2) := by decide +kernel
theorem dX6_rows_7 : decode cX6_rows 7 = .ok (.if_icmp .ge 19, 3) := by decide +kernel
theorem dX6_rows_10 : decode cX6_rows 10 = .ok (.iload_n 2, 1) := by decide +kernel
theorem dX6_rows_11 : decode cX6_rows 11 = .ok (.aload_n 0, 1) := by decide +kernel
theorem dX6_rows_12 : decode cX6_rows 12 = .ok (.iload_n 1, 1) := by decide +kernel
theorem dX6_rows_13 : decode cX6_rows 13 = .ok (.iload_n 3, 1) := by decide +kernel
theorem dX6_rows_14 : decode cX6_rows 14 = .ok (.iconst 1, 1) := by decide +kernel
theorem dX6_rows_15 : decode cX6_rows 15 = .ok (.invokevirtual 44, 3) := by decide +kernel
theorem dX6_rows_18 : decode cX6_rows 18 = .ok (.iadd, 1) := by decide +kernel
theorem dX6_rows_19 : decode cX6_rows 19 = .ok (.istore_n 2, 1) := by decide +kernel
theorem dX6_rows_20 : decode cX6_rows 20 = .ok (.iinc 3 1, 3) := by decide +kernel
theorem dX6_rows_23 : decode cX6_rows 23 = .ok (.goto (-19), 3) := by decide +kernel
theorem dX6_rows_26 : decode cX6_rows 26 = .ok (.iload_n 2, 1) := by decide +kernel
theorem dX6_rows_27 : decode cX6_rows 27 = .ok (.ireturn, 1) := by decide +kernel
theorem dX6_clears_0 : decode cX6_clears 0 = .ok (.iconst 0, 1) := by decide +kernel
theorem dX6_clears_1 : decode cX6_clears 1 = .ok (.istore_n 2, 1) := by decide +kernel
theorem dX6_clears_2 : decode cX6_clears 2 = .ok (.iload_n 2, 1) := by decide +kernel
theorem dX6_clears_3 : decode cX6_clears 3 = .ok (.sipush 155, 3) := by decide +kernel
theorem dX6_clears_6 : decode cX6_clears 6 = .ok (.if_icmp .ge 25, 3) := by decide +kernel
theorem dX6_clears_9 : decode cX6_clears 9 = .ok (.aload_n 0, 1) := by decide +kernel
theorem dX6_clears_10 : decode cX6_clears 10 = .ok (.getfield 7, 3) := by decide +kernel
theorem dX6_clears_13 : decode cX6_clears 13 = .ok (.bipush 101, 2) := by decide +kernel
theorem dX6_clears_15 : decode cX6_clears 15 = .ok (.sipush 155, 3) := by decide +kernel
theorem dX6_clears_18 : decode cX6_clears 18 = .ok (.iload_n 1, 1) := by decide +kernel
theorem dX6_clears_19 : decode cX6_clears 19 = .ok (.imul, 1) := by decide +kernel
theorem dX6_clears_20 : decode cX6_clears 20 = .ok (.iadd, 1) := by decide +kernel
theorem dX6_clears_21 : decode cX6_clears 21 = .ok (.iload_n 2, 1) := by decide +kernel
theorem dX6_clears_22 : decode cX6_clears 22 = .ok (.iadd, 1) := by decide +kernel
theorem dX6_clears_23 : decode cX6_clears 23 = .ok (.iconst 0, 1) := by decide +kernel
theorem dX6_clears_24 : decode cX6_clears 24 = .ok (.iastore, 1) := by decide +kernel
theorem dX6_clears_25 : decode cX6_clears 25 = .ok (.iinc 2 1, 3) := by decide +kernel
theorem dX6_clears_28 : decode cX6_clears 28 = .ok (.goto (-26), 3) := by decide +kernel
theorem dX6_clears_31 : decode cX6_clears 31 = .ok (.return_, 1) := by decide +kernel
theorem dX6_differs_0 : decode cX6_differs 0 = .ok (.aload_n 0, 1) := by decide +kernel
theorem dX6_differs_1 : decode cX6_differs 1 = .ok (.iconst 0, 1) := by decide +kernel
theorem dX6_differs_2 : decode cX6_differs 2 = .ok (.iload_n 1, 1) := by decide +kernel
theorem dX6_differs_3 : decode cX6_differs 3 = .ok (.iconst 0, 1) := by decide +kernel
theorem dX6_differs_4 : decode cX6_differs 4 = .ok (.invokevirtual 44, 3) := by decide +kernel
theorem dX6_differs_7 : decode cX6_differs 7 = .ok (.aload_n 0, 1) := by decide +kernel
theorem dX6_differs_8 : decode cX6_differs 8 = .ok (.iconst 1, 1) := by decide +kernel
theorem dX6_differs_9 : decode cX6_differs 9 = .ok (.iload_n 1, 1) := by decide +kernel
theorem dX6_differs_10 : decode cX6_differs 10 = .ok (.iconst 0, 1) := by decide +kernel
theorem dX6_differs_11 : decode cX6_differs 11 = .ok (.invokevirtual 44, 3) := by decide +kernel
theorem dX6_differs_14 : decode cX6_differs 14 = .ok (.if_icmp .eq 5, 3) := by decide +kernel
theorem dX6_differs_17 : decode cX6_differs 17 = .ok (.iconst 1, 1) := by decide +kernel
theorem dX6_differs_18 : decode cX6_differs 18 = .ok (.ireturn, 1) := by decide +kernel
theorem dX6_differs_19 : decode cX6_differs 19 = .ok (.aload_n 0, 1) := by decide +kernel
theorem dX6_differs_20 : decode cX6_differs 20 = .ok (.iconst 1, 1) := by decide +kernel
theorem dX6_differs_21 : decode cX6_differs 21 = .ok (.iload_n 1, 1) := by decide +kernel
theorem dX6_differs_22 : decode cX6_differs 22 = .ok (.invokevirtual 48, 3) := by decide +kernel
theorem dX6_differs_25 : decode cX6_differs 25 = .ok (.aload_n 0, 1) := by decide +kernel
theorem dX6_differs_26 : decode cX6_differs 26 = .ok (.iconst 1, 1) := by decide +kernel
theorem dX6_differs_27 : decode cX6_differs 27 = .ok (.iconst 0, 1) := by decide +kernel
theorem dX6_differs_28 : decode cX6_differs 28 = .ok (.invokevirtual 52, 3) := by decide +kernel
theorem dX6_differs_31 : decode cX6_differs 31 = .ok (.aload_n 0, 1) := by decide +kernel
theorem dX6_differs_32 : decode cX6_differs 32 = .ok (.getfield 29, 3) := by decide +kernel
theorem dX6_differs_35 : decode cX6_differs 35 = .ok (.iconst 0, 1) := by decide +kernel
theorem dX6_differs_36 : decode cX6_differs 36 = .ok (.iaload, 1) := by decide +kernel
theorem dX6_differs_37 : decode cX6_differs 37 = .ok (.aload_n 0, 1) := by decide +kernel
theorem dX6_differs_38 : decode cX6_differs 38 = .ok (.iconst 0, 1) := by decide +kernel
theorem dX6_differs_39 : decode cX6_differs 39 = .ok (.iload_n 1, 1) := by decide +kernel
theorem dX6_differs_40 : decode cX6_differs 40 = .ok (.iconst 1, 1) := by decide +kernel
theorem dX6_differs_41 : decode cX6_differs 41 = .ok (.invokevirtual 44, 3) := by decide +kernel
theorem dX6_differs_44 : decode cX6_differs 44 = .ok (.if_icmp .eq 7, 3) := by decide +kernel
theorem dX6_differs_47 : decode cX6_differs 47 = .ok (.iconst 1, 1) := by decide +kernel
theorem dX6_differs_48 : decode cX6_differs 48 = .ok (.goto 4, 3) := by decide +kernel
theorem dX6_differs_51 : decode cX6_differs 51 = .ok (.iconst 0, 1) := by decide +kernel
theorem dX6_differs_52 : decode cX6_differs 52 = .ok (.istore_n 2, 1) := by decide +kernel
theorem dX6_differs_53 : decode cX6_differs 53 = .ok (.iconst 1, 1) := by decide +kernel
theorem dX6_differs_54 : decode cX6_differs 54 = .ok (.istore_n 3, 1) := by decide +kernel
theorem dX6_differs_55 : decode cX6_differs 55 = .ok (.iload_n 3, 1) := by decide +kernel
theorem dX6_differs_56 : decode cX6_differs 56 = .ok (.iconst 4, 1) := by decide +kernel
theorem dX6_differs_57 : decode cX6_differs 57 = .ok (.if_icmp .ge 47, 3) := by decide +kernel
theorem dX6_differs_60 : decode cX6_differs 60 = .ok (.iload_n 2, 1) := by decide +kernel
theorem dX6_differs_61 : decode cX6_differs 61 = .ok (.ifCond .ne 31, 3) := by decide +kernel
theorem dX6_differs_64 : decode cX6_differs 64 = .ok (.aload_n 0, 1) := by decide +kernel
theorem dX6_differs_65 : decode cX6_differs 65 = .ok (.getfield 29, 3) := by decide +kernel
theorem dX6_differs_68 : decode cX6_differs 68 = .ok (.iconst 0, 1) := by decide +kernel
theorem dX6_differs_69 : decode cX6_differs 69 = .ok (.iaload, 1) := by decide +kernel
theorem dX6_differs_70 : decode cX6_differs 70 = .ok (.iconst 1, 1) := by decide +kernel
theorem dX6_differs_71 : decode cX6_differs 71 = .ok (.if_icmp .ne 25, 3) := by decide +kernel
theorem dX6_differs_74 : decode cX6_differs 74 = .ok (.aload_n 0, 1) := by decide +kernel
theorem dX6_differs_75 : decode cX6_differs 75 = .ok (.getfield 29, 3) := by decide +kernel
theorem dX6_differs_78 : decode cX6_differs 78 = .ok (.iload_n 3, 1) := by decide +kernel
theorem dX6_differs_79 : decode cX6_differs 79 = .ok (.iaload, 1) := by decide +kernel
theorem dX6_differs_80 : decode cX6_differs 80 = .ok (.aload_n 0, 1) := by decide +kernel
theorem dX6_differs_81 : decode cX6_differs 81 = .ok (.iconst 0, 1) := by decide +kernel
theorem dX6_differs_82 : decode cX6_differs 82 = .ok (.iload_n 1, 1) := by decide +kernel
theorem dX6_differs_83 : decode cX6_differs 83 = .ok (.iconst 1, 1) := by decide +kernel
theorem dX6_differs_84 : decode cX6_differs 84 = .ok (.iload_n 3, 1) := by decide +kernel
theorem dX6_differs_85 : decode cX6_differs 85 = .ok (.iadd, 1) := by decide +kernel
theorem dX6_differs_86 : decode cX6_differs 86 = .ok (.invokevirtual 44, 3) := by decide +kernel
theorem dX6_differs_89 : decode cX6_differs 89 = .ok (.if_icmp .eq 7, 3) := by decide +kernel
theorem dX6_differs_92 : decode cX6_differs 92 = .ok (.iconst 1, 1) := by decide +kernel
theorem dX6_differs_93 : decode cX6_differs 93 = .ok (.goto 4, 3) := by decide +kernel
theorem dX6_differs_96 : decode cX6_differs 96 = .ok (.iconst 0, 1) := by decide +kernel
theorem dX6_differs_97 : decode cX6_differs 97 = .ok (.istore_n 2, 1) := by decide +kernel
theorem dX6_differs_98 : decode cX6_differs 98 = .ok (.iinc 3 1, 3) := by decide +kernel
theorem dX6_differs_101 : decode cX6_differs 101 = .ok (.goto (-46), 3) := by decide +kernel
theorem dX6_differs_104 : decode cX6_differs 104 = .ok (.iload_n 2, 1) := by decide +kernel
theorem dX6_differs_105 : decode cX6_differs 105 = .ok (.ireturn, 1) := by decide +kernel
theorem dX6_differing_0 : decode cX6_differing 0 = .ok (.iconst 0, 1) := by decide +kernel
theorem dX6_differing_1 : decode cX6_differing 1 = .ok (.istore_n 1, 1) := by decide +kernel
theorem dX6_differing_2 : decode cX6_differing 2 = .ok (.iconst 0, 1) := by decide +kernel
theorem dX6_differing_3 : decode cX6_differing 3 = .ok (.istore_n 2, 1) := by decide +kernel
theorem dX6_differing_4 : decode cX6_differing 4 = .ok (.iload_n 2, 1) := by decide +kernel
theorem dX6_differing_5 : decode cX6_differing 5 = .ok (.bipush 31, 2) := by decide +kernel
theorem dX6_differing_7 : decode cX6_differing 7 = .ok (.if_icmp .ge 27, 3) := by decide +kernel
theorem dX6_differing_10 : decode cX6_differing 10 = .ok (.iload_n 1, 1) := by decide +kernel
theorem dX6_differing_11 : decode cX6_differing 11 = .ok (.aload_n 0, 1) := by decide +kernel
theorem dX6_differing_12 : decode cX6_differing 12 = .ok (.iload_n 2, 1) := by decide +kernel
theorem dX6_differing_13 : decode cX6_differing 13 = .ok (.invokevirtual 55, 3) := by decide +kernel
theorem dX6_differing_16 : decode cX6_differing 16 = .ok (.ifCond .eq 9, 3) := by decide +kernel
theorem dX6_differing_19 : decode cX6_differing 19 = .ok (.iconst 1, 1) := by decide +kernel
theorem dX6_differing_20 : decode cX6_differing 20 = .ok (.iload_n 2, 1) := by decide +kernel
theorem dX6_differing_21 : decode cX6_differing 21 = .ok (.ishl, 1) := by decide +kernel
theorem dX6_differing_22 : decode cX6_differing 22 = .ok (.goto 4, 3) := by decide +kernel
theorem dX6_differing_25 : decode cX6_differing 25 = .ok (.iconst 0, 1) := by decide +kernel
theorem dX6_differing_26 : decode cX6_differing 26 = .ok (.ior, 1) := by decide +kernel
theorem dX6_differing_27 : decode cX6_differing 27 = .ok (.istore_n 1, 1) := by decide +kernel
theorem dX6_differing_28 : decode cX6_differing 28 = .ok (.iinc 2 1, 3) := by decide +kernel
theorem dX6_differing_31 : decode cX6_differing 31 = .ok (.goto (-27), 3) := by decide +kernel
theorem dX6_differing_34 : decode cX6_differing 34 = .ok (.iload_n 1, 1) := by decide +kernel
theorem dX6_differing_35 : decode cX6_differing 35 = .ok (.ireturn, 1) := by decide +kernel
theorem dX6_isReady_0 : decode cX6_isReady 0 = .ok (.aload_n 0, 1) := by decide +kernel
theorem dX6_isReady_1 : decode cX6_isReady 1 = .ok (.getfield 7, 3) := by decide +kernel
theorem dX6_isReady_4 : decode cX6_isReady 4 = .ok (.iconst 0, 1) := by decide +kernel
theorem dX6_isReady_5 : decode cX6_isReady 5 = .ok (.iaload, 1) := by decide +kernel
theorem dX6_isReady_6 : decode cX6_isReady 6 = .ok (.iconst 1, 1) := by decide +kernel
theorem dX6_isReady_7 : decode cX6_isReady 7 = .ok (.if_icmp .ne 34, 3) := by decide +kernel
theorem dX6_isReady_10 : decode cX6_isReady 10 = .ok (.aload_n 0, 1) := by decide +kernel
theorem dX6_isReady_11 : decode cX6_isReady 11 = .ok (.getfield 7, 3) := by decide +kernel
theorem dX6_isReady_14 : decode cX6_isReady 14 = .ok (.iconst 2, 1) := by decide +kernel
theorem dX6_isReady_15 : decode cX6_isReady 15 = .ok (.iaload, 1) := by decide +kernel
theorem dX6_isReady_16 : decode cX6_isReady 16 = .ok (.bipush 31, 2) := by decide +kernel
theorem dX6_isReady_18 : decode cX6_isReady 18 = .ok (.if_icmp .ne 23, 3) := by decide +kernel
theorem dX6_isReady_21 : decode cX6_isReady 21 = .ok (.aload_n 0, 1) := by decide +kernel
theorem dX6_isReady_22 : decode cX6_isReady 22 = .ok (.getfield 7, 3) := by decide +kernel
theorem dX6_isReady_25 : decode cX6_isReady 25 = .ok (.iconst 3, 1) := by decide +kernel
theorem dX6_isReady_26 : decode cX6_isReady 26 = .ok (.iaload, 1) := by decide +kernel
theorem dX6_isReady_27 : decode cX6_isReady 27 = .ok (.ifCond .ne 14, 3) := by decide +kernel
theorem dX6_isReady_30 : decode cX6_isReady 30 = .ok (.aload_n 0, 1) := by decide +kernel
theorem dX6_isReady_31 : decode cX6_isReady 31 = .ok (.invokevirtual 59, 3) := by decide +kernel
theorem dX6_isReady_34 : decode cX6_isReady 34 = .ok (.ifCond .ne 7, 3) := by decide +kernel
theorem dX6_isReady_37 : decode cX6_isReady 37 = .ok (.iconst 1, 1) := by decide +kernel
theorem dX6_isReady_38 : decode cX6_isReady 38 = .ok (.goto 4, 3) := by decide +kernel
theorem dX6_isReady_41 : decode cX6_isReady 41 = .ok (.iconst 0, 1) := by decide +kernel
theorem dX6_isReady_42 : decode cX6_isReady 42 = .ok (.ireturn, 1) := by decide +kernel
theorem dX6_begin_0 : decode cX6_begin 0 = .ok (.aload_n 0, 1) := by decide +kernel
theorem dX6_begin_1 : decode cX6_begin 1 = .ok (.getfield 7, 3) := by decide +kernel
theorem dX6_begin_4 : decode cX6_begin 4 = .ok (.iconst 0, 1) := by decide +kernel
theorem dX6_begin_5 : decode cX6_begin 5 = .ok (.iaload, 1) := by decide +kernel
theorem dX6_begin_6 : decode cX6_begin 6 = .ok (.ifCond .eq 6, 3) := by decide +kernel
theorem dX6_begin_9 : decode cX6_begin 9 = .ok (.ldc 63, 2) := by decide +kernel
theorem dX6_begin_11 : decode cX6_begin 11 = .ok (.ireturn, 1) := by decide +kernel
theorem dX6_begin_12 : decode cX6_begin 12 = .ok (.aload_n 0, 1) := by decide +kernel
theorem dX6_begin_13 : decode cX6_begin 13 = .ok (.invokevirtual 64, 3) := by decide +kernel
theorem dX6_begin_16 : decode cX6_begin 16 = .ok (.aload_n 0, 1) := by decide +kernel
theorem dX6_begin_17 : decode cX6_begin 17 = .ok (.getfield 7, 3) := by decide +kernel
theorem dX6_begin_20 : decode cX6_begin 20 = .ok (.iconst 0, 1) := by decide +kernel
theorem dX6_begin_21 : decode cX6_begin 21 = .ok (.iconst 1, 1) := by decide +kernel
theorem dX6_begin_22 : decode cX6_begin 22 = .ok (.iastore, 1) := by decide +kernel
theorem dX6_begin_23 : decode cX6_begin 23 = .ok (.aload_n 0, 1) := by decide +kernel
theorem dX6_begin_24 : decode cX6_begin 24 = .ok (.getfield 7, 3) := by decide +kernel
theorem dX6_begin_27 : decode cX6_begin 27 = .ok (.iconst 2, 1) := by decide +kernel
theorem dX6_begin_28 : decode cX6_begin 28 = .ok (.iconst 0, 1) := by decide +kernel
theorem dX6_begin_29 : decode cX6_begin 29 = .ok (.iastore, 1) := by decide +kernel
theorem dX6_begin_30 : decode cX6_begin 30 = .ok (.aload_n 0, 1) := by decide +kernel
theorem dX6_begin_31 : decode cX6_begin 31 = .ok (.iconst 1, 1) := by decide +kernel
theorem dX6_begin_32 : decode cX6_begin 32 = .ok (.invokevirtual 67, 3) := by decide +kernel
theorem dX6_begin_35 : decode cX6_begin 35 = .ok (.aload_n 0, 1) := by decide +kernel
theorem dX6_begin_36 : decode cX6_begin 36 = .ok (.aload_n 0, 1) := by decide +kernel
theorem dX6_begin_37 : decode cX6_begin 37 = .ok (.iconst 0, 1) := by decide +kernel
theorem dX6_begin_38 : decode cX6_begin 38 = .ok (.invokevirtual 71, 3) := by decide +kernel
theorem dX6_begin_41 : decode cX6_begin 41 = .ok (.invokevirtual 75, 3) := by decide +kernel
theorem dX6_begin_44 : decode cX6_begin 44 = .ok (.ireturn, 1) := by decide +kernel
theorem dX6_turns_0 : decode cX6_turns 0 = .ok (.aload_n 0, 1) := by decide +kernel
theorem dX6_turns_1 : decode cX6_turns 1 = .ok (.invokevirtual 78, 3) := by decide +kernel
theorem dX6_turns_4 : decode cX6_turns 4 = .ok (.ifCond .ne 6, 3) := by decide +kernel
theorem dX6_turns_7 : decode cX6_turns 7 = .ok (.ldc 63, 2) := by decide +kernel
theorem dX6_turns_9 : decode cX6_turns 9 = .ok (.ireturn, 1) := by decide +kernel
theorem dX6_turns_10 : decode cX6_turns 10 = .ok (.aload_n 0, 1) := by decide +kernel
theorem dX6_turns_11 : decode cX6_turns 11 = .ok (.getfield 7, 3) := by decide +kernel
theorem dX6_turns_14 : decode cX6_turns 14 = .ok (.iconst 0, 1) := by decide +kernel
theorem dX6_turns_15 : decode cX6_turns 15 = .ok (.iconst 2, 1) := by decide +kernel
theorem dX6_turns_16 : decode cX6_turns 16 = .ok (.iastore, 1) := by decide +kernel
theorem dX6_turns_17 : decode cX6_turns 17 = .ok (.aload_n 0, 1) := by decide +kernel
theorem dX6_turns_18 : decode cX6_turns 18 = .ok (.iconst 1, 1) := by decide +kernel
theorem dX6_turns_19 : decode cX6_turns 19 = .ok (.invokevirtual 71, 3) := by decide +kernel
theorem dX6_turns_22 : decode cX6_turns 22 = .ok (.ireturn, 1) := by decide +kernel
theorem dX6_turn_0 : decode cX6_turn 0 = .ok (.aload_n 0, 1) := by decide +kernel
theorem dX6_turn_1 : decode cX6_turn 1 = .ok (.invokevirtual 64, 3) := by decide +kernel
theorem dX6_turn_4 : decode cX6_turn 4 = .ok (.aload_n 0, 1) := by decide +kernel
theorem dX6_turn_5 : decode cX6_turn 5 = .ok (.aload_n 0, 1) := by decide +kernel
theorem dX6_turn_6 : decode cX6_turn 6 = .ok (.invokevirtual 82, 3) := by decide +kernel
theorem dX6_turn_9 : decode cX6_turn 9 = .ok (.invokevirtual 75, 3) := by decide +kernel
theorem dX6_turn_12 : decode cX6_turn 12 = .ok (.ireturn, 1) := by decide +kernel
theorem dX6_turnsBack_0 : decode cX6_turnsBack 0 = .ok (.aload_n 0, 1) := by decide +kernel
theorem dX6_turnsBack_1 : decode cX6_turnsBack 1 = .ok (.invokevirtual 85, 3) := by decide +kernel
theorem dX6_turnsBack_4 : decode cX6_turnsBack 4 = .ok (.ifCond .eq 12, 3) := by decide +kernel
theorem dX6_turnsBack_7 : decode cX6_turnsBack 7 = .ok (.aload_n 0, 1) := by decide +kernel
theorem dX6_turnsBack_8 : decode cX6_turnsBack 8 = .ok (.getfield 7, 3) := by decide +kernel
theorem dX6_turnsBack_11 : decode cX6_turnsBack 11 = .ok (.iconst 3, 1) := by decide +kernel
theorem dX6_turnsBack_12 : decode cX6_turnsBack 12 = .ok (.iaload, 1) := by decide +kernel
theorem dX6_turnsBack_13 : decode cX6_turnsBack 13 = .ok (.ifCond .le 6, 3) := by decide +kernel
theorem dX6_turnsBack_16 : decode cX6_turnsBack 16 = .ok (.ldc 63, 2) := by decide +kernel
theorem dX6_turnsBack_18 : decode cX6_turnsBack 18 = .ok (.ireturn, 1) := by decide +kernel
theorem dX6_turnsBack_19 : decode cX6_turnsBack 19 = .ok (.aload_n 0, 1) := by decide +kernel
theorem dX6_turnsBack_20 : decode cX6_turnsBack 20 = .ok (.getfield 7, 3) := by decide +kernel
theorem dX6_turnsBack_23 : decode cX6_turnsBack 23 = .ok (.iconst 0, 1) := by decide +kernel
theorem dX6_turnsBack_24 : decode cX6_turnsBack 24 = .ok (.dup2, 1) := by decide +kernel
theorem dX6_turnsBack_25 : decode cX6_turnsBack 25 = .ok (.iaload, 1) := by decide +kernel
theorem dX6_turnsBack_26 : decode cX6_turnsBack 26 = .ok (.iconst 1, 1) := by decide +kernel
theorem dX6_turnsBack_27 : decode cX6_turnsBack 27 = .ok (.isub, 1) := by decide +kernel
theorem dX6_turnsBack_28 : decode cX6_turnsBack 28 = .ok (.iastore, 1) := by decide +kernel
theorem dX6_turnsBack_29 : decode cX6_turnsBack 29 = .ok (.aload_n 0, 1) := by decide +kernel
theorem dX6_turnsBack_30 : decode cX6_turnsBack 30 = .ok (.getfield 7, 3) := by decide +kernel
theorem dX6_turnsBack_33 : decode cX6_turnsBack 33 = .ok (.iconst 2, 1) := by decide +kernel
theorem dX6_turnsBack_34 : decode cX6_turnsBack 34 = .ok (.aload_n 0, 1) := by decide +kernel
theorem dX6_turnsBack_35 : decode cX6_turnsBack 35 = .ok (.getfield 7, 3) := by decide +kernel
theorem dX6_turnsBack_38 : decode cX6_turnsBack 38 = .ok (.iconst 0, 1) := by decide +kernel
theorem dX6_turnsBack_39 : decode cX6_turnsBack 39 = .ok (.iaload, 1) := by decide +kernel
theorem dX6_turnsBack_40 : decode cX6_turnsBack 40 = .ok (.iconst 1, 1) := by decide +kernel
theorem dX6_turnsBack_41 : decode cX6_turnsBack 41 = .ok (.if_icmp .ne 8, 3) := by decide +kernel
theorem dX6_turnsBack_44 : decode cX6_turnsBack 44 = .ok (.bipush 31, 2) := by decide +kernel
theorem dX6_turnsBack_46 : decode cX6_turnsBack 46 = .ok (.goto 4, 3) := by decide +kernel
theorem dX6_turnsBack_49 : decode cX6_turnsBack 49 = .ok (.iconst 0, 1) := by decide +kernel
theorem dX6_turnsBack_50 : decode cX6_turnsBack 50 = .ok (.iastore, 1) := by decide +kernel
theorem dX6_turnsBack_51 : decode cX6_turnsBack 51 = .ok (.aload_n 0, 1) := by decide +kernel
theorem dX6_turnsBack_52 : decode cX6_turnsBack 52 = .ok (.getfield 7, 3) := by decide +kernel
theorem dX6_turnsBack_55 : decode cX6_turnsBack 55 = .ok (.iconst 0, 1) := by decide +kernel
theorem dX6_turnsBack_56 : decode cX6_turnsBack 56 = .ok (.iaload, 1) := by decide +kernel
theorem dX6_turnsBack_57 : decode cX6_turnsBack 57 = .ok (.ifCond .ne 8, 3) := by decide +kernel
theorem dX6_turnsBack_60 : decode cX6_turnsBack 60 = .ok (.aload_n 0, 1) := by decide +kernel
theorem dX6_turnsBack_61 : decode cX6_turnsBack 61 = .ok (.iconst 1, 1) := by decide +kernel
theorem dX6_turnsBack_62 : decode cX6_turnsBack 62 = .ok (.invokevirtual 67, 3) := by decide +kernel
theorem dX6_turnsBack_65 : decode cX6_turnsBack 65 = .ok (.aload_n 0, 1) := by decide +kernel
theorem dX6_turnsBack_66 : decode cX6_turnsBack 66 = .ok (.getfield 7, 3) := by decide +kernel
theorem dX6_turnsBack_69 : decode cX6_turnsBack 69 = .ok (.iconst 0, 1) := by decide +kernel
theorem dX6_turnsBack_70 : decode cX6_turnsBack 70 = .ok (.iaload, 1) := by decide +kernel
theorem dX6_turnsBack_71 : decode cX6_turnsBack 71 = .ok (.ireturn, 1) := by decide +kernel
theorem dX6_back_0 : decode cX6_back 0 = .ok (.aload_n 0, 1) := by decide +kernel
theorem dX6_back_1 : decode cX6_back 1 = .ok (.invokevirtual 64, 3) := by decide +kernel
theorem dX6_back_4 : decode cX6_back 4 = .ok (.aload_n 0, 1) := by decide +kernel
theorem dX6_back_5 : decode cX6_back 5 = .ok (.aload_n 0, 1) := by decide +kernel
theorem dX6_back_6 : decode cX6_back 6 = .ok (.invokevirtual 88, 3) := by decide +kernel
theorem dX6_back_9 : decode cX6_back 9 = .ok (.invokevirtual 75, 3) := by decide +kernel
theorem dX6_back_12 : decode cX6_back 12 = .ok (.ireturn, 1) := by decide +kernel
theorem dX6_strange_0 : decode cX6_strange 0 = .ok (.iconst 0, 1) := by decide +kernel
theorem dX6_strange_1 : decode cX6_strange 1 = .ok (.istore_n 1, 1) := by decide +kernel
theorem dX6_strange_2 : decode cX6_strange 2 = .ok (.iconst 0, 1) := by decide +kernel
theorem dX6_strange_3 : decode cX6_strange 3 = .ok (.istore_n 2, 1) := by decide +kernel
theorem dX6_strange_4 : decode cX6_strange 4 = .ok (.iload_n 2, 1) := by decide +kernel
theorem dX6_strange_5 : decode cX6_strange 5 = .ok (.bipush 31, 2) := by decide +kernel
theorem dX6_strange_7 : decode cX6_strange 7 = .ok (.if_icmp .ge 39, 3) := by decide +kernel
theorem dX6_strange_10 : decode cX6_strange 10 = .ok (.iload_n 1, 1) := by decide +kernel
theorem dX6_strange_11 : decode cX6_strange 11 = .ok (.aload_n 0, 1) := by decide +kernel
theorem dX6_strange_12 : decode cX6_strange 12 = .ok (.iconst 1, 1) := by decide +kernel
theorem dX6_strange_13 : decode cX6_strange 13 = .ok (.iload_n 2, 1) := by decide +kernel
theorem dX6_strange_14 : decode cX6_strange 14 = .ok (.iconst 1, 1) := by decide +kernel
theorem dX6_strange_15 : decode cX6_strange 15 = .ok (.invokevirtual 44, 3) := by decide +kernel
theorem dX6_strange_18 : decode cX6_strange 18 = .ok (.iconst 1, 1) := by decide +kernel
theorem dX6_strange_19 : decode cX6_strange 19 = .ok (.if_icmp .ne 18, 3) := by decide +kernel
theorem dX6_strange_22 : decode cX6_strange 22 = .ok (.aload_n 0, 1) := by decide +kernel
theorem dX6_strange_23 : decode cX6_strange 23 = .ok (.iconst 1, 1) := by decide +kernel
theorem dX6_strange_24 : decode cX6_strange 24 = .ok (.iload_n 2, 1) := by decide +kernel
theorem dX6_strange_25 : decode cX6_strange 25 = .ok (.iconst 3, 1) := by decide +kernel
theorem dX6_strange_26 : decode cX6_strange 26 = .ok (.invokevirtual 44, 3) := by decide +kernel
theorem dX6_strange_29 : decode cX6_strange 29 = .ok (.iconst 1, 1) := by decide +kernel
theorem dX6_strange_30 : decode cX6_strange 30 = .ok (.if_icmp .le 7, 3) := by decide +kernel
theorem dX6_strange_33 : decode cX6_strange 33 = .ok (.iconst 1, 1) := by decide +kernel
theorem dX6_strange_34 : decode cX6_strange 34 = .ok (.goto 4, 3) := by decide +kernel
theorem dX6_strange_37 : decode cX6_strange 37 = .ok (.iconst 0, 1) := by decide +kernel
theorem dX6_strange_38 : decode cX6_strange 38 = .ok (.iadd, 1) := by decide +kernel
theorem dX6_strange_39 : decode cX6_strange 39 = .ok (.istore_n 1, 1) := by decide +kernel
theorem dX6_strange_40 : decode cX6_strange 40 = .ok (.iinc 2 1, 3) := by decide +kernel
theorem dX6_strange_43 : decode cX6_strange 43 = .ok (.goto (-39), 3) := by decide +kernel
theorem dX6_strange_46 : decode cX6_strange 46 = .ok (.iload_n 1, 1) := by decide +kernel
theorem dX6_strange_47 : decode cX6_strange 47 = .ok (.ireturn, 1) := by decide +kernel
theorem dX6_drop_0 : decode cX6_drop 0 = .ok (.aload_n 0, 1) := by decide +kernel
theorem dX6_drop_1 : decode cX6_drop 1 = .ok (.getfield 7, 3) := by decide +kernel
theorem dX6_drop_4 : decode cX6_drop 4 = .ok (.iconst 0, 1) := by decide +kernel
theorem dX6_drop_5 : decode cX6_drop 5 = .ok (.iaload, 1) := by decide +kernel
theorem dX6_drop_6 : decode cX6_drop 6 = .ok (.iconst 2, 1) := by decide +kernel
theorem dX6_drop_7 : decode cX6_drop 7 = .ok (.if_icmp .ne 19, 3) := by decide +kernel
theorem dX6_drop_10 : decode cX6_drop 10 = .ok (.aload_n 0, 1) := by decide +kernel
theorem dX6_drop_11 : decode cX6_drop 11 = .ok (.getfield 7, 3) := by decide +kernel
theorem dX6_drop_14 : decode cX6_drop 14 = .ok (.iconst 3, 1) := by decide +kernel
theorem dX6_drop_15 : decode cX6_drop 15 = .ok (.iaload, 1) := by decide +kernel
theorem dX6_drop_16 : decode cX6_drop 16 = .ok (.ifCond .gt 10, 3) := by decide +kernel
theorem dX6_drop_19 : decode cX6_drop 19 = .ok (.aload_n 0, 1) := by decide +kernel
theorem dX6_drop_20 : decode cX6_drop 20 = .ok (.invokevirtual 59, 3) := by decide +kernel
theorem dX6_drop_23 : decode cX6_drop 23 = .ok (.ifCond .eq 6, 3) := by decide +kernel
theorem dX6_drop_26 : decode cX6_drop 26 = .ok (.ldc 63, 2) := by decide +kernel
theorem dX6_drop_28 : decode cX6_drop 28 = .ok (.ireturn, 1) := by decide +kernel
theorem dX6_drop_29 : decode cX6_drop 29 = .ok (.aload_n 0, 1) := by decide +kernel
theorem dX6_drop_30 : decode cX6_drop 30 = .ok (.invokevirtual 64, 3) := by decide +kernel
theorem dX6_drop_33 : decode cX6_drop 33 = .ok (.aload_n 0, 1) := by decide +kernel
theorem dX6_drop_34 : decode cX6_drop 34 = .ok (.getfield 7, 3) := by decide +kernel
theorem dX6_drop_37 : decode cX6_drop 37 = .ok (.iconst 0, 1) := by decide +kernel
theorem dX6_drop_38 : decode cX6_drop 38 = .ok (.iconst 3, 1) := by decide +kernel
theorem dX6_drop_39 : decode cX6_drop 39 = .ok (.iastore, 1) := by decide +kernel
theorem dX6_drop_40 : decode cX6_drop 40 = .ok (.aload_n 0, 1) := by decide +kernel
theorem dX6_drop_41 : decode cX6_drop 41 = .ok (.iconst 0, 1) := by decide +kernel
theorem dX6_drop_42 : decode cX6_drop 42 = .ok (.invokevirtual 67, 3) := by decide +kernel
theorem dX6_drop_45 : decode cX6_drop 45 = .ok (.aload_n 0, 1) := by decide +kernel
theorem dX6_drop_46 : decode cX6_drop 46 = .ok (.aload_n 0, 1) := by decide +kernel
theorem dX6_drop_47 : decode cX6_drop 47 = .ok (.invokevirtual 91, 3) := by decide +kernel
theorem dX6_drop_50 : decode cX6_drop 50 = .ok (.invokevirtual 75, 3) := by decide +kernel
theorem dX6_drop_53 : decode cX6_drop 53 = .ok (.ireturn, 1) := by decide +kernel
theorem dX6_comes_0 : decode cX6_comes 0 = .ok (.aload_n 0, 1) := by decide +kernel
theorem dX6_comes_1 : decode cX6_comes 1 = .ok (.invokevirtual 85, 3) := by decide +kernel
theorem dX6_comes_4 : decode cX6_comes 4 = .ok (.ifCond .eq 14, 3) := by decide +kernel
theorem dX6_comes_7 : decode cX6_comes 7 = .ok (.aload_n 0, 1) := by decide +kernel
theorem dX6_comes_8 : decode cX6_comes 8 = .ok (.getfield 7, 3) := by decide +kernel
theorem dX6_comes_11 : decode cX6_comes 11 = .ok (.iconst 3, 1) := by decide +kernel
theorem dX6_comes_12 : decode cX6_comes 12 = .ok (.iaload, 1) := by decide +kernel
theorem dX6_comes_13 : decode cX6_comes 13 = .ok (.bipush 8, 2) := by decide +kernel
theorem dX6_comes_15 : decode cX6_comes 15 = .ok (.if_icmp .eq 14, 3) := by decide +kernel
theorem dX6_comes_18 : decode cX6_comes 18 = .ok (.aload_n 0, 1) := by decide +kernel
theorem dX6_comes_19 : decode cX6_comes 19 = .ok (.getfield 7, 3) := by decide +kernel
theorem dX6_comes_22 : decode cX6_comes 22 = .ok (.iconst 1, 1) := by decide +kernel
theorem dX6_comes_23 : decode cX6_comes 23 = .ok (.iaload, 1) := by decide +kernel
theorem dX6_comes_24 : decode cX6_comes 24 = .ok (.ldc 94, 2) := by decide +kernel
theorem dX6_comes_26 : decode cX6_comes 26 = .ok (.if_icmp .ne 6, 3) := by decide +kernel
theorem dX6_comes_29 : decode cX6_comes 29 = .ok (.ldc 95, 2) := by decide +kernel
theorem dX6_comes_31 : decode cX6_comes 31 = .ok (.ireturn, 1) := by decide +kernel
theorem dX6_comes_32 : decode cX6_comes 32 = .ok (.aload_n 0, 1) := by decide +kernel
theorem dX6_comes_33 : decode cX6_comes 33 = .ok (.getfield 7, 3) := by decide +kernel
theorem dX6_comes_36 : decode cX6_comes 36 = .ok (.iconst 1, 1) := by decide +kernel
theorem dX6_comes_37 : decode cX6_comes 37 = .ok (.dup2, 1) := by decide +kernel
theorem dX6_comes_38 : decode cX6_comes 38 = .ok (.iaload, 1) := by decide +kernel
theorem dX6_comes_39 : decode cX6_comes 39 = .ok (.iconst 1, 1) := by decide +kernel
theorem dX6_comes_40 : decode cX6_comes 40 = .ok (.iadd, 1) := by decide +kernel
theorem dX6_comes_41 : decode cX6_comes 41 = .ok (.iastore, 1) := by decide +kernel
theorem dX6_comes_42 : decode cX6_comes 42 = .ok (.aload_n 0, 1) := by decide +kernel
theorem dX6_comes_43 : decode cX6_comes 43 = .ok (.getfield 7, 3) := by decide +kernel
theorem dX6_comes_46 : decode cX6_comes 46 = .ok (.bipush 70, 2) := by decide +kernel
theorem dX6_comes_48 : decode cX6_comes 48 = .ok (.iload_n 1, 1) := by decide +kernel
theorem dX6_comes_49 : decode cX6_comes 49 = .ok (.iadd, 1) := by decide +kernel
theorem dX6_comes_50 : decode cX6_comes 50 = .ok (.aload_n 0, 1) := by decide +kernel
theorem dX6_comes_51 : decode cX6_comes 51 = .ok (.getfield 7, 3) := by decide +kernel
theorem dX6_comes_54 : decode cX6_comes 54 = .ok (.iconst 1, 1) := by decide +kernel
theorem dX6_comes_55 : decode cX6_comes 55 = .ok (.iaload, 1) := by decide +kernel
theorem dX6_comes_56 : decode cX6_comes 56 = .ok (.iastore, 1) := by decide +kernel
theorem dX6_comes_57 : decode cX6_comes 57 = .ok (.iconst 0, 1) := by decide +kernel
theorem dX6_comes_58 : decode cX6_comes 58 = .ok (.istore 4, 2) := by decide +kernel
theorem dX6_comes_60 : decode cX6_comes 60 = .ok (.iload 4, 2) := by decide +kernel
theorem dX6_comes_62 : decode cX6_comes 62 = .ok (.iconst 4, 1) := by decide +kernel
theorem dX6_comes_63 : decode cX6_comes 63 = .ok (.if_icmp .ge 23, 3) := by decide +kernel
theorem dX6_comes_66 : decode cX6_comes 66 = .ok (.aload_n 0, 1) := by decide +kernel
theorem dX6_comes_67 : decode cX6_comes 67 = .ok (.getfield 32, 3) := by decide +kernel
theorem dX6_comes_70 : decode cX6_comes 70 = .ok (.iload 4, 2) := by decide +kernel
theorem dX6_comes_72 : decode cX6_comes 72 = .ok (.aload_n 0, 1) := by decide +kernel
theorem dX6_comes_73 : decode cX6_comes 73 = .ok (.getfield 29, 3) := by decide +kernel
theorem dX6_comes_76 : decode cX6_comes 76 = .ok (.iload 4, 2) := by decide +kernel
theorem dX6_comes_78 : decode cX6_comes 78 = .ok (.iaload, 1) := by decide +kernel
theorem dX6_comes_79 : decode cX6_comes 79 = .ok (.iastore, 1) := by decide +kernel
theorem dX6_comes_80 : decode cX6_comes 80 = .ok (.iinc 4 1, 3) := by decide +kernel
theorem dX6_comes_83 : decode cX6_comes 83 = .ok (.goto (-23), 3) := by decide +kernel
theorem dX6_comes_86 : decode cX6_comes 86 = .ok (.aload_n 0, 1) := by decide +kernel
theorem dX6_comes_87 : decode cX6_comes 87 = .ok (.iload_n 2, 1) := by decide +kernel
theorem dX6_comes_88 : decode cX6_comes 88 = .ok (.aload_n 0, 1) := by decide +kernel
theorem dX6_comes_89 : decode cX6_comes 89 = .ok (.invokevirtual 96, 3) := by decide +kernel
theorem dX6_comes_92 : decode cX6_comes 92 = .ok (.invokevirtual 52, 3) := by decide +kernel
theorem dX6_comes_95 : decode cX6_comes 95 = .ok (.aload_n 0, 1) := by decide +kernel
theorem dX6_comes_96 : decode cX6_comes 96 = .ok (.aload_n 0, 1) := by decide +kernel
theorem dX6_comes_97 : decode cX6_comes 97 = .ok (.invokevirtual 96, 3) := by decide +kernel
theorem dX6_comes_100 : decode cX6_comes 100 = .ok (.iload_n 1, 1) := by decide +kernel
theorem dX6_comes_101 : decode cX6_comes 101 = .ok (.aload_n 0, 1) := by decide +kernel
theorem dX6_comes_102 : decode cX6_comes 102 = .ok (.getfield 7, 3) := by decide +kernel
theorem dX6_comes_105 : decode cX6_comes 105 = .ok (.iconst 1, 1) := by decide +kernel
theorem dX6_comes_106 : decode cX6_comes 106 = .ok (.iaload, 1) := by decide +kernel
theorem dX6_comes_107 : decode cX6_comes 107 = .ok (.invokevirtual 99, 3) := by decide +kernel
theorem dX6_comes_110 : decode cX6_comes 110 = .ok (.aload_n 0, 1) := by decide +kernel
theorem dX6_comes_111 : decode cX6_comes 111 = .ok (.invokevirtual 85, 3) := by decide +kernel
theorem dX6_comes_114 : decode cX6_comes 114 = .ok (.ifCond .eq 157, 3) := by decide +kernel
theorem dX6_comes_117 : decode cX6_comes 117 = .ok (.iconst 0, 1) := by decide +kernel
theorem dX6_comes_118 : decode cX6_comes 118 = .ok (.istore 4, 2) := by decide +kernel
theorem dX6_comes_120 : decode cX6_comes 120 = .ok (.iload 4, 2) := by decide +kernel
theorem dX6_comes_122 : decode cX6_comes 122 = .ok (.iconst 4, 1) := by decide +kernel
theorem dX6_comes_123 : decode cX6_comes 123 = .ok (.if_icmp .ge 23, 3) := by decide +kernel
theorem dX6_comes_126 : decode cX6_comes 126 = .ok (.aload_n 0, 1) := by decide +kernel
theorem dX6_comes_127 : decode cX6_comes 127 = .ok (.getfield 29, 3) := by decide +kernel
theorem dX6_comes_130 : decode cX6_comes 130 = .ok (.iload 4, 2) := by decide +kernel
theorem dX6_comes_132 : decode cX6_comes 132 = .ok (.aload_n 0, 1) := by decide +kernel
theorem dX6_comes_133 : decode cX6_comes 133 = .ok (.getfield 32, 3) := by decide +kernel
theorem dX6_comes_136 : decode cX6_comes 136 = .ok (.iload 4, 2) := by decide +kernel
theorem dX6_comes_138 : decode cX6_comes 138 = .ok (.iaload, 1) := by decide +kernel
theorem dX6_comes_139 : decode cX6_comes 139 = .ok (.iastore, 1) := by decide +kernel
theorem dX6_comes_140 : decode cX6_comes 140 = .ok (.iinc 4 1, 3) := by decide +kernel
theorem dX6_comes_143 : decode cX6_comes 143 = .ok (.goto (-23), 3) := by decide +kernel
theorem dX6_comes_146 : decode cX6_comes 146 = .ok (.aload_n 0, 1) := by decide +kernel
theorem dX6_comes_147 : decode cX6_comes 147 = .ok (.iload_n 2, 1) := by decide +kernel
theorem dX6_comes_148 : decode cX6_comes 148 = .ok (.iconst 1, 1) := by decide +kernel
theorem dX6_comes_149 : decode cX6_comes 149 = .ok (.aload_n 0, 1) := by decide +kernel
theorem dX6_comes_150 : decode cX6_comes 150 = .ok (.invokevirtual 96, 3) := by decide +kernel
theorem dX6_comes_153 : decode cX6_comes 153 = .ok (.isub, 1) := by decide +kernel
theorem dX6_comes_154 : decode cX6_comes 154 = .ok (.invokevirtual 52, 3) := by decide +kernel
theorem dX6_comes_157 : decode cX6_comes 157 = .ok (.bipush 14, 2) := by decide +kernel
theorem dX6_comes_159 : decode cX6_comes 159 = .ok (.bipush 7, 2) := by decide +kernel
theorem dX6_comes_161 : decode cX6_comes 161 = .ok (.aload_n 0, 1) := by decide +kernel
theorem dX6_comes_162 : decode cX6_comes 162 = .ok (.getfield 7, 3) := by decide +kernel
theorem dX6_comes_165 : decode cX6_comes 165 = .ok (.iconst 3, 1) := by decide +kernel
theorem dX6_comes_166 : decode cX6_comes 166 = .ok (.iaload, 1) := by decide +kernel
theorem dX6_comes_167 : decode cX6_comes 167 = .ok (.imul, 1) := by decide +kernel
theorem dX6_comes_168 : decode cX6_comes 168 = .ok (.iadd, 1) := by decide +kernel
theorem dX6_comes_169 : decode cX6_comes 169 = .ok (.istore 4, 2) := by decide +kernel
theorem dX6_comes_171 : decode cX6_comes 171 = .ok (.aload_n 0, 1) := by decide +kernel
theorem dX6_comes_172 : decode cX6_comes 172 = .ok (.getfield 7, 3) := by decide +kernel
theorem dX6_comes_175 : decode cX6_comes 175 = .ok (.iload 4, 2) := by decide +kernel
theorem dX6_comes_177 : decode cX6_comes 177 = .ok (.iload_n 1, 1) := by decide +kernel
theorem dX6_comes_178 : decode cX6_comes 178 = .ok (.iastore, 1) := by decide +kernel
theorem dX6_comes_179 : decode cX6_comes 179 = .ok (.aload_n 0, 1) := by decide +kernel
theorem dX6_comes_180 : decode cX6_comes 180 = .ok (.getfield 7, 3) := by decide +kernel
theorem dX6_comes_183 : decode cX6_comes 183 = .ok (.iload 4, 2) := by decide +kernel
theorem dX6_comes_185 : decode cX6_comes 185 = .ok (.iconst 1, 1) := by decide +kernel
theorem dX6_comes_186 : decode cX6_comes 186 = .ok (.iadd, 1) := by decide +kernel
theorem dX6_comes_187 : decode cX6_comes 187 = .ok (.aload_n 0, 1) := by decide +kernel
theorem dX6_comes_188 : decode cX6_comes 188 = .ok (.getfield 7, 3) := by decide +kernel
theorem dX6_comes_191 : decode cX6_comes 191 = .ok (.iconst 1, 1) := by decide +kernel
theorem dX6_comes_192 : decode cX6_comes 192 = .ok (.iaload, 1) := by decide +kernel
theorem dX6_comes_193 : decode cX6_comes 193 = .ok (.iastore, 1) := by decide +kernel
theorem dX6_comes_194 : decode cX6_comes 194 = .ok (.aload_n 0, 1) := by decide +kernel
theorem dX6_comes_195 : decode cX6_comes 195 = .ok (.getfield 7, 3) := by decide +kernel
theorem dX6_comes_198 : decode cX6_comes 198 = .ok (.iload 4, 2) := by decide +kernel
theorem dX6_comes_200 : decode cX6_comes 200 = .ok (.iconst 2, 1) := by decide +kernel
theorem dX6_comes_201 : decode cX6_comes 201 = .ok (.iadd, 1) := by decide +kernel
theorem dX6_comes_202 : decode cX6_comes 202 = .ok (.iconst 1, 1) := by decide +kernel
theorem dX6_comes_203 : decode cX6_comes 203 = .ok (.aload_n 0, 1) := by decide +kernel
theorem dX6_comes_204 : decode cX6_comes 204 = .ok (.invokevirtual 96, 3) := by decide +kernel
theorem dX6_comes_207 : decode cX6_comes 207 = .ok (.isub, 1) := by decide +kernel
theorem dX6_comes_208 : decode cX6_comes 208 = .ok (.iastore, 1) := by decide +kernel
theorem dX6_comes_209 : decode cX6_comes 209 = .ok (.aload_n 0, 1) := by decide +kernel
theorem dX6_comes_210 : decode cX6_comes 210 = .ok (.getfield 7, 3) := by decide +kernel
theorem dX6_comes_213 : decode cX6_comes 213 = .ok (.iload 4, 2) := by decide +kernel
theorem dX6_comes_215 : decode cX6_comes 215 = .ok (.iconst 3, 1) := by decide +kernel
theorem dX6_comes_216 : decode cX6_comes 216 = .ok (.iadd, 1) := by decide +kernel
theorem dX6_comes_217 : decode cX6_comes 217 = .ok (.iload_n 3, 1) := by decide +kernel
theorem dX6_comes_218 : decode cX6_comes 218 = .ok (.ifCond .eq 7, 3) := by decide +kernel
theorem dX6_comes_221 : decode cX6_comes 221 = .ok (.iconst 1, 1) := by decide +kernel
theorem dX6_comes_222 : decode cX6_comes 222 = .ok (.goto 4, 3) := by decide +kernel
theorem dX6_comes_225 : decode cX6_comes 225 = .ok (.iconst 0, 1) := by decide +kernel
theorem dX6_comes_226 : decode cX6_comes 226 = .ok (.iastore, 1) := by decide +kernel
theorem dX6_comes_227 : decode cX6_comes 227 = .ok (.iconst 1, 1) := by decide +kernel
theorem dX6_comes_228 : decode cX6_comes 228 = .ok (.istore 5, 2) := by decide +kernel
theorem dX6_comes_230 : decode cX6_comes 230 = .ok (.iload 5, 2) := by decide +kernel
theorem dX6_comes_232 : decode cX6_comes 232 = .ok (.iconst 4, 1) := by decide +kernel
theorem dX6_comes_233 : decode cX6_comes 233 = .ok (.if_icmp .ge 28, 3) := by decide +kernel
theorem dX6_comes_236 : decode cX6_comes 236 = .ok (.aload_n 0, 1) := by decide +kernel
theorem dX6_comes_237 : decode cX6_comes 237 = .ok (.getfield 7, 3) := by decide +kernel
theorem dX6_comes_240 : decode cX6_comes 240 = .ok (.iload 4, 2) := by decide +kernel
theorem dX6_comes_242 : decode cX6_comes 242 = .ok (.iconst 3, 1) := by decide +kernel
theorem dX6_comes_243 : decode cX6_comes 243 = .ok (.iadd, 1) := by decide +kernel
theorem dX6_comes_244 : decode cX6_comes 244 = .ok (.iload 5, 2) := by decide +kernel
theorem dX6_comes_246 : decode cX6_comes 246 = .ok (.iadd, 1) := by decide +kernel
theorem dX6_comes_247 : decode cX6_comes 247 = .ok (.aload_n 0, 1) := by decide +kernel
theorem dX6_comes_248 : decode cX6_comes 248 = .ok (.getfield 29, 3) := by decide +kernel
theorem dX6_comes_251 : decode cX6_comes 251 = .ok (.iload 5, 2) := by decide +kernel
theorem dX6_comes_253 : decode cX6_comes 253 = .ok (.iaload, 1) := by decide +kernel
theorem dX6_comes_254 : decode cX6_comes 254 = .ok (.iastore, 1) := by decide +kernel
theorem dX6_comes_255 : decode cX6_comes 255 = .ok (.iinc 5 1, 3) := by decide +kernel
theorem dX6_comes_258 : decode cX6_comes 258 = .ok (.goto (-28), 3) := by decide +kernel
theorem dX6_comes_261 : decode cX6_comes 261 = .ok (.aload_n 0, 1) := by decide +kernel
theorem dX6_comes_262 : decode cX6_comes 262 = .ok (.getfield 7, 3) := by decide +kernel
theorem dX6_comes_265 : decode cX6_comes 265 = .ok (.iconst 3, 1) := by decide +kernel
theorem dX6_comes_266 : decode cX6_comes 266 = .ok (.dup2, 1) := by decide +kernel
theorem dX6_comes_267 : decode cX6_comes 267 = .ok (.iaload, 1) := by decide +kernel
theorem dX6_comes_268 : decode cX6_comes 268 = .ok (.iconst 1, 1) := by decide +kernel
theorem dX6_comes_269 : decode cX6_comes 269 = .ok (.iadd, 1) := by decide +kernel
theorem dX6_comes_270 : decode cX6_comes 270 = .ok (.iastore, 1) := by decide +kernel
theorem dX6_comes_271 : decode cX6_comes 271 = .ok (.aload_n 0, 1) := by decide +kernel
theorem dX6_comes_272 : decode cX6_comes 272 = .ok (.getfield 7, 3) := by decide +kernel
theorem dX6_comes_275 : decode cX6_comes 275 = .ok (.iconst 1, 1) := by decide +kernel
theorem dX6_comes_276 : decode cX6_comes 276 = .ok (.iaload, 1) := by decide +kernel
theorem dX6_comes_277 : decode cX6_comes 277 = .ok (.ireturn, 1) := by decide +kernel
theorem dX6_writes_0 : decode cX6_writes 0 = .ok (.aload_n 0, 1) := by decide +kernel
theorem dX6_writes_1 : decode cX6_writes 1 = .ok (.getfield 29, 3) := by decide +kernel
theorem dX6_writes_4 : decode cX6_writes 4 = .ok (.iconst 0, 1) := by decide +kernel
theorem dX6_writes_5 : decode cX6_writes 5 = .ok (.iconst 1, 1) := by decide +kernel
theorem dX6_writes_6 : decode cX6_writes 6 = .ok (.iastore, 1) := by decide +kernel
theorem dX6_writes_7 : decode cX6_writes 7 = .ok (.aload_n 0, 1) := by decide +kernel
theorem dX6_writes_8 : decode cX6_writes 8 = .ok (.getfield 29, 3) := by decide +kernel
theorem dX6_writes_11 : decode cX6_writes 11 = .ok (.iconst 1, 1) := by decide +kernel
theorem dX6_writes_12 : decode cX6_writes 12 = .ok (.iload_n 3, 1) := by decide +kernel
theorem dX6_writes_13 : decode cX6_writes 13 = .ok (.iastore, 1) := by decide +kernel
theorem dX6_writes_14 : decode cX6_writes 14 = .ok (.aload_n 0, 1) := by decide +kernel
theorem dX6_writes_15 : decode cX6_writes 15 = .ok (.getfield 29, 3) := by decide +kernel
theorem dX6_writes_18 : decode cX6_writes 18 = .ok (.iconst 2, 1) := by decide +kernel
theorem dX6_writes_19 : decode cX6_writes 19 = .ok (.iload 4, 2) := by decide +kernel
theorem dX6_writes_21 : decode cX6_writes 21 = .ok (.iastore, 1) := by decide +kernel
theorem dX6_writes_22 : decode cX6_writes 22 = .ok (.aload_n 0, 1) := by decide +kernel
theorem dX6_writes_23 : decode cX6_writes 23 = .ok (.getfield 29, 3) := by decide +kernel
theorem dX6_writes_26 : decode cX6_writes 26 = .ok (.iconst 3, 1) := by decide +kernel
theorem dX6_writes_27 : decode cX6_writes 27 = .ok (.iload 5, 2) := by decide +kernel
theorem dX6_writes_29 : decode cX6_writes 29 = .ok (.iastore, 1) := by decide +kernel
theorem dX6_writes_30 : decode cX6_writes 30 = .ok (.aload_n 0, 1) := by decide +kernel
theorem dX6_writes_31 : decode cX6_writes 31 = .ok (.iload_n 1, 1) := by decide +kernel
theorem dX6_writes_32 : decode cX6_writes 32 = .ok (.iload_n 2, 1) := by decide +kernel
theorem dX6_writes_33 : decode cX6_writes 33 = .ok (.iconst 0, 1) := by decide +kernel
theorem dX6_writes_34 : decode cX6_writes 34 = .ok (.invokevirtual 103, 3) := by decide +kernel
theorem dX6_writes_37 : decode cX6_writes 37 = .ok (.ireturn, 1) := by decide +kernel
theorem dX6_isKey_0 : decode cX6_isKey 0 = .ok (.iload_n 0, 1) := by decide +kernel
theorem dX6_isKey_1 : decode cX6_isKey 1 = .ok (.iconst 0, 1) := by decide +kernel
theorem dX6_isKey_2 : decode cX6_isKey 2 = .ok (.bipush 30, 2) := by decide +kernel
theorem dX6_isKey_4 : decode cX6_isKey 4 = .ok (.invokestatic 107, 3) := by decide +kernel
theorem dX6_isKey_7 : decode cX6_isKey 7 = .ok (.ireturn, 1) := by decide +kernel
theorem dX6_writesOld_0 : decode cX6_writesOld 0 = .ok (.iload_n 1, 1) := by decide +kernel
theorem dX6_writesOld_1 : decode cX6_writesOld 1 = .ok (.invokestatic 111, 3) := by decide +kernel
theorem dX6_writesOld_4 : decode cX6_writesOld 4 = .ok (.ifCond .eq 46, 3) := by decide +kernel
theorem dX6_writesOld_7 : decode cX6_writesOld 7 = .ok (.iload_n 2, 1) := by decide +kernel
theorem dX6_writesOld_8 : decode cX6_writesOld 8 = .ok (.iconst 0, 1) := by decide +kernel
theorem dX6_writesOld_9 : decode cX6_writesOld 9 = .ok (.bipush 99, 2) := by decide +kernel
theorem dX6_writesOld_11 : decode cX6_writesOld 11 = .ok (.invokestatic 107, 3) := by decide +kernel
theorem dX6_writesOld_14 : decode cX6_writesOld 14 = .ok (.ifCond .eq 36, 3) := by decide +kernel
theorem dX6_writesOld_17 : decode cX6_writesOld 17 = .ok (.iload_n 3, 1) := by decide +kernel
theorem dX6_writesOld_18 : decode cX6_writesOld 18 = .ok (.iconst 0, 1) := by decide +kernel
theorem dX6_writesOld_19 : decode cX6_writesOld 19 = .ok (.bipush 9, 2) := by decide +kernel
theorem dX6_writesOld_21 : decode cX6_writesOld 21 = .ok (.invokestatic 107, 3) := by decide +kernel
theorem dX6_writesOld_24 : decode cX6_writesOld 24 = .ok (.ifCond .eq 26, 3) := by decide +kernel
theorem dX6_writesOld_27 : decode cX6_writesOld 27 = .ok (.iload 4, 2) := by decide +kernel
theorem dX6_writesOld_29 : decode cX6_writesOld 29 = .ok (.iconst 0, 1) := by decide +kernel
theorem dX6_writesOld_30 : decode cX6_writesOld 30 = .ok (.iconst 1, 1) := by decide +kernel
theorem dX6_writesOld_31 : decode cX6_writesOld 31 = .ok (.invokestatic 107, 3) := by decide +kernel
theorem dX6_writesOld_34 : decode cX6_writesOld 34 = .ok (.ifCond .eq 16, 3) := by decide +kernel
theorem dX6_writesOld_37 : decode cX6_writesOld 37 = .ok (.aload_n 0, 1) := by decide +kernel
theorem dX6_writesOld_38 : decode cX6_writesOld 38 = .ok (.iload_n 1, 1) := by decide +kernel
theorem dX6_writesOld_39 : decode cX6_writesOld 39 = .ok (.iconst 0, 1) := by decide +kernel
theorem dX6_writesOld_40 : decode cX6_writesOld 40 = .ok (.iload_n 2, 1) := by decide +kernel
theorem dX6_writesOld_41 : decode cX6_writesOld 41 = .ok (.iload_n 3, 1) := by decide +kernel
theorem dX6_writesOld_42 : decode cX6_writesOld 42 = .ok (.iload 4, 2) := by decide +kernel
theorem dX6_writesOld_44 : decode cX6_writesOld 44 = .ok (.invokevirtual 114, 3) := by decide +kernel
theorem dX6_writesOld_47 : decode cX6_writesOld 47 = .ok (.goto 5, 3) := by decide +kernel
theorem dX6_writesOld_50 : decode cX6_writesOld 50 = .ok (.ldc 39, 2) := by decide +kernel
theorem dX6_writesOld_52 : decode cX6_writesOld 52 = .ok (.ireturn, 1) := by decide +kernel
theorem dX6_writeOld_0 : decode cX6_writeOld 0 = .ok (.aload_n 0, 1) := by decide +kernel
theorem dX6_writeOld_1 : decode cX6_writeOld 1 = .ok (.invokevirtual 64, 3) := by decide +kernel
theorem dX6_writeOld_4 : decode cX6_writeOld 4 = .ok (.aload_n 0, 1) := by decide +kernel
theorem dX6_writeOld_5 : decode cX6_writeOld 5 = .ok (.aload_n 0, 1) := by decide +kernel
theorem dX6_writeOld_6 : decode cX6_writeOld 6 = .ok (.iload_n 1, 1) := by decide +kernel
theorem dX6_writeOld_7 : decode cX6_writeOld 7 = .ok (.iload_n 2, 1) := by decide +kernel
theorem dX6_writeOld_8 : decode cX6_writeOld 8 = .ok (.iload_n 3, 1) := by decide +kernel
theorem dX6_writeOld_9 : decode cX6_writeOld 9 = .ok (.iload 4, 2) := by decide +kernel
theorem dX6_writeOld_11 : decode cX6_writeOld 11 = .ok (.invokevirtual 118, 3) := by decide +kernel
theorem dX6_writeOld_14 : decode cX6_writeOld 14 = .ok (.invokevirtual 75, 3) := by decide +kernel
theorem dX6_writeOld_17 : decode cX6_writeOld 17 = .ok (.ireturn, 1) := by decide +kernel
theorem dX6_writesNew_0 : decode cX6_writesNew 0 = .ok (.iload_n 1, 1) := by decide +kernel
theorem dX6_writesNew_1 : decode cX6_writesNew 1 = .ok (.invokestatic 111, 3) := by decide +kernel
theorem dX6_writesNew_4 : decode cX6_writesNew 4 = .ok (.ifCond .eq 35, 3) := by decide +kernel
theorem dX6_writesNew_7 : decode cX6_writesNew 7 = .ok (.iload_n 2, 1) := by decide +kernel
theorem dX6_writesNew_8 : decode cX6_writesNew 8 = .ok (.iconst 0, 1) := by decide +kernel
theorem dX6_writesNew_9 : decode cX6_writesNew 9 = .ok (.sipush 999, 3) := by decide +kernel
theorem dX6_writesNew_12 : decode cX6_writesNew 12 = .ok (.invokestatic 107, 3) := by decide +kernel
theorem dX6_writesNew_15 : decode cX6_writesNew 15 = .ok (.ifCond .eq 24, 3) := by decide +kernel
theorem dX6_writesNew_18 : decode cX6_writesNew 18 = .ok (.iload_n 3, 1) := by decide +kernel
theorem dX6_writesNew_19 : decode cX6_writesNew 19 = .ok (.iconst 0, 1) := by decide +kernel
theorem dX6_writesNew_20 : decode cX6_writesNew 20 = .ok (.iconst 3, 1) := by decide +kernel
theorem dX6_writesNew_21 : decode cX6_writesNew 21 = .ok (.invokestatic 107, 3) := by decide +kernel
theorem dX6_writesNew_24 : decode cX6_writesNew 24 = .ok (.ifCond .eq 15, 3) := by decide +kernel
theorem dX6_writesNew_27 : decode cX6_writesNew 27 = .ok (.aload_n 0, 1) := by decide +kernel
theorem dX6_writesNew_28 : decode cX6_writesNew 28 = .ok (.iload_n 1, 1) := by decide +kernel
theorem dX6_writesNew_29 : decode cX6_writesNew 29 = .ok (.iconst 1, 1) := by decide +kernel
theorem dX6_writesNew_30 : decode cX6_writesNew 30 = .ok (.iload_n 2, 1) := by decide +kernel
theorem dX6_writesNew_31 : decode cX6_writesNew 31 = .ok (.iload_n 3, 1) := by decide +kernel
theorem dX6_writesNew_32 : decode cX6_writesNew 32 = .ok (.iconst 0, 1) := by decide +kernel
theorem dX6_writesNew_33 : decode cX6_writesNew 33 = .ok (.invokevirtual 114, 3) := by decide +kernel
theorem dX6_writesNew_36 : decode cX6_writesNew 36 = .ok (.goto 5, 3) := by decide +kernel
theorem dX6_writesNew_39 : decode cX6_writesNew 39 = .ok (.ldc 39, 2) := by decide +kernel
theorem dX6_writesNew_41 : decode cX6_writesNew 41 = .ok (.ireturn, 1) := by decide +kernel
theorem dX6_writeNew_0 : decode cX6_writeNew 0 = .ok (.aload_n 0, 1) := by decide +kernel
theorem dX6_writeNew_1 : decode cX6_writeNew 1 = .ok (.invokevirtual 64, 3) := by decide +kernel
theorem dX6_writeNew_4 : decode cX6_writeNew 4 = .ok (.aload_n 0, 1) := by decide +kernel
theorem dX6_writeNew_5 : decode cX6_writeNew 5 = .ok (.aload_n 0, 1) := by decide +kernel
theorem dX6_writeNew_6 : decode cX6_writeNew 6 = .ok (.iload_n 1, 1) := by decide +kernel
theorem dX6_writeNew_7 : decode cX6_writeNew 7 = .ok (.iload_n 2, 1) := by decide +kernel
theorem dX6_writeNew_8 : decode cX6_writeNew 8 = .ok (.iload_n 3, 1) := by decide +kernel
theorem dX6_writeNew_9 : decode cX6_writeNew 9 = .ok (.invokevirtual 122, 3) := by decide +kernel
theorem dX6_writeNew_12 : decode cX6_writeNew 12 = .ok (.invokevirtual 75, 3) := by decide +kernel
theorem dX6_writeNew_15 : decode cX6_writeNew 15 = .ok (.ireturn, 1) := by decide +kernel
theorem dX6_removes_0 : decode cX6_removes 0 = .ok (.iload_n 1, 1) := by decide +kernel
theorem dX6_removes_1 : decode cX6_removes 1 = .ok (.invokestatic 111, 3) := by decide +kernel
theorem dX6_removes_4 : decode cX6_removes 4 = .ok (.ifCond .ne 6, 3) := by decide +kernel
theorem dX6_removes_7 : decode cX6_removes 7 = .ok (.ldc 39, 2) := by decide +kernel
theorem dX6_removes_9 : decode cX6_removes 9 = .ok (.ireturn, 1) := by decide +kernel
theorem dX6_removes_10 : decode cX6_removes 10 = .ok (.aload_n 0, 1) := by decide +kernel
theorem dX6_removes_11 : decode cX6_removes 11 = .ok (.aload_n 0, 1) := by decide +kernel
theorem dX6_removes_12 : decode cX6_removes 12 = .ok (.invokevirtual 96, 3) := by decide +kernel
theorem dX6_removes_15 : decode cX6_removes 15 = .ok (.iload_n 1, 1) := by decide +kernel
theorem dX6_removes_16 : decode cX6_removes 16 = .ok (.iconst 1, 1) := by decide +kernel
theorem dX6_removes_17 : decode cX6_removes 17 = .ok (.invokevirtual 44, 3) := by decide +kernel
theorem dX6_removes_20 : decode cX6_removes 20 = .ok (.ifCond .ne 6, 3) := by decide +kernel
theorem dX6_removes_23 : decode cX6_removes 23 = .ok (.ldc 63, 2) := by decide +kernel
theorem dX6_removes_25 : decode cX6_removes 25 = .ok (.ireturn, 1) := by decide +kernel
theorem dX6_removes_26 : decode cX6_removes 26 = .ok (.iconst 0, 1) := by decide +kernel
theorem dX6_removes_27 : decode cX6_removes 27 = .ok (.istore_n 2, 1) := by decide +kernel
theorem dX6_removes_28 : decode cX6_removes 28 = .ok (.iload_n 2, 1) := by decide +kernel
theorem dX6_removes_29 : decode cX6_removes 29 = .ok (.iconst 4, 1) := by decide +kernel
theorem dX6_removes_30 : decode cX6_removes 30 = .ok (.if_icmp .ge 16, 3) := by decide +kernel
theorem dX6_removes_33 : decode cX6_removes 33 = .ok (.aload_n 0, 1) := by decide +kernel
theorem dX6_removes_34 : decode cX6_removes 34 = .ok (.getfield 29, 3) := by decide +kernel
theorem dX6_removes_37 : decode cX6_removes 37 = .ok (.iload_n 2, 1) := by decide +kernel
theorem dX6_removes_38 : decode cX6_removes 38 = .ok (.iconst 0, 1) := by decide +kernel
theorem dX6_removes_39 : decode cX6_removes 39 = .ok (.iastore, 1) := by decide +kernel
theorem dX6_removes_40 : decode cX6_removes 40 = .ok (.iinc 2 1, 3) := by decide +kernel
theorem dX6_removes_43 : decode cX6_removes 43 = .ok (.goto (-15), 3) := by decide +kernel
theorem dX6_removes_46 : decode cX6_removes 46 = .ok (.aload_n 0, 1) := by decide +kernel
theorem dX6_removes_47 : decode cX6_removes 47 = .ok (.iload_n 1, 1) := by decide +kernel
theorem dX6_removes_48 : decode cX6_removes 48 = .ok (.aload_n 0, 1) := by decide +kernel
theorem dX6_removes_49 : decode cX6_removes 49 = .ok (.invokevirtual 96, 3) := by decide +kernel
theorem dX6_removes_52 : decode cX6_removes 52 = .ok (.iconst 1, 1) := by decide +kernel
theorem dX6_removes_53 : decode cX6_removes 53 = .ok (.invokevirtual 103, 3) := by decide +kernel
theorem dX6_removes_56 : decode cX6_removes 56 = .ok (.ireturn, 1) := by decide +kernel
theorem dX6_remove_0 : decode cX6_remove 0 = .ok (.aload_n 0, 1) := by decide +kernel
theorem dX6_remove_1 : decode cX6_remove 1 = .ok (.invokevirtual 64, 3) := by decide +kernel
theorem dX6_remove_4 : decode cX6_remove 4 = .ok (.aload_n 0, 1) := by decide +kernel
theorem dX6_remove_5 : decode cX6_remove 5 = .ok (.aload_n 0, 1) := by decide +kernel
theorem dX6_remove_6 : decode cX6_remove 6 = .ok (.iload_n 1, 1) := by decide +kernel
theorem dX6_remove_7 : decode cX6_remove 7 = .ok (.invokevirtual 125, 3) := by decide +kernel
theorem dX6_remove_10 : decode cX6_remove 10 = .ok (.invokevirtual 75, 3) := by decide +kernel
theorem dX6_remove_13 : decode cX6_remove 13 = .ok (.ireturn, 1) := by decide +kernel
theorem dX6_drainsOne_0 : decode cX6_drainsOne 0 = .ok (.aload_n 0, 1) := by decide +kernel
theorem dX6_drainsOne_1 : decode cX6_drainsOne 1 = .ok (.getfield 7, 3) := by decide +kernel
theorem dX6_drainsOne_4 : decode cX6_drainsOne 4 = .ok (.bipush 14, 2) := by decide +kernel
theorem dX6_drainsOne_6 : decode cX6_drainsOne 6 = .ok (.iaload, 1) := by decide +kernel
theorem dX6_drainsOne_7 : decode cX6_drainsOne 7 = .ok (.istore_n 1, 1) := by decide +kernel
theorem dX6_drainsOne_8 : decode cX6_drainsOne 8 = .ok (.aload_n 0, 1) := by decide +kernel
theorem dX6_drainsOne_9 : decode cX6_drainsOne 9 = .ok (.getfield 7, 3) := by decide +kernel
theorem dX6_drainsOne_12 : decode cX6_drainsOne 12 = .ok (.bipush 15, 2) := by decide +kernel
theorem dX6_drainsOne_14 : decode cX6_drainsOne 14 = .ok (.iaload, 1) := by decide +kernel
theorem dX6_drainsOne_15 : decode cX6_drainsOne 15 = .ok (.istore_n 2, 1) := by decide +kernel
theorem dX6_drainsOne_16 : decode cX6_drainsOne 16 = .ok (.aload_n 0, 1) := by decide +kernel
theorem dX6_drainsOne_17 : decode cX6_drainsOne 17 = .ok (.getfield 7, 3) := by decide +kernel
theorem dX6_drainsOne_20 : decode cX6_drainsOne 20 = .ok (.bipush 16, 2) := by decide +kernel
theorem dX6_drainsOne_22 : decode cX6_drainsOne 22 = .ok (.iaload, 1) := by decide +kernel
theorem dX6_drainsOne_23 : decode cX6_drainsOne 23 = .ok (.istore_n 3, 1) := by decide +kernel
theorem dX6_drainsOne_24 : decode cX6_drainsOne 24 = .ok (.aload_n 0, 1) := by decide +kernel
theorem dX6_drainsOne_25 : decode cX6_drainsOne 25 = .ok (.getfield 29, 3) := by decide +kernel
theorem dX6_drainsOne_28 : decode cX6_drainsOne 28 = .ok (.iconst 0, 1) := by decide +kernel
theorem dX6_drainsOne_29 : decode cX6_drainsOne 29 = .ok (.iconst 1, 1) := by decide +kernel
theorem dX6_drainsOne_30 : decode cX6_drainsOne 30 = .ok (.aload_n 0, 1) := by decide +kernel
theorem dX6_drainsOne_31 : decode cX6_drainsOne 31 = .ok (.getfield 7, 3) := by decide +kernel
theorem dX6_drainsOne_34 : decode cX6_drainsOne 34 = .ok (.bipush 17, 2) := by decide +kernel
theorem dX6_drainsOne_36 : decode cX6_drainsOne 36 = .ok (.iaload, 1) := by decide +kernel
theorem dX6_drainsOne_37 : decode cX6_drainsOne 37 = .ok (.isub, 1) := by decide +kernel
theorem dX6_drainsOne_38 : decode cX6_drainsOne 38 = .ok (.iastore, 1) := by decide +kernel
theorem dX6_drainsOne_39 : decode cX6_drainsOne 39 = .ok (.iconst 1, 1) := by decide +kernel
theorem dX6_drainsOne_40 : decode cX6_drainsOne 40 = .ok (.istore 4, 2) := by decide +kernel
theorem dX6_drainsOne_42 : decode cX6_drainsOne 42 = .ok (.iload 4, 2) := by decide +kernel
theorem dX6_drainsOne_44 : decode cX6_drainsOne 44 = .ok (.iconst 4, 1) := by decide +kernel
theorem dX6_drainsOne_45 : decode cX6_drainsOne 45 = .ok (.if_icmp .ge 26, 3) := by decide +kernel
theorem dX6_drainsOne_48 : decode cX6_drainsOne 48 = .ok (.aload_n 0, 1) := by decide +kernel
theorem dX6_drainsOne_49 : decode cX6_drainsOne 49 = .ok (.getfield 29, 3) := by decide +kernel
theorem dX6_drainsOne_52 : decode cX6_drainsOne 52 = .ok (.iload 4, 2) := by decide +kernel
theorem dX6_drainsOne_54 : decode cX6_drainsOne 54 = .ok (.aload_n 0, 1) := by decide +kernel
theorem dX6_drainsOne_55 : decode cX6_drainsOne 55 = .ok (.getfield 7, 3) := by decide +kernel
theorem dX6_drainsOne_58 : decode cX6_drainsOne 58 = .ok (.bipush 17, 2) := by decide +kernel
theorem dX6_drainsOne_60 : decode cX6_drainsOne 60 = .ok (.iload 4, 2) := by decide +kernel
theorem dX6_drainsOne_62 : decode cX6_drainsOne 62 = .ok (.iadd, 1) := by decide +kernel
theorem dX6_drainsOne_63 : decode cX6_drainsOne 63 = .ok (.iaload, 1) := by decide +kernel
theorem dX6_drainsOne_64 : decode cX6_drainsOne 64 = .ok (.iastore, 1) := by decide +kernel
theorem dX6_drainsOne_65 : decode cX6_drainsOne 65 = .ok (.iinc 4 1, 3) := by decide +kernel
theorem dX6_drainsOne_68 : decode cX6_drainsOne 68 = .ok (.goto (-26), 3) := by decide +kernel
theorem dX6_drainsOne_71 : decode cX6_drainsOne 71 = .ok (.iload_n 2, 1) := by decide +kernel
theorem dX6_drainsOne_72 : decode cX6_drainsOne 72 = .ok (.aload_n 0, 1) := by decide +kernel
theorem dX6_drainsOne_73 : decode cX6_drainsOne 73 = .ok (.iload_n 3, 1) := by decide +kernel
theorem dX6_drainsOne_74 : decode cX6_drainsOne 74 = .ok (.iload_n 1, 1) := by decide +kernel
theorem dX6_drainsOne_75 : decode cX6_drainsOne 75 = .ok (.iconst 0, 1) := by decide +kernel
theorem dX6_drainsOne_76 : decode cX6_drainsOne 76 = .ok (.invokevirtual 44, 3) := by decide +kernel
theorem dX6_drainsOne_79 : decode cX6_drainsOne 79 = .ok (.if_icmp .lt 10, 3) := by decide +kernel
theorem dX6_drainsOne_82 : decode cX6_drainsOne 82 = .ok (.aload_n 0, 1) := by decide +kernel
theorem dX6_drainsOne_83 : decode cX6_drainsOne 83 = .ok (.iload_n 3, 1) := by decide +kernel
theorem dX6_drainsOne_84 : decode cX6_drainsOne 84 = .ok (.iload_n 1, 1) := by decide +kernel
theorem dX6_drainsOne_85 : decode cX6_drainsOne 85 = .ok (.iload_n 2, 1) := by decide +kernel
theorem dX6_drainsOne_86 : decode cX6_drainsOne 86 = .ok (.invokevirtual 99, 3) := by decide +kernel
theorem dX6_drainsOne_89 : decode cX6_drainsOne 89 = .ok (.iconst 0, 1) := by decide +kernel
theorem dX6_drainsOne_90 : decode cX6_drainsOne 90 = .ok (.istore 4, 2) := by decide +kernel
theorem dX6_drainsOne_92 : decode cX6_drainsOne 92 = .ok (.iload 4, 2) := by decide +kernel
theorem dX6_drainsOne_94 : decode cX6_drainsOne 94 = .ok (.bipush 49, 2) := by decide +kernel
theorem dX6_drainsOne_96 : decode cX6_drainsOne 96 = .ok (.if_icmp .ge 32, 3) := by decide +kernel
theorem dX6_drainsOne_99 : decode cX6_drainsOne 99 = .ok (.aload_n 0, 1) := by decide +kernel
theorem dX6_drainsOne_100 : decode cX6_drainsOne 100 = .ok (.getfield 7, 3) := by decide +kernel
theorem dX6_drainsOne_103 : decode cX6_drainsOne 103 = .ok (.bipush 14, 2) := by decide +kernel
theorem dX6_drainsOne_105 : decode cX6_drainsOne 105 = .ok (.iload 4, 2) := by decide +kernel
theorem dX6_drainsOne_107 : decode cX6_drainsOne 107 = .ok (.iadd, 1) := by decide +kernel
theorem dX6_drainsOne_108 : decode cX6_drainsOne 108 = .ok (.aload_n 0, 1) := by decide +kernel
theorem dX6_drainsOne_109 : decode cX6_drainsOne 109 = .ok (.getfield 7, 3) := by decide +kernel
theorem dX6_drainsOne_112 : decode cX6_drainsOne 112 = .ok (.bipush 14, 2) := by decide +kernel
theorem dX6_drainsOne_114 : decode cX6_drainsOne 114 = .ok (.iload 4, 2) := by decide +kernel
theorem dX6_drainsOne_116 : decode cX6_drainsOne 116 = .ok (.iadd, 1) := by decide +kernel
theorem dX6_drainsOne_117 : decode cX6_drainsOne 117 = .ok (.bipush 7, 2) := by decide +kernel
theorem dX6_drainsOne_119 : decode cX6_drainsOne 119 = .ok (.iadd, 1) := by decide +kernel
theorem dX6_drainsOne_120 : decode cX6_drainsOne 120 = .ok (.iaload, 1) := by decide +kernel
theorem dX6_drainsOne_121 : decode cX6_drainsOne 121 = .ok (.iastore, 1) := by decide +kernel
theorem dX6_drainsOne_122 : decode cX6_drainsOne 122 = .ok (.iinc 4 1, 3) := by decide +kernel
theorem dX6_drainsOne_125 : decode cX6_drainsOne 125 = .ok (.goto (-33), 3) := by decide +kernel
theorem dX6_drainsOne_128 : decode cX6_drainsOne 128 = .ok (.aload_n 0, 1) := by decide +kernel
theorem dX6_drainsOne_129 : decode cX6_drainsOne 129 = .ok (.getfield 7, 3) := by decide +kernel
theorem dX6_drainsOne_132 : decode cX6_drainsOne 132 = .ok (.iconst 3, 1) := by decide +kernel
theorem dX6_drainsOne_133 : decode cX6_drainsOne 133 = .ok (.dup2, 1) := by decide +kernel
theorem dX6_drainsOne_134 : decode cX6_drainsOne 134 = .ok (.iaload, 1) := by decide +kernel
theorem dX6_drainsOne_135 : decode cX6_drainsOne 135 = .ok (.iconst 1, 1) := by decide +kernel
theorem dX6_drainsOne_136 : decode cX6_drainsOne 136 = .ok (.isub, 1) := by decide +kernel
theorem dX6_drainsOne_137 : decode cX6_drainsOne 137 = .ok (.iastore, 1) := by decide +kernel
theorem dX6_drainsOne_138 : decode cX6_drainsOne 138 = .ok (.return_, 1) := by decide +kernel
theorem dX6_drains_0 : decode cX6_drains 0 = .ok (.iload_n 1, 1) := by decide +kernel
theorem dX6_drains_1 : decode cX6_drains 1 = .ok (.iconst 1, 1) := by decide +kernel
theorem dX6_drains_2 : decode cX6_drains 2 = .ok (.bipush 8, 2) := by decide +kernel
theorem dX6_drains_4 : decode cX6_drains 4 = .ok (.invokestatic 107, 3) := by decide +kernel
theorem dX6_drains_7 : decode cX6_drains 7 = .ok (.ifCond .ne 6, 3) := by decide +kernel
theorem dX6_drains_10 : decode cX6_drains 10 = .ok (.ldc 39, 2) := by decide +kernel
theorem dX6_drains_12 : decode cX6_drains 12 = .ok (.ireturn, 1) := by decide +kernel
theorem dX6_drains_13 : decode cX6_drains 13 = .ok (.aload_n 0, 1) := by decide +kernel
theorem dX6_drains_14 : decode cX6_drains 14 = .ok (.getfield 7, 3) := by decide +kernel
theorem dX6_drains_17 : decode cX6_drains 17 = .ok (.iconst 3, 1) := by decide +kernel
theorem dX6_drains_18 : decode cX6_drains 18 = .ok (.iaload, 1) := by decide +kernel
theorem dX6_drains_19 : decode cX6_drains 19 = .ok (.ifCond .ne 6, 3) := by decide +kernel
theorem dX6_drains_22 : decode cX6_drains 22 = .ok (.ldc 63, 2) := by decide +kernel
theorem dX6_drains_24 : decode cX6_drains 24 = .ok (.ireturn, 1) := by decide +kernel
theorem dX6_drains_25 : decode cX6_drains 25 = .ok (.iconst 0, 1) := by decide +kernel
theorem dX6_drains_26 : decode cX6_drains 26 = .ok (.istore_n 2, 1) := by decide +kernel
theorem dX6_drains_27 : decode cX6_drains 27 = .ok (.iload_n 2, 1) := by decide +kernel
theorem dX6_drains_28 : decode cX6_drains 28 = .ok (.iload_n 1, 1) := by decide +kernel
theorem dX6_drains_29 : decode cX6_drains 29 = .ok (.if_icmp .ge 22, 3) := by decide +kernel
theorem dX6_drains_32 : decode cX6_drains 32 = .ok (.aload_n 0, 1) := by decide +kernel
theorem dX6_drains_33 : decode cX6_drains 33 = .ok (.getfield 7, 3) := by decide +kernel
theorem dX6_drains_36 : decode cX6_drains 36 = .ok (.iconst 3, 1) := by decide +kernel
theorem dX6_drains_37 : decode cX6_drains 37 = .ok (.iaload, 1) := by decide +kernel
theorem dX6_drains_38 : decode cX6_drains 38 = .ok (.ifCond .le 13, 3) := by decide +kernel
theorem dX6_drains_41 : decode cX6_drains 41 = .ok (.aload_n 0, 1) := by decide +kernel
theorem dX6_drains_42 : decode cX6_drains 42 = .ok (.invokevirtual 128, 3) := by decide +kernel
theorem dX6_drains_45 : decode cX6_drains 45 = .ok (.iinc 2 1, 3) := by decide +kernel
theorem dX6_drains_48 : decode cX6_drains 48 = .ok (.goto (-21), 3) := by decide +kernel
theorem dX6_drains_51 : decode cX6_drains 51 = .ok (.aload_n 0, 1) := by decide +kernel
theorem dX6_drains_52 : decode cX6_drains 52 = .ok (.getfield 7, 3) := by decide +kernel
theorem dX6_drains_55 : decode cX6_drains 55 = .ok (.iconst 3, 1) := by decide +kernel
theorem dX6_drains_56 : decode cX6_drains 56 = .ok (.iaload, 1) := by decide +kernel
theorem dX6_drains_57 : decode cX6_drains 57 = .ok (.ireturn, 1) := by decide +kernel
theorem dX6_drain_0 : decode cX6_drain 0 = .ok (.aload_n 0, 1) := by decide +kernel
theorem dX6_drain_1 : decode cX6_drain 1 = .ok (.invokevirtual 64, 3) := by decide +kernel
theorem dX6_drain_4 : decode cX6_drain 4 = .ok (.aload_n 0, 1) := by decide +kernel
theorem dX6_drain_5 : decode cX6_drain 5 = .ok (.aload_n 0, 1) := by decide +kernel
theorem dX6_drain_6 : decode cX6_drain 6 = .ok (.iload_n 1, 1) := by decide +kernel
theorem dX6_drain_7 : decode cX6_drain 7 = .ok (.invokevirtual 131, 3) := by decide +kernel
theorem dX6_drain_10 : decode cX6_drain 10 = .ok (.invokevirtual 75, 3) := by decide +kernel
theorem dX6_drain_13 : decode cX6_drain 13 = .ok (.ireturn, 1) := by decide +kernel
theorem dX6_gets_0 : decode cX6_gets 0 = .ok (.aload_n 0, 1) := by decide +kernel
theorem dX6_gets_1 : decode cX6_gets 1 = .ok (.iconst 1, 1) := by decide +kernel
theorem dX6_gets_2 : decode cX6_gets 2 = .ok (.iload_n 1, 1) := by decide +kernel
theorem dX6_gets_3 : decode cX6_gets 3 = .ok (.isub, 1) := by decide +kernel
theorem dX6_gets_4 : decode cX6_gets 4 = .ok (.iload_n 2, 1) := by decide +kernel
theorem dX6_gets_5 : decode cX6_gets 5 = .ok (.invokevirtual 48, 3) := by decide +kernel
theorem dX6_gets_8 : decode cX6_gets 8 = .ok (.aload_n 0, 1) := by decide +kernel
theorem dX6_gets_9 : decode cX6_gets 9 = .ok (.iconst 1, 1) := by decide +kernel
theorem dX6_gets_10 : decode cX6_gets 10 = .ok (.iload_n 1, 1) := by decide +kernel
theorem dX6_gets_11 : decode cX6_gets 11 = .ok (.isub, 1) := by decide +kernel
theorem dX6_gets_12 : decode cX6_gets 12 = .ok (.iload_n 1, 1) := by decide +kernel
theorem dX6_gets_13 : decode cX6_gets 13 = .ok (.invokevirtual 52, 3) := by decide +kernel
theorem dX6_gets_16 : decode cX6_gets 16 = .ok (.aload_n 0, 1) := by decide +kernel
theorem dX6_gets_17 : decode cX6_gets 17 = .ok (.iload_n 1, 1) := by decide +kernel
theorem dX6_gets_18 : decode cX6_gets 18 = .ok (.iload_n 2, 1) := by decide +kernel
theorem dX6_gets_19 : decode cX6_gets 19 = .ok (.aload_n 0, 1) := by decide +kernel
theorem dX6_gets_20 : decode cX6_gets 20 = .ok (.iconst 1, 1) := by decide +kernel
theorem dX6_gets_21 : decode cX6_gets 21 = .ok (.iload_n 1, 1) := by decide +kernel
theorem dX6_gets_22 : decode cX6_gets 22 = .ok (.isub, 1) := by decide +kernel
theorem dX6_gets_23 : decode cX6_gets 23 = .ok (.iload_n 2, 1) := by decide +kernel
theorem dX6_gets_24 : decode cX6_gets 24 = .ok (.iconst 0, 1) := by decide +kernel
theorem dX6_gets_25 : decode cX6_gets 25 = .ok (.invokevirtual 44, 3) := by decide +kernel
theorem dX6_gets_28 : decode cX6_gets 28 = .ok (.invokevirtual 99, 3) := by decide +kernel
theorem dX6_gets_31 : decode cX6_gets 31 = .ok (.return_, 1) := by decide +kernel
theorem dX6_backfills_0 : decode cX6_backfills 0 = .ok (.iload_n 1, 1) := by decide +kernel
theorem dX6_backfills_1 : decode cX6_backfills 1 = .ok (.iconst 1, 1) := by decide +kernel
theorem dX6_backfills_2 : decode cX6_backfills 2 = .ok (.bipush 31, 2) := by decide +kernel
theorem dX6_backfills_4 : decode cX6_backfills 4 = .ok (.invokestatic 107, 3) := by decide +kernel
theorem dX6_backfills_7 : decode cX6_backfills 7 = .ok (.ifCond .ne 6, 3) := by decide +kernel
theorem dX6_backfills_10 : decode cX6_backfills 10 = .ok (.ldc 39, 2) := by decide +kernel
theorem dX6_backfills_12 : decode cX6_backfills 12 = .ok (.ireturn, 1) := by decide +kernel
theorem dX6_backfills_13 : decode cX6_backfills 13 = .ok (.aload_n 0, 1) := by decide +kernel
theorem dX6_backfills_14 : decode cX6_backfills 14 = .ok (.getfield 7, 3) := by decide +kernel
theorem dX6_backfills_17 : decode cX6_backfills 17 = .ok (.iconst 0, 1) := by decide +kernel
theorem dX6_backfills_18 : decode cX6_backfills 18 = .ok (.iaload, 1) := by decide +kernel
theorem dX6_backfills_19 : decode cX6_backfills 19 = .ok (.iconst 1, 1) := by decide +kernel
theorem dX6_backfills_20 : decode cX6_backfills 20 = .ok (.if_icmp .ne 14, 3) := by decide +kernel
theorem dX6_backfills_23 : decode cX6_backfills 23 = .ok (.aload_n 0, 1) := by decide +kernel
theorem dX6_backfills_24 : decode cX6_backfills 24 = .ok (.getfield 7, 3) := by decide +kernel
theorem dX6_backfills_27 : decode cX6_backfills 27 = .ok (.iconst 2, 1) := by decide +kernel
theorem dX6_backfills_28 : decode cX6_backfills 28 = .ok (.iaload, 1) := by decide +kernel
theorem dX6_backfills_29 : decode cX6_backfills 29 = .ok (.bipush 31, 2) := by decide +kernel
theorem dX6_backfills_31 : decode cX6_backfills 31 = .ok (.if_icmp .ne 6, 3) := by decide +kernel
theorem dX6_backfills_34 : decode cX6_backfills 34 = .ok (.ldc 63, 2) := by decide +kernel
theorem dX6_backfills_36 : decode cX6_backfills 36 = .ok (.ireturn, 1) := by decide +kernel
theorem dX6_backfills_37 : decode cX6_backfills 37 = .ok (.iconst 0, 1) := by decide +kernel
theorem dX6_backfills_38 : decode cX6_backfills 38 = .ok (.istore_n 2, 1) := by decide +kernel
theorem dX6_backfills_39 : decode cX6_backfills 39 = .ok (.iconst 0, 1) := by decide +kernel
theorem dX6_backfills_40 : decode cX6_backfills 40 = .ok (.istore_n 3, 1) := by decide +kernel
theorem dX6_backfills_41 : decode cX6_backfills 41 = .ok (.iload_n 3, 1) := by decide +kernel
theorem dX6_backfills_42 : decode cX6_backfills 42 = .ok (.iload_n 1, 1) := by decide +kernel
theorem dX6_backfills_43 : decode cX6_backfills 43 = .ok (.if_icmp .ge 67, 3) := by decide +kernel
theorem dX6_backfills_46 : decode cX6_backfills 46 = .ok (.aload_n 0, 1) := by decide +kernel
theorem dX6_backfills_47 : decode cX6_backfills 47 = .ok (.getfield 7, 3) := by decide +kernel
theorem dX6_backfills_50 : decode cX6_backfills 50 = .ok (.iconst 2, 1) := by decide +kernel
theorem dX6_backfills_51 : decode cX6_backfills 51 = .ok (.iaload, 1) := by decide +kernel
theorem dX6_backfills_52 : decode cX6_backfills 52 = .ok (.bipush 31, 2) := by decide +kernel
theorem dX6_backfills_54 : decode cX6_backfills 54 = .ok (.if_icmp .ge 56, 3) := by decide +kernel
theorem dX6_backfills_57 : decode cX6_backfills 57 = .ok (.aload_n 0, 1) := by decide +kernel
theorem dX6_backfills_58 : decode cX6_backfills 58 = .ok (.getfield 7, 3) := by decide +kernel
theorem dX6_backfills_61 : decode cX6_backfills 61 = .ok (.iconst 2, 1) := by decide +kernel
theorem dX6_backfills_62 : decode cX6_backfills 62 = .ok (.iaload, 1) := by decide +kernel
theorem dX6_backfills_63 : decode cX6_backfills 63 = .ok (.istore 4, 2) := by decide +kernel
theorem dX6_backfills_65 : decode cX6_backfills 65 = .ok (.aload_n 0, 1) := by decide +kernel
theorem dX6_backfills_66 : decode cX6_backfills 66 = .ok (.iconst 1, 1) := by decide +kernel
theorem dX6_backfills_67 : decode cX6_backfills 67 = .ok (.iload 4, 2) := by decide +kernel
theorem dX6_backfills_69 : decode cX6_backfills 69 = .ok (.iconst 0, 1) := by decide +kernel
theorem dX6_backfills_70 : decode cX6_backfills 70 = .ok (.invokevirtual 44, 3) := by decide +kernel
theorem dX6_backfills_73 : decode cX6_backfills 73 = .ok (.aload_n 0, 1) := by decide +kernel
theorem dX6_backfills_74 : decode cX6_backfills 74 = .ok (.iconst 0, 1) := by decide +kernel
theorem dX6_backfills_75 : decode cX6_backfills 75 = .ok (.iload 4, 2) := by decide +kernel
theorem dX6_backfills_77 : decode cX6_backfills 77 = .ok (.iconst 0, 1) := by decide +kernel
theorem dX6_backfills_78 : decode cX6_backfills 78 = .ok (.invokevirtual 44, 3) := by decide +kernel
theorem dX6_backfills_81 : decode cX6_backfills 81 = .ok (.if_icmp .ge 13, 3) := by decide +kernel
theorem dX6_backfills_84 : decode cX6_backfills 84 = .ok (.aload_n 0, 1) := by decide +kernel
theorem dX6_backfills_85 : decode cX6_backfills 85 = .ok (.iconst 1, 1) := by decide +kernel
theorem dX6_backfills_86 : decode cX6_backfills 86 = .ok (.iload 4, 2) := by decide +kernel
theorem dX6_backfills_88 : decode cX6_backfills 88 = .ok (.invokevirtual 134, 3) := by decide +kernel
theorem dX6_backfills_91 : decode cX6_backfills 91 = .ok (.iinc 2 1, 3) := by decide +kernel
theorem dX6_backfills_94 : decode cX6_backfills 94 = .ok (.aload_n 0, 1) := by decide +kernel
theorem dX6_backfills_95 : decode cX6_backfills 95 = .ok (.getfield 7, 3) := by decide +kernel
theorem dX6_backfills_98 : decode cX6_backfills 98 = .ok (.iconst 2, 1) := by decide +kernel
theorem dX6_backfills_99 : decode cX6_backfills 99 = .ok (.dup2, 1) := by decide +kernel
theorem dX6_backfills_100 : decode cX6_backfills 100 = .ok (.iaload, 1) := by decide +kernel
theorem dX6_backfills_101 : decode cX6_backfills 101 = .ok (.iconst 1, 1) := by decide +kernel
theorem dX6_backfills_102 : decode cX6_backfills 102 = .ok (.iadd, 1) := by decide +kernel
theorem dX6_backfills_103 : decode cX6_backfills 103 = .ok (.iastore, 1) := by decide +kernel
theorem dX6_backfills_104 : decode cX6_backfills 104 = .ok (.iinc 3 1, 3) := by decide +kernel
theorem dX6_backfills_107 : decode cX6_backfills 107 = .ok (.goto (-66), 3) := by decide +kernel
theorem dX6_backfills_110 : decode cX6_backfills 110 = .ok (.iload_n 2, 1) := by decide +kernel
theorem dX6_backfills_111 : decode cX6_backfills 111 = .ok (.ireturn, 1) := by decide +kernel
theorem dX6_backfill_0 : decode cX6_backfill 0 = .ok (.aload_n 0, 1) := by decide +kernel
theorem dX6_backfill_1 : decode cX6_backfill 1 = .ok (.invokevirtual 64, 3) := by decide +kernel
theorem dX6_backfill_4 : decode cX6_backfill 4 = .ok (.aload_n 0, 1) := by decide +kernel
theorem dX6_backfill_5 : decode cX6_backfill 5 = .ok (.aload_n 0, 1) := by decide +kernel
theorem dX6_backfill_6 : decode cX6_backfill 6 = .ok (.iload_n 1, 1) := by decide +kernel
theorem dX6_backfill_7 : decode cX6_backfill 7 = .ok (.invokevirtual 137, 3) := by decide +kernel
theorem dX6_backfill_10 : decode cX6_backfill 10 = .ok (.invokevirtual 75, 3) := by decide +kernel
theorem dX6_backfill_13 : decode cX6_backfill 13 = .ok (.ireturn, 1) := by decide +kernel
theorem dX6_crash_0 : decode cX6_crash 0 = .ok (.aload_n 0, 1) := by decide +kernel
theorem dX6_crash_1 : decode cX6_crash 1 = .ok (.getfield 7, 3) := by decide +kernel
theorem dX6_crash_4 : decode cX6_crash 4 = .ok (.iconst 3, 1) := by decide +kernel
theorem dX6_crash_5 : decode cX6_crash 5 = .ok (.iaload, 1) := by decide +kernel
theorem dX6_crash_6 : decode cX6_crash 6 = .ok (.ifCond .ne 6, 3) := by decide +kernel
theorem dX6_crash_9 : decode cX6_crash 9 = .ok (.ldc 63, 2) := by decide +kernel
theorem dX6_crash_11 : decode cX6_crash 11 = .ok (.ireturn, 1) := by decide +kernel
theorem dX6_crash_12 : decode cX6_crash 12 = .ok (.aload_n 0, 1) := by decide +kernel
theorem dX6_crash_13 : decode cX6_crash 13 = .ok (.invokevirtual 64, 3) := by decide +kernel
theorem dX6_crash_16 : decode cX6_crash 16 = .ok (.aload_n 0, 1) := by decide +kernel
theorem dX6_crash_17 : decode cX6_crash 17 = .ok (.getfield 7, 3) := by decide +kernel
theorem dX6_crash_20 : decode cX6_crash 20 = .ok (.iconst 3, 1) := by decide +kernel
theorem dX6_crash_21 : decode cX6_crash 21 = .ok (.iaload, 1) := by decide +kernel
theorem dX6_crash_22 : decode cX6_crash 22 = .ok (.istore_n 1, 1) := by decide +kernel
theorem dX6_crash_23 : decode cX6_crash 23 = .ok (.aload_n 0, 1) := by decide +kernel
theorem dX6_crash_24 : decode cX6_crash 24 = .ok (.getfield 7, 3) := by decide +kernel
theorem dX6_crash_27 : decode cX6_crash 27 = .ok (.iconst 4, 1) := by decide +kernel
theorem dX6_crash_28 : decode cX6_crash 28 = .ok (.dup2, 1) := by decide +kernel
theorem dX6_crash_29 : decode cX6_crash 29 = .ok (.iaload, 1) := by decide +kernel
theorem dX6_crash_30 : decode cX6_crash 30 = .ok (.iload_n 1, 1) := by decide +kernel
theorem dX6_crash_31 : decode cX6_crash 31 = .ok (.iadd, 1) := by decide +kernel
theorem dX6_crash_32 : decode cX6_crash 32 = .ok (.iastore, 1) := by decide +kernel
theorem dX6_crash_33 : decode cX6_crash 33 = .ok (.aload_n 0, 1) := by decide +kernel
theorem dX6_crash_34 : decode cX6_crash 34 = .ok (.getfield 7, 3) := by decide +kernel
theorem dX6_crash_37 : decode cX6_crash 37 = .ok (.iconst 3, 1) := by decide +kernel
theorem dX6_crash_38 : decode cX6_crash 38 = .ok (.iconst 0, 1) := by decide +kernel
theorem dX6_crash_39 : decode cX6_crash 39 = .ok (.iastore, 1) := by decide +kernel
theorem dX6_crash_40 : decode cX6_crash 40 = .ok (.aload_n 0, 1) := by decide +kernel
theorem dX6_crash_41 : decode cX6_crash 41 = .ok (.iload_n 1, 1) := by decide +kernel
theorem dX6_crash_42 : decode cX6_crash 42 = .ok (.invokevirtual 75, 3) := by decide +kernel
theorem dX6_crash_45 : decode cX6_crash 45 = .ok (.ireturn, 1) := by decide +kernel
theorem dX6_latest_0 : decode cX6_latest 0 = .ok (.iconst (-1), 1) := by decide +kernel
theorem dX6_latest_1 : decode cX6_latest 1 = .ok (.istore_n 2, 1) := by decide +kernel
theorem dX6_latest_2 : decode cX6_latest 2 = .ok (.iconst 0, 1) := by decide +kernel
theorem dX6_latest_3 : decode cX6_latest 3 = .ok (.istore_n 3, 1) := by decide +kernel
theorem dX6_latest_4 : decode cX6_latest 4 = .ok (.iload_n 3, 1) := by decide +kernel
theorem dX6_latest_5 : decode cX6_latest 5 = .ok (.aload_n 0, 1) := by decide +kernel
theorem dX6_latest_6 : decode cX6_latest 6 = .ok (.getfield 7, 3) := by decide +kernel
theorem dX6_latest_9 : decode cX6_latest 9 = .ok (.iconst 3, 1) := by decide +kernel
theorem dX6_latest_10 : decode cX6_latest 10 = .ok (.iaload, 1) := by decide +kernel
theorem dX6_latest_11 : decode cX6_latest 11 = .ok (.if_icmp .ge 31, 3) := by decide +kernel
theorem dX6_latest_14 : decode cX6_latest 14 = .ok (.aload_n 0, 1) := by decide +kernel
theorem dX6_latest_15 : decode cX6_latest 15 = .ok (.getfield 7, 3) := by decide +kernel
theorem dX6_latest_18 : decode cX6_latest 18 = .ok (.bipush 14, 2) := by decide +kernel
theorem dX6_latest_20 : decode cX6_latest 20 = .ok (.bipush 7, 2) := by decide +kernel
theorem dX6_latest_22 : decode cX6_latest 22 = .ok (.iload_n 3, 1) := by decide +kernel
theorem dX6_latest_23 : decode cX6_latest 23 = .ok (.imul, 1) := by decide +kernel
theorem dX6_latest_24 : decode cX6_latest 24 = .ok (.iadd, 1) := by decide +kernel
theorem dX6_latest_25 : decode cX6_latest 25 = .ok (.iaload, 1) := by decide +kernel
theorem dX6_latest_26 : decode cX6_latest 26 = .ok (.iload_n 1, 1) := by decide +kernel
theorem dX6_latest_27 : decode cX6_latest 27 = .ok (.if_icmp .ne 7, 3) := by decide +kernel
theorem dX6_latest_30 : decode cX6_latest 30 = .ok (.iload_n 3, 1) := by decide +kernel
theorem dX6_latest_31 : decode cX6_latest 31 = .ok (.goto 4, 3) := by decide +kernel
theorem dX6_latest_34 : decode cX6_latest 34 = .ok (.iload_n 2, 1) := by decide +kernel
theorem dX6_latest_35 : decode cX6_latest 35 = .ok (.istore_n 2, 1) := by decide +kernel
theorem dX6_latest_36 : decode cX6_latest 36 = .ok (.iinc 3 1, 3) := by decide +kernel
theorem dX6_latest_39 : decode cX6_latest 39 = .ok (.goto (-35), 3) := by decide +kernel
theorem dX6_latest_42 : decode cX6_latest 42 = .ok (.iload_n 2, 1) := by decide +kernel
theorem dX6_latest_43 : decode cX6_latest 43 = .ok (.ireturn, 1) := by decide +kernel
theorem dX6_mends_0 : decode cX6_mends 0 = .ok (.iload_n 1, 1) := by decide +kernel
theorem dX6_mends_1 : decode cX6_mends 1 = .ok (.invokestatic 111, 3) := by decide +kernel
theorem dX6_mends_4 : decode cX6_mends 4 = .ok (.ifCond .ne 6, 3) := by decide +kernel
theorem dX6_mends_7 : decode cX6_mends 7 = .ok (.ldc 39, 2) := by decide +kernel
theorem dX6_mends_9 : decode cX6_mends 9 = .ok (.ireturn, 1) := by decide +kernel
theorem dX6_mends_10 : decode cX6_mends 10 = .ok (.aload_n 0, 1) := by decide +kernel
theorem dX6_mends_11 : decode cX6_mends 11 = .ok (.invokevirtual 85, 3) := by decide +kernel
theorem dX6_mends_14 : decode cX6_mends 14 = .ok (.ifCond .eq 11, 3) := by decide +kernel
theorem dX6_mends_17 : decode cX6_mends 17 = .ok (.aload_n 0, 1) := by decide +kernel
theorem dX6_mends_18 : decode cX6_mends 18 = .ok (.iload_n 1, 1) := by decide +kernel
theorem dX6_mends_19 : decode cX6_mends 19 = .ok (.invokevirtual 140, 3) := by decide +kernel
theorem dX6_mends_22 : decode cX6_mends 22 = .ok (.ifCond .lt 6, 3) := by decide +kernel
theorem dX6_mends_25 : decode cX6_mends 25 = .ok (.ldc 63, 2) := by decide +kernel
theorem dX6_mends_27 : decode cX6_mends 27 = .ok (.ireturn, 1) := by decide +kernel
theorem dX6_mends_28 : decode cX6_mends 28 = .ok (.aload_n 0, 1) := by decide +kernel
theorem dX6_mends_29 : decode cX6_mends 29 = .ok (.iload_n 1, 1) := by decide +kernel
theorem dX6_mends_30 : decode cX6_mends 30 = .ok (.invokevirtual 55, 3) := by decide +kernel
theorem dX6_mends_33 : decode cX6_mends 33 = .ok (.ifCond .ne 5, 3) := by decide +kernel
theorem dX6_mends_36 : decode cX6_mends 36 = .ok (.iconst 0, 1) := by decide +kernel
theorem dX6_mends_37 : decode cX6_mends 37 = .ok (.ireturn, 1) := by decide +kernel
theorem dX6_mends_38 : decode cX6_mends 38 = .ok (.aload_n 0, 1) := by decide +kernel
theorem dX6_mends_39 : decode cX6_mends 39 = .ok (.iconst 0, 1) := by decide +kernel
theorem dX6_mends_40 : decode cX6_mends 40 = .ok (.iload_n 1, 1) := by decide +kernel
theorem dX6_mends_41 : decode cX6_mends 41 = .ok (.iconst 0, 1) := by decide +kernel
theorem dX6_mends_42 : decode cX6_mends 42 = .ok (.invokevirtual 44, 3) := by decide +kernel
theorem dX6_mends_45 : decode cX6_mends 45 = .ok (.istore_n 2, 1) := by decide +kernel
theorem dX6_mends_46 : decode cX6_mends 46 = .ok (.aload_n 0, 1) := by decide +kernel
theorem dX6_mends_47 : decode cX6_mends 47 = .ok (.iconst 1, 1) := by decide +kernel
theorem dX6_mends_48 : decode cX6_mends 48 = .ok (.iload_n 1, 1) := by decide +kernel
theorem dX6_mends_49 : decode cX6_mends 49 = .ok (.iconst 0, 1) := by decide +kernel
theorem dX6_mends_50 : decode cX6_mends 50 = .ok (.invokevirtual 44, 3) := by decide +kernel
theorem dX6_mends_53 : decode cX6_mends 53 = .ok (.istore_n 3, 1) := by decide +kernel
theorem dX6_mends_54 : decode cX6_mends 54 = .ok (.aload_n 0, 1) := by decide +kernel
theorem dX6_mends_55 : decode cX6_mends 55 = .ok (.iload_n 2, 1) := by decide +kernel
theorem dX6_mends_56 : decode cX6_mends 56 = .ok (.iload_n 3, 1) := by decide +kernel
theorem dX6_mends_57 : decode cX6_mends 57 = .ok (.if_icmp .ge 7, 3) := by decide +kernel
theorem dX6_mends_60 : decode cX6_mends 60 = .ok (.iconst 0, 1) := by decide +kernel
theorem dX6_mends_61 : decode cX6_mends 61 = .ok (.goto 18, 3) := by decide +kernel
theorem dX6_mends_64 : decode cX6_mends 64 = .ok (.iload_n 3, 1) := by decide +kernel
theorem dX6_mends_65 : decode cX6_mends 65 = .ok (.iload_n 2, 1) := by decide +kernel
theorem dX6_mends_66 : decode cX6_mends 66 = .ok (.if_icmp .ge 7, 3) := by decide +kernel
theorem dX6_mends_69 : decode cX6_mends 69 = .ok (.iconst 1, 1) := by decide +kernel
theorem dX6_mends_70 : decode cX6_mends 70 = .ok (.goto 9, 3) := by decide +kernel
theorem dX6_mends_73 : decode cX6_mends 73 = .ok (.iconst 1, 1) := by decide +kernel
theorem dX6_mends_74 : decode cX6_mends 74 = .ok (.aload_n 0, 1) := by decide +kernel
theorem dX6_mends_75 : decode cX6_mends 75 = .ok (.invokevirtual 96, 3) := by decide +kernel
theorem dX6_mends_78 : decode cX6_mends 78 = .ok (.isub, 1) := by decide +kernel
theorem dX6_mends_79 : decode cX6_mends 79 = .ok (.iload_n 1, 1) := by decide +kernel
theorem dX6_mends_80 : decode cX6_mends 80 = .ok (.invokevirtual 134, 3) := by decide +kernel
theorem dX6_mends_83 : decode cX6_mends 83 = .ok (.iconst 1, 1) := by decide +kernel
theorem dX6_mends_84 : decode cX6_mends 84 = .ok (.ireturn, 1) := by decide +kernel
theorem dX6_mend_0 : decode cX6_mend 0 = .ok (.aload_n 0, 1) := by decide +kernel
theorem dX6_mend_1 : decode cX6_mend 1 = .ok (.invokevirtual 64, 3) := by decide +kernel
theorem dX6_mend_4 : decode cX6_mend 4 = .ok (.aload_n 0, 1) := by decide +kernel
theorem dX6_mend_5 : decode cX6_mend 5 = .ok (.aload_n 0, 1) := by decide +kernel
theorem dX6_mend_6 : decode cX6_mend 6 = .ok (.iload_n 1, 1) := by decide +kernel
theorem dX6_mend_7 : decode cX6_mend 7 = .ok (.invokevirtual 143, 3) := by decide +kernel
theorem dX6_mend_10 : decode cX6_mend 10 = .ok (.invokevirtual 75, 3) := by decide +kernel
theorem dX6_mend_13 : decode cX6_mend 13 = .ok (.ireturn, 1) := by decide +kernel
theorem dX6_reads_0 : decode cX6_reads 0 = .ok (.aload_n 0, 1) := by decide +kernel
theorem dX6_reads_1 : decode cX6_reads 1 = .ok (.iload_n 2, 1) := by decide +kernel
theorem dX6_reads_2 : decode cX6_reads 2 = .ok (.invokevirtual 146, 3) := by decide +kernel
theorem dX6_reads_5 : decode cX6_reads 5 = .ok (.ifCond .eq 7, 3) := by decide +kernel
theorem dX6_reads_8 : decode cX6_reads 8 = .ok (.iload_n 2, 1) := by decide +kernel
theorem dX6_reads_9 : decode cX6_reads 9 = .ok (.goto 6, 3) := by decide +kernel
theorem dX6_reads_12 : decode cX6_reads 12 = .ok (.iconst 1, 1) := by decide +kernel
theorem dX6_reads_13 : decode cX6_reads 13 = .ok (.iload_n 2, 1) := by decide +kernel
theorem dX6_reads_14 : decode cX6_reads 14 = .ok (.isub, 1) := by decide +kernel
theorem dX6_reads_15 : decode cX6_reads 15 = .ok (.istore_n 3, 1) := by decide +kernel
theorem dX6_reads_16 : decode cX6_reads 16 = .ok (.aload_n 0, 1) := by decide +kernel
theorem dX6_reads_17 : decode cX6_reads 17 = .ok (.iload_n 1, 1) := by decide +kernel
theorem dX6_reads_18 : decode cX6_reads 18 = .ok (.invokevirtual 140, 3) := by decide +kernel
theorem dX6_reads_21 : decode cX6_reads 21 = .ok (.istore 4, 2) := by decide +kernel
theorem dX6_reads_23 : decode cX6_reads 23 = .ok (.iload 4, 2) := by decide +kernel
theorem dX6_reads_25 : decode cX6_reads 25 = .ok (.ifCond .lt 101, 3) := by decide +kernel
theorem dX6_reads_28 : decode cX6_reads 28 = .ok (.aload_n 0, 1) := by decide +kernel
theorem dX6_reads_29 : decode cX6_reads 29 = .ok (.getfield 7, 3) := by decide +kernel
theorem dX6_reads_32 : decode cX6_reads 32 = .ok (.bipush 14, 2) := by decide +kernel
theorem dX6_reads_34 : decode cX6_reads 34 = .ok (.bipush 7, 2) := by decide +kernel
theorem dX6_reads_36 : decode cX6_reads 36 = .ok (.iload 4, 2) := by decide +kernel
theorem dX6_reads_38 : decode cX6_reads 38 = .ok (.imul, 1) := by decide +kernel
theorem dX6_reads_39 : decode cX6_reads 39 = .ok (.iadd, 1) := by decide +kernel
theorem dX6_reads_40 : decode cX6_reads 40 = .ok (.iconst 2, 1) := by decide +kernel
theorem dX6_reads_41 : decode cX6_reads 41 = .ok (.iadd, 1) := by decide +kernel
theorem dX6_reads_42 : decode cX6_reads 42 = .ok (.iaload, 1) := by decide +kernel
theorem dX6_reads_43 : decode cX6_reads 43 = .ok (.iload_n 2, 1) := by decide +kernel
theorem dX6_reads_44 : decode cX6_reads 44 = .ok (.if_icmp .ne 82, 3) := by decide +kernel
