theorem dX6_reads_47 : decode cX6_reads 47 = .ok (.aload_n 0, 1) := by decide +kernel
theorem dX6_reads_48 : decode cX6_reads 48 = .ok (.getfield 29, 3) := by decide +kernel
theorem dX6_reads_51 : decode cX6_reads 51 = .ok (.iconst 0, 1) := by decide +kernel
theorem dX6_reads_52 : decode cX6_reads 52 = .ok (.iconst 1, 1) := by decide +kernel
theorem dX6_reads_53 : decode cX6_reads 53 = .ok (.aload_n 0, 1) := by decide +kernel
theorem dX6_reads_54 : decode cX6_reads 54 = .ok (.getfield 7, 3) := by decide +kernel
theorem dX6_reads_57 : decode cX6_reads 57 = .ok (.bipush 14, 2) := by decide +kernel
theorem dX6_reads_59 : decode cX6_reads 59 = .ok (.bipush 7, 2) := by decide +kernel
theorem dX6_reads_61 : decode cX6_reads 61 = .ok (.iload 4, 2) := by decide +kernel
theorem dX6_reads_63 : decode cX6_reads 63 = .ok (.imul, 1) := by decide +kernel
theorem dX6_reads_64 : decode cX6_reads 64 = .ok (.iadd, 1) := by decide +kernel
theorem dX6_reads_65 : decode cX6_reads 65 = .ok (.iconst 3, 1) := by decide +kernel
theorem dX6_reads_66 : decode cX6_reads 66 = .ok (.iadd, 1) := by decide +kernel
theorem dX6_reads_67 : decode cX6_reads 67 = .ok (.iaload, 1) := by decide +kernel
theorem dX6_reads_68 : decode cX6_reads 68 = .ok (.isub, 1) := by decide +kernel
theorem dX6_reads_69 : decode cX6_reads 69 = .ok (.iastore, 1) := by decide +kernel
theorem dX6_reads_70 : decode cX6_reads 70 = .ok (.iconst 1, 1) := by decide +kernel
theorem dX6_reads_71 : decode cX6_reads 71 = .ok (.istore 5, 2) := by decide +kernel
theorem dX6_reads_73 : decode cX6_reads 73 = .ok (.iload 5, 2) := by decide +kernel
theorem dX6_reads_75 : decode cX6_reads 75 = .ok (.iconst 4, 1) := by decide +kernel
theorem dX6_reads_76 : decode cX6_reads 76 = .ok (.if_icmp .ge 34, 3) := by decide +kernel
theorem dX6_reads_79 : decode cX6_reads 79 = .ok (.aload_n 0, 1) := by decide +kernel
theorem dX6_reads_80 : decode cX6_reads 80 = .ok (.getfield 29, 3) := by decide +kernel
theorem dX6_reads_83 : decode cX6_reads 83 = .ok (.iload 5, 2) := by decide +kernel
theorem dX6_reads_85 : decode cX6_reads 85 = .ok (.aload_n 0, 1) := by decide +kernel
theorem dX6_reads_86 : decode cX6_reads 86 = .ok (.getfield 7, 3) := by decide +kernel
theorem dX6_reads_89 : decode cX6_reads 89 = .ok (.bipush 14, 2) := by decide +kernel
theorem dX6_reads_91 : decode cX6_reads 91 = .ok (.bipush 7, 2) := by decide +kernel
theorem dX6_reads_93 : decode cX6_reads 93 = .ok (.iload 4, 2) := by decide +kernel
theorem dX6_reads_95 : decode cX6_reads 95 = .ok (.imul, 1) := by decide +kernel
theorem dX6_reads_96 : decode cX6_reads 96 = .ok (.iadd, 1) := by decide +kernel
theorem dX6_reads_97 : decode cX6_reads 97 = .ok (.iconst 3, 1) := by decide +kernel
theorem dX6_reads_98 : decode cX6_reads 98 = .ok (.iadd, 1) := by decide +kernel
theorem dX6_reads_99 : decode cX6_reads 99 = .ok (.iload 5, 2) := by decide +kernel
theorem dX6_reads_101 : decode cX6_reads 101 = .ok (.iadd, 1) := by decide +kernel
theorem dX6_reads_102 : decode cX6_reads 102 = .ok (.iaload, 1) := by decide +kernel
theorem dX6_reads_103 : decode cX6_reads 103 = .ok (.iastore, 1) := by decide +kernel
theorem dX6_reads_104 : decode cX6_reads 104 = .ok (.iinc 5 1, 3) := by decide +kernel
theorem dX6_reads_107 : decode cX6_reads 107 = .ok (.goto (-34), 3) := by decide +kernel
theorem dX6_reads_110 : decode cX6_reads 110 = .ok (.aload_n 0, 1) := by decide +kernel
theorem dX6_reads_111 : decode cX6_reads 111 = .ok (.getfield 29, 3) := by decide +kernel
theorem dX6_reads_114 : decode cX6_reads 114 = .ok (.iconst 0, 1) := by decide +kernel
theorem dX6_reads_115 : decode cX6_reads 115 = .ok (.iaload, 1) := by decide +kernel
theorem dX6_reads_116 : decode cX6_reads 116 = .ok (.iconst 1, 1) := by decide +kernel
theorem dX6_reads_117 : decode cX6_reads 117 = .ok (.if_icmp .ne 7, 3) := by decide +kernel
theorem dX6_reads_120 : decode cX6_reads 120 = .ok (.iconst 1, 1) := by decide +kernel
theorem dX6_reads_121 : decode cX6_reads 121 = .ok (.goto 4, 3) := by decide +kernel
theorem dX6_reads_124 : decode cX6_reads 124 = .ok (.iconst 0, 1) := by decide +kernel
theorem dX6_reads_125 : decode cX6_reads 125 = .ok (.ireturn, 1) := by decide +kernel
theorem dX6_reads_126 : decode cX6_reads 126 = .ok (.aload_n 0, 1) := by decide +kernel
theorem dX6_reads_127 : decode cX6_reads 127 = .ok (.getfield 7, 3) := by decide +kernel
theorem dX6_reads_130 : decode cX6_reads 130 = .ok (.iconst 0, 1) := by decide +kernel
theorem dX6_reads_131 : decode cX6_reads 131 = .ok (.iaload, 1) := by decide +kernel
theorem dX6_reads_132 : decode cX6_reads 132 = .ok (.iconst 1, 1) := by decide +kernel
theorem dX6_reads_133 : decode cX6_reads 133 = .ok (.if_icmp .ne 22, 3) := by decide +kernel
theorem dX6_reads_136 : decode cX6_reads 136 = .ok (.iload_n 2, 1) := by decide +kernel
theorem dX6_reads_137 : decode cX6_reads 137 = .ok (.iconst 1, 1) := by decide +kernel
theorem dX6_reads_138 : decode cX6_reads 138 = .ok (.if_icmp .ne 17, 3) := by decide +kernel
theorem dX6_reads_141 : decode cX6_reads 141 = .ok (.aload_n 0, 1) := by decide +kernel
theorem dX6_reads_142 : decode cX6_reads 142 = .ok (.iconst 1, 1) := by decide +kernel
theorem dX6_reads_143 : decode cX6_reads 143 = .ok (.iload_n 1, 1) := by decide +kernel
theorem dX6_reads_144 : decode cX6_reads 144 = .ok (.iconst 0, 1) := by decide +kernel
theorem dX6_reads_145 : decode cX6_reads 145 = .ok (.invokevirtual 44, 3) := by decide +kernel
theorem dX6_reads_148 : decode cX6_reads 148 = .ok (.ifCond .ne 7, 3) := by decide +kernel
theorem dX6_reads_151 : decode cX6_reads 151 = .ok (.iconst 0, 1) := by decide +kernel
theorem dX6_reads_152 : decode cX6_reads 152 = .ok (.goto 4, 3) := by decide +kernel
theorem dX6_reads_155 : decode cX6_reads 155 = .ok (.iload_n 3, 1) := by decide +kernel
theorem dX6_reads_156 : decode cX6_reads 156 = .ok (.istore_n 3, 1) := by decide +kernel
theorem dX6_reads_157 : decode cX6_reads 157 = .ok (.aload_n 0, 1) := by decide +kernel
theorem dX6_reads_158 : decode cX6_reads 158 = .ok (.iload_n 3, 1) := by decide +kernel
theorem dX6_reads_159 : decode cX6_reads 159 = .ok (.iload_n 1, 1) := by decide +kernel
theorem dX6_reads_160 : decode cX6_reads 160 = .ok (.invokevirtual 48, 3) := by decide +kernel
theorem dX6_reads_163 : decode cX6_reads 163 = .ok (.aload_n 0, 1) := by decide +kernel
theorem dX6_reads_164 : decode cX6_reads 164 = .ok (.iload_n 3, 1) := by decide +kernel
theorem dX6_reads_165 : decode cX6_reads 165 = .ok (.iload_n 2, 1) := by decide +kernel
theorem dX6_reads_166 : decode cX6_reads 166 = .ok (.invokevirtual 52, 3) := by decide +kernel
theorem dX6_reads_169 : decode cX6_reads 169 = .ok (.aload_n 0, 1) := by decide +kernel
theorem dX6_reads_170 : decode cX6_reads 170 = .ok (.getfield 29, 3) := by decide +kernel
theorem dX6_reads_173 : decode cX6_reads 173 = .ok (.iconst 0, 1) := by decide +kernel
theorem dX6_reads_174 : decode cX6_reads 174 = .ok (.iaload, 1) := by decide +kernel
theorem dX6_reads_175 : decode cX6_reads 175 = .ok (.iconst 1, 1) := by decide +kernel
theorem dX6_reads_176 : decode cX6_reads 176 = .ok (.if_icmp .ne 7, 3) := by decide +kernel
theorem dX6_reads_179 : decode cX6_reads 179 = .ok (.iconst 1, 1) := by decide +kernel
theorem dX6_reads_180 : decode cX6_reads 180 = .ok (.goto 4, 3) := by decide +kernel
theorem dX6_reads_183 : decode cX6_reads 183 = .ok (.iconst 0, 1) := by decide +kernel
theorem dX6_reads_184 : decode cX6_reads 184 = .ok (.ireturn, 1) := by decide +kernel
theorem dX6_read_0 : decode cX6_read 0 = .ok (.iload_n 1, 1) := by decide +kernel
theorem dX6_read_1 : decode cX6_read 1 = .ok (.invokestatic 111, 3) := by decide +kernel
theorem dX6_read_4 : decode cX6_read 4 = .ok (.ifCond .eq 23, 3) := by decide +kernel
theorem dX6_read_7 : decode cX6_read 7 = .ok (.iload_n 2, 1) := by decide +kernel
theorem dX6_read_8 : decode cX6_read 8 = .ok (.iconst 0, 1) := by decide +kernel
theorem dX6_read_9 : decode cX6_read 9 = .ok (.iconst 1, 1) := by decide +kernel
theorem dX6_read_10 : decode cX6_read 10 = .ok (.invokestatic 107, 3) := by decide +kernel
theorem dX6_read_13 : decode cX6_read 13 = .ok (.ifCond .eq 14, 3) := by decide +kernel
theorem dX6_read_16 : decode cX6_read 16 = .ok (.iload_n 3, 1) := by decide +kernel
theorem dX6_read_17 : decode cX6_read 17 = .ok (.iconst 0, 1) := by decide +kernel
theorem dX6_read_18 : decode cX6_read 18 = .ok (.iconst 2, 1) := by decide +kernel
theorem dX6_read_19 : decode cX6_read 19 = .ok (.iload_n 2, 1) := by decide +kernel
theorem dX6_read_20 : decode cX6_read 20 = .ok (.isub, 1) := by decide +kernel
theorem dX6_read_21 : decode cX6_read 21 = .ok (.invokestatic 107, 3) := by decide +kernel
theorem dX6_read_24 : decode cX6_read 24 = .ok (.ifCond .ne 6, 3) := by decide +kernel
theorem dX6_read_27 : decode cX6_read 27 = .ok (.ldc 39, 2) := by decide +kernel
theorem dX6_read_29 : decode cX6_read 29 = .ok (.ireturn, 1) := by decide +kernel
theorem dX6_read_30 : decode cX6_read 30 = .ok (.aload_n 0, 1) := by decide +kernel
theorem dX6_read_31 : decode cX6_read 31 = .ok (.iload_n 1, 1) := by decide +kernel
theorem dX6_read_32 : decode cX6_read 32 = .ok (.iload_n 2, 1) := by decide +kernel
theorem dX6_read_33 : decode cX6_read 33 = .ok (.invokevirtual 149, 3) := by decide +kernel
theorem dX6_read_36 : decode cX6_read 36 = .ok (.ifCond .eq 14, 3) := by decide +kernel
theorem dX6_read_39 : decode cX6_read 39 = .ok (.aload_n 0, 1) := by decide +kernel
theorem dX6_read_40 : decode cX6_read 40 = .ok (.getfield 29, 3) := by decide +kernel
theorem dX6_read_43 : decode cX6_read 43 = .ok (.iconst 1, 1) := by decide +kernel
theorem dX6_read_44 : decode cX6_read 44 = .ok (.iload_n 3, 1) := by decide +kernel
theorem dX6_read_45 : decode cX6_read 45 = .ok (.iadd, 1) := by decide +kernel
theorem dX6_read_46 : decode cX6_read 46 = .ok (.iaload, 1) := by decide +kernel
theorem dX6_read_47 : decode cX6_read 47 = .ok (.goto 5, 3) := by decide +kernel
theorem dX6_read_50 : decode cX6_read 50 = .ok (.ldc 153, 2) := by decide +kernel
theorem dX6_read_52 : decode cX6_read 52 = .ok (.ireturn, 1) := by decide +kernel
theorem dX6_shapeOf_0 : decode cX6_shapeOf 0 = .ok (.iload_n 1, 1) := by decide +kernel
theorem dX6_shapeOf_1 : decode cX6_shapeOf 1 = .ok (.invokestatic 111, 3) := by decide +kernel
theorem dX6_shapeOf_4 : decode cX6_shapeOf 4 = .ok (.ifCond .eq 21, 3) := by decide +kernel
theorem dX6_shapeOf_7 : decode cX6_shapeOf 7 = .ok (.iload_n 2, 1) := by decide +kernel
theorem dX6_shapeOf_8 : decode cX6_shapeOf 8 = .ok (.iconst 0, 1) := by decide +kernel
theorem dX6_shapeOf_9 : decode cX6_shapeOf 9 = .ok (.iconst 1, 1) := by decide +kernel
theorem dX6_shapeOf_10 : decode cX6_shapeOf 10 = .ok (.invokestatic 107, 3) := by decide +kernel
theorem dX6_shapeOf_13 : decode cX6_shapeOf 13 = .ok (.ifCond .eq 12, 3) := by decide +kernel
theorem dX6_shapeOf_16 : decode cX6_shapeOf 16 = .ok (.iload_n 3, 1) := by decide +kernel
theorem dX6_shapeOf_17 : decode cX6_shapeOf 17 = .ok (.iconst 0, 1) := by decide +kernel
theorem dX6_shapeOf_18 : decode cX6_shapeOf 18 = .ok (.iconst 4, 1) := by decide +kernel
theorem dX6_shapeOf_19 : decode cX6_shapeOf 19 = .ok (.invokestatic 107, 3) := by decide +kernel
theorem dX6_shapeOf_22 : decode cX6_shapeOf 22 = .ok (.ifCond .ne 6, 3) := by decide +kernel
theorem dX6_shapeOf_25 : decode cX6_shapeOf 25 = .ok (.ldc 39, 2) := by decide +kernel
theorem dX6_shapeOf_27 : decode cX6_shapeOf 27 = .ok (.ireturn, 1) := by decide +kernel
theorem dX6_shapeOf_28 : decode cX6_shapeOf 28 = .ok (.aload_n 0, 1) := by decide +kernel
theorem dX6_shapeOf_29 : decode cX6_shapeOf 29 = .ok (.iload_n 2, 1) := by decide +kernel
theorem dX6_shapeOf_30 : decode cX6_shapeOf 30 = .ok (.invokevirtual 146, 3) := by decide +kernel
theorem dX6_shapeOf_33 : decode cX6_shapeOf 33 = .ok (.ifCond .ne 6, 3) := by decide +kernel
theorem dX6_shapeOf_36 : decode cX6_shapeOf 36 = .ok (.ldc 63, 2) := by decide +kernel
theorem dX6_shapeOf_38 : decode cX6_shapeOf 38 = .ok (.ireturn, 1) := by decide +kernel
theorem dX6_shapeOf_39 : decode cX6_shapeOf 39 = .ok (.iload_n 3, 1) := by decide +kernel
theorem dX6_shapeOf_40 : decode cX6_shapeOf 40 = .ok (.iconst 1, 1) := by decide +kernel
theorem dX6_shapeOf_41 : decode cX6_shapeOf 41 = .ok (.if_icmp .le 13, 3) := by decide +kernel
theorem dX6_shapeOf_44 : decode cX6_shapeOf 44 = .ok (.aload_n 0, 1) := by decide +kernel
theorem dX6_shapeOf_45 : decode cX6_shapeOf 45 = .ok (.iload_n 2, 1) := by decide +kernel
theorem dX6_shapeOf_46 : decode cX6_shapeOf 46 = .ok (.iload_n 1, 1) := by decide +kernel
theorem dX6_shapeOf_47 : decode cX6_shapeOf 47 = .ok (.iconst 1, 1) := by decide +kernel
theorem dX6_shapeOf_48 : decode cX6_shapeOf 48 = .ok (.invokevirtual 44, 3) := by decide +kernel
theorem dX6_shapeOf_51 : decode cX6_shapeOf 51 = .ok (.ifCond .eq 13, 3) := by decide +kernel
theorem dX6_shapeOf_54 : decode cX6_shapeOf 54 = .ok (.iload_n 3, 1) := by decide +kernel
theorem dX6_shapeOf_55 : decode cX6_shapeOf 55 = .ok (.iconst 4, 1) := by decide +kernel
theorem dX6_shapeOf_56 : decode cX6_shapeOf 56 = .ok (.if_icmp .ne 12, 3) := by decide +kernel
theorem dX6_shapeOf_59 : decode cX6_shapeOf 59 = .ok (.iload_n 2, 1) := by decide +kernel
theorem dX6_shapeOf_60 : decode cX6_shapeOf 60 = .ok (.iconst 1, 1) := by decide +kernel
theorem dX6_shapeOf_61 : decode cX6_shapeOf 61 = .ok (.if_icmp .ne 7, 3) := by decide +kernel
theorem dX6_shapeOf_64 : decode cX6_shapeOf 64 = .ok (.iconst 1, 1) := by decide +kernel
theorem dX6_shapeOf_65 : decode cX6_shapeOf 65 = .ok (.goto 4, 3) := by decide +kernel
theorem dX6_shapeOf_68 : decode cX6_shapeOf 68 = .ok (.iconst 0, 1) := by decide +kernel
theorem dX6_shapeOf_69 : decode cX6_shapeOf 69 = .ok (.istore 4, 2) := by decide +kernel
theorem dX6_shapeOf_71 : decode cX6_shapeOf 71 = .ok (.iload 4, 2) := by decide +kernel
theorem dX6_shapeOf_73 : decode cX6_shapeOf 73 = .ok (.ifCond .eq 8, 3) := by decide +kernel
theorem dX6_shapeOf_76 : decode cX6_shapeOf 76 = .ok (.ldc 153, 2) := by decide +kernel
theorem dX6_shapeOf_78 : decode cX6_shapeOf 78 = .ok (.goto 10, 3) := by decide +kernel
theorem dX6_shapeOf_81 : decode cX6_shapeOf 81 = .ok (.aload_n 0, 1) := by decide +kernel
theorem dX6_shapeOf_82 : decode cX6_shapeOf 82 = .ok (.iload_n 2, 1) := by decide +kernel
theorem dX6_shapeOf_83 : decode cX6_shapeOf 83 = .ok (.iload_n 1, 1) := by decide +kernel
theorem dX6_shapeOf_84 : decode cX6_shapeOf 84 = .ok (.iload_n 3, 1) := by decide +kernel
theorem dX6_shapeOf_85 : decode cX6_shapeOf 85 = .ok (.invokevirtual 44, 3) := by decide +kernel
theorem dX6_shapeOf_88 : decode cX6_shapeOf 88 = .ok (.ireturn, 1) := by decide +kernel
theorem dX6_queued_0 : decode cX6_queued 0 = .ok (.iload_n 1, 1) := by decide +kernel
theorem dX6_queued_1 : decode cX6_queued 1 = .ok (.ifCond .lt 12, 3) := by decide +kernel
theorem dX6_queued_4 : decode cX6_queued 4 = .ok (.iload_n 2, 1) := by decide +kernel
theorem dX6_queued_5 : decode cX6_queued 5 = .ok (.iconst 0, 1) := by decide +kernel
theorem dX6_queued_6 : decode cX6_queued 6 = .ok (.iconst 3, 1) := by decide +kernel
theorem dX6_queued_7 : decode cX6_queued 7 = .ok (.invokestatic 107, 3) := by decide +kernel
theorem dX6_queued_10 : decode cX6_queued 10 = .ok (.ifCond .ne 6, 3) := by decide +kernel
theorem dX6_queued_13 : decode cX6_queued 13 = .ok (.ldc 39, 2) := by decide +kernel
theorem dX6_queued_15 : decode cX6_queued 15 = .ok (.ireturn, 1) := by decide +kernel
theorem dX6_queued_16 : decode cX6_queued 16 = .ok (.iload_n 1, 1) := by decide +kernel
theorem dX6_queued_17 : decode cX6_queued 17 = .ok (.aload_n 0, 1) := by decide +kernel
theorem dX6_queued_18 : decode cX6_queued 18 = .ok (.getfield 7, 3) := by decide +kernel
theorem dX6_queued_21 : decode cX6_queued 21 = .ok (.iconst 3, 1) := by decide +kernel
theorem dX6_queued_22 : decode cX6_queued 22 = .ok (.iaload, 1) := by decide +kernel
theorem dX6_queued_23 : decode cX6_queued 23 = .ok (.if_icmp .ge 20, 3) := by decide +kernel
theorem dX6_queued_26 : decode cX6_queued 26 = .ok (.aload_n 0, 1) := by decide +kernel
theorem dX6_queued_27 : decode cX6_queued 27 = .ok (.getfield 7, 3) := by decide +kernel
theorem dX6_queued_30 : decode cX6_queued 30 = .ok (.bipush 14, 2) := by decide +kernel
theorem dX6_queued_32 : decode cX6_queued 32 = .ok (.bipush 7, 2) := by decide +kernel
theorem dX6_queued_34 : decode cX6_queued 34 = .ok (.iload_n 1, 1) := by decide +kernel
theorem dX6_queued_35 : decode cX6_queued 35 = .ok (.imul, 1) := by decide +kernel
theorem dX6_queued_36 : decode cX6_queued 36 = .ok (.iadd, 1) := by decide +kernel
theorem dX6_queued_37 : decode cX6_queued 37 = .ok (.iload_n 2, 1) := by decide +kernel
theorem dX6_queued_38 : decode cX6_queued 38 = .ok (.iadd, 1) := by decide +kernel
theorem dX6_queued_39 : decode cX6_queued 39 = .ok (.iaload, 1) := by decide +kernel
theorem dX6_queued_40 : decode cX6_queued 40 = .ok (.goto 5, 3) := by decide +kernel
theorem dX6_queued_43 : decode cX6_queued 43 = .ok (.ldc 153, 2) := by decide +kernel
theorem dX6_queued_45 : decode cX6_queued 45 = .ok (.ireturn, 1) := by decide +kernel
theorem dX6_readable_0 : decode cX6_readable 0 = .ok (.iconst 0, 1) := by decide +kernel
theorem dX6_readable_1 : decode cX6_readable 1 = .ok (.istore_n 2, 1) := by decide +kernel
theorem dX6_readable_2 : decode cX6_readable 2 = .ok (.iconst 0, 1) := by decide +kernel
theorem dX6_readable_3 : decode cX6_readable 3 = .ok (.istore_n 3, 1) := by decide +kernel
theorem dX6_readable_4 : decode cX6_readable 4 = .ok (.iload_n 3, 1) := by decide +kernel
theorem dX6_readable_5 : decode cX6_readable 5 = .ok (.bipush 31, 2) := by decide +kernel
theorem dX6_readable_7 : decode cX6_readable 7 = .ok (.if_icmp .ge 28, 3) := by decide +kernel
theorem dX6_readable_10 : decode cX6_readable 10 = .ok (.iload_n 2, 1) := by decide +kernel
theorem dX6_readable_11 : decode cX6_readable 11 = .ok (.aload_n 0, 1) := by decide +kernel
theorem dX6_readable_12 : decode cX6_readable 12 = .ok (.iload_n 3, 1) := by decide +kernel
theorem dX6_readable_13 : decode cX6_readable 13 = .ok (.iload_n 1, 1) := by decide +kernel
theorem dX6_readable_14 : decode cX6_readable 14 = .ok (.invokevirtual 149, 3) := by decide +kernel
theorem dX6_readable_17 : decode cX6_readable 17 = .ok (.ifCond .eq 9, 3) := by decide +kernel
theorem dX6_readable_20 : decode cX6_readable 20 = .ok (.iconst 1, 1) := by decide +kernel
theorem dX6_readable_21 : decode cX6_readable 21 = .ok (.iload_n 3, 1) := by decide +kernel
theorem dX6_readable_22 : decode cX6_readable 22 = .ok (.ishl, 1) := by decide +kernel
theorem dX6_readable_23 : decode cX6_readable 23 = .ok (.goto 4, 3) := by decide +kernel
theorem dX6_readable_26 : decode cX6_readable 26 = .ok (.iconst 0, 1) := by decide +kernel
theorem dX6_readable_27 : decode cX6_readable 27 = .ok (.ior, 1) := by decide +kernel
theorem dX6_readable_28 : decode cX6_readable 28 = .ok (.istore_n 2, 1) := by decide +kernel
theorem dX6_readable_29 : decode cX6_readable 29 = .ok (.iinc 3 1, 3) := by decide +kernel
theorem dX6_readable_32 : decode cX6_readable 32 = .ok (.goto (-28), 3) := by decide +kernel
theorem dX6_readable_35 : decode cX6_readable 35 = .ok (.iload_n 2, 1) := by decide +kernel
theorem dX6_readable_36 : decode cX6_readable 36 = .ok (.ireturn, 1) := by decide +kernel
theorem dX6_keys_0 : decode cX6_keys 0 = .ok (.iload_n 1, 1) := by decide +kernel
theorem dX6_keys_1 : decode cX6_keys 1 = .ok (.iconst 0, 1) := by decide +kernel
theorem dX6_keys_2 : decode cX6_keys 2 = .ok (.iconst 1, 1) := by decide +kernel
theorem dX6_keys_3 : decode cX6_keys 3 = .ok (.invokestatic 107, 3) := by decide +kernel
theorem dX6_keys_6 : decode cX6_keys 6 = .ok (.ifCond .eq 11, 3) := by decide +kernel
theorem dX6_keys_9 : decode cX6_keys 9 = .ok (.aload_n 0, 1) := by decide +kernel
theorem dX6_keys_10 : decode cX6_keys 10 = .ok (.iload_n 1, 1) := by decide +kernel
theorem dX6_keys_11 : decode cX6_keys 11 = .ok (.invokevirtual 154, 3) := by decide +kernel
theorem dX6_keys_14 : decode cX6_keys 14 = .ok (.goto 5, 3) := by decide +kernel
theorem dX6_keys_17 : decode cX6_keys 17 = .ok (.ldc 39, 2) := by decide +kernel
theorem dX6_keys_19 : decode cX6_keys 19 = .ok (.ireturn, 1) := by decide +kernel
theorem dX6_check_0 : decode cX6_check 0 = .ok (.aload_n 0, 1) := by decide +kernel
theorem dX6_check_1 : decode cX6_check 1 = .ok (.invokevirtual 85, 3) := by decide +kernel
theorem dX6_check_4 : decode cX6_check 4 = .ok (.ifCond .eq 10, 3) := by decide +kernel
theorem dX6_check_7 : decode cX6_check 7 = .ok (.aload_n 0, 1) := by decide +kernel
theorem dX6_check_8 : decode cX6_check 8 = .ok (.invokevirtual 59, 3) := by decide +kernel
theorem dX6_check_11 : decode cX6_check 11 = .ok (.goto 5, 3) := by decide +kernel
theorem dX6_check_14 : decode cX6_check 14 = .ok (.ldc 63, 2) := by decide +kernel
theorem dX6_check_16 : decode cX6_check 16 = .ok (.ireturn, 1) := by decide +kernel
theorem dX6_quarrels_0 : decode cX6_quarrels 0 = .ok (.aload_n 0, 1) := by decide +kernel
theorem dX6_quarrels_1 : decode cX6_quarrels 1 = .ok (.iload_n 1, 1) := by decide +kernel
theorem dX6_quarrels_2 : decode cX6_quarrels 2 = .ok (.iconst 0, 1) := by decide +kernel
theorem dX6_quarrels_3 : decode cX6_quarrels 3 = .ok (.invokevirtual 149, 3) := by decide +kernel
theorem dX6_quarrels_6 : decode cX6_quarrels 6 = .ok (.istore_n 2, 1) := by decide +kernel
theorem dX6_quarrels_7 : decode cX6_quarrels 7 = .ok (.iconst 0, 1) := by decide +kernel
theorem dX6_quarrels_8 : decode cX6_quarrels 8 = .ok (.istore_n 3, 1) := by decide +kernel
theorem dX6_quarrels_9 : decode cX6_quarrels 9 = .ok (.iload_n 3, 1) := by decide +kernel
theorem dX6_quarrels_10 : decode cX6_quarrels 10 = .ok (.iconst 4, 1) := by decide +kernel
theorem dX6_quarrels_11 : decode cX6_quarrels 11 = .ok (.if_icmp .ge 21, 3) := by decide +kernel
theorem dX6_quarrels_14 : decode cX6_quarrels 14 = .ok (.aload_n 0, 1) := by decide +kernel
theorem dX6_quarrels_15 : decode cX6_quarrels 15 = .ok (.getfield 32, 3) := by decide +kernel
theorem dX6_quarrels_18 : decode cX6_quarrels 18 = .ok (.iload_n 3, 1) := by decide +kernel
theorem dX6_quarrels_19 : decode cX6_quarrels 19 = .ok (.aload_n 0, 1) := by decide +kernel
theorem dX6_quarrels_20 : decode cX6_quarrels 20 = .ok (.getfield 29, 3) := by decide +kernel
theorem dX6_quarrels_23 : decode cX6_quarrels 23 = .ok (.iload_n 3, 1) := by decide +kernel
theorem dX6_quarrels_24 : decode cX6_quarrels 24 = .ok (.iaload, 1) := by decide +kernel
theorem dX6_quarrels_25 : decode cX6_quarrels 25 = .ok (.iastore, 1) := by decide +kernel
theorem dX6_quarrels_26 : decode cX6_quarrels 26 = .ok (.iinc 3 1, 3) := by decide +kernel
theorem dX6_quarrels_29 : decode cX6_quarrels 29 = .ok (.goto (-20), 3) := by decide +kernel
theorem dX6_quarrels_32 : decode cX6_quarrels 32 = .ok (.aload_n 0, 1) := by decide +kernel
theorem dX6_quarrels_33 : decode cX6_quarrels 33 = .ok (.iload_n 1, 1) := by decide +kernel
theorem dX6_quarrels_34 : decode cX6_quarrels 34 = .ok (.iconst 1, 1) := by decide +kernel
theorem dX6_quarrels_35 : decode cX6_quarrels 35 = .ok (.invokevirtual 149, 3) := by decide +kernel
theorem dX6_quarrels_38 : decode cX6_quarrels 38 = .ok (.istore_n 3, 1) := by decide +kernel
theorem dX6_quarrels_39 : decode cX6_quarrels 39 = .ok (.aload_n 0, 1) := by decide +kernel
theorem dX6_quarrels_40 : decode cX6_quarrels 40 = .ok (.iconst 1, 1) := by decide +kernel
theorem dX6_quarrels_41 : decode cX6_quarrels 41 = .ok (.iconst 0, 1) := by decide +kernel
theorem dX6_quarrels_42 : decode cX6_quarrels 42 = .ok (.invokevirtual 52, 3) := by decide +kernel
theorem dX6_quarrels_45 : decode cX6_quarrels 45 = .ok (.iload_n 2, 1) := by decide +kernel
theorem dX6_quarrels_46 : decode cX6_quarrels 46 = .ok (.iload_n 3, 1) := by decide +kernel
theorem dX6_quarrels_47 : decode cX6_quarrels 47 = .ok (.if_icmp .eq 7, 3) := by decide +kernel
theorem dX6_quarrels_50 : decode cX6_quarrels 50 = .ok (.iconst 1, 1) := by decide +kernel
theorem dX6_quarrels_51 : decode cX6_quarrels 51 = .ok (.goto 4, 3) := by decide +kernel
theorem dX6_quarrels_54 : decode cX6_quarrels 54 = .ok (.iconst 0, 1) := by decide +kernel
theorem dX6_quarrels_55 : decode cX6_quarrels 55 = .ok (.istore 4, 2) := by decide +kernel
theorem dX6_quarrels_57 : decode cX6_quarrels 57 = .ok (.iconst 1, 1) := by decide +kernel
theorem dX6_quarrels_58 : decode cX6_quarrels 58 = .ok (.istore 5, 2) := by decide +kernel
theorem dX6_quarrels_60 : decode cX6_quarrels 60 = .ok (.iload 5, 2) := by decide +kernel
theorem dX6_quarrels_62 : decode cX6_quarrels 62 = .ok (.iconst 4, 1) := by decide +kernel
theorem dX6_quarrels_63 : decode cX6_quarrels 63 = .ok (.if_icmp .ge 46, 3) := by decide +kernel
theorem dX6_quarrels_66 : decode cX6_quarrels 66 = .ok (.iload 4, 2) := by decide +kernel
theorem dX6_quarrels_68 : decode cX6_quarrels 68 = .ok (.ifCond .ne 28, 3) := by decide +kernel
theorem dX6_quarrels_71 : decode cX6_quarrels 71 = .ok (.iload_n 2, 1) := by decide +kernel
theorem dX6_quarrels_72 : decode cX6_quarrels 72 = .ok (.ifCond .eq 28, 3) := by decide +kernel
theorem dX6_quarrels_75 : decode cX6_quarrels 75 = .ok (.iload_n 3, 1) := by decide +kernel
theorem dX6_quarrels_76 : decode cX6_quarrels 76 = .ok (.ifCond .eq 24, 3) := by decide +kernel
theorem dX6_quarrels_79 : decode cX6_quarrels 79 = .ok (.aload_n 0, 1) := by decide +kernel
theorem dX6_quarrels_80 : decode cX6_quarrels 80 = .ok (.getfield 29, 3) := by decide +kernel
theorem dX6_quarrels_83 : decode cX6_quarrels 83 = .ok (.iload 5, 2) := by decide +kernel
theorem dX6_quarrels_85 : decode cX6_quarrels 85 = .ok (.iaload, 1) := by decide +kernel
theorem dX6_quarrels_86 : decode cX6_quarrels 86 = .ok (.aload_n 0, 1) := by decide +kernel
theorem dX6_quarrels_87 : decode cX6_quarrels 87 = .ok (.getfield 32, 3) := by decide +kernel
theorem dX6_quarrels_90 : decode cX6_quarrels 90 = .ok (.iload 5, 2) := by decide +kernel
theorem dX6_quarrels_92 : decode cX6_quarrels 92 = .ok (.iaload, 1) := by decide +kernel
theorem dX6_quarrels_93 : decode cX6_quarrels 93 = .ok (.if_icmp .eq 7, 3) := by decide +kernel
theorem dX6_quarrels_96 : decode cX6_quarrels 96 = .ok (.iconst 1, 1) := by decide +kernel
theorem dX6_quarrels_97 : decode cX6_quarrels 97 = .ok (.goto 4, 3) := by decide +kernel
theorem dX6_quarrels_100 : decode cX6_quarrels 100 = .ok (.iconst 0, 1) := by decide +kernel
theorem dX6_quarrels_101 : decode cX6_quarrels 101 = .ok (.istore 4, 2) := by decide +kernel
theorem dX6_quarrels_103 : decode cX6_quarrels 103 = .ok (.iinc 5 1, 3) := by decide +kernel
theorem dX6_quarrels_106 : decode cX6_quarrels 106 = .ok (.goto (-46), 3) := by decide +kernel
theorem dX6_quarrels_109 : decode cX6_quarrels 109 = .ok (.iload 4, 2) := by decide +kernel
theorem dX6_quarrels_111 : decode cX6_quarrels 111 = .ok (.ireturn, 1) := by decide +kernel
theorem dX6_quarrel_0 : decode cX6_quarrel 0 = .ok (.iconst 0, 1) := by decide +kernel
theorem dX6_quarrel_1 : decode cX6_quarrel 1 = .ok (.istore_n 1, 1) := by decide +kernel
theorem dX6_quarrel_2 : decode cX6_quarrel 2 = .ok (.iconst 0, 1) := by decide +kernel
theorem dX6_quarrel_3 : decode cX6_quarrel 3 = .ok (.istore_n 2, 1) := by decide +kernel
theorem dX6_quarrel_4 : decode cX6_quarrel 4 = .ok (.iload_n 2, 1) := by decide +kernel
theorem dX6_quarrel_5 : decode cX6_quarrel 5 = .ok (.bipush 31, 2) := by decide +kernel
theorem dX6_quarrel_7 : decode cX6_quarrel 7 = .ok (.if_icmp .ge 27, 3) := by decide +kernel
theorem dX6_quarrel_10 : decode cX6_quarrel 10 = .ok (.iload_n 1, 1) := by decide +kernel
theorem dX6_quarrel_11 : decode cX6_quarrel 11 = .ok (.aload_n 0, 1) := by decide +kernel
theorem dX6_quarrel_12 : decode cX6_quarrel 12 = .ok (.iload_n 2, 1) := by decide +kernel
theorem dX6_quarrel_13 : decode cX6_quarrel 13 = .ok (.invokevirtual 157, 3) := by decide +kernel
theorem dX6_quarrel_16 : decode cX6_quarrel 16 = .ok (.ifCond .eq 9, 3) := by decide +kernel
theorem dX6_quarrel_19 : decode cX6_quarrel 19 = .ok (.iconst 1, 1) := by decide +kernel
theorem dX6_quarrel_20 : decode cX6_quarrel 20 = .ok (.iload_n 2, 1) := by decide +kernel
theorem dX6_quarrel_21 : decode cX6_quarrel 21 = .ok (.ishl, 1) := by decide +kernel
theorem dX6_quarrel_22 : decode cX6_quarrel 22 = .ok (.goto 4, 3) := by decide +kernel
theorem dX6_quarrel_25 : decode cX6_quarrel 25 = .ok (.iconst 0, 1) := by decide +kernel
theorem dX6_quarrel_26 : decode cX6_quarrel 26 = .ok (.ior, 1) := by decide +kernel
theorem dX6_quarrel_27 : decode cX6_quarrel 27 = .ok (.istore_n 1, 1) := by decide +kernel
theorem dX6_quarrel_28 : decode cX6_quarrel 28 = .ok (.iinc 2 1, 3) := by decide +kernel
theorem dX6_quarrel_31 : decode cX6_quarrel 31 = .ok (.goto (-27), 3) := by decide +kernel
theorem dX6_quarrel_34 : decode cX6_quarrel 34 = .ok (.iload_n 1, 1) := by decide +kernel
theorem dX6_quarrel_35 : decode cX6_quarrel 35 = .ok (.ireturn, 1) := by decide +kernel
theorem dX6_atRisk_0 : decode cX6_atRisk 0 = .ok (.aload_n 0, 1) := by decide +kernel
theorem dX6_atRisk_1 : decode cX6_atRisk 1 = .ok (.getfield 7, 3) := by decide +kernel
theorem dX6_atRisk_4 : decode cX6_atRisk 4 = .ok (.iconst 0, 1) := by decide +kernel
theorem dX6_atRisk_5 : decode cX6_atRisk 5 = .ok (.iaload, 1) := by decide +kernel
theorem dX6_atRisk_6 : decode cX6_atRisk 6 = .ok (.iconst 3, 1) := by decide +kernel
theorem dX6_atRisk_7 : decode cX6_atRisk 7 = .ok (.if_icmp .ne 6, 3) := by decide +kernel
theorem dX6_atRisk_10 : decode cX6_atRisk 10 = .ok (.ldc 63, 2) := by decide +kernel
theorem dX6_atRisk_12 : decode cX6_atRisk 12 = .ok (.ireturn, 1) := by decide +kernel
theorem dX6_atRisk_13 : decode cX6_atRisk 13 = .ok (.iconst 0, 1) := by decide +kernel
theorem dX6_atRisk_14 : decode cX6_atRisk 14 = .ok (.istore_n 1, 1) := by decide +kernel
theorem dX6_atRisk_15 : decode cX6_atRisk 15 = .ok (.iconst 0, 1) := by decide +kernel
theorem dX6_atRisk_16 : decode cX6_atRisk 16 = .ok (.istore_n 2, 1) := by decide +kernel
theorem dX6_atRisk_17 : decode cX6_atRisk 17 = .ok (.iload_n 2, 1) := by decide +kernel
theorem dX6_atRisk_18 : decode cX6_atRisk 18 = .ok (.bipush 31, 2) := by decide +kernel
theorem dX6_atRisk_20 : decode cX6_atRisk 20 = .ok (.if_icmp .ge 38, 3) := by decide +kernel
theorem dX6_atRisk_23 : decode cX6_atRisk 23 = .ok (.iload_n 1, 1) := by decide +kernel
theorem dX6_atRisk_24 : decode cX6_atRisk 24 = .ok (.aload_n 0, 1) := by decide +kernel
theorem dX6_atRisk_25 : decode cX6_atRisk 25 = .ok (.iconst 0, 1) := by decide +kernel
theorem dX6_atRisk_26 : decode cX6_atRisk 26 = .ok (.iload_n 2, 1) := by decide +kernel
theorem dX6_atRisk_27 : decode cX6_atRisk 27 = .ok (.iconst 0, 1) := by decide +kernel
theorem dX6_atRisk_28 : decode cX6_atRisk 28 = .ok (.invokevirtual 44, 3) := by decide +kernel
theorem dX6_atRisk_31 : decode cX6_atRisk 31 = .ok (.aload_n 0, 1) := by decide +kernel
theorem dX6_atRisk_32 : decode cX6_atRisk 32 = .ok (.getfield 7, 3) := by decide +kernel
theorem dX6_atRisk_35 : decode cX6_atRisk 35 = .ok (.bipush 70, 2) := by decide +kernel
theorem dX6_atRisk_37 : decode cX6_atRisk 37 = .ok (.iload_n 2, 1) := by decide +kernel
theorem dX6_atRisk_38 : decode cX6_atRisk 38 = .ok (.iadd, 1) := by decide +kernel
theorem dX6_atRisk_39 : decode cX6_atRisk 39 = .ok (.iaload, 1) := by decide +kernel
theorem dX6_atRisk_40 : decode cX6_atRisk 40 = .ok (.if_icmp .eq 9, 3) := by decide +kernel
theorem dX6_atRisk_43 : decode cX6_atRisk 43 = .ok (.iconst 1, 1) := by decide +kernel
theorem dX6_atRisk_44 : decode cX6_atRisk 44 = .ok (.iload_n 2, 1) := by decide +kernel
theorem dX6_atRisk_45 : decode cX6_atRisk 45 = .ok (.ishl, 1) := by decide +kernel
theorem dX6_atRisk_46 : decode cX6_atRisk 46 = .ok (.goto 4, 3) := by decide +kernel
theorem dX6_atRisk_49 : decode cX6_atRisk 49 = .ok (.iconst 0, 1) := by decide +kernel
theorem dX6_atRisk_50 : decode cX6_atRisk 50 = .ok (.ior, 1) := by decide +kernel
theorem dX6_atRisk_51 : decode cX6_atRisk 51 = .ok (.istore_n 1, 1) := by decide +kernel
theorem dX6_atRisk_52 : decode cX6_atRisk 52 = .ok (.iinc 2 1, 3) := by decide +kernel
theorem dX6_atRisk_55 : decode cX6_atRisk 55 = .ok (.goto (-38), 3) := by decide +kernel
theorem dX6_atRisk_58 : decode cX6_atRisk 58 = .ok (.iload_n 1, 1) := by decide +kernel
theorem dX6_atRisk_59 : decode cX6_atRisk 59 = .ok (.ireturn, 1) := by decide +kernel
theorem dX6_ones_0 : decode cX6_ones 0 = .ok (.iconst 0, 1) := by decide +kernel
theorem dX6_ones_1 : decode cX6_ones 1 = .ok (.istore_n 1, 1) := by decide +kernel
theorem dX6_ones_2 : decode cX6_ones 2 = .ok (.iconst 0, 1) := by decide +kernel
theorem dX6_ones_3 : decode cX6_ones 3 = .ok (.istore_n 2, 1) := by decide +kernel
theorem dX6_ones_4 : decode cX6_ones 4 = .ok (.iload_n 2, 1) := by decide +kernel
theorem dX6_ones_5 : decode cX6_ones 5 = .ok (.bipush 31, 2) := by decide +kernel
theorem dX6_ones_7 : decode cX6_ones 7 = .ok (.if_icmp .ge 17, 3) := by decide +kernel
theorem dX6_ones_10 : decode cX6_ones 10 = .ok (.iload_n 1, 1) := by decide +kernel
theorem dX6_ones_11 : decode cX6_ones 11 = .ok (.iload_n 0, 1) := by decide +kernel
theorem dX6_ones_12 : decode cX6_ones 12 = .ok (.iload_n 2, 1) := by decide +kernel
theorem dX6_ones_13 : decode cX6_ones 13 = .ok (.ishr, 1) := by decide +kernel
theorem dX6_ones_14 : decode cX6_ones 14 = .ok (.iconst 1, 1) := by decide +kernel
theorem dX6_ones_15 : decode cX6_ones 15 = .ok (.iand, 1) := by decide +kernel
theorem dX6_ones_16 : decode cX6_ones 16 = .ok (.iadd, 1) := by decide +kernel
theorem dX6_ones_17 : decode cX6_ones 17 = .ok (.istore_n 1, 1) := by decide +kernel
theorem dX6_ones_18 : decode cX6_ones 18 = .ok (.iinc 2 1, 3) := by decide +kernel
theorem dX6_ones_21 : decode cX6_ones 21 = .ok (.goto (-17), 3) := by decide +kernel
theorem dX6_ones_24 : decode cX6_ones 24 = .ok (.iload_n 1, 1) := by decide +kernel
theorem dX6_ones_25 : decode cX6_ones 25 = .ok (.ireturn, 1) := by decide +kernel
theorem dX6_walk_0 : decode cX6_walk 0 = .ok (.iload_n 1, 1) := by decide +kernel
theorem dX6_walk_1 : decode cX6_walk 1 = .ok (.iconst 0, 1) := by decide +kernel
theorem dX6_walk_2 : decode cX6_walk 2 = .ok (.iconst 2, 1) := by decide +kernel
theorem dX6_walk_3 : decode cX6_walk 3 = .ok (.invokestatic 107, 3) := by decide +kernel
theorem dX6_walk_6 : decode cX6_walk 6 = .ok (.ifCond .eq 12, 3) := by decide +kernel
theorem dX6_walk_9 : decode cX6_walk 9 = .ok (.iload_n 2, 1) := by decide +kernel
theorem dX6_walk_10 : decode cX6_walk 10 = .ok (.iconst 0, 1) := by decide +kernel
theorem dX6_walk_11 : decode cX6_walk 11 = .ok (.iconst 1, 1) := by decide +kernel
theorem dX6_walk_12 : decode cX6_walk 12 = .ok (.invokestatic 107, 3) := by decide +kernel
theorem dX6_walk_15 : decode cX6_walk 15 = .ok (.ifCond .ne 6, 3) := by decide +kernel
theorem dX6_walk_18 : decode cX6_walk 18 = .ok (.ldc 39, 2) := by decide +kernel
theorem dX6_walk_20 : decode cX6_walk 20 = .ok (.ireturn, 1) := by decide +kernel
theorem dX6_walk_21 : decode cX6_walk 21 = .ok (.aload_n 0, 1) := by decide +kernel
theorem dX6_walk_22 : decode cX6_walk 22 = .ok (.invokevirtual 64, 3) := by decide +kernel
theorem dX6_walk_25 : decode cX6_walk 25 = .ok (.aload_n 0, 1) := by decide +kernel
theorem dX6_walk_26 : decode cX6_walk 26 = .ok (.getfield 7, 3) := by decide +kernel
theorem dX6_walk_29 : decode cX6_walk 29 = .ok (.iconst 5, 1) := by decide +kernel
theorem dX6_walk_30 : decode cX6_walk 30 = .ok (.iconst 3, 1) := by decide +kernel
theorem dX6_walk_31 : decode cX6_walk 31 = .ok (.iload_n 1, 1) := by decide +kernel
theorem dX6_walk_32 : decode cX6_walk 32 = .ok (.imul, 1) := by decide +kernel
theorem dX6_walk_33 : decode cX6_walk 33 = .ok (.iadd, 1) := by decide +kernel
theorem dX6_walk_34 : decode cX6_walk 34 = .ok (.iconst 1, 1) := by decide +kernel
theorem dX6_walk_35 : decode cX6_walk 35 = .ok (.iastore, 1) := by decide +kernel
theorem dX6_walk_36 : decode cX6_walk 36 = .ok (.aload_n 0, 1) := by decide +kernel
theorem dX6_walk_37 : decode cX6_walk 37 = .ok (.getfield 7, 3) := by decide +kernel
theorem dX6_walk_40 : decode cX6_walk 40 = .ok (.iconst 5, 1) := by decide +kernel
theorem dX6_walk_41 : decode cX6_walk 41 = .ok (.iconst 3, 1) := by decide +kernel
theorem dX6_walk_42 : decode cX6_walk 42 = .ok (.iload_n 1, 1) := by decide +kernel
theorem dX6_walk_43 : decode cX6_walk 43 = .ok (.imul, 1) := by decide +kernel
theorem dX6_walk_44 : decode cX6_walk 44 = .ok (.iadd, 1) := by decide +kernel
theorem dX6_walk_45 : decode cX6_walk 45 = .ok (.iconst 1, 1) := by decide +kernel
theorem dX6_walk_46 : decode cX6_walk 46 = .ok (.iadd, 1) := by decide +kernel
theorem dX6_walk_47 : decode cX6_walk 47 = .ok (.iload_n 2, 1) := by decide +kernel
theorem dX6_walk_48 : decode cX6_walk 48 = .ok (.iastore, 1) := by decide +kernel
theorem dX6_walk_49 : decode cX6_walk 49 = .ok (.aload_n 0, 1) := by decide +kernel
theorem dX6_walk_50 : decode cX6_walk 50 = .ok (.getfield 7, 3) := by decide +kernel
theorem dX6_walk_53 : decode cX6_walk 53 = .ok (.iconst 5, 1) := by decide +kernel
theorem dX6_walk_54 : decode cX6_walk 54 = .ok (.iconst 3, 1) := by decide +kernel
theorem dX6_walk_55 : decode cX6_walk 55 = .ok (.iload_n 1, 1) := by decide +kernel
theorem dX6_walk_56 : decode cX6_walk 56 = .ok (.imul, 1) := by decide +kernel
theorem dX6_walk_57 : decode cX6_walk 57 = .ok (.iadd, 1) := by decide +kernel
theorem dX6_walk_58 : decode cX6_walk 58 = .ok (.iconst 2, 1) := by decide +kernel
theorem dX6_walk_59 : decode cX6_walk 59 = .ok (.iadd, 1) := by decide +kernel
theorem dX6_walk_60 : decode cX6_walk 60 = .ok (.iconst (-1), 1) := by decide +kernel
theorem dX6_walk_61 : decode cX6_walk 61 = .ok (.iastore, 1) := by decide +kernel
theorem dX6_walk_62 : decode cX6_walk 62 = .ok (.aload_n 0, 1) := by decide +kernel
theorem dX6_walk_63 : decode cX6_walk 63 = .ok (.aload_n 0, 1) := by decide +kernel
theorem dX6_walk_64 : decode cX6_walk 64 = .ok (.iload_n 2, 1) := by decide +kernel
theorem dX6_walk_65 : decode cX6_walk 65 = .ok (.invokevirtual 154, 3) := by decide +kernel
theorem dX6_walk_68 : decode cX6_walk 68 = .ok (.invokestatic 160, 3) := by decide +kernel
theorem dX6_walk_71 : decode cX6_walk 71 = .ok (.invokevirtual 75, 3) := by decide +kernel
theorem dX6_walk_74 : decode cX6_walk 74 = .ok (.ireturn, 1) := by decide +kernel
theorem dX6_step_0 : decode cX6_step 0 = .ok (.iload_n 1, 1) := by decide +kernel
theorem dX6_step_1 : decode cX6_step 1 = .ok (.iconst 0, 1) := by decide +kernel
theorem dX6_step_2 : decode cX6_step 2 = .ok (.iconst 2, 1) := by decide +kernel
theorem dX6_step_3 : decode cX6_step 3 = .ok (.invokestatic 107, 3) := by decide +kernel
theorem dX6_step_6 : decode cX6_step 6 = .ok (.ifCond .ne 6, 3) := by decide +kernel
theorem dX6_step_9 : decode cX6_step 9 = .ok (.ldc 39, 2) := by decide +kernel
theorem dX6_step_11 : decode cX6_step 11 = .ok (.ireturn, 1) := by decide +kernel
theorem dX6_step_12 : decode cX6_step 12 = .ok (.iconst 5, 1) := by decide +kernel
theorem dX6_step_13 : decode cX6_step 13 = .ok (.iconst 3, 1) := by decide +kernel
theorem dX6_step_14 : decode cX6_step 14 = .ok (.iload_n 1, 1) := by decide +kernel
theorem dX6_step_15 : decode cX6_step 15 = .ok (.imul, 1) := by decide +kernel
theorem dX6_step_16 : decode cX6_step 16 = .ok (.iadd, 1) := by decide +kernel
theorem dX6_step_17 : decode cX6_step 17 = .ok (.istore_n 2, 1) := by decide +kernel
theorem dX6_step_18 : decode cX6_step 18 = .ok (.aload_n 0, 1) := by decide +kernel
theorem dX6_step_19 : decode cX6_step 19 = .ok (.getfield 7, 3) := by decide +kernel
theorem dX6_step_22 : decode cX6_step 22 = .ok (.iload_n 2, 1) := by decide +kernel
theorem dX6_step_23 : decode cX6_step 23 = .ok (.iaload, 1) := by decide +kernel
theorem dX6_step_24 : decode cX6_step 24 = .ok (.ifCond .ne 6, 3) := by decide +kernel
theorem dX6_step_27 : decode cX6_step 27 = .ok (.ldc 63, 2) := by decide +kernel
theorem dX6_step_29 : decode cX6_step 29 = .ok (.ireturn, 1) := by decide +kernel
theorem dX6_step_30 : decode cX6_step 30 = .ok (.aload_n 0, 1) := by decide +kernel
theorem dX6_step_31 : decode cX6_step 31 = .ok (.invokevirtual 64, 3) := by decide +kernel
theorem dX6_step_34 : decode cX6_step 34 = .ok (.aload_n 0, 1) := by decide +kernel
theorem dX6_step_35 : decode cX6_step 35 = .ok (.getfield 7, 3) := by decide +kernel
theorem dX6_step_38 : decode cX6_step 38 = .ok (.iload_n 2, 1) := by decide +kernel
theorem dX6_step_39 : decode cX6_step 39 = .ok (.iconst 2, 1) := by decide +kernel
theorem dX6_step_40 : decode cX6_step 40 = .ok (.iadd, 1) := by decide +kernel
theorem dX6_step_41 : decode cX6_step 41 = .ok (.iaload, 1) := by decide +kernel
theorem dX6_step_42 : decode cX6_step 42 = .ok (.iconst 1, 1) := by decide +kernel
theorem dX6_step_43 : decode cX6_step 43 = .ok (.iadd, 1) := by decide +kernel
theorem dX6_step_44 : decode cX6_step 44 = .ok (.istore_n 3, 1) := by decide +kernel
theorem dX6_step_45 : decode cX6_step 45 = .ok (.iload_n 3, 1) := by decide +kernel
theorem dX6_step_46 : decode cX6_step 46 = .ok (.bipush 31, 2) := by decide +kernel
theorem dX6_step_48 : decode cX6_step 48 = .ok (.if_icmp .ge 25, 3) := by decide +kernel
theorem dX6_step_51 : decode cX6_step 51 = .ok (.aload_n 0, 1) := by decide +kernel
theorem dX6_step_52 : decode cX6_step 52 = .ok (.iload_n 3, 1) := by decide +kernel
theorem dX6_step_53 : decode cX6_step 53 = .ok (.aload_n 0, 1) := by decide +kernel
theorem dX6_step_54 : decode cX6_step 54 = .ok (.getfield 7, 3) := by decide +kernel
theorem dX6_step_57 : decode cX6_step 57 = .ok (.iload_n 2, 1) := by decide +kernel
theorem dX6_step_58 : decode cX6_step 58 = .ok (.iconst 1, 1) := by decide +kernel
theorem dX6_step_59 : decode cX6_step 59 = .ok (.iadd, 1) := by decide +kernel
theorem dX6_step_60 : decode cX6_step 60 = .ok (.iaload, 1) := by decide +kernel
theorem dX6_step_61 : decode cX6_step 61 = .ok (.invokevirtual 149, 3) := by decide +kernel
theorem dX6_step_64 : decode cX6_step 64 = .ok (.ifCond .ne 9, 3) := by decide +kernel
theorem dX6_step_67 : decode cX6_step 67 = .ok (.iinc 3 1, 3) := by decide +kernel
theorem dX6_step_70 : decode cX6_step 70 = .ok (.goto (-25), 3) := by decide +kernel
theorem dX6_step_73 : decode cX6_step 73 = .ok (.aload_n 0, 1) := by decide +kernel
theorem dX6_step_74 : decode cX6_step 74 = .ok (.getfield 7, 3) := by decide +kernel
theorem dX6_step_77 : decode cX6_step 77 = .ok (.iload_n 2, 1) := by decide +kernel
theorem dX6_step_78 : decode cX6_step 78 = .ok (.iload_n 3, 1) := by decide +kernel
theorem dX6_step_79 : decode cX6_step 79 = .ok (.bipush 31, 2) := by decide +kernel
theorem dX6_step_81 : decode cX6_step 81 = .ok (.if_icmp .ge 7, 3) := by decide +kernel
theorem dX6_step_84 : decode cX6_step 84 = .ok (.iconst 1, 1) := by decide +kernel
theorem dX6_step_85 : decode cX6_step 85 = .ok (.goto 4, 3) := by decide +kernel
theorem dX6_step_88 : decode cX6_step 88 = .ok (.iconst 0, 1) := by decide +kernel
theorem dX6_step_89 : decode cX6_step 89 = .ok (.iastore, 1) := by decide +kernel
theorem dX6_step_90 : decode cX6_step 90 = .ok (.aload_n 0, 1) := by decide +kernel
theorem dX6_step_91 : decode cX6_step 91 = .ok (.getfield 7, 3) := by decide +kernel
theorem dX6_step_94 : decode cX6_step 94 = .ok (.iload_n 2, 1) := by decide +kernel
theorem dX6_step_95 : decode cX6_step 95 = .ok (.iconst 2, 1) := by decide +kernel
theorem dX6_step_96 : decode cX6_step 96 = .ok (.iadd, 1) := by decide +kernel
theorem dX6_step_97 : decode cX6_step 97 = .ok (.iload_n 3, 1) := by decide +kernel
theorem dX6_step_98 : decode cX6_step 98 = .ok (.iastore, 1) := by decide +kernel
theorem dX6_step_99 : decode cX6_step 99 = .ok (.aload_n 0, 1) := by decide +kernel
theorem dX6_step_100 : decode cX6_step 100 = .ok (.iload_n 3, 1) := by decide +kernel
theorem dX6_step_101 : decode cX6_step 101 = .ok (.invokevirtual 75, 3) := by decide +kernel
theorem dX6_step_104 : decode cX6_step 104 = .ok (.ireturn, 1) := by decide +kernel
theorem dX6_known_0 : decode cX6_known 0 = .ok (.iconst 0, 1) := by decide +kernel
theorem dX6_known_1 : decode cX6_known 1 = .ok (.istore_n 1, 1) := by decide +kernel
theorem dX6_known_2 : decode cX6_known 2 = .ok (.iconst 0, 1) := by decide +kernel
theorem dX6_known_3 : decode cX6_known 3 = .ok (.istore_n 2, 1) := by decide +kernel
theorem dX6_known_4 : decode cX6_known 4 = .ok (.iload_n 2, 1) := by decide +kernel
theorem dX6_known_5 : decode cX6_known 5 = .ok (.bipush 31, 2) := by decide +kernel
theorem dX6_known_7 : decode cX6_known 7 = .ok (.if_icmp .ge 27, 3) := by decide +kernel
theorem dX6_known_10 : decode cX6_known 10 = .ok (.iload_n 1, 1) := by decide +kernel
theorem dX6_known_11 : decode cX6_known 11 = .ok (.aload_n 0, 1) := by decide +kernel
theorem dX6_known_12 : decode cX6_known 12 = .ok (.iconst 1, 1) := by decide +kernel
theorem dX6_known_13 : decode cX6_known 13 = .ok (.iload_n 2, 1) := by decide +kernel
theorem dX6_known_14 : decode cX6_known 14 = .ok (.iconst 0, 1) := by decide +kernel
theorem dX6_known_15 : decode cX6_known 15 = .ok (.invokevirtual 44, 3) := by decide +kernel
theorem dX6_known_18 : decode cX6_known 18 = .ok (.ifCond .le 7, 3) := by decide +kernel
theorem dX6_known_21 : decode cX6_known 21 = .ok (.iconst 1, 1) := by decide +kernel
theorem dX6_known_22 : decode cX6_known 22 = .ok (.goto 4, 3) := by decide +kernel
theorem dX6_known_25 : decode cX6_known 25 = .ok (.iconst 0, 1) := by decide +kernel
theorem dX6_known_26 : decode cX6_known 26 = .ok (.iadd, 1) := by decide +kernel
theorem dX6_known_27 : decode cX6_known 27 = .ok (.istore_n 1, 1) := by decide +kernel
theorem dX6_known_28 : decode cX6_known 28 = .ok (.iinc 2 1, 3) := by decide +kernel
theorem dX6_known_31 : decode cX6_known 31 = .ok (.goto (-27), 3) := by decide +kernel
theorem dX6_known_34 : decode cX6_known 34 = .ok (.iload_n 1, 1) := by decide +kernel
theorem dX6_known_35 : decode cX6_known 35 = .ok (.ireturn, 1) := by decide +kernel
theorem dX6_count_0 : decode cX6_count 0 = .ok (.iload_n 1, 1) := by decide +kernel
theorem dX6_count_1 : decode cX6_count 1 = .ok (.tableswitch 185 0 12 #[67, 74, 81, 103, 110, 110, 118, 123, 128, 141, 148, 175, 180], 67) := by decide +kernel
theorem dX6_count_68 : decode cX6_count 68 = .ok (.aload_n 0, 1) := by decide +kernel
theorem dX6_count_69 : decode cX6_count 69 = .ok (.getfield 7, 3) := by decide +kernel
theorem dX6_count_72 : decode cX6_count 72 = .ok (.iconst 0, 1) := by decide +kernel
theorem dX6_count_73 : decode cX6_count 73 = .ok (.iaload, 1) := by decide +kernel
theorem dX6_count_74 : decode cX6_count 74 = .ok (.ireturn, 1) := by decide +kernel
theorem dX6_count_75 : decode cX6_count 75 = .ok (.aload_n 0, 1) := by decide +kernel
theorem dX6_count_76 : decode cX6_count 76 = .ok (.getfield 7, 3) := by decide +kernel
theorem dX6_count_79 : decode cX6_count 79 = .ok (.iconst 1, 1) := by decide +kernel
theorem dX6_count_80 : decode cX6_count 80 = .ok (.iaload, 1) := by decide +kernel
theorem dX6_count_81 : decode cX6_count 81 = .ok (.ireturn, 1) := by decide +kernel
theorem dX6_count_82 : decode cX6_count 82 = .ok (.aload_n 0, 1) := by decide +kernel
theorem dX6_count_83 : decode cX6_count 83 = .ok (.getfield 7, 3) := by decide +kernel
theorem dX6_count_86 : decode cX6_count 86 = .ok (.iconst 0, 1) := by decide +kernel
theorem dX6_count_87 : decode cX6_count 87 = .ok (.iaload, 1) := by decide +kernel
theorem dX6_count_88 : decode cX6_count 88 = .ok (.iconst 1, 1) := by decide +kernel
theorem dX6_count_89 : decode cX6_count 89 = .ok (.if_icmp .ne 12, 3) := by decide +kernel
theorem dX6_count_92 : decode cX6_count 92 = .ok (.aload_n 0, 1) := by decide +kernel
theorem dX6_count_93 : decode cX6_count 93 = .ok (.getfield 7, 3) := by decide +kernel
theorem dX6_count_96 : decode cX6_count 96 = .ok (.iconst 2, 1) := by decide +kernel
theorem dX6_count_97 : decode cX6_count 97 = .ok (.iaload, 1) := by decide +kernel
theorem dX6_count_98 : decode cX6_count 98 = .ok (.goto 5, 3) := by decide +kernel
theorem dX6_count_101 : decode cX6_count 101 = .ok (.ldc 153, 2) := by decide +kernel
theorem dX6_count_103 : decode cX6_count 103 = .ok (.ireturn, 1) := by decide +kernel
theorem dX6_count_104 : decode cX6_count 104 = .ok (.aload_n 0, 1) := by decide +kernel
theorem dX6_count_105 : decode cX6_count 105 = .ok (.getfield 7, 3) := by decide +kernel
theorem dX6_count_108 : decode cX6_count 108 = .ok (.iconst 3, 1) := by decide +kernel
theorem dX6_count_109 : decode cX6_count 109 = .ok (.iaload, 1) := by decide +kernel
theorem dX6_count_110 : decode cX6_count 110 = .ok (.ireturn, 1) := by decide +kernel
theorem dX6_count_111 : decode cX6_count 111 = .ok (.aload_n 0, 1) := by decide +kernel
theorem dX6_count_112 : decode cX6_count 112 = .ok (.iload_n 1, 1) := by decide +kernel
theorem dX6_count_113 : decode cX6_count 113 = .ok (.iconst 4, 1) := by decide +kernel
theorem dX6_count_114 : decode cX6_count 114 = .ok (.isub, 1) := by decide +kernel
theorem dX6_count_115 : decode cX6_count 115 = .ok (.invokevirtual 71, 3) := by decide +kernel
theorem dX6_count_118 : decode cX6_count 118 = .ok (.ireturn, 1) := by decide +kernel
theorem dX6_count_119 : decode cX6_count 119 = .ok (.aload_n 0, 1) := by decide +kernel
theorem dX6_count_120 : decode cX6_count 120 = .ok (.invokevirtual 91, 3) := by decide +kernel
theorem dX6_count_123 : decode cX6_count 123 = .ok (.ireturn, 1) := by decide +kernel
theorem dX6_count_124 : decode cX6_count 124 = .ok (.aload_n 0, 1) := by decide +kernel
theorem dX6_count_125 : decode cX6_count 125 = .ok (.invokevirtual 163, 3) := by decide +kernel
theorem dX6_count_128 : decode cX6_count 128 = .ok (.ireturn, 1) := by decide +kernel
theorem dX6_count_129 : decode cX6_count 129 = .ok (.aload_n 0, 1) := by decide +kernel
theorem dX6_count_130 : decode cX6_count 130 = .ok (.invokevirtual 78, 3) := by decide +kernel
theorem dX6_count_133 : decode cX6_count 133 = .ok (.ifCond .eq 7, 3) := by decide +kernel
theorem dX6_count_136 : decode cX6_count 136 = .ok (.iconst 1, 1) := by decide +kernel
theorem dX6_count_137 : decode cX6_count 137 = .ok (.goto 4, 3) := by decide +kernel
theorem dX6_count_140 : decode cX6_count 140 = .ok (.iconst 0, 1) := by decide +kernel
theorem dX6_count_141 : decode cX6_count 141 = .ok (.ireturn, 1) := by decide +kernel
theorem dX6_count_142 : decode cX6_count 142 = .ok (.aload_n 0, 1) := by decide +kernel
theorem dX6_count_143 : decode cX6_count 143 = .ok (.getfield 7, 3) := by decide +kernel
theorem dX6_count_146 : decode cX6_count 146 = .ok (.iconst 4, 1) := by decide +kernel
theorem dX6_count_147 : decode cX6_count 147 = .ok (.iaload, 1) := by decide +kernel
theorem dX6_count_148 : decode cX6_count 148 = .ok (.ireturn, 1) := by decide +kernel
theorem dX6_count_149 : decode cX6_count 149 = .ok (.aload_n 0, 1) := by decide +kernel
theorem dX6_count_150 : decode cX6_count 150 = .ok (.getfield 7, 3) := by decide +kernel
theorem dX6_count_153 : decode cX6_count 153 = .ok (.iconst 5, 1) := by decide +kernel
theorem dX6_count_154 : decode cX6_count 154 = .ok (.iaload, 1) := by decide +kernel
theorem dX6_count_155 : decode cX6_count 155 = .ok (.aload_n 0, 1) := by decide +kernel
theorem dX6_count_156 : decode cX6_count 156 = .ok (.getfield 7, 3) := by decide +kernel
theorem dX6_count_159 : decode cX6_count 159 = .ok (.bipush 8, 2) := by decide +kernel
theorem dX6_count_161 : decode cX6_count 161 = .ok (.iaload, 1) := by decide +kernel
theorem dX6_count_162 : decode cX6_count 162 = .ok (.iconst 1, 1) := by decide +kernel
theorem dX6_count_163 : decode cX6_count 163 = .ok (.ishl, 1) := by decide +kernel
theorem dX6_count_164 : decode cX6_count 164 = .ok (.ior, 1) := by decide +kernel
theorem dX6_count_165 : decode cX6_count 165 = .ok (.aload_n 0, 1) := by decide +kernel
theorem dX6_count_166 : decode cX6_count 166 = .ok (.getfield 7, 3) := by decide +kernel
theorem dX6_count_169 : decode cX6_count 169 = .ok (.bipush 11, 2) := by decide +kernel
theorem dX6_count_171 : decode cX6_count 171 = .ok (.iaload, 1) := by decide +kernel
theorem dX6_count_172 : decode cX6_count 172 = .ok (.iconst 2, 1) := by decide +kernel
theorem dX6_count_173 : decode cX6_count 173 = .ok (.ishl, 1) := by decide +kernel
theorem dX6_count_174 : decode cX6_count 174 = .ok (.ior, 1) := by decide +kernel
theorem dX6_count_175 : decode cX6_count 175 = .ok (.ireturn, 1) := by decide +kernel
theorem dX6_count_176 : decode cX6_count 176 = .ok (.aload_n 0, 1) := by decide +kernel
theorem dX6_count_177 : decode cX6_count 177 = .ok (.getfield 40, 3) := by decide +kernel
theorem dX6_count_180 : decode cX6_count 180 = .ok (.ireturn, 1) := by decide +kernel
theorem dX6_count_181 : decode cX6_count 181 = .ok (.aload_n 0, 1) := by decide +kernel
theorem dX6_count_182 : decode cX6_count 182 = .ok (.getfield 166, 3) := by decide +kernel
theorem dX6_count_185 : decode cX6_count 185 = .ok (.ireturn, 1) := by decide +kernel
theorem dX6_count_186 : decode cX6_count 186 = .ok (.ldc 39, 2) := by decide +kernel
theorem dX6_count_188 : decode cX6_count 188 = .ok (.ireturn, 1) := by decide +kernel
theorem dX6_undo_0 : decode cX6_undo 0 = .ok (.aload_n 0, 1) := by decide +kernel
theorem dX6_undo_1 : decode cX6_undo 1 = .ok (.getfield 40, 3) := by decide +kernel
theorem dX6_undo_4 : decode cX6_undo 4 = .ok (.ifCond .ne 6, 3) := by decide +kernel
theorem dX6_undo_7 : decode cX6_undo 7 = .ok (.ldc 63, 2) := by decide +kernel
theorem dX6_undo_9 : decode cX6_undo 9 = .ok (.ireturn, 1) := by decide +kernel
theorem dX6_undo_10 : decode cX6_undo 10 = .ok (.aload_n 0, 1) := by decide +kernel
theorem dX6_undo_11 : decode cX6_undo 11 = .ok (.dup, 1) := by decide +kernel
theorem dX6_undo_12 : decode cX6_undo 12 = .ok (.getfield 40, 3) := by decide +kernel
theorem dX6_undo_15 : decode cX6_undo 15 = .ok (.iconst 1, 1) := by decide +kernel
theorem dX6_undo_16 : decode cX6_undo 16 = .ok (.isub, 1) := by decide +kernel
theorem dX6_undo_17 : decode cX6_undo 17 = .ok (.putfield 40, 3) := by decide +kernel
theorem dX6_undo_20 : decode cX6_undo 20 = .ok (.iconst 0, 1) := by decide +kernel
theorem dX6_undo_21 : decode cX6_undo 21 = .ok (.istore_n 1, 1) := by decide +kernel
theorem dX6_undo_22 : decode cX6_undo 22 = .ok (.iload_n 1, 1) := by decide +kernel
theorem dX6_undo_23 : decode cX6_undo 23 = .ok (.sipush 411, 3) := by decide +kernel
theorem dX6_undo_26 : decode cX6_undo 26 = .ok (.if_icmp .ge 30, 3) := by decide +kernel
theorem dX6_undo_29 : decode cX6_undo 29 = .ok (.aload_n 0, 1) := by decide +kernel
theorem dX6_undo_30 : decode cX6_undo 30 = .ok (.getfield 7, 3) := by decide +kernel
theorem dX6_undo_33 : decode cX6_undo 33 = .ok (.iload_n 1, 1) := by decide +kernel
theorem dX6_undo_34 : decode cX6_undo 34 = .ok (.aload_n 0, 1) := by decide +kernel
theorem dX6_undo_35 : decode cX6_undo 35 = .ok (.getfield 13, 3) := by decide +kernel
theorem dX6_undo_38 : decode cX6_undo 38 = .ok (.sipush 411, 3) := by decide +kernel
theorem dX6_undo_41 : decode cX6_undo 41 = .ok (.aload_n 0, 1) := by decide +kernel
theorem dX6_undo_42 : decode cX6_undo 42 = .ok (.getfield 40, 3) := by decide +kernel
theorem dX6_undo_45 : decode cX6_undo 45 = .ok (.imul, 1) := by decide +kernel
theorem dX6_undo_46 : decode cX6_undo 46 = .ok (.iload_n 1, 1) := by decide +kernel
theorem dX6_undo_47 : decode cX6_undo 47 = .ok (.iadd, 1) := by decide +kernel
theorem dX6_undo_48 : decode cX6_undo 48 = .ok (.iaload, 1) := by decide +kernel
theorem dX6_undo_49 : decode cX6_undo 49 = .ok (.iastore, 1) := by decide +kernel
theorem dX6_undo_50 : decode cX6_undo 50 = .ok (.iinc 1 1, 3) := by decide +kernel
theorem dX6_undo_53 : decode cX6_undo 53 = .ok (.goto (-31), 3) := by decide +kernel
theorem dX6_undo_56 : decode cX6_undo 56 = .ok (.aload_n 0, 1) := by decide +kernel
theorem dX6_undo_57 : decode cX6_undo 57 = .ok (.getfield 40, 3) := by decide +kernel
theorem dX6_undo_60 : decode cX6_undo 60 = .ok (.ireturn, 1) := by decide +kernel
theorem dX6_type_0 : decode cX6_type 0 = .ok (.iload_n 1, 1) := by decide +kernel
theorem dX6_type_1 : decode cX6_type 1 = .ok (.bipush 32, 2) := by decide +kernel
theorem dX6_type_3 : decode cX6_type 3 = .ok (.bipush 126, 2) := by decide +kernel
theorem dX6_type_5 : decode cX6_type 5 = .ok (.invokestatic 107, 3) := by decide +kernel
theorem dX6_type_8 : decode cX6_type 8 = .ok (.ifCond .ne 6, 3) := by decide +kernel
theorem dX6_type_11 : decode cX6_type 11 = .ok (.ldc 39, 2) := by decide +kernel
theorem dX6_type_13 : decode cX6_type 13 = .ok (.ireturn, 1) := by decide +kernel
theorem dX6_type_14 : decode cX6_type 14 = .ok (.aload_n 0, 1) := by decide +kernel
theorem dX6_type_15 : decode cX6_type 15 = .ok (.getfield 166, 3) := by decide +kernel
theorem dX6_type_18 : decode cX6_type 18 = .ok (.bipush 60, 2) := by decide +kernel
theorem dX6_type_20 : decode cX6_type 20 = .ok (.if_icmp .ne 6, 3) := by decide +kernel
theorem dX6_type_23 : decode cX6_type 23 = .ok (.ldc 95, 2) := by decide +kernel
theorem dX6_type_25 : decode cX6_type 25 = .ok (.ireturn, 1) := by decide +kernel
theorem dX6_type_26 : decode cX6_type 26 = .ok (.aload_n 0, 1) := by decide +kernel
theorem dX6_type_27 : decode cX6_type 27 = .ok (.getfield 22, 3) := by decide +kernel
theorem dX6_type_30 : decode cX6_type 30 = .ok (.aload_n 0, 1) := by decide +kernel
theorem dX6_type_31 : decode cX6_type 31 = .ok (.getfield 166, 3) := by decide +kernel
theorem dX6_type_34 : decode cX6_type 34 = .ok (.iload_n 1, 1) := by decide +kernel
theorem dX6_type_35 : decode cX6_type 35 = .ok (.i2c, 1) := by decide +kernel
theorem dX6_type_36 : decode cX6_type 36 = .ok (.castore, 1) := by decide +kernel
theorem dX6_type_37 : decode cX6_type 37 = .ok (.aload_n 0, 1) := by decide +kernel
theorem dX6_type_38 : decode cX6_type 38 = .ok (.dup, 1) := by decide +kernel
theorem dX6_type_39 : decode cX6_type 39 = .ok (.getfield 166, 3) := by decide +kernel
theorem dX6_type_42 : decode cX6_type 42 = .ok (.iconst 1, 1) := by decide +kernel
theorem dX6_type_43 : decode cX6_type 43 = .ok (.iadd, 1) := by decide +kernel
theorem dX6_type_44 : decode cX6_type 44 = .ok (.putfield 166, 3) := by decide +kernel
theorem dX6_type_47 : decode cX6_type 47 = .ok (.aload_n 0, 1) := by decide +kernel
theorem dX6_type_48 : decode cX6_type 48 = .ok (.getfield 166, 3) := by decide +kernel
theorem dX6_type_51 : decode cX6_type 51 = .ok (.ireturn, 1) := by decide +kernel
theorem dX6_clearText_0 : decode cX6_clearText 0 = .ok (.aload_n 0, 1) := by decide +kernel
theorem dX6_clearText_1 : decode cX6_clearText 1 = .ok (.getfield 166, 3) := by decide +kernel
theorem dX6_clearText_4 : decode cX6_clearText 4 = .ok (.istore_n 1, 1) := by decide +kernel
theorem dX6_clearText_5 : decode cX6_clearText 5 = .ok (.aload_n 0, 1) := by decide +kernel
theorem dX6_clearText_6 : decode cX6_clearText 6 = .ok (.iconst 0, 1) := by decide +kernel
theorem dX6_clearText_7 : decode cX6_clearText 7 = .ok (.putfield 166, 3) := by decide +kernel
theorem dX6_clearText_10 : decode cX6_clearText 10 = .ok (.iload_n 1, 1) := by decide +kernel
theorem dX6_clearText_11 : decode cX6_clearText 11 = .ok (.ireturn, 1) := by decide +kernel
theorem dX6_has_0 : decode cX6_has 0 = .ok (.aload_n 0, 1) := by decide +kernel
theorem dX6_has_1 : decode cX6_has 1 = .ok (.getfield 169, 3) := by decide +kernel
theorem dX6_has_4 : decode cX6_has 4 = .ok (.aload_n 0, 1) := by decide +kernel
theorem dX6_has_5 : decode cX6_has 5 = .ok (.getfield 166, 3) := by decide +kernel
theorem dX6_has_8 : decode cX6_has 8 = .ok (.if_icmp .ge 20, 3) := by decide +kernel
theorem dX6_has_11 : decode cX6_has 11 = .ok (.aload_n 0, 1) := by decide +kernel
theorem dX6_has_12 : decode cX6_has 12 = .ok (.getfield 22, 3) := by decide +kernel
theorem dX6_has_15 : decode cX6_has 15 = .ok (.aload_n 0, 1) := by decide +kernel
theorem dX6_has_16 : decode cX6_has 16 = .ok (.getfield 169, 3) := by decide +kernel
theorem dX6_has_19 : decode cX6_has 19 = .ok (.caload, 1) := by decide +kernel
theorem dX6_has_20 : decode cX6_has 20 = .ok (.iload_n 1, 1) := by decide +kernel
theorem dX6_has_21 : decode cX6_has 21 = .ok (.if_icmp .ne 7, 3) := by decide +kernel
theorem dX6_has_24 : decode cX6_has 24 = .ok (.iconst 1, 1) := by decide +kernel
theorem dX6_has_25 : decode cX6_has 25 = .ok (.goto 4, 3) := by decide +kernel
theorem dX6_has_28 : decode cX6_has 28 = .ok (.iconst 0, 1) := by decide +kernel
theorem dX6_has_29 : decode cX6_has 29 = .ok (.istore_n 2, 1) := by decide +kernel
theorem dX6_has_30 : decode cX6_has 30 = .ok (.aload_n 0, 1) := by decide +kernel
theorem dX6_has_31 : decode cX6_has 31 = .ok (.dup, 1) := by decide +kernel
theorem dX6_has_32 : decode cX6_has 32 = .ok (.getfield 169, 3) := by decide +kernel
theorem dX6_has_35 : decode cX6_has 35 = .ok (.iload_n 2, 1) := by decide +kernel
theorem dX6_has_36 : decode cX6_has 36 = .ok (.ifCond .eq 7, 3) := by decide +kernel
theorem dX6_has_39 : decode cX6_has 39 = .ok (.iconst 1, 1) := by decide +kernel
theorem dX6_has_40 : decode cX6_has 40 = .ok (.goto 4, 3) := by decide +kernel
theorem dX6_has_43 : decode cX6_has 43 = .ok (.iconst 0, 1) := by decide +kernel
theorem dX6_has_44 : decode cX6_has 44 = .ok (.iadd, 1) := by decide +kernel
theorem dX6_has_45 : decode cX6_has 45 = .ok (.putfield 169, 3) := by decide +kernel
theorem dX6_has_48 : decode cX6_has 48 = .ok (.iload_n 2, 1) := by decide +kernel
theorem dX6_has_49 : decode cX6_has 49 = .ok (.ireturn, 1) := by decide +kernel
theorem dX6_number_0 : decode cX6_number 0 = .ok (.aload_n 0, 1) := by decide +kernel
theorem dX6_number_1 : decode cX6_number 1 = .ok (.getfield 169, 3) := by decide +kernel
theorem dX6_number_4 : decode cX6_number 4 = .ok (.istore_n 2, 1) := by decide +kernel
theorem dX6_number_5 : decode cX6_number 5 = .ok (.aload_n 0, 1) := by decide +kernel
theorem dX6_number_6 : decode cX6_number 6 = .ok (.getfield 26, 3) := by decide +kernel
theorem dX6_number_9 : decode cX6_number 9 = .ok (.iload_n 1, 1) := by decide +kernel
theorem dX6_number_10 : decode cX6_number 10 = .ok (.iconst 0, 1) := by decide +kernel
theorem dX6_number_11 : decode cX6_number 11 = .ok (.iastore, 1) := by decide +kernel
theorem dX6_number_12 : decode cX6_number 12 = .ok (.aload_n 0, 1) := by decide +kernel
theorem dX6_number_13 : decode cX6_number 13 = .ok (.getfield 169, 3) := by decide +kernel
theorem dX6_number_16 : decode cX6_number 16 = .ok (.aload_n 0, 1) := by decide +kernel
theorem dX6_number_17 : decode cX6_number 17 = .ok (.getfield 166, 3) := by decide +kernel
theorem dX6_number_20 : decode cX6_number 20 = .ok (.if_icmp .ge 73, 3) := by decide +kernel
theorem dX6_number_23 : decode cX6_number 23 = .ok (.aload_n 0, 1) := by decide +kernel
theorem dX6_number_24 : decode cX6_number 24 = .ok (.getfield 169, 3) := by decide +kernel
theorem dX6_number_27 : decode cX6_number 27 = .ok (.iload_n 2, 1) := by decide +kernel
theorem dX6_number_28 : decode cX6_number 28 = .ok (.iconst 3, 1) := by decide +kernel
theorem dX6_number_29 : decode cX6_number 29 = .ok (.iadd, 1) := by decide +kernel
theorem dX6_number_30 : decode cX6_number 30 = .ok (.if_icmp .ge 63, 3) := by decide +kernel
theorem dX6_number_33 : decode cX6_number 33 = .ok (.aload_n 0, 1) := by decide +kernel
theorem dX6_number_34 : decode cX6_number 34 = .ok (.getfield 22, 3) := by decide +kernel
theorem dX6_number_37 : decode cX6_number 37 = .ok (.aload_n 0, 1) := by decide +kernel
theorem dX6_number_38 : decode cX6_number 38 = .ok (.getfield 169, 3) := by decide +kernel
theorem dX6_number_41 : decode cX6_number 41 = .ok (.caload, 1) := by decide +kernel
theorem dX6_number_42 : decode cX6_number 42 = .ok (.bipush 48, 2) := by decide +kernel
theorem dX6_number_44 : decode cX6_number 44 = .ok (.bipush 57, 2) := by decide +kernel
theorem dX6_number_46 : decode cX6_number 46 = .ok (.invokestatic 107, 3) := by decide +kernel
theorem dX6_number_49 : decode cX6_number 49 = .ok (.ifCond .eq 44, 3) := by decide +kernel
theorem dX6_number_52 : decode cX6_number 52 = .ok (.aload_n 0, 1) := by decide +kernel
theorem dX6_number_53 : decode cX6_number 53 = .ok (.getfield 26, 3) := by decide +kernel
theorem dX6_number_56 : decode cX6_number 56 = .ok (.iload_n 1, 1) := by decide +kernel
theorem dX6_number_57 : decode cX6_number 57 = .ok (.bipush 10, 2) := by decide +kernel
theorem dX6_number_59 : decode cX6_number 59 = .ok (.aload_n 0, 1) := by decide +kernel
theorem dX6_number_60 : decode cX6_number 60 = .ok (.getfield 26, 3) := by decide +kernel
theorem dX6_number_63 : decode cX6_number 63 = .ok (.iload_n 1, 1) := by decide +kernel
theorem dX6_number_64 : decode cX6_number 64 = .ok (.iaload, 1) := by decide +kernel
theorem dX6_number_65 : decode cX6_number 65 = .ok (.imul, 1) := by decide +kernel
theorem dX6_number_66 : decode cX6_number 66 = .ok (.aload_n 0, 1) := by decide +kernel
theorem dX6_number_67 : decode cX6_number 67 = .ok (.getfield 22, 3) := by decide +kernel
theorem dX6_number_70 : decode cX6_number 70 = .ok (.aload_n 0, 1) := by decide +kernel
theorem dX6_number_71 : decode cX6_number 71 = .ok (.getfield 169, 3) := by decide +kernel
theorem dX6_number_74 : decode cX6_number 74 = .ok (.caload, 1) := by decide +kernel
theorem dX6_number_75 : decode cX6_number 75 = .ok (.iadd, 1) := by decide +kernel
theorem dX6_number_76 : decode cX6_number 76 = .ok (.bipush 48, 2) := by decide +kernel
theorem dX6_number_78 : decode cX6_number 78 = .ok (.isub, 1) := by decide +kernel
theorem dX6_number_79 : decode cX6_number 79 = .ok (.iastore, 1) := by decide +kernel
theorem dX6_number_80 : decode cX6_number 80 = .ok (.aload_n 0, 1) := by decide +kernel
theorem dX6_number_81 : decode cX6_number 81 = .ok (.dup, 1) := by decide +kernel
theorem dX6_number_82 : decode cX6_number 82 = .ok (.getfield 169, 3) := by decide +kernel
theorem dX6_number_85 : decode cX6_number 85 = .ok (.iconst 1, 1) := by decide +kernel
theorem dX6_number_86 : decode cX6_number 86 = .ok (.iadd, 1) := by decide +kernel
theorem dX6_number_87 : decode cX6_number 87 = .ok (.putfield 169, 3) := by decide +kernel
theorem dX6_number_90 : decode cX6_number 90 = .ok (.goto (-78), 3) := by decide +kernel
theorem dX6_number_93 : decode cX6_number 93 = .ok (.aload_n 0, 1) := by decide +kernel
theorem dX6_number_94 : decode cX6_number 94 = .ok (.getfield 169, 3) := by decide +kernel
theorem dX6_number_97 : decode cX6_number 97 = .ok (.iload_n 2, 1) := by decide +kernel
theorem dX6_number_98 : decode cX6_number 98 = .ok (.if_icmp .le 7, 3) := by decide +kernel
theorem dX6_number_101 : decode cX6_number 101 = .ok (.iconst 1, 1) := by decide +kernel
theorem dX6_number_102 : decode cX6_number 102 = .ok (.goto 4, 3) := by decide +kernel
theorem dX6_number_105 : decode cX6_number 105 = .ok (.iconst 0, 1) := by decide +kernel
theorem dX6_number_106 : decode cX6_number 106 = .ok (.ireturn, 1) := by decide +kernel
theorem dX6_readsForm_0 : decode cX6_readsForm 0 = .ok (.iload_n 1, 1) := by decide +kernel
theorem dX6_readsForm_1 : decode cX6_readsForm 1 = .ok (.bipush 111, 2) := by decide +kernel
theorem dX6_readsForm_3 : decode cX6_readsForm 3 = .ok (.if_icmp .ne 7, 3) := by decide +kernel
theorem dX6_readsForm_6 : decode cX6_readsForm 6 = .ok (.iconst 4, 1) := by decide +kernel
theorem dX6_readsForm_7 : decode cX6_readsForm 7 = .ok (.goto 58, 3) := by decide +kernel
theorem dX6_readsForm_10 : decode cX6_readsForm 10 = .ok (.iload_n 1, 1) := by decide +kernel
theorem dX6_readsForm_11 : decode cX6_readsForm 11 = .ok (.bipush 110, 2) := by decide +kernel
theorem dX6_readsForm_13 : decode cX6_readsForm 13 = .ok (.if_icmp .ne 7, 3) := by decide +kernel
theorem dX6_readsForm_16 : decode cX6_readsForm 16 = .ok (.iconst 3, 1) := by decide +kernel
theorem dX6_readsForm_17 : decode cX6_readsForm 17 = .ok (.goto 48, 3) := by decide +kernel
theorem dX6_readsForm_20 : decode cX6_readsForm 20 = .ok (.iload_n 1, 1) := by decide +kernel
theorem dX6_readsForm_21 : decode cX6_readsForm 21 = .ok (.bipush 120, 2) := by decide +kernel
theorem dX6_readsForm_23 : decode cX6_readsForm 23 = .ok (.if_icmp .eq 21, 3) := by decide +kernel
theorem dX6_readsForm_26 : decode cX6_readsForm 26 = .ok (.iload_n 1, 1) := by decide +kernel
theorem dX6_readsForm_27 : decode cX6_readsForm 27 = .ok (.bipush 100, 2) := by decide +kernel
theorem dX6_readsForm_29 : decode cX6_readsForm 29 = .ok (.if_icmp .eq 15, 3) := by decide +kernel
theorem dX6_readsForm_32 : decode cX6_readsForm 32 = .ok (.iload_n 1, 1) := by decide +kernel
theorem dX6_readsForm_33 : decode cX6_readsForm 33 = .ok (.bipush 98, 2) := by decide +kernel
theorem dX6_readsForm_35 : decode cX6_readsForm 35 = .ok (.if_icmp .eq 9, 3) := by decide +kernel
theorem dX6_readsForm_38 : decode cX6_readsForm 38 = .ok (.iload_n 1, 1) := by decide +kernel
theorem dX6_readsForm_39 : decode cX6_readsForm 39 = .ok (.bipush 109, 2) := by decide +kernel
theorem dX6_readsForm_41 : decode cX6_readsForm 41 = .ok (.if_icmp .ne 7, 3) := by decide +kernel
theorem dX6_readsForm_44 : decode cX6_readsForm 44 = .ok (.iconst 1, 1) := by decide +kernel
theorem dX6_readsForm_45 : decode cX6_readsForm 45 = .ok (.goto 20, 3) := by decide +kernel
theorem dX6_readsForm_48 : decode cX6_readsForm 48 = .ok (.iload_n 1, 1) := by decide +kernel
theorem dX6_readsForm_49 : decode cX6_readsForm 49 = .ok (.bipush 116, 2) := by decide +kernel
theorem dX6_readsForm_51 : decode cX6_readsForm 51 = .ok (.if_icmp .eq 9, 3) := by decide +kernel
theorem dX6_readsForm_54 : decode cX6_readsForm 54 = .ok (.iload_n 1, 1) := by decide +kernel
theorem dX6_readsForm_55 : decode cX6_readsForm 55 = .ok (.bipush 107, 2) := by decide +kernel
theorem dX6_readsForm_57 : decode cX6_readsForm 57 = .ok (.if_icmp .ne 7, 3) := by decide +kernel
theorem dX6_readsForm_60 : decode cX6_readsForm 60 = .ok (.iconst 0, 1) := by decide +kernel
theorem dX6_readsForm_61 : decode cX6_readsForm 61 = .ok (.goto 4, 3) := by decide +kernel
theorem dX6_readsForm_64 : decode cX6_readsForm 64 = .ok (.iconst (-1), 1) := by decide +kernel
theorem dX6_readsForm_65 : decode cX6_readsForm 65 = .ok (.istore_n 2, 1) := by decide +kernel
theorem dX6_readsForm_66 : decode cX6_readsForm 66 = .ok (.iload_n 2, 1) := by decide +kernel
theorem dX6_readsForm_67 : decode cX6_readsForm 67 = .ok (.ifCond .lt 7, 3) := by decide +kernel
theorem dX6_readsForm_70 : decode cX6_readsForm 70 = .ok (.iconst 1, 1) := by decide +kernel
theorem dX6_readsForm_71 : decode cX6_readsForm 71 = .ok (.goto 4, 3) := by decide +kernel
theorem dX6_readsForm_74 : decode cX6_readsForm 74 = .ok (.iconst 0, 1) := by decide +kernel
theorem dX6_readsForm_75 : decode cX6_readsForm 75 = .ok (.istore_n 3, 1) := by decide +kernel
theorem dX6_readsForm_76 : decode cX6_readsForm 76 = .ok (.iconst 0, 1) := by decide +kernel
theorem dX6_readsForm_77 : decode cX6_readsForm 77 = .ok (.istore 4, 2) := by decide +kernel
theorem dX6_readsForm_79 : decode cX6_readsForm 79 = .ok (.iload 4, 2) := by decide +kernel
theorem dX6_readsForm_81 : decode cX6_readsForm 81 = .ok (.iload_n 2, 1) := by decide +kernel
theorem dX6_readsForm_82 : decode cX6_readsForm 82 = .ok (.if_icmp .ge 42, 3) := by decide +kernel
theorem dX6_readsForm_85 : decode cX6_readsForm 85 = .ok (.iload_n 3, 1) := by decide +kernel
theorem dX6_readsForm_86 : decode cX6_readsForm 86 = .ok (.ifCond .eq 38, 3) := by decide +kernel
theorem dX6_readsForm_89 : decode cX6_readsForm 89 = .ok (.iload 4, 2) := by decide +kernel
theorem dX6_readsForm_91 : decode cX6_readsForm 91 = .ok (.ifCond .eq 12, 3) := by decide +kernel
theorem dX6_readsForm_94 : decode cX6_readsForm 94 = .ok (.aload_n 0, 1) := by decide +kernel
theorem dX6_readsForm_95 : decode cX6_readsForm 95 = .ok (.bipush 44, 2) := by decide +kernel
theorem dX6_readsForm_97 : decode cX6_readsForm 97 = .ok (.invokevirtual 172, 3) := by decide +kernel
theorem dX6_readsForm_100 : decode cX6_readsForm 100 = .ok (.ifCond .eq 16, 3) := by decide +kernel
theorem dX6_readsForm_103 : decode cX6_readsForm 103 = .ok (.aload_n 0, 1) := by decide +kernel
theorem dX6_readsForm_104 : decode cX6_readsForm 104 = .ok (.iload 4, 2) := by decide +kernel
theorem dX6_readsForm_106 : decode cX6_readsForm 106 = .ok (.invokevirtual 176, 3) := by decide +kernel
theorem dX6_readsForm_109 : decode cX6_readsForm 109 = .ok (.ifCond .eq 7, 3) := by decide +kernel
theorem dX6_readsForm_112 : decode cX6_readsForm 112 = .ok (.iconst 1, 1) := by decide +kernel
theorem dX6_readsForm_113 : decode cX6_readsForm 113 = .ok (.goto 4, 3) := by decide +kernel
theorem dX6_readsForm_116 : decode cX6_readsForm 116 = .ok (.iconst 0, 1) := by decide +kernel
theorem dX6_readsForm_117 : decode cX6_readsForm 117 = .ok (.istore_n 3, 1) := by decide +kernel
theorem dX6_readsForm_118 : decode cX6_readsForm 118 = .ok (.iinc 4 1, 3) := by decide +kernel
theorem dX6_readsForm_121 : decode cX6_readsForm 121 = .ok (.goto (-42), 3) := by decide +kernel
theorem dX6_readsForm_124 : decode cX6_readsForm 124 = .ok (.iload_n 3, 1) := by decide +kernel
theorem dX6_readsForm_125 : decode cX6_readsForm 125 = .ok (.ifCond .eq 16, 3) := by decide +kernel
theorem dX6_readsForm_128 : decode cX6_readsForm 128 = .ok (.aload_n 0, 1) := by decide +kernel
theorem dX6_readsForm_129 : decode cX6_readsForm 129 = .ok (.bipush 59, 2) := by decide +kernel
theorem dX6_readsForm_131 : decode cX6_readsForm 131 = .ok (.invokevirtual 172, 3) := by decide +kernel
theorem dX6_readsForm_134 : decode cX6_readsForm 134 = .ok (.ifCond .eq 7, 3) := by decide +kernel
theorem dX6_readsForm_137 : decode cX6_readsForm 137 = .ok (.iconst 1, 1) := by decide +kernel
theorem dX6_readsForm_138 : decode cX6_readsForm 138 = .ok (.goto 4, 3) := by decide +kernel
theorem dX6_readsForm_141 : decode cX6_readsForm 141 = .ok (.iconst 0, 1) := by decide +kernel
theorem dX6_readsForm_142 : decode cX6_readsForm 142 = .ok (.ireturn, 1) := by decide +kernel
theorem dX6_does_0 : decode cX6_does 0 = .ok (.iload_n 1, 1) := by decide +kernel
theorem dX6_does_1 : decode cX6_does 1 = .ok (.tableswitch 208 98 120 #[181, 208, 170, 208, 208, 208, 208, 208, 208, 208, 208, 192, 136, 107, 208, 208, 208, 208, 203, 208, 208, 208, 159], 107) := by decide +kernel
theorem dX6_does_108 : decode cX6_does 108 = .ok (.aload_n 0, 1) := by decide +kernel
theorem dX6_does_109 : decode cX6_does 109 = .ok (.aload_n 0, 1) := by decide +kernel
theorem dX6_does_110 : decode cX6_does 110 = .ok (.getfield 26, 3) := by decide +kernel
theorem dX6_does_113 : decode cX6_does 113 = .ok (.iconst 0, 1) := by decide +kernel
theorem dX6_does_114 : decode cX6_does 114 = .ok (.iaload, 1) := by decide +kernel
theorem dX6_does_115 : decode cX6_does 115 = .ok (.aload_n 0, 1) := by decide +kernel
theorem dX6_does_116 : decode cX6_does 116 = .ok (.getfield 26, 3) := by decide +kernel
theorem dX6_does_119 : decode cX6_does 119 = .ok (.iconst 1, 1) := by decide +kernel
theorem dX6_does_120 : decode cX6_does 120 = .ok (.iaload, 1) := by decide +kernel
theorem dX6_does_121 : decode cX6_does 121 = .ok (.aload_n 0, 1) := by decide +kernel
theorem dX6_does_122 : decode cX6_does 122 = .ok (.getfield 26, 3) := by decide +kernel
theorem dX6_does_125 : decode cX6_does 125 = .ok (.iconst 2, 1) := by decide +kernel
theorem dX6_does_126 : decode cX6_does 126 = .ok (.iaload, 1) := by decide +kernel
theorem dX6_does_127 : decode cX6_does 127 = .ok (.aload_n 0, 1) := by decide +kernel
theorem dX6_does_128 : decode cX6_does 128 = .ok (.getfield 26, 3) := by decide +kernel
theorem dX6_does_131 : decode cX6_does 131 = .ok (.iconst 3, 1) := by decide +kernel
theorem dX6_does_132 : decode cX6_does 132 = .ok (.iaload, 1) := by decide +kernel
theorem dX6_does_133 : decode cX6_does 133 = .ok (.invokevirtual 118, 3) := by decide +kernel
theorem dX6_does_136 : decode cX6_does 136 = .ok (.ireturn, 1) := by decide +kernel
theorem dX6_does_137 : decode cX6_does 137 = .ok (.aload_n 0, 1) := by decide +kernel
theorem dX6_does_138 : decode cX6_does 138 = .ok (.aload_n 0, 1) := by decide +kernel
theorem dX6_does_139 : decode cX6_does 139 = .ok (.getfield 26, 3) := by decide +kernel
theorem dX6_does_142 : decode cX6_does 142 = .ok (.iconst 0, 1) := by decide +kernel
theorem dX6_does_143 : decode cX6_does 143 = .ok (.iaload, 1) := by decide +kernel
theorem dX6_does_144 : decode cX6_does 144 = .ok (.aload_n 0, 1) := by decide +kernel
theorem dX6_does_145 : decode cX6_does 145 = .ok (.getfield 26, 3) := by decide +kernel
theorem dX6_does_148 : decode cX6_does 148 = .ok (.iconst 1, 1) := by decide +kernel
theorem dX6_does_149 : decode cX6_does 149 = .ok (.iaload, 1) := by decide +kernel
theorem dX6_does_150 : decode cX6_does 150 = .ok (.aload_n 0, 1) := by decide +kernel
theorem dX6_does_151 : decode cX6_does 151 = .ok (.getfield 26, 3) := by decide +kernel
theorem dX6_does_154 : decode cX6_does 154 = .ok (.iconst 2, 1) := by decide +kernel
theorem dX6_does_155 : decode cX6_does 155 = .ok (.iaload, 1) := by decide +kernel
theorem dX6_does_156 : decode cX6_does 156 = .ok (.invokevirtual 122, 3) := by decide +kernel
theorem dX6_does_159 : decode cX6_does 159 = .ok (.ireturn, 1) := by decide +kernel
theorem dX6_does_160 : decode cX6_does 160 = .ok (.aload_n 0, 1) := by decide +kernel
theorem dX6_does_161 : decode cX6_does 161 = .ok (.aload_n 0, 1) := by decide +kernel
theorem dX6_does_162 : decode cX6_does 162 = .ok (.getfield 26, 3) := by decide +kernel
theorem dX6_does_165 : decode cX6_does 165 = .ok (.iconst 0, 1) := by decide +kernel
theorem dX6_does_166 : decode cX6_does 166 = .ok (.iaload, 1) := by decide +kernel
theorem dX6_does_167 : decode cX6_does 167 = .ok (.invokevirtual 125, 3) := by decide +kernel
theorem dX6_does_170 : decode cX6_does 170 = .ok (.ireturn, 1) := by decide +kernel
theorem dX6_does_171 : decode cX6_does 171 = .ok (.aload_n 0, 1) := by decide +kernel
theorem dX6_does_172 : decode cX6_does 172 = .ok (.aload_n 0, 1) := by decide +kernel
theorem dX6_does_173 : decode cX6_does 173 = .ok (.getfield 26, 3) := by decide +kernel
theorem dX6_does_176 : decode cX6_does 176 = .ok (.iconst 0, 1) := by decide +kernel
theorem dX6_does_177 : decode cX6_does 177 = .ok (.iaload, 1) := by decide +kernel
theorem dX6_does_178 : decode cX6_does 178 = .ok (.invokevirtual 131, 3) := by decide +kernel
theorem dX6_does_181 : decode cX6_does 181 = .ok (.ireturn, 1) := by decide +kernel
theorem dX6_does_182 : decode cX6_does 182 = .ok (.aload_n 0, 1) := by decide +kernel
theorem dX6_does_183 : decode cX6_does 183 = .ok (.aload_n 0, 1) := by decide +kernel
theorem dX6_does_184 : decode cX6_does 184 = .ok (.getfield 26, 3) := by decide +kernel
theorem dX6_does_187 : decode cX6_does 187 = .ok (.iconst 0, 1) := by decide +kernel
theorem dX6_does_188 : decode cX6_does 188 = .ok (.iaload, 1) := by decide +kernel
theorem dX6_does_189 : decode cX6_does 189 = .ok (.invokevirtual 137, 3) := by decide +kernel
theorem dX6_does_192 : decode cX6_does 192 = .ok (.ireturn, 1) := by decide +kernel
theorem dX6_does_193 : decode cX6_does 193 = .ok (.aload_n 0, 1) := by decide +kernel
theorem dX6_does_194 : decode cX6_does 194 = .ok (.aload_n 0, 1) := by decide +kernel
theorem dX6_does_195 : decode cX6_does 195 = .ok (.getfield 26, 3) := by decide +kernel
theorem dX6_does_198 : decode cX6_does 198 = .ok (.iconst 0, 1) := by decide +kernel
theorem dX6_does_199 : decode cX6_does 199 = .ok (.iaload, 1) := by decide +kernel
theorem dX6_does_200 : decode cX6_does 200 = .ok (.invokevirtual 143, 3) := by decide +kernel
theorem dX6_does_203 : decode cX6_does 203 = .ok (.ireturn, 1) := by decide +kernel
theorem dX6_does_204 : decode cX6_does 204 = .ok (.aload_n 0, 1) := by decide +kernel
theorem dX6_does_205 : decode cX6_does 205 = .ok (.invokevirtual 82, 3) := by decide +kernel
theorem dX6_does_208 : decode cX6_does 208 = .ok (.ireturn, 1) := by decide +kernel
theorem dX6_does_209 : decode cX6_does 209 = .ok (.aload_n 0, 1) := by decide +kernel
theorem dX6_does_210 : decode cX6_does 210 = .ok (.invokevirtual 88, 3) := by decide +kernel
theorem dX6_does_213 : decode cX6_does 213 = .ok (.ireturn, 1) := by decide +kernel
theorem dX6_doesNext_0 : decode cX6_doesNext 0 = .ok (.aload_n 0, 1) := by decide +kernel
theorem dX6_doesNext_1 : decode cX6_doesNext 1 = .ok (.getfield 22, 3) := by decide +kernel
theorem dX6_doesNext_4 : decode cX6_doesNext 4 = .ok (.aload_n 0, 1) := by decide +kernel
theorem dX6_doesNext_5 : decode cX6_doesNext 5 = .ok (.getfield 169, 3) := by decide +kernel
theorem dX6_doesNext_8 : decode cX6_doesNext 8 = .ok (.caload, 1) := by decide +kernel
theorem dX6_doesNext_9 : decode cX6_doesNext 9 = .ok (.istore_n 1, 1) := by decide +kernel
theorem dX6_doesNext_10 : decode cX6_doesNext 10 = .ok (.aload_n 0, 1) := by decide +kernel
theorem dX6_doesNext_11 : decode cX6_doesNext 11 = .ok (.dup, 1) := by decide +kernel
theorem dX6_doesNext_12 : decode cX6_doesNext 12 = .ok (.getfield 169, 3) := by decide +kernel
theorem dX6_doesNext_15 : decode cX6_doesNext 15 = .ok (.iconst 1, 1) := by decide +kernel
theorem dX6_doesNext_16 : decode cX6_doesNext 16 = .ok (.iadd, 1) := by decide +kernel
theorem dX6_doesNext_17 : decode cX6_doesNext 17 = .ok (.putfield 169, 3) := by decide +kernel
theorem dX6_doesNext_20 : decode cX6_doesNext 20 = .ok (.aload_n 0, 1) := by decide +kernel
theorem dX6_doesNext_21 : decode cX6_doesNext 21 = .ok (.iload_n 1, 1) := by decide +kernel
theorem dX6_doesNext_22 : decode cX6_doesNext 22 = .ok (.invokevirtual 179, 3) := by decide +kernel
theorem dX6_doesNext_25 : decode cX6_doesNext 25 = .ok (.ifCond .ne 5, 3) := by decide +kernel
theorem dX6_doesNext_28 : decode cX6_doesNext 28 = .ok (.iconst 1, 1) := by decide +kernel
theorem dX6_doesNext_29 : decode cX6_doesNext 29 = .ok (.ireturn, 1) := by decide +kernel
theorem dX6_doesNext_30 : decode cX6_doesNext 30 = .ok (.aload_n 0, 1) := by decide +kernel
theorem dX6_doesNext_31 : decode cX6_doesNext 31 = .ok (.iload_n 1, 1) := by decide +kernel
theorem dX6_doesNext_32 : decode cX6_doesNext 32 = .ok (.invokevirtual 182, 3) := by decide +kernel
theorem dX6_doesNext_35 : decode cX6_doesNext 35 = .ok (.istore_n 2, 1) := by decide +kernel
theorem dX6_doesNext_36 : decode cX6_doesNext 36 = .ok (.iload_n 2, 1) := by decide +kernel
theorem dX6_doesNext_37 : decode cX6_doesNext 37 = .ok (.ldc 39, 2) := by decide +kernel
theorem dX6_doesNext_39 : decode cX6_doesNext 39 = .ok (.if_icmp .le 7, 3) := by decide +kernel
theorem dX6_doesNext_42 : decode cX6_doesNext 42 = .ok (.iconst 0, 1) := by decide +kernel
theorem dX6_doesNext_43 : decode cX6_doesNext 43 = .ok (.goto 14, 3) := by decide +kernel
theorem dX6_doesNext_46 : decode cX6_doesNext 46 = .ok (.iload_n 2, 1) := by decide +kernel
theorem dX6_doesNext_47 : decode cX6_doesNext 47 = .ok (.ldc 39, 2) := by decide +kernel
theorem dX6_doesNext_49 : decode cX6_doesNext 49 = .ok (.if_icmp .ne 7, 3) := by decide +kernel
theorem dX6_doesNext_52 : decode cX6_doesNext 52 = .ok (.iconst 2, 1) := by decide +kernel
theorem dX6_doesNext_53 : decode cX6_doesNext 53 = .ok (.goto 4, 3) := by decide +kernel
theorem dX6_doesNext_56 : decode cX6_doesNext 56 = .ok (.iconst 3, 1) := by decide +kernel
theorem dX6_doesNext_57 : decode cX6_doesNext 57 = .ok (.ireturn, 1) := by decide +kernel
theorem dX6_faulty_0 : decode cX6_faulty 0 = .ok (.iconst 0, 1) := by decide +kernel
theorem dX6_faulty_1 : decode cX6_faulty 1 = .ok (.istore_n 1, 1) := by decide +kernel
theorem dX6_faulty_2 : decode cX6_faulty 2 = .ok (.iload_n 1, 1) := by decide +kernel
theorem dX6_faulty_3 : decode cX6_faulty 3 = .ok (.sipush 411, 3) := by decide +kernel
theorem dX6_faulty_6 : decode cX6_faulty 6 = .ok (.if_icmp .ge 21, 3) := by decide +kernel
theorem dX6_faulty_9 : decode cX6_faulty 9 = .ok (.aload_n 0, 1) := by decide +kernel
theorem dX6_faulty_10 : decode cX6_faulty 10 = .ok (.getfield 19, 3) := by decide +kernel
theorem dX6_faulty_13 : decode cX6_faulty 13 = .ok (.iload_n 1, 1) := by decide +kernel
theorem dX6_faulty_14 : decode cX6_faulty 14 = .ok (.aload_n 0, 1) := by decide +kernel
theorem dX6_faulty_15 : decode cX6_faulty 15 = .ok (.getfield 7, 3) := by decide +kernel
theorem dX6_faulty_18 : decode cX6_faulty 18 = .ok (.iload_n 1, 1) := by decide +kernel
theorem dX6_faulty_19 : decode cX6_faulty 19 = .ok (.iaload, 1) := by decide +kernel
theorem dX6_faulty_20 : decode cX6_faulty 20 = .ok (.iastore, 1) := by decide +kernel
theorem dX6_faulty_21 : decode cX6_faulty 21 = .ok (.iinc 1 1, 3) := by decide +kernel
theorem dX6_faulty_24 : decode cX6_faulty 24 = .ok (.goto (-22), 3) := by decide +kernel
theorem dX6_faulty_27 : decode cX6_faulty 27 = .ok (.ldc 153, 2) := by decide +kernel
theorem dX6_faulty_29 : decode cX6_faulty 29 = .ok (.istore_n 1, 1) := by decide +kernel
theorem dX6_faulty_30 : decode cX6_faulty 30 = .ok (.aload_n 0, 1) := by decide +kernel
theorem dX6_faulty_31 : decode cX6_faulty 31 = .ok (.iconst 0, 1) := by decide +kernel
theorem dX6_faulty_32 : decode cX6_faulty 32 = .ok (.putfield 169, 3) := by decide +kernel
theorem dX6_faulty_35 : decode cX6_faulty 35 = .ok (.aload_n 0, 1) := by decide +kernel
theorem dX6_faulty_36 : decode cX6_faulty 36 = .ok (.getfield 169, 3) := by decide +kernel
theorem dX6_faulty_39 : decode cX6_faulty 39 = .ok (.aload_n 0, 1) := by decide +kernel
theorem dX6_faulty_40 : decode cX6_faulty 40 = .ok (.getfield 166, 3) := by decide +kernel
theorem dX6_faulty_43 : decode cX6_faulty 43 = .ok (.if_icmp .ge 38, 3) := by decide +kernel
theorem dX6_faulty_46 : decode cX6_faulty 46 = .ok (.iload_n 1, 1) := by decide +kernel
theorem dX6_faulty_47 : decode cX6_faulty 47 = .ok (.ldc 153, 2) := by decide +kernel
theorem dX6_faulty_49 : decode cX6_faulty 49 = .ok (.if_icmp .ne 32, 3) := by decide +kernel
theorem dX6_faulty_52 : decode cX6_faulty 52 = .ok (.aload_n 0, 1) := by decide +kernel
theorem dX6_faulty_53 : decode cX6_faulty 53 = .ok (.getfield 169, 3) := by decide +kernel
theorem dX6_faulty_56 : decode cX6_faulty 56 = .ok (.istore_n 2, 1) := by decide +kernel
theorem dX6_faulty_57 : decode cX6_faulty 57 = .ok (.aload_n 0, 1) := by decide +kernel
theorem dX6_faulty_58 : decode cX6_faulty 58 = .ok (.aload_n 0, 1) := by decide +kernel
theorem dX6_faulty_59 : decode cX6_faulty 59 = .ok (.invokevirtual 186, 3) := by decide +kernel
theorem dX6_faulty_62 : decode cX6_faulty 62 = .ok (.putfield 189, 3) := by decide +kernel
theorem dX6_faulty_65 : decode cX6_faulty 65 = .ok (.aload_n 0, 1) := by decide +kernel
theorem dX6_faulty_66 : decode cX6_faulty 66 = .ok (.getfield 189, 3) := by decide +kernel
theorem dX6_faulty_69 : decode cX6_faulty 69 = .ok (.ifCond .le 7, 3) := by decide +kernel
theorem dX6_faulty_72 : decode cX6_faulty 72 = .ok (.iload_n 2, 1) := by decide +kernel
theorem dX6_faulty_73 : decode cX6_faulty 73 = .ok (.goto 4, 3) := by decide +kernel
theorem dX6_faulty_76 : decode cX6_faulty 76 = .ok (.iload_n 1, 1) := by decide +kernel
theorem dX6_faulty_77 : decode cX6_faulty 77 = .ok (.istore_n 1, 1) := by decide +kernel
theorem dX6_faulty_78 : decode cX6_faulty 78 = .ok (.goto (-43), 3) := by decide +kernel
theorem dX6_faulty_81 : decode cX6_faulty 81 = .ok (.aload_n 0, 1) := by decide +kernel
theorem dX6_faulty_82 : decode cX6_faulty 82 = .ok (.invokevirtual 192, 3) := by decide +kernel
theorem dX6_faulty_85 : decode cX6_faulty 85 = .ok (.iload_n 1, 1) := by decide +kernel
theorem dX6_faulty_86 : decode cX6_faulty 86 = .ok (.ireturn, 1) := by decide +kernel
theorem dX6_fault_0 : decode cX6_fault 0 = .ok (.iload_n 1, 1) := by decide +kernel
theorem dX6_fault_1 : decode cX6_fault 1 = .ok (.iconst 0, 1) := by decide +kernel
theorem dX6_fault_2 : decode cX6_fault 2 = .ok (.iconst 1, 1) := by decide +kernel
theorem dX6_fault_3 : decode cX6_fault 3 = .ok (.invokestatic 107, 3) := by decide +kernel
theorem dX6_fault_6 : decode cX6_fault 6 = .ok (.ifCond .ne 6, 3) := by decide +kernel
theorem dX6_fault_9 : decode cX6_fault 9 = .ok (.ldc 39, 2) := by decide +kernel
theorem dX6_fault_11 : decode cX6_fault 11 = .ok (.ireturn, 1) := by decide +kernel
theorem dX6_fault_12 : decode cX6_fault 12 = .ok (.aload_n 0, 1) := by decide +kernel
theorem dX6_fault_13 : decode cX6_fault 13 = .ok (.invokevirtual 195, 3) := by decide +kernel
theorem dX6_fault_16 : decode cX6_fault 16 = .ok (.istore_n 2, 1) := by decide +kernel
theorem dX6_fault_17 : decode cX6_fault 17 = .ok (.iload_n 2, 1) := by decide +kernel
theorem dX6_fault_18 : decode cX6_fault 18 = .ok (.ldc 153, 2) := by decide +kernel
theorem dX6_fault_20 : decode cX6_fault 20 = .ok (.if_icmp .eq 7, 3) := by decide +kernel
theorem dX6_fault_23 : decode cX6_fault 23 = .ok (.iload_n 1, 1) := by decide +kernel
theorem dX6_fault_24 : decode cX6_fault 24 = .ok (.ifCond .ne 7, 3) := by decide +kernel
theorem dX6_fault_27 : decode cX6_fault 27 = .ok (.iload_n 2, 1) := by decide +kernel
theorem dX6_fault_28 : decode cX6_fault 28 = .ok (.goto 7, 3) := by decide +kernel
theorem dX6_fault_31 : decode cX6_fault 31 = .ok (.aload_n 0, 1) := by decide +kernel
theorem dX6_fault_32 : decode cX6_fault 32 = .ok (.getfield 189, 3) := by decide +kernel
theorem dX6_fault_35 : decode cX6_fault 35 = .ok (.ireturn, 1) := by decide +kernel
theorem dX6_play_0 : decode cX6_play 0 = .ok (.aload_n 0, 1) := by decide +kernel
theorem dX6_play_1 : decode cX6_play 1 = .ok (.invokevirtual 195, 3) := by decide +kernel
theorem dX6_play_4 : decode cX6_play 4 = .ok (.ldc 153, 2) := by decide +kernel
theorem dX6_play_6 : decode cX6_play 6 = .ok (.if_icmp .eq 6, 3) := by decide +kernel
theorem dX6_play_9 : decode cX6_play 9 = .ok (.ldc 63, 2) := by decide +kernel
theorem dX6_play_11 : decode cX6_play 11 = .ok (.ireturn, 1) := by decide +kernel
theorem dX6_play_12 : decode cX6_play 12 = .ok (.aload_n 0, 1) := by decide +kernel
theorem dX6_play_13 : decode cX6_play 13 = .ok (.invokevirtual 64, 3) := by decide +kernel
theorem dX6_play_16 : decode cX6_play 16 = .ok (.iconst 0, 1) := by decide +kernel
theorem dX6_play_17 : decode cX6_play 17 = .ok (.istore_n 1, 1) := by decide +kernel
theorem dX6_play_18 : decode cX6_play 18 = .ok (.aload_n 0, 1) := by decide +kernel
theorem dX6_play_19 : decode cX6_play 19 = .ok (.iconst 0, 1) := by decide +kernel
theorem dX6_play_20 : decode cX6_play 20 = .ok (.putfield 169, 3) := by decide +kernel
theorem dX6_play_23 : decode cX6_play 23 = .ok (.aload_n 0, 1) := by decide +kernel
theorem dX6_play_24 : decode cX6_play 24 = .ok (.getfield 169, 3) := by decide +kernel
theorem dX6_play_27 : decode cX6_play 27 = .ok (.aload_n 0, 1) := by decide +kernel
theorem dX6_play_28 : decode cX6_play 28 = .ok (.getfield 166, 3) := by decide +kernel
theorem dX6_play_31 : decode cX6_play 31 = .ok (.if_icmp .ge 21, 3) := by decide +kernel
theorem dX6_play_34 : decode cX6_play 34 = .ok (.iload_n 1, 1) := by decide +kernel
theorem dX6_play_35 : decode cX6_play 35 = .ok (.aload_n 0, 1) := by decide +kernel
theorem dX6_play_36 : decode cX6_play 36 = .ok (.invokevirtual 186, 3) := by decide +kernel
theorem dX6_play_39 : decode cX6_play 39 = .ok (.ifCond .ne 7, 3) := by decide +kernel
theorem dX6_play_42 : decode cX6_play 42 = .ok (.iconst 1, 1) := by decide +kernel
theorem dX6_play_43 : decode cX6_play 43 = .ok (.goto 4, 3) := by decide +kernel
theorem dX6_play_46 : decode cX6_play 46 = .ok (.iconst 0, 1) := by decide +kernel
theorem dX6_play_47 : decode cX6_play 47 = .ok (.iadd, 1) := by decide +kernel
theorem dX6_play_48 : decode cX6_play 48 = .ok (.istore_n 1, 1) := by decide +kernel
theorem dX6_play_49 : decode cX6_play 49 = .ok (.goto (-26), 3) := by decide +kernel
theorem dX6_play_52 : decode cX6_play 52 = .ok (.aload_n 0, 1) := by decide +kernel
theorem dX6_play_53 : decode cX6_play 53 = .ok (.iload_n 1, 1) := by decide +kernel
theorem dX6_play_54 : decode cX6_play 54 = .ok (.invokevirtual 75, 3) := by decide +kernel
theorem dX6_play_57 : decode cX6_play 57 = .ok (.ireturn, 1) := by decide +kernel
theorem dJ6_bitCount_0f7a4_0 : decode cJ6_bitCount_0f7a4 0 = .ok (.iload_n 0, 1) := by decide +kernel
theorem dJ6_bitCount_0f7a4_1 : decode cJ6_bitCount_0f7a4 1 = .ok (.iload_n 0, 1) := by decide +kernel
theorem dJ6_bitCount_0f7a4_2 : decode cJ6_bitCount_0f7a4 2 = .ok (.iconst 1, 1) := by decide +kernel
theorem dJ6_bitCount_0f7a4_3 : decode cJ6_bitCount_0f7a4 3 = .ok (.iushr, 1) := by decide +kernel
theorem dJ6_bitCount_0f7a4_4 : decode cJ6_bitCount_0f7a4 4 = .ok (.ldc_w 265, 3) := by decide +kernel
theorem dJ6_bitCount_0f7a4_7 : decode cJ6_bitCount_0f7a4 7 = .ok (.iand, 1) := by decide +kernel
theorem dJ6_bitCount_0f7a4_8 : decode cJ6_bitCount_0f7a4 8 = .ok (.isub, 1) := by decide +kernel
theorem dJ6_bitCount_0f7a4_9 : decode cJ6_bitCount_0f7a4 9 = .ok (.istore_n 0, 1) := by decide +kernel
theorem dJ6_bitCount_0f7a4_10 : decode cJ6_bitCount_0f7a4 10 = .ok (.iload_n 0, 1) := by decide +kernel
theorem dJ6_bitCount_0f7a4_11 : decode cJ6_bitCount_0f7a4 11 = .ok (.ldc_w 266, 3) := by decide +kernel
theorem dJ6_bitCount_0f7a4_14 : decode cJ6_bitCount_0f7a4 14 = .ok (.iand, 1) := by decide +kernel
theorem dJ6_bitCount_0f7a4_15 : decode cJ6_bitCount_0f7a4 15 = .ok (.iload_n 0, 1) := by decide +kernel
theorem dJ6_bitCount_0f7a4_16 : decode cJ6_bitCount_0f7a4 16 = .ok (.iconst 2, 1) := by decide +kernel
theorem dJ6_bitCount_0f7a4_17 : decode cJ6_bitCount_0f7a4 17 = .ok (.iushr, 1) := by decide +kernel
theorem dJ6_bitCount_0f7a4_18 : decode cJ6_bitCount_0f7a4 18 = .ok (.ldc_w 266, 3) := by decide +kernel
theorem dJ6_bitCount_0f7a4_21 : decode cJ6_bitCount_0f7a4 21 = .ok (.iand, 1) := by decide +kernel
theorem dJ6_bitCount_0f7a4_22 : decode cJ6_bitCount_0f7a4 22 = .ok (.iadd, 1) := by decide +kernel
theorem dJ6_bitCount_0f7a4_23 : decode cJ6_bitCount_0f7a4 23 = .ok (.istore_n 0, 1) := by decide +kernel
theorem dJ6_bitCount_0f7a4_24 : decode cJ6_bitCount_0f7a4 24 = .ok (.iload_n 0, 1) := by decide +kernel
theorem dJ6_bitCount_0f7a4_25 : decode cJ6_bitCount_0f7a4 25 = .ok (.iload_n 0, 1) := by decide +kernel
theorem dJ6_bitCount_0f7a4_26 : decode cJ6_bitCount_0f7a4 26 = .ok (.iconst 4, 1) := by decide +kernel
theorem dJ6_bitCount_0f7a4_27 : decode cJ6_bitCount_0f7a4 27 = .ok (.iushr, 1) := by decide +kernel
theorem dJ6_bitCount_0f7a4_28 : decode cJ6_bitCount_0f7a4 28 = .ok (.iadd, 1) := by decide +kernel
theorem dJ6_bitCount_0f7a4_29 : decode cJ6_bitCount_0f7a4 29 = .ok (.ldc_w 267, 3) := by decide +kernel
theorem dJ6_bitCount_0f7a4_32 : decode cJ6_bitCount_0f7a4 32 = .ok (.iand, 1) := by decide +kernel
theorem dJ6_bitCount_0f7a4_33 : decode cJ6_bitCount_0f7a4 33 = .ok (.istore_n 0, 1) := by decide +kernel
theorem dJ6_bitCount_0f7a4_34 : decode cJ6_bitCount_0f7a4 34 = .ok (.iload_n 0, 1) := by decide +kernel
theorem dJ6_bitCount_0f7a4_35 : decode cJ6_bitCount_0f7a4 35 = .ok (.iload_n 0, 1) := by decide +kernel
theorem dJ6_bitCount_0f7a4_36 : decode cJ6_bitCount_0f7a4 36 = .ok (.bipush 8, 2) := by decide +kernel
theorem dJ6_bitCount_0f7a4_38 : decode cJ6_bitCount_0f7a4 38 = .ok (.iushr, 1) := by decide +kernel
theorem dJ6_bitCount_0f7a4_39 : decode cJ6_bitCount_0f7a4 39 = .ok (.iadd, 1) := by decide +kernel
theorem dJ6_bitCount_0f7a4_40 : decode cJ6_bitCount_0f7a4 40 = .ok (.istore_n 0, 1) := by decide +kernel
theorem dJ6_bitCount_0f7a4_41 : decode cJ6_bitCount_0f7a4 41 = .ok (.iload_n 0, 1) := by decide +kernel
theorem dJ6_bitCount_0f7a4_42 : decode cJ6_bitCount_0f7a4 42 = .ok (.iload_n 0, 1) := by decide +kernel
theorem dJ6_bitCount_0f7a4_43 : decode cJ6_bitCount_0f7a4 43 = .ok (.bipush 16, 2) := by decide +kernel
theorem dJ6_bitCount_0f7a4_45 : decode cJ6_bitCount_0f7a4 45 = .ok (.iushr, 1) := by decide +kernel
theorem dJ6_bitCount_0f7a4_46 : decode cJ6_bitCount_0f7a4 46 = .ok (.iadd, 1) := by decide +kernel
theorem dJ6_bitCount_0f7a4_47 : decode cJ6_bitCount_0f7a4 47 = .ok (.istore_n 0, 1) := by decide +kernel
theorem dJ6_bitCount_0f7a4_48 : decode cJ6_bitCount_0f7a4 48 = .ok (.iload_n 0, 1) := by decide +kernel
theorem dJ6_bitCount_0f7a4_49 : decode cJ6_bitCount_0f7a4 49 = .ok (.bipush 63, 2) := by decide +kernel
theorem dJ6_bitCount_0f7a4_51 : decode cJ6_bitCount_0f7a4 51 = .ok (.iand, 1) := by decide +kernel
theorem dJ6_bitCount_0f7a4_52 : decode cJ6_bitCount_0f7a4 52 = .ok (.ireturn, 1) := by decide +kernel
theorem dJ9_max_7cf53_0 : decode cJ9_max_7cf53 0 = .ok (.iload_n 0, 1) := by decide +kernel
theorem dJ9_max_7cf53_1 : decode cJ9_max_7cf53 1 = .ok (.iload_n 1, 1) := by decide +kernel
theorem dJ9_max_7cf53_2 : decode cJ9_max_7cf53 2 = .ok (.if_icmp .lt 7, 3) := by decide +kernel
theorem dJ9_max_7cf53_5 : decode cJ9_max_7cf53 5 = .ok (.iload_n 0, 1) := by decide +kernel
theorem dJ9_max_7cf53_6 : decode cJ9_max_7cf53 6 = .ok (.goto 4, 3) := by decide +kernel
theorem dJ9_max_7cf53_9 : decode cJ9_max_7cf53 9 = .ok (.iload_n 1, 1) := by decide +kernel
theorem dJ9_max_7cf53_10 : decode cJ9_max_7cf53 10 = .ok (.ireturn, 1) := by decide +kernel
theorem dJ9_min_7cf53_0 : decode cJ9_min_7cf53 0 = .ok (.iload_n 0, 1) := by decide +kernel
theorem dJ9_min_7cf53_1 : decode cJ9_min_7cf53 1 = .ok (.iload_n 1, 1) := by decide +kernel
theorem dJ9_min_7cf53_2 : decode cJ9_min_7cf53 2 = .ok (.if_icmp .gt 7, 3) := by decide +kernel
theorem dJ9_min_7cf53_5 : decode cJ9_min_7cf53 5 = .ok (.iload_n 0, 1) := by decide +kernel
theorem dJ9_min_7cf53_6 : decode cJ9_min_7cf53 6 = .ok (.goto 4, 3) := by decide +kernel
theorem dJ9_min_7cf53_9 : decode cJ9_min_7cf53 9 = .ok (.iload_n 1, 1) := by decide +kernel
theorem dJ9_min_7cf53_10 : decode cJ9_min_7cf53 10 = .ok (.ireturn, 1) := by decide +kernel
theorem dL_law_0 : decode cL_law 0 = .ok (.new 7, 3) := by decide +kernel
theorem dL_law_3 : decode cL_law 3 = .ok (.dup, 1) := by decide +kernel
theorem dL_law_4 : decode cL_law 4 = .ok (.invokespecial 9, 3) := by decide +kernel
theorem dL_law_7 : decode cL_law 7 = .ok (.astore_n 1, 1) := by decide +kernel
theorem dL_law_8 : decode cL_law 8 = .ok (.new 10, 3) := by decide +kernel
theorem dL_law_11 : decode cL_law 11 = .ok (.dup, 1) := by decide +kernel
theorem dL_law_12 : decode cL_law 12 = .ok (.invokespecial 12, 3) := by decide +kernel
theorem dL_law_15 : decode cL_law 15 = .ok (.astore_n 2, 1) := by decide +kernel
theorem dL_law_16 : decode cL_law 16 = .ok (.iconst 0, 1) := by decide +kernel
theorem dL_law_17 : decode cL_law 17 = .ok (.istore_n 3, 1) := by decide +kernel
theorem dL_law_18 : decode cL_law 18 = .ok (.iload_n 3, 1) := by decide +kernel
theorem dL_law_19 : decode cL_law 19 = .ok (.aload_n 0, 1) := by decide +kernel
theorem dL_law_20 : decode cL_law 20 = .ok (.arraylength, 1) := by decide +kernel
theorem dL_law_21 : decode cL_law 21 = .ok (.iconst 5, 1) := by decide +kernel
theorem dL_law_22 : decode cL_law 22 = .ok (.isub, 1) := by decide +kernel
theorem dL_law_23 : decode cL_law 23 = .ok (.if_icmp .gt 733, 3) := by decide +kernel
theorem dL_law_26 : decode cL_law 26 = .ok (.aload_n 0, 1) := by decide +kernel
theorem dL_law_27 : decode cL_law 27 = .ok (.iload_n 3, 1) := by decide +kernel
theorem dL_law_28 : decode cL_law 28 = .ok (.iaload, 1) := by decide +kernel
theorem dL_law_29 : decode cL_law 29 = .ok (.bipush 31, 2) := by decide +kernel
theorem dL_law_31 : decode cL_law 31 = .ok (.iand, 1) := by decide +kernel
theorem dL_law_32 : decode cL_law 32 = .ok (.tableswitch 718 0 25 #[120, 133, 146, 159, 172, 225, 268, 291, 314, 337, 350, 373, 416, 459, 492, 515, 528, 541, 554, 587, 610, 633, 646, 669, 682, 705], 120) := by decide +kernel
theorem dL_law_152 : decode cL_law 152 = .ok (.aload_n 1, 1) := by decide +kernel
theorem dL_law_153 : decode cL_law 153 = .ok (.invokevirtual 13, 3) := by decide +kernel
theorem dL_law_156 : decode cL_law 156 = .ok (.aload_n 2, 1) := by decide +kernel
theorem dL_law_157 : decode cL_law 157 = .ok (.invokevirtual 17, 3) := by decide +kernel
theorem dL_law_160 : decode cL_law 160 = .ok (.if_icmp .eq 590, 3) := by decide +kernel
theorem dL_law_163 : decode cL_law 163 = .ok (.iconst 0, 1) := by decide +kernel
theorem dL_law_164 : decode cL_law 164 = .ok (.ireturn, 1) := by decide +kernel
theorem dL_law_165 : decode cL_law 165 = .ok (.aload_n 1, 1) := by decide +kernel
theorem dL_law_166 : decode cL_law 166 = .ok (.invokevirtual 18, 3) := by decide +kernel
theorem dL_law_169 : decode cL_law 169 = .ok (.aload_n 2, 1) := by decide +kernel
theorem dL_law_170 : decode cL_law 170 = .ok (.invokevirtual 21, 3) := by decide +kernel
theorem dL_law_173 : decode cL_law 173 = .ok (.if_icmp .eq 577, 3) := by decide +kernel
theorem dL_law_176 : decode cL_law 176 = .ok (.iconst 0, 1) := by decide +kernel
theorem dL_law_177 : decode cL_law 177 = .ok (.ireturn, 1) := by decide +kernel
theorem dL_law_178 : decode cL_law 178 = .ok (.aload_n 1, 1) := by decide +kernel
theorem dL_law_179 : decode cL_law 179 = .ok (.invokevirtual 22, 3) := by decide +kernel
theorem dL_law_182 : decode cL_law 182 = .ok (.aload_n 2, 1) := by decide +kernel
theorem dL_law_183 : decode cL_law 183 = .ok (.invokevirtual 25, 3) := by decide +kernel
theorem dL_law_186 : decode cL_law 186 = .ok (.if_icmp .eq 564, 3) := by decide +kernel
theorem dL_law_189 : decode cL_law 189 = .ok (.iconst 0, 1) := by decide +kernel
theorem dL_law_190 : decode cL_law 190 = .ok (.ireturn, 1) := by decide +kernel
theorem dL_law_191 : decode cL_law 191 = .ok (.aload_n 1, 1) := by decide +kernel
theorem dL_law_192 : decode cL_law 192 = .ok (.invokevirtual 26, 3) := by decide +kernel
theorem dL_law_195 : decode cL_law 195 = .ok (.aload_n 2, 1) := by decide +kernel
theorem dL_law_196 : decode cL_law 196 = .ok (.invokevirtual 29, 3) := by decide +kernel
theorem dL_law_199 : decode cL_law 199 = .ok (.if_icmp .eq 551, 3) := by decide +kernel
theorem dL_law_202 : decode cL_law 202 = .ok (.iconst 0, 1) := by decide +kernel
theorem dL_law_203 : decode cL_law 203 = .ok (.ireturn, 1) := by decide +kernel
theorem dL_law_204 : decode cL_law 204 = .ok (.aload_n 1, 1) := by decide +kernel
theorem dL_law_205 : decode cL_law 205 = .ok (.aload_n 0, 1) := by decide +kernel
theorem dL_law_206 : decode cL_law 206 = .ok (.iload_n 3, 1) := by decide +kernel
theorem dL_law_207 : decode cL_law 207 = .ok (.iconst 1, 1) := by decide +kernel
theorem dL_law_208 : decode cL_law 208 = .ok (.iadd, 1) := by decide +kernel
theorem dL_law_209 : decode cL_law 209 = .ok (.iaload, 1) := by decide +kernel
theorem dL_law_210 : decode cL_law 210 = .ok (.aload_n 0, 1) := by decide +kernel
theorem dL_law_211 : decode cL_law 211 = .ok (.iload_n 3, 1) := by decide +kernel
theorem dL_law_212 : decode cL_law 212 = .ok (.iconst 2, 1) := by decide +kernel
theorem dL_law_213 : decode cL_law 213 = .ok (.iadd, 1) := by decide +kernel
theorem dL_law_214 : decode cL_law 214 = .ok (.iaload, 1) := by decide +kernel
theorem dL_law_215 : decode cL_law 215 = .ok (.aload_n 0, 1) := by decide +kernel
theorem dL_law_216 : decode cL_law 216 = .ok (.iload_n 3, 1) := by decide +kernel
theorem dL_law_217 : decode cL_law 217 = .ok (.iconst 3, 1) := by decide +kernel
theorem dL_law_218 : decode cL_law 218 = .ok (.iadd, 1) := by decide +kernel
theorem dL_law_219 : decode cL_law 219 = .ok (.iaload, 1) := by decide +kernel
theorem dL_law_220 : decode cL_law 220 = .ok (.aload_n 0, 1) := by decide +kernel
theorem dL_law_221 : decode cL_law 221 = .ok (.iload_n 3, 1) := by decide +kernel
theorem dL_law_222 : decode cL_law 222 = .ok (.iconst 4, 1) := by decide +kernel
theorem dL_law_223 : decode cL_law 223 = .ok (.iadd, 1) := by decide +kernel
theorem dL_law_224 : decode cL_law 224 = .ok (.iaload, 1) := by decide +kernel
theorem dL_law_225 : decode cL_law 225 = .ok (.invokevirtual 30, 3) := by decide +kernel
theorem dL_law_228 : decode cL_law 228 = .ok (.aload_n 2, 1) := by decide +kernel
theorem dL_law_229 : decode cL_law 229 = .ok (.aload_n 0, 1) := by decide +kernel
theorem dL_law_230 : decode cL_law 230 = .ok (.iload_n 3, 1) := by decide +kernel
theorem dL_law_231 : decode cL_law 231 = .ok (.iconst 1, 1) := by decide +kernel
theorem dL_law_232 : decode cL_law 232 = .ok (.iadd, 1) := by decide +kernel
theorem dL_law_233 : decode cL_law 233 = .ok (.iaload, 1) := by decide +kernel
theorem dL_law_234 : decode cL_law 234 = .ok (.aload_n 0, 1) := by decide +kernel
theorem dL_law_235 : decode cL_law 235 = .ok (.iload_n 3, 1) := by decide +kernel
theorem dL_law_236 : decode cL_law 236 = .ok (.iconst 2, 1) := by decide +kernel
theorem dL_law_237 : decode cL_law 237 = .ok (.iadd, 1) := by decide +kernel
theorem dL_law_238 : decode cL_law 238 = .ok (.iaload, 1) := by decide +kernel
theorem dL_law_239 : decode cL_law 239 = .ok (.aload_n 0, 1) := by decide +kernel
theorem dL_law_240 : decode cL_law 240 = .ok (.iload_n 3, 1) := by decide +kernel
theorem dL_law_241 : decode cL_law 241 = .ok (.iconst 3, 1) := by decide +kernel
theorem dL_law_242 : decode cL_law 242 = .ok (.iadd, 1) := by decide +kernel
theorem dL_law_243 : decode cL_law 243 = .ok (.iaload, 1) := by decide +kernel
theorem dL_law_244 : decode cL_law 244 = .ok (.aload_n 0, 1) := by decide +kernel
theorem dL_law_245 : decode cL_law 245 = .ok (.iload_n 3, 1) := by decide +kernel
theorem dL_law_246 : decode cL_law 246 = .ok (.iconst 4, 1) := by decide +kernel
theorem dL_law_247 : decode cL_law 247 = .ok (.iadd, 1) := by decide +kernel
theorem dL_law_248 : decode cL_law 248 = .ok (.iaload, 1) := by decide +kernel
theorem dL_law_249 : decode cL_law 249 = .ok (.invokevirtual 34, 3) := by decide +kernel
theorem dL_law_252 : decode cL_law 252 = .ok (.if_icmp .eq 498, 3) := by decide +kernel
theorem dL_law_255 : decode cL_law 255 = .ok (.iconst 0, 1) := by decide +kernel
theorem dL_law_256 : decode cL_law 256 = .ok (.ireturn, 1) := by decide +kernel
theorem dL_law_257 : decode cL_law 257 = .ok (.aload_n 1, 1) := by decide +kernel
theorem dL_law_258 : decode cL_law 258 = .ok (.aload_n 0, 1) := by decide +kernel
theorem dL_law_259 : decode cL_law 259 = .ok (.iload_n 3, 1) := by decide +kernel
theorem dL_law_260 : decode cL_law 260 = .ok (.iconst 1, 1) := by decide +kernel
theorem dL_law_261 : decode cL_law 261 = .ok (.iadd, 1) := by decide +kernel
theorem dL_law_262 : decode cL_law 262 = .ok (.iaload, 1) := by decide +kernel
theorem dL_law_263 : decode cL_law 263 = .ok (.aload_n 0, 1) := by decide +kernel
theorem dL_law_264 : decode cL_law 264 = .ok (.iload_n 3, 1) := by decide +kernel
theorem dL_law_265 : decode cL_law 265 = .ok (.iconst 2, 1) := by decide +kernel
theorem dL_law_266 : decode cL_law 266 = .ok (.iadd, 1) := by decide +kernel
theorem dL_law_267 : decode cL_law 267 = .ok (.iaload, 1) := by decide +kernel
theorem dL_law_268 : decode cL_law 268 = .ok (.aload_n 0, 1) := by decide +kernel
theorem dL_law_269 : decode cL_law 269 = .ok (.iload_n 3, 1) := by decide +kernel
theorem dL_law_270 : decode cL_law 270 = .ok (.iconst 3, 1) := by decide +kernel
theorem dL_law_271 : decode cL_law 271 = .ok (.iadd, 1) := by decide +kernel
theorem dL_law_272 : decode cL_law 272 = .ok (.iaload, 1) := by decide +kernel
theorem dL_law_273 : decode cL_law 273 = .ok (.invokevirtual 35, 3) := by decide +kernel
theorem dL_law_276 : decode cL_law 276 = .ok (.aload_n 2, 1) := by decide +kernel
theorem dL_law_277 : decode cL_law 277 = .ok (.aload_n 0, 1) := by decide +kernel
theorem dL_law_278 : decode cL_law 278 = .ok (.iload_n 3, 1) := by decide +kernel
theorem dL_law_279 : decode cL_law 279 = .ok (.iconst 1, 1) := by decide +kernel
theorem dL_law_280 : decode cL_law 280 = .ok (.iadd, 1) := by decide +kernel
theorem dL_law_281 : decode cL_law 281 = .ok (.iaload, 1) := by decide +kernel
theorem dL_law_282 : decode cL_law 282 = .ok (.aload_n 0, 1) := by decide +kernel
theorem dL_law_283 : decode cL_law 283 = .ok (.iload_n 3, 1) := by decide +kernel
theorem dL_law_284 : decode cL_law 284 = .ok (.iconst 2, 1) := by decide +kernel
theorem dL_law_285 : decode cL_law 285 = .ok (.iadd, 1) := by decide +kernel
theorem dL_law_286 : decode cL_law 286 = .ok (.iaload, 1) := by decide +kernel
theorem dL_law_287 : decode cL_law 287 = .ok (.aload_n 0, 1) := by decide +kernel
theorem dL_law_288 : decode cL_law 288 = .ok (.iload_n 3, 1) := by decide +kernel
theorem dL_law_289 : decode cL_law 289 = .ok (.iconst 3, 1) := by decide +kernel
theorem dL_law_290 : decode cL_law 290 = .ok (.iadd, 1) := by decide +kernel
theorem dL_law_291 : decode cL_law 291 = .ok (.iaload, 1) := by decide +kernel
theorem dL_law_292 : decode cL_law 292 = .ok (.invokevirtual 39, 3) := by decide +kernel
theorem dL_law_295 : decode cL_law 295 = .ok (.if_icmp .eq 455, 3) := by decide +kernel
theorem dL_law_298 : decode cL_law 298 = .ok (.iconst 0, 1) := by decide +kernel
theorem dL_law_299 : decode cL_law 299 = .ok (.ireturn, 1) := by decide +kernel
theorem dL_law_300 : decode cL_law 300 = .ok (.aload_n 1, 1) := by decide +kernel
theorem dL_law_301 : decode cL_law 301 = .ok (.aload_n 0, 1) := by decide +kernel
theorem dL_law_302 : decode cL_law 302 = .ok (.iload_n 3, 1) := by decide +kernel
theorem dL_law_303 : decode cL_law 303 = .ok (.iconst 1, 1) := by decide +kernel
theorem dL_law_304 : decode cL_law 304 = .ok (.iadd, 1) := by decide +kernel
theorem dL_law_305 : decode cL_law 305 = .ok (.iaload, 1) := by decide +kernel
theorem dL_law_306 : decode cL_law 306 = .ok (.invokevirtual 40, 3) := by decide +kernel
theorem dL_law_309 : decode cL_law 309 = .ok (.aload_n 2, 1) := by decide +kernel
theorem dL_law_310 : decode cL_law 310 = .ok (.aload_n 0, 1) := by decide +kernel
theorem dL_law_311 : decode cL_law 311 = .ok (.iload_n 3, 1) := by decide +kernel
theorem dL_law_312 : decode cL_law 312 = .ok (.iconst 1, 1) := by decide +kernel
theorem dL_law_313 : decode cL_law 313 = .ok (.iadd, 1) := by decide +kernel
theorem dL_law_314 : decode cL_law 314 = .ok (.iaload, 1) := by decide +kernel
theorem dL_law_315 : decode cL_law 315 = .ok (.invokevirtual 44, 3) := by decide +kernel
theorem dL_law_318 : decode cL_law 318 = .ok (.if_icmp .eq 432, 3) := by decide +kernel
theorem dL_law_321 : decode cL_law 321 = .ok (.iconst 0, 1) := by decide +kernel
theorem dL_law_322 : decode cL_law 322 = .ok (.ireturn, 1) := by decide +kernel
theorem dL_law_323 : decode cL_law 323 = .ok (.aload_n 1, 1) := by decide +kernel
theorem dL_law_324 : decode cL_law 324 = .ok (.aload_n 0, 1) := by decide +kernel
theorem dL_law_325 : decode cL_law 325 = .ok (.iload_n 3, 1) := by decide +kernel
theorem dL_law_326 : decode cL_law 326 = .ok (.iconst 1, 1) := by decide +kernel
theorem dL_law_327 : decode cL_law 327 = .ok (.iadd, 1) := by decide +kernel
theorem dL_law_328 : decode cL_law 328 = .ok (.iaload, 1) := by decide +kernel
theorem dL_law_329 : decode cL_law 329 = .ok (.invokevirtual 45, 3) := by decide +kernel
theorem dL_law_332 : decode cL_law 332 = .ok (.aload_n 2, 1) := by decide +kernel
theorem dL_law_333 : decode cL_law 333 = .ok (.aload_n 0, 1) := by decide +kernel
theorem dL_law_334 : decode cL_law 334 = .ok (.iload_n 3, 1) := by decide +kernel
theorem dL_law_335 : decode cL_law 335 = .ok (.iconst 1, 1) := by decide +kernel
theorem dL_law_336 : decode cL_law 336 = .ok (.iadd, 1) := by decide +kernel
theorem dL_law_337 : decode cL_law 337 = .ok (.iaload, 1) := by decide +kernel
theorem dL_law_338 : decode cL_law 338 = .ok (.invokevirtual 48, 3) := by decide +kernel
theorem dL_law_341 : decode cL_law 341 = .ok (.if_icmp .eq 409, 3) := by decide +kernel
theorem dL_law_344 : decode cL_law 344 = .ok (.iconst 0, 1) := by decide +kernel
theorem dL_law_345 : decode cL_law 345 = .ok (.ireturn, 1) := by decide +kernel
theorem dL_law_346 : decode cL_law 346 = .ok (.aload_n 1, 1) := by decide +kernel
theorem dL_law_347 : decode cL_law 347 = .ok (.aload_n 0, 1) := by decide +kernel
theorem dL_law_348 : decode cL_law 348 = .ok (.iload_n 3, 1) := by decide +kernel
theorem dL_law_349 : decode cL_law 349 = .ok (.iconst 1, 1) := by decide +kernel
theorem dL_law_350 : decode cL_law 350 = .ok (.iadd, 1) := by decide +kernel
theorem dL_law_351 : decode cL_law 351 = .ok (.iaload, 1) := by decide +kernel
theorem dL_law_352 : decode cL_law 352 = .ok (.invokevirtual 49, 3) := by decide +kernel
theorem dL_law_355 : decode cL_law 355 = .ok (.aload_n 2, 1) := by decide +kernel
theorem dL_law_356 : decode cL_law 356 = .ok (.aload_n 0, 1) := by decide +kernel
theorem dL_law_357 : decode cL_law 357 = .ok (.iload_n 3, 1) := by decide +kernel
theorem dL_law_358 : decode cL_law 358 = .ok (.iconst 1, 1) := by decide +kernel
theorem dL_law_359 : decode cL_law 359 = .ok (.iadd, 1) := by decide +kernel
theorem dL_law_360 : decode cL_law 360 = .ok (.iaload, 1) := by decide +kernel
theorem dL_law_361 : decode cL_law 361 = .ok (.invokevirtual 52, 3) := by decide +kernel
theorem dL_law_364 : decode cL_law 364 = .ok (.if_icmp .eq 386, 3) := by decide +kernel
theorem dL_law_367 : decode cL_law 367 = .ok (.iconst 0, 1) := by decide +kernel
theorem dL_law_368 : decode cL_law 368 = .ok (.ireturn, 1) := by decide +kernel
theorem dL_law_369 : decode cL_law 369 = .ok (.aload_n 1, 1) := by decide +kernel
theorem dL_law_370 : decode cL_law 370 = .ok (.invokevirtual 53, 3) := by decide +kernel
theorem dL_law_373 : decode cL_law 373 = .ok (.aload_n 2, 1) := by decide +kernel
theorem dL_law_374 : decode cL_law 374 = .ok (.invokevirtual 56, 3) := by decide +kernel
theorem dL_law_377 : decode cL_law 377 = .ok (.if_icmp .eq 373, 3) := by decide +kernel
theorem dL_law_380 : decode cL_law 380 = .ok (.iconst 0, 1) := by decide +kernel
theorem dL_law_381 : decode cL_law 381 = .ok (.ireturn, 1) := by decide +kernel
theorem dL_law_382 : decode cL_law 382 = .ok (.aload_n 1, 1) := by decide +kernel
theorem dL_law_383 : decode cL_law 383 = .ok (.aload_n 0, 1) := by decide +kernel
theorem dL_law_384 : decode cL_law 384 = .ok (.iload_n 3, 1) := by decide +kernel
theorem dL_law_385 : decode cL_law 385 = .ok (.iconst 1, 1) := by decide +kernel
theorem dL_law_386 : decode cL_law 386 = .ok (.iadd, 1) := by decide +kernel
theorem dL_law_387 : decode cL_law 387 = .ok (.iaload, 1) := by decide +kernel
theorem dL_law_388 : decode cL_law 388 = .ok (.invokevirtual 57, 3) := by decide +kernel
theorem dL_law_391 : decode cL_law 391 = .ok (.aload_n 2, 1) := by decide +kernel
theorem dL_law_392 : decode cL_law 392 = .ok (.aload_n 0, 1) := by decide +kernel
theorem dL_law_393 : decode cL_law 393 = .ok (.iload_n 3, 1) := by decide +kernel
theorem dL_law_394 : decode cL_law 394 = .ok (.iconst 1, 1) := by decide +kernel
theorem dL_law_395 : decode cL_law 395 = .ok (.iadd, 1) := by decide +kernel
theorem dL_law_396 : decode cL_law 396 = .ok (.iaload, 1) := by decide +kernel
theorem dL_law_397 : decode cL_law 397 = .ok (.invokevirtual 60, 3) := by decide +kernel
theorem dL_law_400 : decode cL_law 400 = .ok (.if_icmp .eq 350, 3) := by decide +kernel
theorem dL_law_403 : decode cL_law 403 = .ok (.iconst 0, 1) := by decide +kernel
theorem dL_law_404 : decode cL_law 404 = .ok (.ireturn, 1) := by decide +kernel
theorem dL_law_405 : decode cL_law 405 = .ok (.aload_n 1, 1) := by decide +kernel
theorem dL_law_406 : decode cL_law 406 = .ok (.aload_n 0, 1) := by decide +kernel
theorem dL_law_407 : decode cL_law 407 = .ok (.iload_n 3, 1) := by decide +kernel
theorem dL_law_408 : decode cL_law 408 = .ok (.iconst 1, 1) := by decide +kernel
theorem dL_law_409 : decode cL_law 409 = .ok (.iadd, 1) := by decide +kernel
theorem dL_law_410 : decode cL_law 410 = .ok (.iaload, 1) := by decide +kernel
theorem dL_law_411 : decode cL_law 411 = .ok (.aload_n 0, 1) := by decide +kernel
theorem dL_law_412 : decode cL_law 412 = .ok (.iload_n 3, 1) := by decide +kernel
theorem dL_law_413 : decode cL_law 413 = .ok (.iconst 2, 1) := by decide +kernel
theorem dL_law_414 : decode cL_law 414 = .ok (.iadd, 1) := by decide +kernel
theorem dL_law_415 : decode cL_law 415 = .ok (.iaload, 1) := by decide +kernel
theorem dL_law_416 : decode cL_law 416 = .ok (.aload_n 0, 1) := by decide +kernel
theorem dL_law_417 : decode cL_law 417 = .ok (.iload_n 3, 1) := by decide +kernel
theorem dL_law_418 : decode cL_law 418 = .ok (.iconst 3, 1) := by decide +kernel
theorem dL_law_419 : decode cL_law 419 = .ok (.iadd, 1) := by decide +kernel
theorem dL_law_420 : decode cL_law 420 = .ok (.iaload, 1) := by decide +kernel
theorem dL_law_421 : decode cL_law 421 = .ok (.invokevirtual 61, 3) := by decide +kernel
theorem dL_law_424 : decode cL_law 424 = .ok (.aload_n 2, 1) := by decide +kernel
theorem dL_law_425 : decode cL_law 425 = .ok (.aload_n 0, 1) := by decide +kernel
theorem dL_law_426 : decode cL_law 426 = .ok (.iload_n 3, 1) := by decide +kernel
theorem dL_law_427 : decode cL_law 427 = .ok (.iconst 1, 1) := by decide +kernel
theorem dL_law_428 : decode cL_law 428 = .ok (.iadd, 1) := by decide +kernel
theorem dL_law_429 : decode cL_law 429 = .ok (.iaload, 1) := by decide +kernel
theorem dL_law_430 : decode cL_law 430 = .ok (.aload_n 0, 1) := by decide +kernel
theorem dL_law_431 : decode cL_law 431 = .ok (.iload_n 3, 1) := by decide +kernel
theorem dL_law_432 : decode cL_law 432 = .ok (.iconst 2, 1) := by decide +kernel
theorem dL_law_433 : decode cL_law 433 = .ok (.iadd, 1) := by decide +kernel
theorem dL_law_434 : decode cL_law 434 = .ok (.iaload, 1) := by decide +kernel
theorem dL_law_435 : decode cL_law 435 = .ok (.aload_n 0, 1) := by decide +kernel
theorem dL_law_436 : decode cL_law 436 = .ok (.iload_n 3, 1) := by decide +kernel
theorem dL_law_437 : decode cL_law 437 = .ok (.iconst 3, 1) := by decide +kernel
theorem dL_law_438 : decode cL_law 438 = .ok (.iadd, 1) := by decide +kernel
theorem dL_law_439 : decode cL_law 439 = .ok (.iaload, 1) := by decide +kernel
theorem dL_law_440 : decode cL_law 440 = .ok (.invokevirtual 64, 3) := by decide +kernel
theorem dL_law_443 : decode cL_law 443 = .ok (.if_icmp .eq 307, 3) := by decide +kernel
theorem dL_law_446 : decode cL_law 446 = .ok (.iconst 0, 1) := by decide +kernel
theorem dL_law_447 : decode cL_law 447 = .ok (.ireturn, 1) := by decide +kernel
theorem dL_law_448 : decode cL_law 448 = .ok (.aload_n 1, 1) := by decide +kernel
theorem dL_law_449 : decode cL_law 449 = .ok (.aload_n 0, 1) := by decide +kernel
theorem dL_law_450 : decode cL_law 450 = .ok (.iload_n 3, 1) := by decide +kernel
theorem dL_law_451 : decode cL_law 451 = .ok (.iconst 1, 1) := by decide +kernel
theorem dL_law_452 : decode cL_law 452 = .ok (.iadd, 1) := by decide +kernel
theorem dL_law_453 : decode cL_law 453 = .ok (.iaload, 1) := by decide +kernel
theorem dL_law_454 : decode cL_law 454 = .ok (.aload_n 0, 1) := by decide +kernel
theorem dL_law_455 : decode cL_law 455 = .ok (.iload_n 3, 1) := by decide +kernel
theorem dL_law_456 : decode cL_law 456 = .ok (.iconst 2, 1) := by decide +kernel
theorem dL_law_457 : decode cL_law 457 = .ok (.iadd, 1) := by decide +kernel
theorem dL_law_458 : decode cL_law 458 = .ok (.iaload, 1) := by decide +kernel
theorem dL_law_459 : decode cL_law 459 = .ok (.aload_n 0, 1) := by decide +kernel
theorem dL_law_460 : decode cL_law 460 = .ok (.iload_n 3, 1) := by decide +kernel
theorem dL_law_461 : decode cL_law 461 = .ok (.iconst 3, 1) := by decide +kernel
theorem dL_law_462 : decode cL_law 462 = .ok (.iadd, 1) := by decide +kernel
theorem dL_law_463 : decode cL_law 463 = .ok (.iaload, 1) := by decide +kernel
theorem dL_law_464 : decode cL_law 464 = .ok (.invokevirtual 65, 3) := by decide +kernel
theorem dL_law_467 : decode cL_law 467 = .ok (.aload_n 2, 1) := by decide +kernel
theorem dL_law_468 : decode cL_law 468 = .ok (.aload_n 0, 1) := by decide +kernel
theorem dL_law_469 : decode cL_law 469 = .ok (.iload_n 3, 1) := by decide +kernel
theorem dL_law_470 : decode cL_law 470 = .ok (.iconst 1, 1) := by decide +kernel
theorem dL_law_471 : decode cL_law 471 = .ok (.iadd, 1) := by decide +kernel
theorem dL_law_472 : decode cL_law 472 = .ok (.iaload, 1) := by decide +kernel
theorem dL_law_473 : decode cL_law 473 = .ok (.aload_n 0, 1) := by decide +kernel
theorem dL_law_474 : decode cL_law 474 = .ok (.iload_n 3, 1) := by decide +kernel
theorem dL_law_475 : decode cL_law 475 = .ok (.iconst 2, 1) := by decide +kernel
theorem dL_law_476 : decode cL_law 476 = .ok (.iadd, 1) := by decide +kernel
theorem dL_law_477 : decode cL_law 477 = .ok (.iaload, 1) := by decide +kernel
theorem dL_law_478 : decode cL_law 478 = .ok (.aload_n 0, 1) := by decide +kernel
theorem dL_law_479 : decode cL_law 479 = .ok (.iload_n 3, 1) := by decide +kernel
theorem dL_law_480 : decode cL_law 480 = .ok (.iconst 3, 1) := by decide +kernel
theorem dL_law_481 : decode cL_law 481 = .ok (.iadd, 1) := by decide +kernel
theorem dL_law_482 : decode cL_law 482 = .ok (.iaload, 1) := by decide +kernel
theorem dL_law_483 : decode cL_law 483 = .ok (.invokevirtual 68, 3) := by decide +kernel
theorem dL_law_486 : decode cL_law 486 = .ok (.if_icmp .eq 264, 3) := by decide +kernel
theorem dL_law_489 : decode cL_law 489 = .ok (.iconst 0, 1) := by decide +kernel
theorem dL_law_490 : decode cL_law 490 = .ok (.ireturn, 1) := by decide +kernel
theorem dL_law_491 : decode cL_law 491 = .ok (.aload_n 1, 1) := by decide +kernel
theorem dL_law_492 : decode cL_law 492 = .ok (.aload_n 0, 1) := by decide +kernel
theorem dL_law_493 : decode cL_law 493 = .ok (.iload_n 3, 1) := by decide +kernel
theorem dL_law_494 : decode cL_law 494 = .ok (.iconst 1, 1) := by decide +kernel
theorem dL_law_495 : decode cL_law 495 = .ok (.iadd, 1) := by decide +kernel
theorem dL_law_496 : decode cL_law 496 = .ok (.iaload, 1) := by decide +kernel
theorem dL_law_497 : decode cL_law 497 = .ok (.aload_n 0, 1) := by decide +kernel
theorem dL_law_498 : decode cL_law 498 = .ok (.iload_n 3, 1) := by decide +kernel
theorem dL_law_499 : decode cL_law 499 = .ok (.iconst 2, 1) := by decide +kernel
theorem dL_law_500 : decode cL_law 500 = .ok (.iadd, 1) := by decide +kernel
theorem dL_law_501 : decode cL_law 501 = .ok (.iaload, 1) := by decide +kernel
theorem dL_law_502 : decode cL_law 502 = .ok (.invokevirtual 69, 3) := by decide +kernel
theorem dL_law_505 : decode cL_law 505 = .ok (.aload_n 2, 1) := by decide +kernel
theorem dL_law_506 : decode cL_law 506 = .ok (.aload_n 0, 1) := by decide +kernel
theorem dL_law_507 : decode cL_law 507 = .ok (.iload_n 3, 1) := by decide +kernel
theorem dL_law_508 : decode cL_law 508 = .ok (.iconst 1, 1) := by decide +kernel
theorem dL_law_509 : decode cL_law 509 = .ok (.iadd, 1) := by decide +kernel
theorem dL_law_510 : decode cL_law 510 = .ok (.iaload, 1) := by decide +kernel
theorem dL_law_511 : decode cL_law 511 = .ok (.aload_n 0, 1) := by decide +kernel
theorem dL_law_512 : decode cL_law 512 = .ok (.iload_n 3, 1) := by decide +kernel
theorem dL_law_513 : decode cL_law 513 = .ok (.iconst 2, 1) := by decide +kernel
theorem dL_law_514 : decode cL_law 514 = .ok (.iadd, 1) := by decide +kernel
theorem dL_law_515 : decode cL_law 515 = .ok (.iaload, 1) := by decide +kernel
theorem dL_law_516 : decode cL_law 516 = .ok (.invokevirtual 73, 3) := by decide +kernel
theorem dL_law_519 : decode cL_law 519 = .ok (.if_icmp .eq 231, 3) := by decide +kernel
theorem dL_law_522 : decode cL_law 522 = .ok (.iconst 0, 1) := by decide +kernel
theorem dL_law_523 : decode cL_law 523 = .ok (.ireturn, 1) := by decide +kernel
theorem dL_law_524 : decode cL_law 524 = .ok (.aload_n 1, 1) := by decide +kernel
theorem dL_law_525 : decode cL_law 525 = .ok (.aload_n 0, 1) := by decide +kernel
theorem dL_law_526 : decode cL_law 526 = .ok (.iload_n 3, 1) := by decide +kernel
theorem dL_law_527 : decode cL_law 527 = .ok (.iconst 1, 1) := by decide +kernel
theorem dL_law_528 : decode cL_law 528 = .ok (.iadd, 1) := by decide +kernel
theorem dL_law_529 : decode cL_law 529 = .ok (.iaload, 1) := by decide +kernel
theorem dL_law_530 : decode cL_law 530 = .ok (.invokevirtual 74, 3) := by decide +kernel
theorem dL_law_533 : decode cL_law 533 = .ok (.aload_n 2, 1) := by decide +kernel
theorem dL_law_534 : decode cL_law 534 = .ok (.aload_n 0, 1) := by decide +kernel
theorem dL_law_535 : decode cL_law 535 = .ok (.iload_n 3, 1) := by decide +kernel
theorem dL_law_536 : decode cL_law 536 = .ok (.iconst 1, 1) := by decide +kernel
theorem dL_law_537 : decode cL_law 537 = .ok (.iadd, 1) := by decide +kernel
theorem dL_law_538 : decode cL_law 538 = .ok (.iaload, 1) := by decide +kernel
theorem dL_law_539 : decode cL_law 539 = .ok (.invokevirtual 77, 3) := by decide +kernel
theorem dL_law_542 : decode cL_law 542 = .ok (.if_icmp .eq 208, 3) := by decide +kernel
theorem dL_law_545 : decode cL_law 545 = .ok (.iconst 0, 1) := by decide +kernel
theorem dL_law_546 : decode cL_law 546 = .ok (.ireturn, 1) := by decide +kernel
theorem dL_law_547 : decode cL_law 547 = .ok (.aload_n 1, 1) := by decide +kernel
theorem dL_law_548 : decode cL_law 548 = .ok (.invokevirtual 78, 3) := by decide +kernel
theorem dL_law_551 : decode cL_law 551 = .ok (.aload_n 2, 1) := by decide +kernel
theorem dL_law_552 : decode cL_law 552 = .ok (.invokevirtual 81, 3) := by decide +kernel
theorem dL_law_555 : decode cL_law 555 = .ok (.if_icmp .eq 195, 3) := by decide +kernel
theorem dL_law_558 : decode cL_law 558 = .ok (.iconst 0, 1) := by decide +kernel
theorem dL_law_559 : decode cL_law 559 = .ok (.ireturn, 1) := by decide +kernel
theorem dL_law_560 : decode cL_law 560 = .ok (.aload_n 1, 1) := by decide +kernel
theorem dL_law_561 : decode cL_law 561 = .ok (.invokevirtual 82, 3) := by decide +kernel
theorem dL_law_564 : decode cL_law 564 = .ok (.aload_n 2, 1) := by decide +kernel
theorem dL_law_565 : decode cL_law 565 = .ok (.invokevirtual 85, 3) := by decide +kernel
theorem dL_law_568 : decode cL_law 568 = .ok (.if_icmp .eq 182, 3) := by decide +kernel
theorem dL_law_571 : decode cL_law 571 = .ok (.iconst 0, 1) := by decide +kernel
theorem dL_law_572 : decode cL_law 572 = .ok (.ireturn, 1) := by decide +kernel
theorem dL_law_573 : decode cL_law 573 = .ok (.aload_n 1, 1) := by decide +kernel
theorem dL_law_574 : decode cL_law 574 = .ok (.invokevirtual 86, 3) := by decide +kernel
theorem dL_law_577 : decode cL_law 577 = .ok (.aload_n 2, 1) := by decide +kernel
theorem dL_law_578 : decode cL_law 578 = .ok (.invokevirtual 89, 3) := by decide +kernel
theorem dL_law_581 : decode cL_law 581 = .ok (.if_icmp .eq 169, 3) := by decide +kernel
theorem dL_law_584 : decode cL_law 584 = .ok (.iconst 0, 1) := by decide +kernel
theorem dL_law_585 : decode cL_law 585 = .ok (.ireturn, 1) := by decide +kernel
theorem dL_law_586 : decode cL_law 586 = .ok (.aload_n 1, 1) := by decide +kernel
theorem dL_law_587 : decode cL_law 587 = .ok (.aload_n 0, 1) := by decide +kernel
theorem dL_law_588 : decode cL_law 588 = .ok (.iload_n 3, 1) := by decide +kernel
theorem dL_law_589 : decode cL_law 589 = .ok (.iconst 1, 1) := by decide +kernel
theorem dL_law_590 : decode cL_law 590 = .ok (.iadd, 1) := by decide +kernel
theorem dL_law_591 : decode cL_law 591 = .ok (.iaload, 1) := by decide +kernel
theorem dL_law_592 : decode cL_law 592 = .ok (.aload_n 0, 1) := by decide +kernel
theorem dL_law_593 : decode cL_law 593 = .ok (.iload_n 3, 1) := by decide +kernel
theorem dL_law_594 : decode cL_law 594 = .ok (.iconst 2, 1) := by decide +kernel
theorem dL_law_595 : decode cL_law 595 = .ok (.iadd, 1) := by decide +kernel
theorem dL_law_596 : decode cL_law 596 = .ok (.iaload, 1) := by decide +kernel
theorem dL_law_597 : decode cL_law 597 = .ok (.invokevirtual 90, 3) := by decide +kernel
theorem dL_law_600 : decode cL_law 600 = .ok (.aload_n 2, 1) := by decide +kernel
theorem dL_law_601 : decode cL_law 601 = .ok (.aload_n 0, 1) := by decide +kernel
theorem dL_law_602 : decode cL_law 602 = .ok (.iload_n 3, 1) := by decide +kernel
theorem dL_law_603 : decode cL_law 603 = .ok (.iconst 1, 1) := by decide +kernel
theorem dL_law_604 : decode cL_law 604 = .ok (.iadd, 1) := by decide +kernel
theorem dL_law_605 : decode cL_law 605 = .ok (.iaload, 1) := by decide +kernel
theorem dL_law_606 : decode cL_law 606 = .ok (.aload_n 0, 1) := by decide +kernel
theorem dL_law_607 : decode cL_law 607 = .ok (.iload_n 3, 1) := by decide +kernel
theorem dL_law_608 : decode cL_law 608 = .ok (.iconst 2, 1) := by decide +kernel
theorem dL_law_609 : decode cL_law 609 = .ok (.iadd, 1) := by decide +kernel
theorem dL_law_610 : decode cL_law 610 = .ok (.iaload, 1) := by decide +kernel
theorem dL_law_611 : decode cL_law 611 = .ok (.invokevirtual 93, 3) := by decide +kernel
theorem dL_law_614 : decode cL_law 614 = .ok (.if_icmp .eq 136, 3) := by decide +kernel
theorem dL_law_617 : decode cL_law 617 = .ok (.iconst 0, 1) := by decide +kernel
theorem dL_law_618 : decode cL_law 618 = .ok (.ireturn, 1) := by decide +kernel
theorem dL_law_619 : decode cL_law 619 = .ok (.aload_n 1, 1) := by decide +kernel
theorem dL_law_620 : decode cL_law 620 = .ok (.aload_n 0, 1) := by decide +kernel
theorem dL_law_621 : decode cL_law 621 = .ok (.iload_n 3, 1) := by decide +kernel
theorem dL_law_622 : decode cL_law 622 = .ok (.iconst 1, 1) := by decide +kernel
theorem dL_law_623 : decode cL_law 623 = .ok (.iadd, 1) := by decide +kernel
theorem dL_law_624 : decode cL_law 624 = .ok (.iaload, 1) := by decide +kernel
theorem dL_law_625 : decode cL_law 625 = .ok (.invokevirtual 94, 3) := by decide +kernel
theorem dL_law_628 : decode cL_law 628 = .ok (.aload_n 2, 1) := by decide +kernel
theorem dL_law_629 : decode cL_law 629 = .ok (.aload_n 0, 1) := by decide +kernel
theorem dL_law_630 : decode cL_law 630 = .ok (.iload_n 3, 1) := by decide +kernel
theorem dL_law_631 : decode cL_law 631 = .ok (.iconst 1, 1) := by decide +kernel
theorem dL_law_632 : decode cL_law 632 = .ok (.iadd, 1) := by decide +kernel
theorem dL_law_633 : decode cL_law 633 = .ok (.iaload, 1) := by decide +kernel
theorem dL_law_634 : decode cL_law 634 = .ok (.invokevirtual 97, 3) := by decide +kernel
theorem dL_law_637 : decode cL_law 637 = .ok (.if_icmp .eq 113, 3) := by decide +kernel
theorem dL_law_640 : decode cL_law 640 = .ok (.iconst 0, 1) := by decide +kernel
theorem dL_law_641 : decode cL_law 641 = .ok (.ireturn, 1) := by decide +kernel
theorem dL_law_642 : decode cL_law 642 = .ok (.aload_n 1, 1) := by decide +kernel
theorem dL_law_643 : decode cL_law 643 = .ok (.aload_n 0, 1) := by decide +kernel
theorem dL_law_644 : decode cL_law 644 = .ok (.iload_n 3, 1) := by decide +kernel
theorem dL_law_645 : decode cL_law 645 = .ok (.iconst 1, 1) := by decide +kernel
theorem dL_law_646 : decode cL_law 646 = .ok (.iadd, 1) := by decide +kernel
theorem dL_law_647 : decode cL_law 647 = .ok (.iaload, 1) := by decide +kernel
theorem dL_law_648 : decode cL_law 648 = .ok (.invokevirtual 98, 3) := by decide +kernel
theorem dL_law_651 : decode cL_law 651 = .ok (.aload_n 2, 1) := by decide +kernel
theorem dL_law_652 : decode cL_law 652 = .ok (.aload_n 0, 1) := by decide +kernel
theorem dL_law_653 : decode cL_law 653 = .ok (.iload_n 3, 1) := by decide +kernel
theorem dL_law_654 : decode cL_law 654 = .ok (.iconst 1, 1) := by decide +kernel
theorem dL_law_655 : decode cL_law 655 = .ok (.iadd, 1) := by decide +kernel
theorem dL_law_656 : decode cL_law 656 = .ok (.iaload, 1) := by decide +kernel
theorem dL_law_657 : decode cL_law 657 = .ok (.invokevirtual 101, 3) := by decide +kernel
theorem dL_law_660 : decode cL_law 660 = .ok (.if_icmp .eq 90, 3) := by decide +kernel
theorem dL_law_663 : decode cL_law 663 = .ok (.iconst 0, 1) := by decide +kernel
theorem dL_law_664 : decode cL_law 664 = .ok (.ireturn, 1) := by decide +kernel
theorem dL_law_665 : decode cL_law 665 = .ok (.aload_n 1, 1) := by decide +kernel
theorem dL_law_666 : decode cL_law 666 = .ok (.invokevirtual 102, 3) := by decide +kernel
theorem dL_law_669 : decode cL_law 669 = .ok (.aload_n 2, 1) := by decide +kernel
theorem dL_law_670 : decode cL_law 670 = .ok (.invokevirtual 105, 3) := by decide +kernel
theorem dL_law_673 : decode cL_law 673 = .ok (.if_icmp .eq 77, 3) := by decide +kernel
theorem dL_law_676 : decode cL_law 676 = .ok (.iconst 0, 1) := by decide +kernel
theorem dL_law_677 : decode cL_law 677 = .ok (.ireturn, 1) := by decide +kernel
theorem dL_law_678 : decode cL_law 678 = .ok (.aload_n 1, 1) := by decide +kernel
theorem dL_law_679 : decode cL_law 679 = .ok (.aload_n 0, 1) := by decide +kernel
theorem dL_law_680 : decode cL_law 680 = .ok (.iload_n 3, 1) := by decide +kernel
theorem dL_law_681 : decode cL_law 681 = .ok (.iconst 1, 1) := by decide +kernel
theorem dL_law_682 : decode cL_law 682 = .ok (.iadd, 1) := by decide +kernel
theorem dL_law_683 : decode cL_law 683 = .ok (.iaload, 1) := by decide +kernel
theorem dL_law_684 : decode cL_law 684 = .ok (.invokevirtual 106, 3) := by decide +kernel
theorem dL_law_687 : decode cL_law 687 = .ok (.aload_n 2, 1) := by decide +kernel
theorem dL_law_688 : decode cL_law 688 = .ok (.aload_n 0, 1) := by decide +kernel
theorem dL_law_689 : decode cL_law 689 = .ok (.iload_n 3, 1) := by decide +kernel
theorem dL_law_690 : decode cL_law 690 = .ok (.iconst 1, 1) := by decide +kernel
theorem dL_law_691 : decode cL_law 691 = .ok (.iadd, 1) := by decide +kernel
theorem dL_law_692 : decode cL_law 692 = .ok (.iaload, 1) := by decide +kernel
theorem dL_law_693 : decode cL_law 693 = .ok (.invokevirtual 109, 3) := by decide +kernel
theorem dL_law_696 : decode cL_law 696 = .ok (.if_icmp .eq 54, 3) := by decide +kernel
theorem dL_law_699 : decode cL_law 699 = .ok (.iconst 0, 1) := by decide +kernel
theorem dL_law_700 : decode cL_law 700 = .ok (.ireturn, 1) := by decide +kernel
theorem dL_law_701 : decode cL_law 701 = .ok (.aload_n 1, 1) := by decide +kernel
theorem dL_law_702 : decode cL_law 702 = .ok (.invokevirtual 110, 3) := by decide +kernel
theorem dL_law_705 : decode cL_law 705 = .ok (.aload_n 2, 1) := by decide +kernel
theorem dL_law_706 : decode cL_law 706 = .ok (.invokevirtual 113, 3) := by decide +kernel
theorem dL_law_709 : decode cL_law 709 = .ok (.if_icmp .eq 41, 3) := by decide +kernel
theorem dL_law_712 : decode cL_law 712 = .ok (.iconst 0, 1) := by decide +kernel
theorem dL_law_713 : decode cL_law 713 = .ok (.ireturn, 1) := by decide +kernel
theorem dL_law_714 : decode cL_law 714 = .ok (.aload_n 1, 1) := by decide +kernel
theorem dL_law_715 : decode cL_law 715 = .ok (.aload_n 0, 1) := by decide +kernel
theorem dL_law_716 : decode cL_law 716 = .ok (.iload_n 3, 1) := by decide +kernel
theorem dL_law_717 : decode cL_law 717 = .ok (.iconst 1, 1) := by decide +kernel
theorem dL_law_718 : decode cL_law 718 = .ok (.iadd, 1) := by decide +kernel
theorem dL_law_719 : decode cL_law 719 = .ok (.iaload, 1) := by decide +kernel
theorem dL_law_720 : decode cL_law 720 = .ok (.invokevirtual 114, 3) := by decide +kernel
theorem dL_law_723 : decode cL_law 723 = .ok (.aload_n 2, 1) := by decide +kernel
theorem dL_law_724 : decode cL_law 724 = .ok (.aload_n 0, 1) := by decide +kernel
theorem dL_law_725 : decode cL_law 725 = .ok (.iload_n 3, 1) := by decide +kernel
theorem dL_law_726 : decode cL_law 726 = .ok (.iconst 1, 1) := by decide +kernel
theorem dL_law_727 : decode cL_law 727 = .ok (.iadd, 1) := by decide +kernel
theorem dL_law_728 : decode cL_law 728 = .ok (.iaload, 1) := by decide +kernel
theorem dL_law_729 : decode cL_law 729 = .ok (.invokevirtual 117, 3) := by decide +kernel
theorem dL_law_732 : decode cL_law 732 = .ok (.if_icmp .eq 18, 3) := by decide +kernel
theorem dL_law_735 : decode cL_law 735 = .ok (.iconst 0, 1) := by decide +kernel
theorem dL_law_736 : decode cL_law 736 = .ok (.ireturn, 1) := by decide +kernel
theorem dL_law_737 : decode cL_law 737 = .ok (.aload_n 1, 1) := by decide +kernel
theorem dL_law_738 : decode cL_law 738 = .ok (.invokevirtual 118, 3) := by decide +kernel
theorem dL_law_741 : decode cL_law 741 = .ok (.aload_n 2, 1) := by decide +kernel
theorem dL_law_742 : decode cL_law 742 = .ok (.invokevirtual 121, 3) := by decide +kernel
theorem dL_law_745 : decode cL_law 745 = .ok (.if_icmp .eq 5, 3) := by decide +kernel
theorem dL_law_748 : decode cL_law 748 = .ok (.iconst 0, 1) := by decide +kernel
theorem dL_law_749 : decode cL_law 749 = .ok (.ireturn, 1) := by decide +kernel
theorem dL_law_750 : decode cL_law 750 = .ok (.iinc 3 5, 3) := by decide +kernel
theorem dL_law_753 : decode cL_law 753 = .ok (.goto (-735), 3) := by decide +kernel
theorem dL_law_756 : decode cL_law 756 = .ok (.iconst 1, 1) := by decide +kernel
theorem dL_law_757 : decode cL_law 757 = .ok (.ireturn, 1) := by decide +kernel
