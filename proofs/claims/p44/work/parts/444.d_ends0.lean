/-! instructions of ends -/
theorem dL_ends_0 : decode cL_ends 0 = .ok (.iconst 1, 1) := by decide +kernel
theorem dL_ends_1 : decode cL_ends 1 = .ok (.istore_n 2, 1) := by decide +kernel
theorem dL_ends_2 : decode cL_ends 2 = .ok (.iconst 0, 1) := by decide +kernel
theorem dL_ends_3 : decode cL_ends 3 = .ok (.istore_n 3, 1) := by decide +kernel
theorem dL_ends_4 : decode cL_ends 4 = .ok (.iload_n 3, 1) := by decide +kernel
theorem dL_ends_5 : decode cL_ends 5 = .ok (.aload_n 1, 1) := by decide +kernel
theorem dL_ends_6 : decode cL_ends 6 = .ok (.iconst 0, 1) := by decide +kernel
theorem dL_ends_7 : decode cL_ends 7 = .ok (.iaload, 1) := by decide +kernel
theorem dL_ends_8 : decode cL_ends 8 = .ok (.if_icmp .ge 47, 3) := by decide +kernel
theorem dL_ends_11 : decode cL_ends 11 = .ok (.iload_n 2, 1) := by decide +kernel
theorem dL_ends_12 : decode cL_ends 12 = .ok (.ifCond .eq 43, 3) := by decide +kernel
theorem dL_ends_15 : decode cL_ends 15 = .ok (.aload_n 0, 1) := by decide +kernel
theorem dL_ends_16 : decode cL_ends 16 = .ok (.iload_n 3, 1) := by decide +kernel
theorem dL_ends_17 : decode cL_ends 17 = .ok (.invokestatic 211, 3) := by decide +kernel
theorem dL_ends_20 : decode cL_ends 20 = .ok (.ldc 15, 2) := by decide +kernel
theorem dL_ends_22 : decode cL_ends 22 = .ok (.if_icmp .eq 21, 3) := by decide +kernel
theorem dL_ends_25 : decode cL_ends 25 = .ok (.aload_n 0, 1) := by decide +kernel
theorem dL_ends_26 : decode cL_ends 26 = .ok (.iload_n 3, 1) := by decide +kernel
theorem dL_ends_27 : decode cL_ends 27 = .ok (.iconst 1, 1) := by decide +kernel
theorem dL_ends_28 : decode cL_ends 28 = .ok (.invokestatic 163, 3) := by decide +kernel
theorem dL_ends_31 : decode cL_ends 31 = .ok (.ifCond .lt 16, 3) := by decide +kernel
theorem dL_ends_34 : decode cL_ends 34 = .ok (.aload_n 0, 1) := by decide +kernel
theorem dL_ends_35 : decode cL_ends 35 = .ok (.iload_n 3, 1) := by decide +kernel
theorem dL_ends_36 : decode cL_ends 36 = .ok (.invokestatic 220, 3) := by decide +kernel
theorem dL_ends_39 : decode cL_ends 39 = .ok (.iconst 1, 1) := by decide +kernel
theorem dL_ends_40 : decode cL_ends 40 = .ok (.if_icmp .ne 7, 3) := by decide +kernel
theorem dL_ends_43 : decode cL_ends 43 = .ok (.iconst 1, 1) := by decide +kernel
theorem dL_ends_44 : decode cL_ends 44 = .ok (.goto 4, 3) := by decide +kernel
theorem dL_ends_47 : decode cL_ends 47 = .ok (.iconst 0, 1) := by decide +kernel
theorem dL_ends_48 : decode cL_ends 48 = .ok (.istore_n 2, 1) := by decide +kernel
theorem dL_ends_49 : decode cL_ends 49 = .ok (.iinc 3 1, 3) := by decide +kernel
theorem dL_ends_52 : decode cL_ends 52 = .ok (.goto (-48), 3) := by decide +kernel
theorem dL_ends_55 : decode cL_ends 55 = .ok (.aload_n 0, 1) := by decide +kernel
theorem dL_ends_56 : decode cL_ends 56 = .ok (.invokevirtual 245, 3) := by decide +kernel
theorem dL_ends_59 : decode cL_ends 59 = .ok (.istore_n 3, 1) := by decide +kernel
theorem dL_ends_60 : decode cL_ends 60 = .ok (.iconst 0, 1) := by decide +kernel
theorem dL_ends_61 : decode cL_ends 61 = .ok (.istore 4, 2) := by decide +kernel
theorem dL_ends_63 : decode cL_ends 63 = .ok (.iload 4, 2) := by decide +kernel
theorem dL_ends_65 : decode cL_ends 65 = .ok (.aload_n 1, 1) := by decide +kernel
theorem dL_ends_66 : decode cL_ends 66 = .ok (.iconst 0, 1) := by decide +kernel
theorem dL_ends_67 : decode cL_ends 67 = .ok (.iaload, 1) := by decide +kernel
theorem dL_ends_68 : decode cL_ends 68 = .ok (.if_icmp .ge 52, 3) := by decide +kernel
theorem dL_ends_71 : decode cL_ends 71 = .ok (.iload_n 2, 1) := by decide +kernel
theorem dL_ends_72 : decode cL_ends 72 = .ok (.ifCond .eq 48, 3) := by decide +kernel
theorem dL_ends_75 : decode cL_ends 75 = .ok (.aload_n 0, 1) := by decide +kernel
theorem dL_ends_76 : decode cL_ends 76 = .ok (.iload 4, 2) := by decide +kernel
theorem dL_ends_78 : decode cL_ends 78 = .ok (.invokestatic 173, 3) := by decide +kernel
theorem dL_ends_81 : decode cL_ends 81 = .ok (.istore 5, 2) := by decide +kernel
theorem dL_ends_83 : decode cL_ends 83 = .ok (.iload 5, 2) := by decide +kernel
theorem dL_ends_85 : decode cL_ends 85 = .ok (.ifCond .lt 12, 3) := by decide +kernel
theorem dL_ends_88 : decode cL_ends 88 = .ok (.aload_n 0, 1) := by decide +kernel
theorem dL_ends_89 : decode cL_ends 89 = .ok (.iload 4, 2) := by decide +kernel
theorem dL_ends_91 : decode cL_ends 91 = .ok (.invokestatic 173, 3) := by decide +kernel
theorem dL_ends_94 : decode cL_ends 94 = .ok (.ifCond .eq 14, 3) := by decide +kernel
theorem dL_ends_97 : decode cL_ends 97 = .ok (.aload_n 0, 1) := by decide +kernel
theorem dL_ends_98 : decode cL_ends 98 = .ok (.iload 4, 2) := by decide +kernel
theorem dL_ends_100 : decode cL_ends 100 = .ok (.invokestatic 211, 3) := by decide +kernel
theorem dL_ends_103 : decode cL_ends 103 = .ok (.ldc 15, 2) := by decide +kernel
theorem dL_ends_105 : decode cL_ends 105 = .ok (.if_icmp .ne 7, 3) := by decide +kernel
theorem dL_ends_108 : decode cL_ends 108 = .ok (.iconst 1, 1) := by decide +kernel
theorem dL_ends_109 : decode cL_ends 109 = .ok (.goto 4, 3) := by decide +kernel
theorem dL_ends_112 : decode cL_ends 112 = .ok (.iconst 0, 1) := by decide +kernel
theorem dL_ends_113 : decode cL_ends 113 = .ok (.istore_n 2, 1) := by decide +kernel
theorem dL_ends_114 : decode cL_ends 114 = .ok (.iinc 4 1, 3) := by decide +kernel
theorem dL_ends_117 : decode cL_ends 117 = .ok (.goto (-54), 3) := by decide +kernel
theorem dL_ends_120 : decode cL_ends 120 = .ok (.iload_n 2, 1) := by decide +kernel
theorem dL_ends_121 : decode cL_ends 121 = .ok (.ifCond .eq 23, 3) := by decide +kernel
theorem dL_ends_124 : decode cL_ends 124 = .ok (.aload_n 0, 1) := by decide +kernel
theorem dL_ends_125 : decode cL_ends 125 = .ok (.invokevirtual 234, 3) := by decide +kernel
theorem dL_ends_128 : decode cL_ends 128 = .ok (.iload_n 3, 1) := by decide +kernel
theorem dL_ends_129 : decode cL_ends 129 = .ok (.if_icmp .ne 15, 3) := by decide +kernel
theorem dL_ends_132 : decode cL_ends 132 = .ok (.aload_n 0, 1) := by decide +kernel
theorem dL_ends_133 : decode cL_ends 133 = .ok (.invokevirtual 245, 3) := by decide +kernel
theorem dL_ends_136 : decode cL_ends 136 = .ok (.iload_n 3, 1) := by decide +kernel
theorem dL_ends_137 : decode cL_ends 137 = .ok (.if_icmp .ne 7, 3) := by decide +kernel
theorem dL_ends_140 : decode cL_ends 140 = .ok (.iconst 1, 1) := by decide +kernel
theorem dL_ends_141 : decode cL_ends 141 = .ok (.goto 4, 3) := by decide +kernel
theorem dL_ends_144 : decode cL_ends 144 = .ok (.iconst 0, 1) := by decide +kernel
theorem dL_ends_145 : decode cL_ends 145 = .ok (.istore_n 2, 1) := by decide +kernel
theorem dL_ends_146 : decode cL_ends 146 = .ok (.iconst 0, 1) := by decide +kernel
theorem dL_ends_147 : decode cL_ends 147 = .ok (.istore 4, 2) := by decide +kernel
theorem dL_ends_149 : decode cL_ends 149 = .ok (.iload 4, 2) := by decide +kernel
theorem dL_ends_151 : decode cL_ends 151 = .ok (.aload_n 0, 1) := by decide +kernel
theorem dL_ends_152 : decode cL_ends 152 = .ok (.invokevirtual 133, 3) := by decide +kernel
theorem dL_ends_155 : decode cL_ends 155 = .ok (.if_icmp .ge 38, 3) := by decide +kernel
theorem dL_ends_158 : decode cL_ends 158 = .ok (.iload_n 2, 1) := by decide +kernel
theorem dL_ends_159 : decode cL_ends 159 = .ok (.ifCond .eq 34, 3) := by decide +kernel
theorem dL_ends_162 : decode cL_ends 162 = .ok (.aload_n 0, 1) := by decide +kernel
theorem dL_ends_163 : decode cL_ends 163 = .ok (.iload 4, 2) := by decide +kernel
theorem dL_ends_165 : decode cL_ends 165 = .ok (.invokestatic 186, 3) := by decide +kernel
theorem dL_ends_168 : decode cL_ends 168 = .ok (.iconst 2, 1) := by decide +kernel
theorem dL_ends_169 : decode cL_ends 169 = .ok (.if_icmp .ne 12, 3) := by decide +kernel
theorem dL_ends_172 : decode cL_ends 172 = .ok (.aload_n 0, 1) := by decide +kernel
theorem dL_ends_173 : decode cL_ends 173 = .ok (.iload 4, 2) := by decide +kernel
theorem dL_ends_175 : decode cL_ends 175 = .ok (.invokestatic 218, 3) := by decide +kernel
theorem dL_ends_178 : decode cL_ends 178 = .ok (.ifCond .ne 7, 3) := by decide +kernel
theorem dL_ends_181 : decode cL_ends 181 = .ok (.iconst 1, 1) := by decide +kernel
theorem dL_ends_182 : decode cL_ends 182 = .ok (.goto 4, 3) := by decide +kernel
theorem dL_ends_185 : decode cL_ends 185 = .ok (.iconst 0, 1) := by decide +kernel
theorem dL_ends_186 : decode cL_ends 186 = .ok (.istore_n 2, 1) := by decide +kernel
theorem dL_ends_187 : decode cL_ends 187 = .ok (.iinc 4 1, 3) := by decide +kernel
theorem dL_ends_190 : decode cL_ends 190 = .ok (.goto (-41), 3) := by decide +kernel
theorem dL_ends_193 : decode cL_ends 193 = .ok (.iload_n 2, 1) := by decide +kernel
theorem dL_ends_194 : decode cL_ends 194 = .ok (.ireturn, 1) := by decide +kernel
