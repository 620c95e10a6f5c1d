theorem d_Mo_breakAt_0 : decode M_Mo_breakAt.2.1 0 = .ok (.aload_n 0, 1) := by decide +kernel
theorem d_Mo_breakAt_1 : decode M_Mo_breakAt.2.1 1 = .ok (.getfield 27, 3) := by decide +kernel
theorem d_Mo_breakAt_4 : decode M_Mo_breakAt.2.1 4 = .ok (.iload_n 1, 1) := by decide +kernel
theorem d_Mo_breakAt_5 : decode M_Mo_breakAt.2.1 5 = .ok (.iaload, 1) := by decide +kernel
theorem d_Mo_breakAt_6 : decode M_Mo_breakAt.2.1 6 = .ok (.istore_n 3, 1) := by decide +kernel
theorem d_Mo_breakAt_7 : decode M_Mo_breakAt.2.1 7 = .ok (.aload_n 0, 1) := by decide +kernel
theorem d_Mo_breakAt_8 : decode M_Mo_breakAt.2.1 8 = .ok (.getfield 81, 3) := by decide +kernel
theorem d_Mo_breakAt_11 : decode M_Mo_breakAt.2.1 11 = .ok (.iload_n 2, 1) := by decide +kernel
theorem d_Mo_breakAt_12 : decode M_Mo_breakAt.2.1 12 = .ok (.iaload, 1) := by decide +kernel
theorem d_Mo_breakAt_13 : decode M_Mo_breakAt.2.1 13 = .ok (.istore 4, 2) := by decide +kernel
theorem d_Mo_breakAt_15 : decode M_Mo_breakAt.2.1 15 = .ok (.iload 4, 2) := by decide +kernel
theorem d_Mo_breakAt_17 : decode M_Mo_breakAt.2.1 17 = .ok (.bipush 32, 2) := by decide +kernel
theorem d_Mo_breakAt_19 : decode M_Mo_breakAt.2.1 19 = .ok (.if_icmp .eq 10, 3) := by decide +kernel
theorem d_Mo_breakAt_22 : decode M_Mo_breakAt.2.1 22 = .ok (.iload 4, 2) := by decide +kernel
theorem d_Mo_breakAt_24 : decode M_Mo_breakAt.2.1 24 = .ok (.bipush 45, 2) := by decide +kernel
theorem d_Mo_breakAt_26 : decode M_Mo_breakAt.2.1 26 = .ok (.if_icmp .ne 9, 3) := by decide +kernel
theorem d_Mo_breakAt_29 : decode M_Mo_breakAt.2.1 29 = .ok (.iload_n 2, 1) := by decide +kernel
theorem d_Mo_breakAt_30 : decode M_Mo_breakAt.2.1 30 = .ok (.iconst 1, 1) := by decide +kernel
theorem d_Mo_breakAt_31 : decode M_Mo_breakAt.2.1 31 = .ok (.iadd, 1) := by decide +kernel
theorem d_Mo_breakAt_32 : decode M_Mo_breakAt.2.1 32 = .ok (.goto 4, 3) := by decide +kernel
theorem d_Mo_breakAt_35 : decode M_Mo_breakAt.2.1 35 = .ok (.iload_n 3, 1) := by decide +kernel
theorem d_Mo_breakAt_36 : decode M_Mo_breakAt.2.1 36 = .ok (.istore 5, 2) := by decide +kernel
theorem d_Mo_breakAt_38 : decode M_Mo_breakAt.2.1 38 = .ok (.iload 4, 2) := by decide +kernel
theorem d_Mo_breakAt_40 : decode M_Mo_breakAt.2.1 40 = .ok (.bipush 32, 2) := by decide +kernel
theorem d_Mo_breakAt_42 : decode M_Mo_breakAt.2.1 42 = .ok (.if_icmp .ne 7, 3) := by decide +kernel
theorem d_Mo_breakAt_45 : decode M_Mo_breakAt.2.1 45 = .ok (.iload_n 2, 1) := by decide +kernel
theorem d_Mo_breakAt_46 : decode M_Mo_breakAt.2.1 46 = .ok (.goto 6, 3) := by decide +kernel
theorem d_Mo_breakAt_49 : decode M_Mo_breakAt.2.1 49 = .ok (.iload_n 2, 1) := by decide +kernel
theorem d_Mo_breakAt_50 : decode M_Mo_breakAt.2.1 50 = .ok (.iconst 1, 1) := by decide +kernel
theorem d_Mo_breakAt_51 : decode M_Mo_breakAt.2.1 51 = .ok (.iadd, 1) := by decide +kernel
theorem d_Mo_breakAt_52 : decode M_Mo_breakAt.2.1 52 = .ok (.istore 6, 2) := by decide +kernel
theorem d_Mo_breakAt_54 : decode M_Mo_breakAt.2.1 54 = .ok (.iload 5, 2) := by decide +kernel
theorem d_Mo_breakAt_56 : decode M_Mo_breakAt.2.1 56 = .ok (.iload_n 3, 1) := by decide +kernel
theorem d_Mo_breakAt_57 : decode M_Mo_breakAt.2.1 57 = .ok (.if_icmp .ge 21, 3) := by decide +kernel
theorem d_Mo_breakAt_60 : decode M_Mo_breakAt.2.1 60 = .ok (.iload 6, 2) := by decide +kernel
theorem d_Mo_breakAt_62 : decode M_Mo_breakAt.2.1 62 = .ok (.ifCond .eq 16, 3) := by decide +kernel
theorem d_Mo_breakAt_65 : decode M_Mo_breakAt.2.1 65 = .ok (.iload 4, 2) := by decide +kernel
theorem d_Mo_breakAt_67 : decode M_Mo_breakAt.2.1 67 = .ok (.bipush 45, 2) := by decide +kernel
theorem d_Mo_breakAt_69 : decode M_Mo_breakAt.2.1 69 = .ok (.if_icmp .ne 11, 3) := by decide +kernel
theorem d_Mo_breakAt_72 : decode M_Mo_breakAt.2.1 72 = .ok (.iload_n 3, 1) := by decide +kernel
theorem d_Mo_breakAt_73 : decode M_Mo_breakAt.2.1 73 = .ok (.bipush 64, 2) := by decide +kernel
theorem d_Mo_breakAt_75 : decode M_Mo_breakAt.2.1 75 = .ok (.if_icmp .ne 5, 3) := by decide +kernel
theorem d_Mo_breakAt_78 : decode M_Mo_breakAt.2.1 78 = .ok (.iconst (-1), 1) := by decide +kernel
theorem d_Mo_breakAt_79 : decode M_Mo_breakAt.2.1 79 = .ok (.ireturn, 1) := by decide +kernel
theorem d_Mo_breakAt_80 : decode M_Mo_breakAt.2.1 80 = .ok (.iconst 0, 1) := by decide +kernel
theorem d_Mo_breakAt_81 : decode M_Mo_breakAt.2.1 81 = .ok (.istore 7, 2) := by decide +kernel
theorem d_Mo_breakAt_83 : decode M_Mo_breakAt.2.1 83 = .ok (.iconst 0, 1) := by decide +kernel
theorem d_Mo_breakAt_84 : decode M_Mo_breakAt.2.1 84 = .ok (.istore 8, 2) := by decide +kernel
theorem d_Mo_breakAt_86 : decode M_Mo_breakAt.2.1 86 = .ok (.iconst 0, 1) := by decide +kernel
theorem d_Mo_breakAt_87 : decode M_Mo_breakAt.2.1 87 = .ok (.istore 9, 2) := by decide +kernel
theorem d_Mo_breakAt_89 : decode M_Mo_breakAt.2.1 89 = .ok (.iload 9, 2) := by decide +kernel
theorem d_Mo_breakAt_91 : decode M_Mo_breakAt.2.1 91 = .ok (.iload_n 3, 1) := by decide +kernel
theorem d_Mo_breakAt_92 : decode M_Mo_breakAt.2.1 92 = .ok (.if_icmp .ge 63, 3) := by decide +kernel
theorem d_Mo_breakAt_95 : decode M_Mo_breakAt.2.1 95 = .ok (.iload 9, 2) := by decide +kernel
theorem d_Mo_breakAt_97 : decode M_Mo_breakAt.2.1 97 = .ok (.iload 6, 2) := by decide +kernel
theorem d_Mo_breakAt_99 : decode M_Mo_breakAt.2.1 99 = .ok (.if_icmp .ge 19, 3) := by decide +kernel
theorem d_Mo_breakAt_102 : decode M_Mo_breakAt.2.1 102 = .ok (.iload 7, 2) := by decide +kernel
theorem d_Mo_breakAt_104 : decode M_Mo_breakAt.2.1 104 = .ok (.aload_n 0, 1) := by decide +kernel
theorem d_Mo_breakAt_105 : decode M_Mo_breakAt.2.1 105 = .ok (.getfield 81, 3) := by decide +kernel
theorem d_Mo_breakAt_108 : decode M_Mo_breakAt.2.1 108 = .ok (.iload 9, 2) := by decide +kernel
theorem d_Mo_breakAt_110 : decode M_Mo_breakAt.2.1 110 = .ok (.iaload, 1) := by decide +kernel
theorem d_Mo_breakAt_111 : decode M_Mo_breakAt.2.1 111 = .ok (.invokestatic 88, 3) := by decide +kernel
theorem d_Mo_breakAt_114 : decode M_Mo_breakAt.2.1 114 = .ok (.iadd, 1) := by decide +kernel
theorem d_Mo_breakAt_115 : decode M_Mo_breakAt.2.1 115 = .ok (.goto 5, 3) := by decide +kernel
theorem d_Mo_breakAt_118 : decode M_Mo_breakAt.2.1 118 = .ok (.iload 7, 2) := by decide +kernel
theorem d_Mo_breakAt_120 : decode M_Mo_breakAt.2.1 120 = .ok (.istore 7, 2) := by decide +kernel
theorem d_Mo_breakAt_122 : decode M_Mo_breakAt.2.1 122 = .ok (.iload 9, 2) := by decide +kernel
theorem d_Mo_breakAt_124 : decode M_Mo_breakAt.2.1 124 = .ok (.iload 5, 2) := by decide +kernel
theorem d_Mo_breakAt_126 : decode M_Mo_breakAt.2.1 126 = .ok (.if_icmp .lt 19, 3) := by decide +kernel
theorem d_Mo_breakAt_129 : decode M_Mo_breakAt.2.1 129 = .ok (.iload 8, 2) := by decide +kernel
theorem d_Mo_breakAt_131 : decode M_Mo_breakAt.2.1 131 = .ok (.aload_n 0, 1) := by decide +kernel
theorem d_Mo_breakAt_132 : decode M_Mo_breakAt.2.1 132 = .ok (.getfield 81, 3) := by decide +kernel
theorem d_Mo_breakAt_135 : decode M_Mo_breakAt.2.1 135 = .ok (.iload 9, 2) := by decide +kernel
theorem d_Mo_breakAt_137 : decode M_Mo_breakAt.2.1 137 = .ok (.iaload, 1) := by decide +kernel
theorem d_Mo_breakAt_138 : decode M_Mo_breakAt.2.1 138 = .ok (.invokestatic 88, 3) := by decide +kernel
theorem d_Mo_breakAt_141 : decode M_Mo_breakAt.2.1 141 = .ok (.iadd, 1) := by decide +kernel
theorem d_Mo_breakAt_142 : decode M_Mo_breakAt.2.1 142 = .ok (.goto 5, 3) := by decide +kernel
theorem d_Mo_breakAt_145 : decode M_Mo_breakAt.2.1 145 = .ok (.iload 8, 2) := by decide +kernel
theorem d_Mo_breakAt_147 : decode M_Mo_breakAt.2.1 147 = .ok (.istore 8, 2) := by decide +kernel
theorem d_Mo_breakAt_149 : decode M_Mo_breakAt.2.1 149 = .ok (.iinc 9 1, 3) := by decide +kernel
theorem d_Mo_breakAt_152 : decode M_Mo_breakAt.2.1 152 = .ok (.goto (-63), 3) := by decide +kernel
theorem d_Mo_breakAt_155 : decode M_Mo_breakAt.2.1 155 = .ok (.iload 7, 2) := by decide +kernel
theorem d_Mo_breakAt_157 : decode M_Mo_breakAt.2.1 157 = .ok (.bipush 28, 2) := by decide +kernel
theorem d_Mo_breakAt_159 : decode M_Mo_breakAt.2.1 159 = .ok (.if_icmp .gt 10, 3) := by decide +kernel
theorem d_Mo_breakAt_162 : decode M_Mo_breakAt.2.1 162 = .ok (.iload 8, 2) := by decide +kernel
theorem d_Mo_breakAt_164 : decode M_Mo_breakAt.2.1 164 = .ok (.bipush 28, 2) := by decide +kernel
theorem d_Mo_breakAt_166 : decode M_Mo_breakAt.2.1 166 = .ok (.if_icmp .le 5, 3) := by decide +kernel
theorem d_Mo_breakAt_169 : decode M_Mo_breakAt.2.1 169 = .ok (.iconst (-1), 1) := by decide +kernel
theorem d_Mo_breakAt_170 : decode M_Mo_breakAt.2.1 170 = .ok (.ireturn, 1) := by decide +kernel
theorem d_Mo_breakAt_171 : decode M_Mo_breakAt.2.1 171 = .ok (.sipush 1000, 3) := by decide +kernel
theorem d_Mo_breakAt_174 : decode M_Mo_breakAt.2.1 174 = .ok (.iload 7, 2) := by decide +kernel
theorem d_Mo_breakAt_176 : decode M_Mo_breakAt.2.1 176 = .ok (.iload 8, 2) := by decide +kernel
theorem d_Mo_breakAt_178 : decode M_Mo_breakAt.2.1 178 = .ok (.if_icmp .le 11, 3) := by decide +kernel
theorem d_Mo_breakAt_181 : decode M_Mo_breakAt.2.1 181 = .ok (.iload 7, 2) := by decide +kernel
theorem d_Mo_breakAt_183 : decode M_Mo_breakAt.2.1 183 = .ok (.iload 8, 2) := by decide +kernel
theorem d_Mo_breakAt_185 : decode M_Mo_breakAt.2.1 185 = .ok (.isub, 1) := by decide +kernel
theorem d_Mo_breakAt_186 : decode M_Mo_breakAt.2.1 186 = .ok (.goto 8, 3) := by decide +kernel
theorem d_Mo_breakAt_189 : decode M_Mo_breakAt.2.1 189 = .ok (.iload 8, 2) := by decide +kernel
theorem d_Mo_breakAt_191 : decode M_Mo_breakAt.2.1 191 = .ok (.iload 7, 2) := by decide +kernel
theorem d_Mo_breakAt_193 : decode M_Mo_breakAt.2.1 193 = .ok (.isub, 1) := by decide +kernel
theorem d_Mo_breakAt_194 : decode M_Mo_breakAt.2.1 194 = .ok (.imul, 1) := by decide +kernel
theorem d_Mo_breakAt_195 : decode M_Mo_breakAt.2.1 195 = .ok (.iload 7, 2) := by decide +kernel
theorem d_Mo_breakAt_197 : decode M_Mo_breakAt.2.1 197 = .ok (.iload 8, 2) := by decide +kernel
theorem d_Mo_breakAt_199 : decode M_Mo_breakAt.2.1 199 = .ok (.if_icmp .le 7, 3) := by decide +kernel
theorem d_Mo_breakAt_202 : decode M_Mo_breakAt.2.1 202 = .ok (.iconst 1, 1) := by decide +kernel
theorem d_Mo_breakAt_203 : decode M_Mo_breakAt.2.1 203 = .ok (.goto 4, 3) := by decide +kernel
theorem d_Mo_breakAt_206 : decode M_Mo_breakAt.2.1 206 = .ok (.iconst 0, 1) := by decide +kernel
theorem d_Mo_breakAt_207 : decode M_Mo_breakAt.2.1 207 = .ok (.iadd, 1) := by decide +kernel
theorem d_Mo_breakAt_208 : decode M_Mo_breakAt.2.1 208 = .ok (.ireturn, 1) := by decide +kernel
theorem d_Mo_breakLines_0 : decode M_Mo_breakLines.2.1 0 = .ok (.aload_n 0, 1) := by decide +kernel
theorem d_Mo_breakLines_1 : decode M_Mo_breakLines.2.1 1 = .ok (.iload_n 1, 1) := by decide +kernel
theorem d_Mo_breakLines_2 : decode M_Mo_breakLines.2.1 2 = .ok (.invokevirtual 217, 3) := by decide +kernel
theorem d_Mo_breakLines_5 : decode M_Mo_breakLines.2.1 5 = .ok (.ifCond .ne 6, 3) := by decide +kernel
theorem d_Mo_breakLines_8 : decode M_Mo_breakLines.2.1 8 = .ok (.bipush (-2), 2) := by decide +kernel
theorem d_Mo_breakLines_10 : decode M_Mo_breakLines.2.1 10 = .ok (.ireturn, 1) := by decide +kernel
theorem d_Mo_breakLines_11 : decode M_Mo_breakLines.2.1 11 = .ok (.aload_n 0, 1) := by decide +kernel
theorem d_Mo_breakLines_12 : decode M_Mo_breakLines.2.1 12 = .ok (.getfield 27, 3) := by decide +kernel
theorem d_Mo_breakLines_15 : decode M_Mo_breakLines.2.1 15 = .ok (.iload_n 1, 1) := by decide +kernel
theorem d_Mo_breakLines_16 : decode M_Mo_breakLines.2.1 16 = .ok (.iaload, 1) := by decide +kernel
theorem d_Mo_breakLines_17 : decode M_Mo_breakLines.2.1 17 = .ok (.istore_n 2, 1) := by decide +kernel
theorem d_Mo_breakLines_18 : decode M_Mo_breakLines.2.1 18 = .ok (.iconst 0, 1) := by decide +kernel
theorem d_Mo_breakLines_19 : decode M_Mo_breakLines.2.1 19 = .ok (.istore_n 3, 1) := by decide +kernel
theorem d_Mo_breakLines_20 : decode M_Mo_breakLines.2.1 20 = .ok (.iconst 0, 1) := by decide +kernel
theorem d_Mo_breakLines_21 : decode M_Mo_breakLines.2.1 21 = .ok (.istore 4, 2) := by decide +kernel
theorem d_Mo_breakLines_23 : decode M_Mo_breakLines.2.1 23 = .ok (.iload 4, 2) := by decide +kernel
theorem d_Mo_breakLines_25 : decode M_Mo_breakLines.2.1 25 = .ok (.iload_n 2, 1) := by decide +kernel
theorem d_Mo_breakLines_26 : decode M_Mo_breakLines.2.1 26 = .ok (.if_icmp .ge 57, 3) := by decide +kernel
theorem d_Mo_breakLines_29 : decode M_Mo_breakLines.2.1 29 = .ok (.aload_n 0, 1) := by decide +kernel
theorem d_Mo_breakLines_30 : decode M_Mo_breakLines.2.1 30 = .ok (.getfield 30, 3) := by decide +kernel
theorem d_Mo_breakLines_33 : decode M_Mo_breakLines.2.1 33 = .ok (.bipush 64, 2) := by decide +kernel
theorem d_Mo_breakLines_35 : decode M_Mo_breakLines.2.1 35 = .ok (.iload_n 1, 1) := by decide +kernel
theorem d_Mo_breakLines_36 : decode M_Mo_breakLines.2.1 36 = .ok (.imul, 1) := by decide +kernel
theorem d_Mo_breakLines_37 : decode M_Mo_breakLines.2.1 37 = .ok (.iload 4, 2) := by decide +kernel
theorem d_Mo_breakLines_39 : decode M_Mo_breakLines.2.1 39 = .ok (.iadd, 1) := by decide +kernel
theorem d_Mo_breakLines_40 : decode M_Mo_breakLines.2.1 40 = .ok (.iaload, 1) := by decide +kernel
theorem d_Mo_breakLines_41 : decode M_Mo_breakLines.2.1 41 = .ok (.istore 5, 2) := by decide +kernel
theorem d_Mo_breakLines_43 : decode M_Mo_breakLines.2.1 43 = .ok (.aload_n 0, 1) := by decide +kernel
theorem d_Mo_breakLines_44 : decode M_Mo_breakLines.2.1 44 = .ok (.getfield 81, 3) := by decide +kernel
theorem d_Mo_breakLines_47 : decode M_Mo_breakLines.2.1 47 = .ok (.iload 4, 2) := by decide +kernel
theorem d_Mo_breakLines_49 : decode M_Mo_breakLines.2.1 49 = .ok (.iload 5, 2) := by decide +kernel
theorem d_Mo_breakLines_51 : decode M_Mo_breakLines.2.1 51 = .ok (.bipush 10, 2) := by decide +kernel
theorem d_Mo_breakLines_53 : decode M_Mo_breakLines.2.1 53 = .ok (.if_icmp .ne 8, 3) := by decide +kernel
theorem d_Mo_breakLines_56 : decode M_Mo_breakLines.2.1 56 = .ok (.bipush 32, 2) := by decide +kernel
theorem d_Mo_breakLines_58 : decode M_Mo_breakLines.2.1 58 = .ok (.goto 5, 3) := by decide +kernel
theorem d_Mo_breakLines_61 : decode M_Mo_breakLines.2.1 61 = .ok (.iload 5, 2) := by decide +kernel
theorem d_Mo_breakLines_63 : decode M_Mo_breakLines.2.1 63 = .ok (.iastore, 1) := by decide +kernel
theorem d_Mo_breakLines_64 : decode M_Mo_breakLines.2.1 64 = .ok (.iload_n 3, 1) := by decide +kernel
theorem d_Mo_breakLines_65 : decode M_Mo_breakLines.2.1 65 = .ok (.aload_n 0, 1) := by decide +kernel
theorem d_Mo_breakLines_66 : decode M_Mo_breakLines.2.1 66 = .ok (.getfield 81, 3) := by decide +kernel
theorem d_Mo_breakLines_69 : decode M_Mo_breakLines.2.1 69 = .ok (.iload 4, 2) := by decide +kernel
theorem d_Mo_breakLines_71 : decode M_Mo_breakLines.2.1 71 = .ok (.iaload, 1) := by decide +kernel
theorem d_Mo_breakLines_72 : decode M_Mo_breakLines.2.1 72 = .ok (.invokestatic 88, 3) := by decide +kernel
theorem d_Mo_breakLines_75 : decode M_Mo_breakLines.2.1 75 = .ok (.iadd, 1) := by decide +kernel
theorem d_Mo_breakLines_76 : decode M_Mo_breakLines.2.1 76 = .ok (.istore_n 3, 1) := by decide +kernel
theorem d_Mo_breakLines_77 : decode M_Mo_breakLines.2.1 77 = .ok (.iinc 4 1, 3) := by decide +kernel
theorem d_Mo_breakLines_80 : decode M_Mo_breakLines.2.1 80 = .ok (.goto (-57), 3) := by decide +kernel
theorem d_Mo_breakLines_83 : decode M_Mo_breakLines.2.1 83 = .ok (.iconst (-1), 1) := by decide +kernel
theorem d_Mo_breakLines_84 : decode M_Mo_breakLines.2.1 84 = .ok (.istore 4, 2) := by decide +kernel
theorem d_Mo_breakLines_86 : decode M_Mo_breakLines.2.1 86 = .ok (.iconst 0, 1) := by decide +kernel
theorem d_Mo_breakLines_87 : decode M_Mo_breakLines.2.1 87 = .ok (.istore 5, 2) := by decide +kernel
theorem d_Mo_breakLines_89 : decode M_Mo_breakLines.2.1 89 = .ok (.iload 5, 2) := by decide +kernel
theorem d_Mo_breakLines_91 : decode M_Mo_breakLines.2.1 91 = .ok (.iload_n 2, 1) := by decide +kernel
theorem d_Mo_breakLines_92 : decode M_Mo_breakLines.2.1 92 = .ok (.if_icmp .ge 68, 3) := by decide +kernel
theorem d_Mo_breakLines_95 : decode M_Mo_breakLines.2.1 95 = .ok (.iload_n 3, 1) := by decide +kernel
theorem d_Mo_breakLines_96 : decode M_Mo_breakLines.2.1 96 = .ok (.bipush 28, 2) := by decide +kernel
theorem d_Mo_breakLines_98 : decode M_Mo_breakLines.2.1 98 = .ok (.if_icmp .le 62, 3) := by decide +kernel
theorem d_Mo_breakLines_101 : decode M_Mo_breakLines.2.1 101 = .ok (.aload_n 0, 1) := by decide +kernel
theorem d_Mo_breakLines_102 : decode M_Mo_breakLines.2.1 102 = .ok (.iload_n 1, 1) := by decide +kernel
theorem d_Mo_breakLines_103 : decode M_Mo_breakLines.2.1 103 = .ok (.iload 5, 2) := by decide +kernel
theorem d_Mo_breakLines_105 : decode M_Mo_breakLines.2.1 105 = .ok (.invokevirtual 262, 3) := by decide +kernel
theorem d_Mo_breakLines_108 : decode M_Mo_breakLines.2.1 108 = .ok (.ifCond .lt 29, 3) := by decide +kernel
theorem d_Mo_breakLines_111 : decode M_Mo_breakLines.2.1 111 = .ok (.iload 4, 2) := by decide +kernel
theorem d_Mo_breakLines_113 : decode M_Mo_breakLines.2.1 113 = .ok (.ifCond .lt 20, 3) := by decide +kernel
theorem d_Mo_breakLines_116 : decode M_Mo_breakLines.2.1 116 = .ok (.aload_n 0, 1) := by decide +kernel
theorem d_Mo_breakLines_117 : decode M_Mo_breakLines.2.1 117 = .ok (.iload_n 1, 1) := by decide +kernel
theorem d_Mo_breakLines_118 : decode M_Mo_breakLines.2.1 118 = .ok (.iload 5, 2) := by decide +kernel
theorem d_Mo_breakLines_120 : decode M_Mo_breakLines.2.1 120 = .ok (.invokevirtual 262, 3) := by decide +kernel
theorem d_Mo_breakLines_123 : decode M_Mo_breakLines.2.1 123 = .ok (.aload_n 0, 1) := by decide +kernel
theorem d_Mo_breakLines_124 : decode M_Mo_breakLines.2.1 124 = .ok (.iload_n 1, 1) := by decide +kernel
theorem d_Mo_breakLines_125 : decode M_Mo_breakLines.2.1 125 = .ok (.iload 4, 2) := by decide +kernel
theorem d_Mo_breakLines_127 : decode M_Mo_breakLines.2.1 127 = .ok (.invokevirtual 262, 3) := by decide +kernel
theorem d_Mo_breakLines_130 : decode M_Mo_breakLines.2.1 130 = .ok (.if_icmp .ge 7, 3) := by decide +kernel
theorem d_Mo_breakLines_133 : decode M_Mo_breakLines.2.1 133 = .ok (.iconst 1, 1) := by decide +kernel
theorem d_Mo_breakLines_134 : decode M_Mo_breakLines.2.1 134 = .ok (.goto 4, 3) := by decide +kernel
theorem d_Mo_breakLines_137 : decode M_Mo_breakLines.2.1 137 = .ok (.iconst 0, 1) := by decide +kernel
theorem d_Mo_breakLines_138 : decode M_Mo_breakLines.2.1 138 = .ok (.istore 6, 2) := by decide +kernel
theorem d_Mo_breakLines_140 : decode M_Mo_breakLines.2.1 140 = .ok (.iload 6, 2) := by decide +kernel
theorem d_Mo_breakLines_142 : decode M_Mo_breakLines.2.1 142 = .ok (.ifCond .eq 8, 3) := by decide +kernel
theorem d_Mo_breakLines_145 : decode M_Mo_breakLines.2.1 145 = .ok (.iload 5, 2) := by decide +kernel
theorem d_Mo_breakLines_147 : decode M_Mo_breakLines.2.1 147 = .ok (.goto 5, 3) := by decide +kernel
theorem d_Mo_breakLines_150 : decode M_Mo_breakLines.2.1 150 = .ok (.iload 4, 2) := by decide +kernel
theorem d_Mo_breakLines_152 : decode M_Mo_breakLines.2.1 152 = .ok (.istore 4, 2) := by decide +kernel
theorem d_Mo_breakLines_154 : decode M_Mo_breakLines.2.1 154 = .ok (.iinc 5 1, 3) := by decide +kernel
theorem d_Mo_breakLines_157 : decode M_Mo_breakLines.2.1 157 = .ok (.goto (-68), 3) := by decide +kernel
theorem d_Mo_breakLines_160 : decode M_Mo_breakLines.2.1 160 = .ok (.iload_n 3, 1) := by decide +kernel
theorem d_Mo_breakLines_161 : decode M_Mo_breakLines.2.1 161 = .ok (.bipush 28, 2) := by decide +kernel
theorem d_Mo_breakLines_163 : decode M_Mo_breakLines.2.1 163 = .ok (.if_icmp .le 10, 3) := by decide +kernel
theorem d_Mo_breakLines_166 : decode M_Mo_breakLines.2.1 166 = .ok (.iload 4, 2) := by decide +kernel
theorem d_Mo_breakLines_168 : decode M_Mo_breakLines.2.1 168 = .ok (.ifCond .ge 5, 3) := by decide +kernel
theorem d_Mo_breakLines_171 : decode M_Mo_breakLines.2.1 171 = .ok (.iconst (-1), 1) := by decide +kernel
theorem d_Mo_breakLines_172 : decode M_Mo_breakLines.2.1 172 = .ok (.ireturn, 1) := by decide +kernel
theorem d_Mo_breakLines_173 : decode M_Mo_breakLines.2.1 173 = .ok (.aload_n 0, 1) := by decide +kernel
theorem d_Mo_breakLines_174 : decode M_Mo_breakLines.2.1 174 = .ok (.invokevirtual 176, 3) := by decide +kernel
theorem d_Mo_breakLines_177 : decode M_Mo_breakLines.2.1 177 = .ok (.iconst 0, 1) := by decide +kernel
theorem d_Mo_breakLines_178 : decode M_Mo_breakLines.2.1 178 = .ok (.istore 5, 2) := by decide +kernel
theorem d_Mo_breakLines_180 : decode M_Mo_breakLines.2.1 180 = .ok (.iconst 0, 1) := by decide +kernel
theorem d_Mo_breakLines_181 : decode M_Mo_breakLines.2.1 181 = .ok (.istore 6, 2) := by decide +kernel
theorem d_Mo_breakLines_183 : decode M_Mo_breakLines.2.1 183 = .ok (.iload 6, 2) := by decide +kernel
theorem d_Mo_breakLines_185 : decode M_Mo_breakLines.2.1 185 = .ok (.iload_n 2, 1) := by decide +kernel
theorem d_Mo_breakLines_186 : decode M_Mo_breakLines.2.1 186 = .ok (.if_icmp .ge 85, 3) := by decide +kernel
theorem d_Mo_breakLines_189 : decode M_Mo_breakLines.2.1 189 = .ok (.aload_n 0, 1) := by decide +kernel
theorem d_Mo_breakLines_190 : decode M_Mo_breakLines.2.1 190 = .ok (.getfield 81, 3) := by decide +kernel
theorem d_Mo_breakLines_193 : decode M_Mo_breakLines.2.1 193 = .ok (.iload 6, 2) := by decide +kernel
theorem d_Mo_breakLines_195 : decode M_Mo_breakLines.2.1 195 = .ok (.iaload, 1) := by decide +kernel
theorem d_Mo_breakLines_196 : decode M_Mo_breakLines.2.1 196 = .ok (.istore 7, 2) := by decide +kernel
theorem d_Mo_breakLines_198 : decode M_Mo_breakLines.2.1 198 = .ok (.aload_n 0, 1) := by decide +kernel
theorem d_Mo_breakLines_199 : decode M_Mo_breakLines.2.1 199 = .ok (.getfield 30, 3) := by decide +kernel
theorem d_Mo_breakLines_202 : decode M_Mo_breakLines.2.1 202 = .ok (.bipush 64, 2) := by decide +kernel
theorem d_Mo_breakLines_204 : decode M_Mo_breakLines.2.1 204 = .ok (.iload_n 1, 1) := by decide +kernel
theorem d_Mo_breakLines_205 : decode M_Mo_breakLines.2.1 205 = .ok (.imul, 1) := by decide +kernel
theorem d_Mo_breakLines_206 : decode M_Mo_breakLines.2.1 206 = .ok (.iload 5, 2) := by decide +kernel
theorem d_Mo_breakLines_208 : decode M_Mo_breakLines.2.1 208 = .ok (.iadd, 1) := by decide +kernel
theorem d_Mo_breakLines_209 : decode M_Mo_breakLines.2.1 209 = .ok (.iload 6, 2) := by decide +kernel
theorem d_Mo_breakLines_211 : decode M_Mo_breakLines.2.1 211 = .ok (.iload 4, 2) := by decide +kernel
theorem d_Mo_breakLines_213 : decode M_Mo_breakLines.2.1 213 = .ok (.if_icmp .ne 15, 3) := by decide +kernel
theorem d_Mo_breakLines_216 : decode M_Mo_breakLines.2.1 216 = .ok (.iload 7, 2) := by decide +kernel
theorem d_Mo_breakLines_218 : decode M_Mo_breakLines.2.1 218 = .ok (.bipush 32, 2) := by decide +kernel
theorem d_Mo_breakLines_220 : decode M_Mo_breakLines.2.1 220 = .ok (.if_icmp .ne 8, 3) := by decide +kernel
theorem d_Mo_breakLines_223 : decode M_Mo_breakLines.2.1 223 = .ok (.bipush 10, 2) := by decide +kernel
theorem d_Mo_breakLines_225 : decode M_Mo_breakLines.2.1 225 = .ok (.goto 5, 3) := by decide +kernel
theorem d_Mo_breakLines_228 : decode M_Mo_breakLines.2.1 228 = .ok (.iload 7, 2) := by decide +kernel
theorem d_Mo_breakLines_230 : decode M_Mo_breakLines.2.1 230 = .ok (.iastore, 1) := by decide +kernel
theorem d_Mo_breakLines_231 : decode M_Mo_breakLines.2.1 231 = .ok (.iinc 5 1, 3) := by decide +kernel
theorem d_Mo_breakLines_234 : decode M_Mo_breakLines.2.1 234 = .ok (.iload 6, 2) := by decide +kernel
theorem d_Mo_breakLines_236 : decode M_Mo_breakLines.2.1 236 = .ok (.iload 4, 2) := by decide +kernel
theorem d_Mo_breakLines_238 : decode M_Mo_breakLines.2.1 238 = .ok (.if_icmp .ne 27, 3) := by decide +kernel
theorem d_Mo_breakLines_241 : decode M_Mo_breakLines.2.1 241 = .ok (.iload 7, 2) := by decide +kernel
theorem d_Mo_breakLines_243 : decode M_Mo_breakLines.2.1 243 = .ok (.bipush 45, 2) := by decide +kernel
theorem d_Mo_breakLines_245 : decode M_Mo_breakLines.2.1 245 = .ok (.if_icmp .ne 20, 3) := by decide +kernel
theorem d_Mo_breakLines_248 : decode M_Mo_breakLines.2.1 248 = .ok (.aload_n 0, 1) := by decide +kernel
theorem d_Mo_breakLines_249 : decode M_Mo_breakLines.2.1 249 = .ok (.getfield 30, 3) := by decide +kernel
theorem d_Mo_breakLines_252 : decode M_Mo_breakLines.2.1 252 = .ok (.bipush 64, 2) := by decide +kernel
theorem d_Mo_breakLines_254 : decode M_Mo_breakLines.2.1 254 = .ok (.iload_n 1, 1) := by decide +kernel
theorem d_Mo_breakLines_255 : decode M_Mo_breakLines.2.1 255 = .ok (.imul, 1) := by decide +kernel
theorem d_Mo_breakLines_256 : decode M_Mo_breakLines.2.1 256 = .ok (.iload 5, 2) := by decide +kernel
theorem d_Mo_breakLines_258 : decode M_Mo_breakLines.2.1 258 = .ok (.iadd, 1) := by decide +kernel
theorem d_Mo_breakLines_259 : decode M_Mo_breakLines.2.1 259 = .ok (.bipush 10, 2) := by decide +kernel
theorem d_Mo_breakLines_261 : decode M_Mo_breakLines.2.1 261 = .ok (.iastore, 1) := by decide +kernel
theorem d_Mo_breakLines_262 : decode M_Mo_breakLines.2.1 262 = .ok (.iinc 5 1, 3) := by decide +kernel
theorem d_Mo_breakLines_265 : decode M_Mo_breakLines.2.1 265 = .ok (.iinc 6 1, 3) := by decide +kernel
theorem d_Mo_breakLines_268 : decode M_Mo_breakLines.2.1 268 = .ok (.goto (-85), 3) := by decide +kernel
theorem d_Mo_breakLines_271 : decode M_Mo_breakLines.2.1 271 = .ok (.aload_n 0, 1) := by decide +kernel
theorem d_Mo_breakLines_272 : decode M_Mo_breakLines.2.1 272 = .ok (.getfield 27, 3) := by decide +kernel
theorem d_Mo_breakLines_275 : decode M_Mo_breakLines.2.1 275 = .ok (.iload_n 1, 1) := by decide +kernel
theorem d_Mo_breakLines_276 : decode M_Mo_breakLines.2.1 276 = .ok (.iload 5, 2) := by decide +kernel
theorem d_Mo_breakLines_278 : decode M_Mo_breakLines.2.1 278 = .ok (.iastore, 1) := by decide +kernel
theorem d_Mo_breakLines_279 : decode M_Mo_breakLines.2.1 279 = .ok (.iload_n 3, 1) := by decide +kernel
theorem d_Mo_breakLines_280 : decode M_Mo_breakLines.2.1 280 = .ok (.bipush 28, 2) := by decide +kernel
theorem d_Mo_breakLines_282 : decode M_Mo_breakLines.2.1 282 = .ok (.if_icmp .le 7, 3) := by decide +kernel
theorem d_Mo_breakLines_285 : decode M_Mo_breakLines.2.1 285 = .ok (.iconst 2, 1) := by decide +kernel
theorem d_Mo_breakLines_286 : decode M_Mo_breakLines.2.1 286 = .ok (.goto 4, 3) := by decide +kernel
theorem d_Mo_breakLines_289 : decode M_Mo_breakLines.2.1 289 = .ok (.iconst 1, 1) := by decide +kernel
theorem d_Mo_breakLines_290 : decode M_Mo_breakLines.2.1 290 = .ok (.ireturn, 1) := by decide +kernel
def dfU (D E : Nat → Int) (j : Nat) : Nat → Int := fun k => if k < j then D k else E k
theorem dfU_0 {D E : Nat → Int} : dfU D E 0 = E := by
  funext k
  exact if_neg (by omega)
theorem dfU_s {D E : Nat → Int} {j : Nat} : zup (dfU D E j) j (D j) = dfU D E (j + 1) := by
  funext k
  show (if k = j then D j else if k < j then D k else E k) = if k < j + 1 then D k else E k
  by_cases q : k = j
  · subst q; rw [if_pos rfl, if_pos (by omega)]
  · rw [if_neg q]
    by_cases q2 : k < j
    · rw [if_pos q2, if_pos (by omega)]
    · rw [if_neg q2, if_neg (by omega)]
theorem dfU_in {D E : Nat → Int} {j k : Nat} (h : k < j) : dfU D E j k = D k := if_pos h
theorem zup_at {F : Nat → Int} {k : Nat} {v : Int} : zup F k v k = v := if_pos rfl
theorem drf_r {F : Nat → Int} {o : Nat} (h : ∀ k, 0 ≤ F k ∧ F k ≤ 255) (k : Nat) : 0 ≤ drf F o k ∧ drf F o k ≤ 255 := by
  unfold drf
  split
  · omega
  · exact h _
theorem bVal_e {D E : Nat → Int} {z j : Nat} (h : ∀ k, k < z → E k = D k) (hj : j < z) : bVal E z j = bVal D z j := by
  have e1 : bOne E j = bOne D j := by
    unfold bOne
    rw [h j hj]
    exact cellsN_e _ (fun k hk => by rw [Nat.zero_add]; exact h k (by split at hk <;> omega))
  have e2 : bTwo E z j = bTwo D z j := by
    unfold bTwo
    exact cellsN_e _ (fun k hk => h _ (by omega))
  unfold bVal bDf bOk bPl
  rw [e1, e2, h j hj]
def ntF (F : Nat → Int) (i : Nat) (d : Nat → Int) (p : Int) (t : Nat) : Nat → Int := fun k => if i * 64 ≤ k ∧ k < i * 64 + t then ntx d p (k - i * 64) else F k
theorem ntF_0 {F : Nat → Int} {i : Nat} {d : Nat → Int} {p : Int} : ntF F i d p 0 = F := by
  funext k
  exact if_neg (by omega)
theorem ntF_s {F : Nat → Int} {i : Nat} {d : Nat → Int} {p v : Int} {t : Nat} (h : v = ntx d p t) : zup (ntF F i d p t) (i * 64 + t) v = ntF F i d p (t + 1) := by
  subst h
  funext k
  show (if k = i * 64 + t then ntx d p t else if i * 64 ≤ k ∧ k < i * 64 + t then ntx d p (k - i * 64) else F k) = if i * 64 ≤ k ∧ k < i * 64 + (t + 1) then ntx d p (k - i * 64) else F k
  by_cases q : k = i * 64 + t
  · subst q
    rw [if_pos rfl, if_pos (by omega)]
    congr 1; omega
  · rw [if_neg q]
    by_cases q2 : i * 64 ≤ k ∧ k < i * 64 + t
    · rw [if_pos q2, if_pos (by omega)]
    · rw [if_neg q2, if_neg (by omega)]
theorem ntx_lt {d : Nat → Int} {p : Int} {q : Nat} (h : p < 0 ∨ (q : Int) < p) : ntx d p q = d q := if_pos h
theorem ntx_h0 {d : Nat → Int} {p : Int} {q : Nat} (h : (q : Int) = p) (h2 : d q = 45) : ntx d p q = 45 := by
  subst h
  rw [ntx, if_neg (by omega), Int.toNat_natCast, if_pos h2, if_pos rfl]
theorem ntx_h1 {d : Nat → Int} {p : Int} {q : Nat} (h : (q : Int) = p) (h2 : d q = 45) : ntx d p (q + 1) = 10 := by
  subst h
  rw [ntx, if_neg (by omega), Int.toNat_natCast, if_pos h2, if_neg (by omega), if_pos (by omega)]
theorem ntx_h2 {d : Nat → Int} {p : Int} {q : Nat} (h0 : 0 ≤ p) (h : p < q) (h2 : d p.toNat = 45) : ntx d p (q + 1) = d q := by
  rw [ntx, if_neg (by omega), if_pos h2, if_neg (by omega), if_neg (by omega)]
  rfl
theorem ntx_b0 {d : Nat → Int} {p : Int} {q : Nat} (h : (q : Int) = p) (h2 : d q ≠ 45) : ntx d p q = 10 := by
  subst h
  rw [ntx, if_neg (by omega), Int.toNat_natCast, if_neg h2, if_pos rfl]
theorem ntx_b1 {d : Nat → Int} {p : Int} {q : Nat} (h0 : 0 ≤ p) (h : p < q) (h2 : d p.toNat ≠ 45) : ntx d p q = d q := by
  rw [ntx, if_neg (by omega), if_neg h2, if_neg (by omega)]
/-- how many bytes stand when j of the draft are taken -/
def ntt (d : Nat → Int) (p : Int) (j : Nat) : Nat := if 0 ≤ p ∧ p < j ∧ d p.toNat = 45 then j + 1 else j
theorem ntx_r {d : Nat → Int} {p : Int} (h : ∀ k, 0 ≤ d k ∧ d k ≤ 255) (q : Nat) : 0 ≤ ntx d p q ∧ ntx d p q ≤ 255 := by
  unfold ntx
  (repeat' split) <;> first | exact h _ | omega
theorem ntF_R {F : Nat → Int} {i z : Nat} {d : Nat → Int} {p : Int} (hd : ∀ k, 0 ≤ d k ∧ d k ≤ 255) (hB : ∀ k, 0 ≤ F k ∧ F k ≤ 255) (ht : ntl d p z ≤ 64) : ntR F (ntF F i d p (ntl d p z)) i d p z := by
  refine ⟨fun q hq => ?_, fun k hk => if_neg (by omega), fun k => ?_⟩
  · show (if i * 64 ≤ i * 64 + q ∧ i * 64 + q < i * 64 + ntl d p z then ntx d p (i * 64 + q - i * 64) else F (i * 64 + q)) = _
    rw [if_pos (by omega)]
    congr 1; omega
  · unfold ntF
    split
    · exact ntx_r hd _
    · exact hB k
theorem brP_r (d : Nat → Int) (z : Nat) : brP d z = -1 ∨ (0 ≤ brP d z ∧ brP d z < z ∧ bOk d z (brP d z).toNat) := by
  unfold brP
  split
  · exact Or.inl rfl
  · exact bestS_r d z z
set_option maxHeartbeats 4000000 in
set_option maxRecDepth 100000 in
theorem lp_Mo_breakAt (G : GT) (Q : Option Value → HM → Prop) (h : HM) (σ : Nat → Value) (m dr i j z bh fs : Nat) (E : Nat → Int) (ch : Int) (hm : h m = some (.inr (11, fsN 34 σ))) (f33 : σ 33 = .ref dr) (hdr : h dr = some (.inl (G_i G, 65, .inl (iA E)))) (hz : z ≤ 64) (hfs : fs ≤ z) (hbh : bh ≤ 65) (hE : ∀ k, k < z → 0 ≤ E k ∧ E k ≤ 255) (kk : ∀ a1 a2 : Int, a1 = cellsN E 0 fs → a2 = cellsN E bh (z - bh) → Ev G M_Mo_breakAt (rm 1 30) Q 155 [(0, .ref m), (1, .int (iZ (i : Int))), (2, .int (iZ (j : Int))), (3, .int (iZ (z : Int))), (4, .int (iZ ch)), (5, .int (iZ (bh : Int))), (6, .int (iZ (fs : Int))), (7, .int (iZ a1)), (8, .int (iZ a2)), (9, .int (iZ (z : Int)))] [] h 0 0) : ∀ (d : Nat) (k : Nat) (a1 a2 : Int), k + d = z → a1 = cellsN E 0 (min k fs) → a2 = cellsN E bh (k - bh) → Ev G M_Mo_breakAt (rm 1 30) (Q) 89 [(0, .ref m), (1, .int (iZ (i : Int))), (2, .int (iZ (j : Int))), (3, .int (iZ (z : Int))), (4, .int (iZ ch)), (5, .int (iZ (bh : Int))), (6, .int (iZ (fs : Int))), (7, .int (iZ a1)), (8, .int (iZ a2)), (9, .int (iZ (k : Int)))] [] h 0 0 := by
  intro d
  induction d using Nat.strongRecOn with
  | ind d ih =>
  intro k a1 a2 hd h1 h2
  have r1 := cellsN_r E 0 (min k fs)
  have r2 := cellsN_r E bh (k - bh)
  refine ev_iload d_Mo_breakAt_89 rfl ?_
  refine ev_iload_n d_Mo_breakAt_91 rfl rfl ?_
  refine ez_icmp_ge (tgt := 155) (by omega) (by omega) d_Mo_breakAt_92 rfl (fun c92 => ?_) (fun c92 => ?_)
  · obtain rfl : k = z := by omega
    exact kk a1 a2 (by rw [h1, show min k fs = fs by omega]) h2
  · have rE := hE k (by omega)
    refine ev_iload d_Mo_breakAt_95 rfl ?_
    refine ev_iload d_Mo_breakAt_97 rfl ?_
    refine ez_icmp_ge (tgt := 118) (by omega) (by omega) d_Mo_breakAt_99 rfl (fun c99 => ?_) (fun c99 => ?_)
    · refine ev_iload d_Mo_breakAt_118 rfl ?_
      refine ev_istore (L' := [(0, .ref m), (1, .int (iZ (i : Int))), (2, .int (iZ (j : Int))), (3, .int (iZ (z : Int))), (4, .int (iZ ch)), (5, .int (iZ (bh : Int))), (6, .int (iZ (fs : Int))), (7, .int (iZ a1)), (8, .int (iZ a2)), (9, .int (iZ (k : Int)))]) d_Mo_breakAt_120 (by decide) rfl ?_
      refine ev_iload d_Mo_breakAt_122 rfl ?_
      refine ev_iload d_Mo_breakAt_124 rfl ?_
      refine ez_icmp_lt (tgt := 145) (by omega) (by omega) d_Mo_breakAt_126 rfl (fun c126 => ?_) (fun c126 => ?_)
      · refine ev_iload d_Mo_breakAt_145 rfl ?_
        refine ev_istore (L' := [(0, .ref m), (1, .int (iZ (i : Int))), (2, .int (iZ (j : Int))), (3, .int (iZ (z : Int))), (4, .int (iZ ch)), (5, .int (iZ (bh : Int))), (6, .int (iZ (fs : Int))), (7, .int (iZ a1)), (8, .int (iZ a2)), (9, .int (iZ (k : Int)))]) d_Mo_breakAt_147 (by decide) rfl ?_
        refine ez_iinc (L' := [(0, .ref m), (1, .int (iZ (i : Int))), (2, .int (iZ (j : Int))), (3, .int (iZ (z : Int))), (4, .int (iZ ch)), (5, .int (iZ (bh : Int))), (6, .int (iZ (fs : Int))), (7, .int (iZ a1)), (8, .int (iZ a2)), (9, .int (iZ ((k + 1 : Nat) : Int)))]) d_Mo_breakAt_149 rfl (by decide) rfl ?_
        refine ev_goto (tgt := 89) d_Mo_breakAt_152 rfl ?_
        exact ih (d - 1) (by omega) (k + 1) (a1) (a2) (by omega) (by rw [h1, show min (k + 1) fs = fs by omega, show min k fs = fs by omega]) (by rw [h2, show k + 1 - bh = 0 by omega, show k - bh = 0 by omega])
      · refine ev_iload d_Mo_breakAt_129 rfl ?_
        refine ev_aload_n d_Mo_breakAt_131 rfl rfl ?_
        refine ev_getF d_Mo_breakAt_132 fl_Mo_81 hm (by decide) f33 ?_
        refine ev_iload d_Mo_breakAt_135 rfl ?_
        refine ez_iaload k d_Mo_breakAt_137 hdr (by omega) (by omega) (by decide) ?_
        refine ev_pS M_Mo_cellsOf 0 0 (As := [.int (iZ (E k))]) (c_Mo_cellsOf G h (E k) (by omega)) d_Mo_breakAt_138 mk_Mo_cellsOf ml_Mo_88 ms_Mo_cellsOf rfl rfl (Nat.le_of_ble_eq_true rfl) ⟨by decide, by decide⟩ ⟨by decide, by decide⟩ ?_
        have rc138 := cellZ_r (E k)
        refine ez_iadd d_Mo_breakAt_141 ?_
        refine ev_goto (tgt := 147) d_Mo_breakAt_142 rfl ?_
        refine ev_istore (L' := [(0, .ref m), (1, .int (iZ (i : Int))), (2, .int (iZ (j : Int))), (3, .int (iZ (z : Int))), (4, .int (iZ ch)), (5, .int (iZ (bh : Int))), (6, .int (iZ (fs : Int))), (7, .int (iZ a1)), (8, .int (iZ (a2 + (cellZ (E k))))), (9, .int (iZ (k : Int)))]) d_Mo_breakAt_147 (by decide) rfl ?_
        refine ez_iinc (L' := [(0, .ref m), (1, .int (iZ (i : Int))), (2, .int (iZ (j : Int))), (3, .int (iZ (z : Int))), (4, .int (iZ ch)), (5, .int (iZ (bh : Int))), (6, .int (iZ (fs : Int))), (7, .int (iZ a1)), (8, .int (iZ (a2 + (cellZ (E k))))), (9, .int (iZ ((k + 1 : Nat) : Int)))]) d_Mo_breakAt_149 rfl (by decide) rfl ?_
        refine ev_goto (tgt := 89) d_Mo_breakAt_152 rfl ?_
        exact ih (d - 1) (by omega) (k + 1) (a1) (a2 + (cellZ (E k))) (by omega) (by rw [h1, show min (k + 1) fs = fs by omega, show min k fs = fs by omega]) (by rw [h2, show k + 1 - bh = (k - bh) + 1 by omega, cellsN_s, show bh + (k - bh) = k by omega])
    · refine ev_iload d_Mo_breakAt_102 rfl ?_
      refine ev_aload_n d_Mo_breakAt_104 rfl rfl ?_
      refine ev_getF d_Mo_breakAt_105 fl_Mo_81 hm (by decide) f33 ?_
      refine ev_iload d_Mo_breakAt_108 rfl ?_
      refine ez_iaload k d_Mo_breakAt_110 hdr (by omega) (by omega) (by decide) ?_
      refine ev_pS M_Mo_cellsOf 0 0 (As := [.int (iZ (E k))]) (c_Mo_cellsOf G h (E k) (by omega)) d_Mo_breakAt_111 mk_Mo_cellsOf ml_Mo_88 ms_Mo_cellsOf rfl rfl (Nat.le_of_ble_eq_true rfl) ⟨by decide, by decide⟩ ⟨by decide, by decide⟩ ?_
      have rc111 := cellZ_r (E k)
      refine ez_iadd d_Mo_breakAt_114 ?_
      refine ev_goto (tgt := 120) d_Mo_breakAt_115 rfl ?_
      refine ev_istore (L' := [(0, .ref m), (1, .int (iZ (i : Int))), (2, .int (iZ (j : Int))), (3, .int (iZ (z : Int))), (4, .int (iZ ch)), (5, .int (iZ (bh : Int))), (6, .int (iZ (fs : Int))), (7, .int (iZ (a1 + (cellZ (E k))))), (8, .int (iZ a2)), (9, .int (iZ (k : Int)))]) d_Mo_breakAt_120 (by decide) rfl ?_
      refine ev_iload d_Mo_breakAt_122 rfl ?_
      refine ev_iload d_Mo_breakAt_124 rfl ?_
      refine ez_icmp_lt (tgt := 145) (by omega) (by omega) d_Mo_breakAt_126 rfl (fun c126 => ?_) (fun c126 => ?_)
      · refine ev_iload d_Mo_breakAt_145 rfl ?_
        refine ev_istore (L' := [(0, .ref m), (1, .int (iZ (i : Int))), (2, .int (iZ (j : Int))), (3, .int (iZ (z : Int))), (4, .int (iZ ch)), (5, .int (iZ (bh : Int))), (6, .int (iZ (fs : Int))), (7, .int (iZ (a1 + (cellZ (E k))))), (8, .int (iZ a2)), (9, .int (iZ (k : Int)))]) d_Mo_breakAt_147 (by decide) rfl ?_
        refine ez_iinc (L' := [(0, .ref m), (1, .int (iZ (i : Int))), (2, .int (iZ (j : Int))), (3, .int (iZ (z : Int))), (4, .int (iZ ch)), (5, .int (iZ (bh : Int))), (6, .int (iZ (fs : Int))), (7, .int (iZ (a1 + (cellZ (E k))))), (8, .int (iZ a2)), (9, .int (iZ ((k + 1 : Nat) : Int)))]) d_Mo_breakAt_149 rfl (by decide) rfl ?_
        refine ev_goto (tgt := 89) d_Mo_breakAt_152 rfl ?_
        exact ih (d - 1) (by omega) (k + 1) (a1 + (cellZ (E k))) (a2) (by omega) (by rw [h1, show min (k + 1) fs = k + 1 by omega, show min k fs = k by omega, cellsN_s0]) (by rw [h2, show k + 1 - bh = 0 by omega, show k - bh = 0 by omega])
      · refine ev_iload d_Mo_breakAt_129 rfl ?_
        refine ev_aload_n d_Mo_breakAt_131 rfl rfl ?_
        refine ev_getF d_Mo_breakAt_132 fl_Mo_81 hm (by decide) f33 ?_
        refine ev_iload d_Mo_breakAt_135 rfl ?_
        refine ez_iaload k d_Mo_breakAt_137 hdr (by omega) (by omega) (by decide) ?_
        refine ev_pS M_Mo_cellsOf 0 0 (As := [.int (iZ (E k))]) (c_Mo_cellsOf G h (E k) (by omega)) d_Mo_breakAt_138 mk_Mo_cellsOf ml_Mo_88 ms_Mo_cellsOf rfl rfl (Nat.le_of_ble_eq_true rfl) ⟨by decide, by decide⟩ ⟨by decide, by decide⟩ ?_
        have rc138 := cellZ_r (E k)
        refine ez_iadd d_Mo_breakAt_141 ?_
        refine ev_goto (tgt := 147) d_Mo_breakAt_142 rfl ?_
        refine ev_istore (L' := [(0, .ref m), (1, .int (iZ (i : Int))), (2, .int (iZ (j : Int))), (3, .int (iZ (z : Int))), (4, .int (iZ ch)), (5, .int (iZ (bh : Int))), (6, .int (iZ (fs : Int))), (7, .int (iZ (a1 + (cellZ (E k))))), (8, .int (iZ (a2 + (cellZ (E k))))), (9, .int (iZ (k : Int)))]) d_Mo_breakAt_147 (by decide) rfl ?_
        refine ez_iinc (L' := [(0, .ref m), (1, .int (iZ (i : Int))), (2, .int (iZ (j : Int))), (3, .int (iZ (z : Int))), (4, .int (iZ ch)), (5, .int (iZ (bh : Int))), (6, .int (iZ (fs : Int))), (7, .int (iZ (a1 + (cellZ (E k))))), (8, .int (iZ (a2 + (cellZ (E k))))), (9, .int (iZ ((k + 1 : Nat) : Int)))]) d_Mo_breakAt_149 rfl (by decide) rfl ?_
        refine ev_goto (tgt := 89) d_Mo_breakAt_152 rfl ?_
        exact ih (d - 1) (by omega) (k + 1) (a1 + (cellZ (E k))) (a2 + (cellZ (E k))) (by omega) (by rw [h1, show min (k + 1) fs = k + 1 by omega, show min k fs = k by omega, cellsN_s0]) (by rw [h2, show k + 1 - bh = (k - bh) + 1 by omega, cellsN_s, show bh + (k - bh) = k by omega])
set_option maxHeartbeats 4000000 in
set_option maxRecDepth 100000 in
theorem c_Mo_breakAt (G : GT) (h : HM) (σ : Nat → Value) (m s3 dr i j z : Nat) (S3 E : Nat → Int) (hm : h m = some (.inr (11, fsN 34 σ))) (f7 : σ 7 = .ref s3) (f33 : σ 33 = .ref dr) (hs3 : h s3 = some (.inl (G_i G, 16, .inl (iA S3)))) (hdr : h dr = some (.inl (G_i G, 65, .inl (iA E)))) (hi : i < 16) (hz : S3 i = (z : Int)) (hz64 : z ≤ 64) (hj : j < z) (hE : ∀ k, k < z → 0 ≤ E k ∧ E k ≤ 255) : Rn G M_Mo_breakAt (rm 1 30) [.ref m, .int (iZ (i : Int)), .int (iZ (j : Int))] h (Pu (.int (iZ (bVal E z j))) h) := by
  refine rn_of (by decide) (Nat.le_of_ble_eq_true rfl) ?_
  show Ev G M_Mo_breakAt _ _ 0 [(0, .ref m), (1, .int (iZ (i : Int))), (2, .int (iZ (j : Int)))] [] _ 0 0
  refine ev_aload_n d_Mo_breakAt_0 rfl rfl ?_
  refine ev_getF d_Mo_breakAt_1 fl_Mo_27 hm (by decide) f7 ?_
  refine ev_iload_n d_Mo_breakAt_4 rfl rfl ?_
  refine ez_iaload i d_Mo_breakAt_5 hs3 (by omega) (by omega) (by decide) ?_
  refine ev_top ((z : Int)) (hz) ?_
  skip
  refine ev_istore_n (L' := [(0, .ref m), (1, .int (iZ (i : Int))), (2, .int (iZ (j : Int))), (3, .int (iZ (z : Int)))]) d_Mo_breakAt_6 rfl (by decide) rfl ?_
  refine ev_aload_n d_Mo_breakAt_7 rfl rfl ?_
  refine ev_getF d_Mo_breakAt_8 fl_Mo_81 hm (by decide) f33 ?_
  refine ev_iload_n d_Mo_breakAt_11 rfl rfl ?_
  refine ez_iaload j d_Mo_breakAt_12 hdr (by omega) (by omega) (by decide) ?_
  have rE := hE j hj
  refine ev_istore (L' := [(0, .ref m), (1, .int (iZ (i : Int))), (2, .int (iZ (j : Int))), (3, .int (iZ (z : Int))), (4, .int (iZ (E j)))]) d_Mo_breakAt_13 (by decide) rfl ?_
  refine ev_iload d_Mo_breakAt_15 rfl ?_
  refine ev_bipush (v := iZ 32) d_Mo_breakAt_17 rfl ?_
  refine ez_icmp_eq (tgt := 29) (by omega) (by decide) d_Mo_breakAt_19 rfl (fun c19 => ?_) (fun c19 => ?_)
  · refine ev_iload_n d_Mo_breakAt_29 rfl rfl ?_
    refine ev_iconst (v := iZ 1) d_Mo_breakAt_30 rfl ?_
    refine ez_iadd d_Mo_breakAt_31 ?_
    rw [show ((j : Int) + 1 : Int) = ((j + 1 : Nat) : Int) from by omega]
    refine ev_goto (tgt := 36) d_Mo_breakAt_32 rfl ?_
    refine ev_istore (L' := [(0, .ref m), (1, .int (iZ (i : Int))), (2, .int (iZ (j : Int))), (3, .int (iZ (z : Int))), (4, .int (iZ (E j))), (5, .int (iZ ((j + 1 : Nat) : Int)))]) d_Mo_breakAt_36 (by decide) rfl ?_
    refine ev_iload d_Mo_breakAt_38 rfl ?_
    refine ev_bipush (v := iZ 32) d_Mo_breakAt_40 rfl ?_
    refine ez_icmp_ne (tgt := 49) (by omega) (by decide) d_Mo_breakAt_42 rfl (fun c42 => absurd c42 (by omega)) (fun c42 => ?_)
    refine ev_iload_n d_Mo_breakAt_45 rfl rfl ?_
    refine ev_goto (tgt := 52) d_Mo_breakAt_46 rfl ?_
    refine ev_istore (L' := [(0, .ref m), (1, .int (iZ (i : Int))), (2, .int (iZ (j : Int))), (3, .int (iZ (z : Int))), (4, .int (iZ (E j))), (5, .int (iZ ((j + 1 : Nat) : Int))), (6, .int (iZ (j : Int)))]) d_Mo_breakAt_52 (by decide) rfl ?_
    refine ev_iload d_Mo_breakAt_54 rfl ?_
    refine ev_iload_n d_Mo_breakAt_56 rfl rfl ?_
    refine ez_icmp_ge (tgt := 78) (by omega) (by omega) d_Mo_breakAt_57 rfl (fun c57 => ?_) (fun c57 => ?_)
    · refine ev_iconst (v := iZ (-1)) d_Mo_breakAt_78 rfl ?_
      exact ev_ireturn d_Mo_breakAt_79 rfl (by decide) (by decide) (⟨by rw [show bVal E z j = -1 from if_neg (fun q => by obtain ⟨⟨q1, q2⟩, _⟩ := q; omega)], rfl⟩)
    · refine ev_iload d_Mo_breakAt_60 rfl ?_
      refine ez_if_eq (tgt := 78) (by omega) d_Mo_breakAt_62 rfl (fun c62 => ?_) (fun c62 => ?_)
      · refine ev_iconst (v := iZ (-1)) d_Mo_breakAt_78 rfl ?_
        exact ev_ireturn d_Mo_breakAt_79 rfl (by decide) (by decide) (⟨by rw [show bVal E z j = -1 from if_neg (fun q => by obtain ⟨⟨q1, q2⟩, _⟩ := q; omega)], rfl⟩)
      · refine ev_iload d_Mo_breakAt_65 rfl ?_
        refine ev_bipush (v := iZ 45) d_Mo_breakAt_67 rfl ?_
        refine ez_icmp_ne (tgt := 80) (by omega) (by decide) d_Mo_breakAt_69 rfl (fun c69 => ?_) (fun c69 => absurd c69 (by omega))
        refine ev_iconst (v := iZ 0) d_Mo_breakAt_80 rfl ?_
        refine ev_istore (L' := [(0, .ref m), (1, .int (iZ (i : Int))), (2, .int (iZ (j : Int))), (3, .int (iZ (z : Int))), (4, .int (iZ (E j))), (5, .int (iZ ((j + 1 : Nat) : Int))), (6, .int (iZ (j : Int))), (7, .int (iZ 0))]) d_Mo_breakAt_81 (by decide) rfl ?_
        refine ev_iconst (v := iZ 0) d_Mo_breakAt_83 rfl ?_
        refine ev_istore (L' := [(0, .ref m), (1, .int (iZ (i : Int))), (2, .int (iZ (j : Int))), (3, .int (iZ (z : Int))), (4, .int (iZ (E j))), (5, .int (iZ ((j + 1 : Nat) : Int))), (6, .int (iZ (j : Int))), (7, .int (iZ 0)), (8, .int (iZ 0))]) d_Mo_breakAt_84 (by decide) rfl ?_
        refine ev_iconst (v := iZ 0) d_Mo_breakAt_86 rfl ?_
        refine ev_istore (L' := [(0, .ref m), (1, .int (iZ (i : Int))), (2, .int (iZ (j : Int))), (3, .int (iZ (z : Int))), (4, .int (iZ (E j))), (5, .int (iZ ((j + 1 : Nat) : Int))), (6, .int (iZ (j : Int))), (7, .int (iZ 0)), (8, .int (iZ 0)), (9, .int (iZ 0))]) d_Mo_breakAt_87 (by decide) rfl ?_
        refine lp_Mo_breakAt G _ h σ m dr i j z (j + 1) (j) E (E j) hm f33 hdr hz64 (by omega) (by omega) hE (fun a1 a2 h1 h2 => ?_) z 0 0 0 (by omega) (by rw [Nat.zero_min]; rfl) (by rw [Nat.zero_sub]; rfl)
        have hone : bOne E j = a1 := by unfold bOne; rw [if_pos (by omega), h1]
        have htwo : bTwo E z j = a2 := h2.symm
        have r1 := cellsN_r E 0 (j)
        have r2 := cellsN_r E (j + 1) (z - (j + 1))
        refine ev_iload d_Mo_breakAt_155 rfl ?_
        refine ev_bipush (v := iZ 28) d_Mo_breakAt_157 rfl ?_
        refine ez_icmp_gt (tgt := 169) (by omega) (by decide) d_Mo_breakAt_159 rfl (fun c159 => ?_) (fun c159 => ?_)
        · refine ev_iconst (v := iZ (-1)) d_Mo_breakAt_169 rfl ?_
          exact ev_ireturn d_Mo_breakAt_170 rfl (by decide) (by decide) (⟨by rw [show bVal E z j = -1 from if_neg (fun q => by obtain ⟨_, q2, q3⟩ := q; omega)], rfl⟩)
        · refine ev_iload d_Mo_breakAt_162 rfl ?_
          refine ev_bipush (v := iZ 28) d_Mo_breakAt_164 rfl ?_
          refine ez_icmp_le (tgt := 171) (by omega) (by decide) d_Mo_breakAt_166 rfl (fun c166 => ?_) (fun c166 => ?_)
          · refine ev_sipush (v := iZ 1000) d_Mo_breakAt_171 rfl ?_
            refine ev_iload d_Mo_breakAt_174 rfl ?_
            refine ev_iload d_Mo_breakAt_176 rfl ?_
            refine ez_icmp_le (tgt := 189) (by omega) (by omega) d_Mo_breakAt_178 rfl (fun c178 => ?_) (fun c178 => ?_)
            · refine ev_iload d_Mo_breakAt_189 rfl ?_
              refine ev_iload d_Mo_breakAt_191 rfl ?_
              refine ez_isub d_Mo_breakAt_193 ?_
              refine ez_imul d_Mo_breakAt_194 ?_
              refine ev_iload d_Mo_breakAt_195 rfl ?_
              refine ev_iload d_Mo_breakAt_197 rfl ?_
              refine ez_icmp_le (tgt := 206) (by omega) (by omega) d_Mo_breakAt_199 rfl (fun c199 => ?_) (fun c199 => ?_)
              · refine ev_iconst (v := iZ 0) d_Mo_breakAt_206 rfl ?_
                refine ez_iadd d_Mo_breakAt_207 ?_
                exact ev_ireturn d_Mo_breakAt_208 rfl (by decide) (by decide) (⟨by rw [show bVal E z j = (1000 * (a2 - a1)) + 0 from by rw [bVal, if_pos ⟨⟨by omega, by omega⟩, by omega, by omega⟩]; unfold bDf; rw [hone, htwo]; split <;> omega], rfl⟩)
              · refine ev_iconst (v := iZ 1) d_Mo_breakAt_202 rfl ?_
                refine ev_goto (tgt := 207) d_Mo_breakAt_203 rfl ?_
                refine ez_iadd d_Mo_breakAt_207 ?_
                exact ev_ireturn d_Mo_breakAt_208 rfl (by decide) (by decide) (⟨by rw [show bVal E z j = (1000 * (a2 - a1)) + 1 from by rw [bVal, if_pos ⟨⟨by omega, by omega⟩, by omega, by omega⟩]; unfold bDf; rw [hone, htwo]; split <;> omega], rfl⟩)
            · refine ev_iload d_Mo_breakAt_181 rfl ?_
              refine ev_iload d_Mo_breakAt_183 rfl ?_
              refine ez_isub d_Mo_breakAt_185 ?_
              refine ev_goto (tgt := 194) d_Mo_breakAt_186 rfl ?_
              refine ez_imul d_Mo_breakAt_194 ?_
              refine ev_iload d_Mo_breakAt_195 rfl ?_
              refine ev_iload d_Mo_breakAt_197 rfl ?_
              refine ez_icmp_le (tgt := 206) (by omega) (by omega) d_Mo_breakAt_199 rfl (fun c199 => ?_) (fun c199 => ?_)
              · refine ev_iconst (v := iZ 0) d_Mo_breakAt_206 rfl ?_
                refine ez_iadd d_Mo_breakAt_207 ?_
                exact ev_ireturn d_Mo_breakAt_208 rfl (by decide) (by decide) (⟨by rw [show bVal E z j = (1000 * (a1 - a2)) + 0 from by rw [bVal, if_pos ⟨⟨by omega, by omega⟩, by omega, by omega⟩]; unfold bDf; rw [hone, htwo]; split <;> omega], rfl⟩)
              · refine ev_iconst (v := iZ 1) d_Mo_breakAt_202 rfl ?_
                refine ev_goto (tgt := 207) d_Mo_breakAt_203 rfl ?_
                refine ez_iadd d_Mo_breakAt_207 ?_
                exact ev_ireturn d_Mo_breakAt_208 rfl (by decide) (by decide) (⟨by rw [show bVal E z j = (1000 * (a1 - a2)) + 1 from by rw [bVal, if_pos ⟨⟨by omega, by omega⟩, by omega, by omega⟩]; unfold bDf; rw [hone, htwo]; split <;> omega], rfl⟩)
          · refine ev_iconst (v := iZ (-1)) d_Mo_breakAt_169 rfl ?_
            exact ev_ireturn d_Mo_breakAt_170 rfl (by decide) (by decide) (⟨by rw [show bVal E z j = -1 from if_neg (fun q => by obtain ⟨_, q2, q3⟩ := q; omega)], rfl⟩)
  · refine ev_iload d_Mo_breakAt_22 rfl ?_
    refine ev_bipush (v := iZ 45) d_Mo_breakAt_24 rfl ?_
    refine ez_icmp_ne (tgt := 35) (by omega) (by decide) d_Mo_breakAt_26 rfl (fun c26 => ?_) (fun c26 => ?_)
    · refine ev_iload_n d_Mo_breakAt_35 rfl rfl ?_
      refine ev_istore (L' := [(0, .ref m), (1, .int (iZ (i : Int))), (2, .int (iZ (j : Int))), (3, .int (iZ (z : Int))), (4, .int (iZ (E j))), (5, .int (iZ (z : Int)))]) d_Mo_breakAt_36 (by decide) rfl ?_
      refine ev_iload d_Mo_breakAt_38 rfl ?_
      refine ev_bipush (v := iZ 32) d_Mo_breakAt_40 rfl ?_
      refine ez_icmp_ne (tgt := 49) (by omega) (by decide) d_Mo_breakAt_42 rfl (fun c42 => ?_) (fun c42 => absurd c42 (by omega))
      refine ev_iload_n d_Mo_breakAt_49 rfl rfl ?_
      refine ev_iconst (v := iZ 1) d_Mo_breakAt_50 rfl ?_
      refine ez_iadd d_Mo_breakAt_51 ?_
      rw [show ((j : Int) + 1 : Int) = ((j + 1 : Nat) : Int) from by omega]
      refine ev_istore (L' := [(0, .ref m), (1, .int (iZ (i : Int))), (2, .int (iZ (j : Int))), (3, .int (iZ (z : Int))), (4, .int (iZ (E j))), (5, .int (iZ (z : Int))), (6, .int (iZ ((j + 1 : Nat) : Int)))]) d_Mo_breakAt_52 (by decide) rfl ?_
      refine ev_iload d_Mo_breakAt_54 rfl ?_
      refine ev_iload_n d_Mo_breakAt_56 rfl rfl ?_
      refine ez_icmp_ge (tgt := 78) (by omega) (by omega) d_Mo_breakAt_57 rfl (fun c57 => ?_) (fun c57 => absurd c57 (by omega))
      refine ev_iconst (v := iZ (-1)) d_Mo_breakAt_78 rfl ?_
      exact ev_ireturn d_Mo_breakAt_79 rfl (by decide) (by decide) (⟨by rw [show bVal E z j = -1 from if_neg (fun q => by obtain ⟨⟨q1, q2⟩, _⟩ := q; omega)], rfl⟩)
    · refine ev_iload_n d_Mo_breakAt_29 rfl rfl ?_
      refine ev_iconst (v := iZ 1) d_Mo_breakAt_30 rfl ?_
      refine ez_iadd d_Mo_breakAt_31 ?_
      rw [show ((j : Int) + 1 : Int) = ((j + 1 : Nat) : Int) from by omega]
      refine ev_goto (tgt := 36) d_Mo_breakAt_32 rfl ?_
      refine ev_istore (L' := [(0, .ref m), (1, .int (iZ (i : Int))), (2, .int (iZ (j : Int))), (3, .int (iZ (z : Int))), (4, .int (iZ (E j))), (5, .int (iZ ((j + 1 : Nat) : Int)))]) d_Mo_breakAt_36 (by decide) rfl ?_
      refine ev_iload d_Mo_breakAt_38 rfl ?_
      refine ev_bipush (v := iZ 32) d_Mo_breakAt_40 rfl ?_
      refine ez_icmp_ne (tgt := 49) (by omega) (by decide) d_Mo_breakAt_42 rfl (fun c42 => ?_) (fun c42 => absurd c42 (by omega))
      refine ev_iload_n d_Mo_breakAt_49 rfl rfl ?_
      refine ev_iconst (v := iZ 1) d_Mo_breakAt_50 rfl ?_
      refine ez_iadd d_Mo_breakAt_51 ?_
      rw [show ((j : Int) + 1 : Int) = ((j + 1 : Nat) : Int) from by omega]
      refine ev_istore (L' := [(0, .ref m), (1, .int (iZ (i : Int))), (2, .int (iZ (j : Int))), (3, .int (iZ (z : Int))), (4, .int (iZ (E j))), (5, .int (iZ ((j + 1 : Nat) : Int))), (6, .int (iZ ((j + 1 : Nat) : Int)))]) d_Mo_breakAt_52 (by decide) rfl ?_
      refine ev_iload d_Mo_breakAt_54 rfl ?_
      refine ev_iload_n d_Mo_breakAt_56 rfl rfl ?_
      refine ez_icmp_ge (tgt := 78) (by omega) (by omega) d_Mo_breakAt_57 rfl (fun c57 => ?_) (fun c57 => ?_)
      · refine ev_iconst (v := iZ (-1)) d_Mo_breakAt_78 rfl ?_
        exact ev_ireturn d_Mo_breakAt_79 rfl (by decide) (by decide) (⟨by rw [show bVal E z j = -1 from if_neg (fun q => by obtain ⟨⟨q1, q2⟩, _⟩ := q; omega)], rfl⟩)
      · refine ev_iload d_Mo_breakAt_60 rfl ?_
        refine ez_if_eq (tgt := 78) (by omega) d_Mo_breakAt_62 rfl (fun c62 => absurd c62 (by omega)) (fun c62 => ?_)
        refine ev_iload d_Mo_breakAt_65 rfl ?_
        refine ev_bipush (v := iZ 45) d_Mo_breakAt_67 rfl ?_
        refine ez_icmp_ne (tgt := 80) (by omega) (by decide) d_Mo_breakAt_69 rfl (fun c69 => absurd c69 (by omega)) (fun c69 => ?_)
        refine ev_iload_n d_Mo_breakAt_72 rfl rfl ?_
        refine ev_bipush (v := iZ 64) d_Mo_breakAt_73 rfl ?_
        refine ez_icmp_ne (tgt := 80) (by omega) (by decide) d_Mo_breakAt_75 rfl (fun c75 => ?_) (fun c75 => ?_)
        · refine ev_iconst (v := iZ 0) d_Mo_breakAt_80 rfl ?_
          refine ev_istore (L' := [(0, .ref m), (1, .int (iZ (i : Int))), (2, .int (iZ (j : Int))), (3, .int (iZ (z : Int))), (4, .int (iZ (E j))), (5, .int (iZ ((j + 1 : Nat) : Int))), (6, .int (iZ ((j + 1 : Nat) : Int))), (7, .int (iZ 0))]) d_Mo_breakAt_81 (by decide) rfl ?_
          refine ev_iconst (v := iZ 0) d_Mo_breakAt_83 rfl ?_
          refine ev_istore (L' := [(0, .ref m), (1, .int (iZ (i : Int))), (2, .int (iZ (j : Int))), (3, .int (iZ (z : Int))), (4, .int (iZ (E j))), (5, .int (iZ ((j + 1 : Nat) : Int))), (6, .int (iZ ((j + 1 : Nat) : Int))), (7, .int (iZ 0)), (8, .int (iZ 0))]) d_Mo_breakAt_84 (by decide) rfl ?_
          refine ev_iconst (v := iZ 0) d_Mo_breakAt_86 rfl ?_
          refine ev_istore (L' := [(0, .ref m), (1, .int (iZ (i : Int))), (2, .int (iZ (j : Int))), (3, .int (iZ (z : Int))), (4, .int (iZ (E j))), (5, .int (iZ ((j + 1 : Nat) : Int))), (6, .int (iZ ((j + 1 : Nat) : Int))), (7, .int (iZ 0)), (8, .int (iZ 0)), (9, .int (iZ 0))]) d_Mo_breakAt_87 (by decide) rfl ?_
          refine lp_Mo_breakAt G _ h σ m dr i j z (j + 1) (j + 1) E (E j) hm f33 hdr hz64 (by omega) (by omega) hE (fun a1 a2 h1 h2 => ?_) z 0 0 0 (by omega) (by rw [Nat.zero_min]; rfl) (by rw [Nat.zero_sub]; rfl)
          have hone : bOne E j = a1 := by unfold bOne; rw [if_neg (by omega), h1]
          have htwo : bTwo E z j = a2 := h2.symm
          have r1 := cellsN_r E 0 (j + 1)
          have r2 := cellsN_r E (j + 1) (z - (j + 1))
          refine ev_iload d_Mo_breakAt_155 rfl ?_
          refine ev_bipush (v := iZ 28) d_Mo_breakAt_157 rfl ?_
          refine ez_icmp_gt (tgt := 169) (by omega) (by decide) d_Mo_breakAt_159 rfl (fun c159 => ?_) (fun c159 => ?_)
          · refine ev_iconst (v := iZ (-1)) d_Mo_breakAt_169 rfl ?_
            exact ev_ireturn d_Mo_breakAt_170 rfl (by decide) (by decide) (⟨by rw [show bVal E z j = -1 from if_neg (fun q => by obtain ⟨_, q2, q3⟩ := q; omega)], rfl⟩)
          · refine ev_iload d_Mo_breakAt_162 rfl ?_
            refine ev_bipush (v := iZ 28) d_Mo_breakAt_164 rfl ?_
            refine ez_icmp_le (tgt := 171) (by omega) (by decide) d_Mo_breakAt_166 rfl (fun c166 => ?_) (fun c166 => ?_)
            · refine ev_sipush (v := iZ 1000) d_Mo_breakAt_171 rfl ?_
              refine ev_iload d_Mo_breakAt_174 rfl ?_
              refine ev_iload d_Mo_breakAt_176 rfl ?_
              refine ez_icmp_le (tgt := 189) (by omega) (by omega) d_Mo_breakAt_178 rfl (fun c178 => ?_) (fun c178 => ?_)
              · refine ev_iload d_Mo_breakAt_189 rfl ?_
                refine ev_iload d_Mo_breakAt_191 rfl ?_
                refine ez_isub d_Mo_breakAt_193 ?_
                refine ez_imul d_Mo_breakAt_194 ?_
                refine ev_iload d_Mo_breakAt_195 rfl ?_
                refine ev_iload d_Mo_breakAt_197 rfl ?_
                refine ez_icmp_le (tgt := 206) (by omega) (by omega) d_Mo_breakAt_199 rfl (fun c199 => ?_) (fun c199 => ?_)
                · refine ev_iconst (v := iZ 0) d_Mo_breakAt_206 rfl ?_
                  refine ez_iadd d_Mo_breakAt_207 ?_
                  exact ev_ireturn d_Mo_breakAt_208 rfl (by decide) (by decide) (⟨by rw [show bVal E z j = (1000 * (a2 - a1)) + 0 from by rw [bVal, if_pos ⟨⟨by omega, by omega⟩, by omega, by omega⟩]; unfold bDf; rw [hone, htwo]; split <;> omega], rfl⟩)
                · refine ev_iconst (v := iZ 1) d_Mo_breakAt_202 rfl ?_
                  refine ev_goto (tgt := 207) d_Mo_breakAt_203 rfl ?_
                  refine ez_iadd d_Mo_breakAt_207 ?_
                  exact ev_ireturn d_Mo_breakAt_208 rfl (by decide) (by decide) (⟨by rw [show bVal E z j = (1000 * (a2 - a1)) + 1 from by rw [bVal, if_pos ⟨⟨by omega, by omega⟩, by omega, by omega⟩]; unfold bDf; rw [hone, htwo]; split <;> omega], rfl⟩)
              · refine ev_iload d_Mo_breakAt_181 rfl ?_
                refine ev_iload d_Mo_breakAt_183 rfl ?_
                refine ez_isub d_Mo_breakAt_185 ?_
                refine ev_goto (tgt := 194) d_Mo_breakAt_186 rfl ?_
                refine ez_imul d_Mo_breakAt_194 ?_
                refine ev_iload d_Mo_breakAt_195 rfl ?_
                refine ev_iload d_Mo_breakAt_197 rfl ?_
                refine ez_icmp_le (tgt := 206) (by omega) (by omega) d_Mo_breakAt_199 rfl (fun c199 => ?_) (fun c199 => ?_)
                · refine ev_iconst (v := iZ 0) d_Mo_breakAt_206 rfl ?_
                  refine ez_iadd d_Mo_breakAt_207 ?_
                  exact ev_ireturn d_Mo_breakAt_208 rfl (by decide) (by decide) (⟨by rw [show bVal E z j = (1000 * (a1 - a2)) + 0 from by rw [bVal, if_pos ⟨⟨by omega, by omega⟩, by omega, by omega⟩]; unfold bDf; rw [hone, htwo]; split <;> omega], rfl⟩)
                · refine ev_iconst (v := iZ 1) d_Mo_breakAt_202 rfl ?_
                  refine ev_goto (tgt := 207) d_Mo_breakAt_203 rfl ?_
                  refine ez_iadd d_Mo_breakAt_207 ?_
                  exact ev_ireturn d_Mo_breakAt_208 rfl (by decide) (by decide) (⟨by rw [show bVal E z j = (1000 * (a1 - a2)) + 1 from by rw [bVal, if_pos ⟨⟨by omega, by omega⟩, by omega, by omega⟩]; unfold bDf; rw [hone, htwo]; split <;> omega], rfl⟩)
            · refine ev_iconst (v := iZ (-1)) d_Mo_breakAt_169 rfl ?_
              exact ev_ireturn d_Mo_breakAt_170 rfl (by decide) (by decide) (⟨by rw [show bVal E z j = -1 from if_neg (fun q => by obtain ⟨_, q2, q3⟩ := q; omega)], rfl⟩)
        · refine ev_iconst (v := iZ (-1)) d_Mo_breakAt_78 rfl ?_
          exact ev_ireturn d_Mo_breakAt_79 rfl (by decide) (by decide) (⟨by rw [show bVal E z j = -1 from if_neg (fun q => by obtain ⟨⟨q1, q2⟩, _⟩ := q; omega)], rfl⟩)
set_option maxHeartbeats 4000000 in
set_option maxRecDepth 100000 in
theorem lp_Mo_bl1 (G : GT) (Q : Option Value → HM → Prop) (h0 : HM) (σ : Nat → Value) (m s4 dr i z : Nat) (S4 E0 : Nat → Int) (f8 : σ 8 = .ref s4) (f33 : σ 33 = .ref dr) (hi : i < 16) (hz : z ≤ 64) (hB : ∀ k, 0 ≤ S4 k ∧ S4 k ≤ 255) (kk : ∀ h acc, acc = cellsN (drf S4 (i * 64)) 0 z → h m = some (.inr (11, fsN 34 σ)) → h s4 = some (.inl (G_i G, 1024, .inl (iA S4))) → h dr = some (.inl (G_i G, 65, .inl (iA (dfU (drf S4 (i * 64)) E0 z)))) → Fm [dr] h0 h → Ev G M_Mo_breakLines (rm 2 70) Q 83 [(0, .ref m), (1, .int (iZ (i : Int))), (2, .int (iZ (z : Int))), (3, .int (iZ acc)), (4, .int (iZ (z : Int)))] [] h 0 0) : ∀ (d : Nat) (j : Nat) (h : HM) (acc : Int), j + d = z → acc = cellsN (drf S4 (i * 64)) 0 j → h m = some (.inr (11, fsN 34 σ)) → h s4 = some (.inl (G_i G, 1024, .inl (iA S4))) → h dr = some (.inl (G_i G, 65, .inl (iA (dfU (drf S4 (i * 64)) E0 j)))) → Fm [dr] h0 h → Ev G M_Mo_breakLines (rm 2 70) (Q) 23 [(0, .ref m), (1, .int (iZ (i : Int))), (2, .int (iZ (z : Int))), (3, .int (iZ acc)), (4, .int (iZ (j : Int)))] [] h 0 0 := by
  intro d
  induction d using Nat.strongRecOn with
  | ind d ih =>
  intro j h acc hd hacc hm hs4 hdr fm
  have ra := cellsN_r (drf S4 (i * 64)) 0 j
  refine ev_iload d_Mo_breakLines_23 rfl ?_
  refine ev_iload_n d_Mo_breakLines_25 rfl rfl ?_
  refine ez_icmp_ge (tgt := 83) (by omega) (by omega) d_Mo_breakLines_26 rfl (fun c26 => ?_) (fun c26 => ?_)
  · obtain rfl : j = z := by omega
    exact kk h acc hacc hm hs4 hdr fm
  · refine ev_aload_n d_Mo_breakLines_29 rfl rfl ?_
    refine ev_getF d_Mo_breakLines_30 fl_Mo_30 hm (by decide) f8 ?_
    refine ev_bipush (v := iZ 64) d_Mo_breakLines_33 rfl ?_
    refine ev_iload_n d_Mo_breakLines_35 rfl rfl ?_
    refine ez_imul d_Mo_breakLines_36 ?_
    refine ev_iload d_Mo_breakLines_37 rfl ?_
    refine ez_iadd d_Mo_breakLines_39 ?_
    refine ez_iaload (i * 64 + j) d_Mo_breakLines_40 hs4 (by omega) (by omega) (by decide) ?_
    have rb := hB (i * 64 + j)
    refine ev_istore (L' := [(0, .ref m), (1, .int (iZ (i : Int))), (2, .int (iZ (z : Int))), (3, .int (iZ acc)), (4, .int (iZ (j : Int))), (5, .int (iZ (S4 (i * 64 + j))))]) d_Mo_breakLines_41 (by decide) rfl ?_
    refine ev_aload_n d_Mo_breakLines_43 rfl rfl ?_
    refine ev_getF d_Mo_breakLines_44 fl_Mo_81 hm (by decide) f33 ?_
    refine ev_iload d_Mo_breakLines_47 rfl ?_
    refine ev_iload d_Mo_breakLines_49 rfl ?_
    refine ev_bipush (v := iZ 10) d_Mo_breakLines_51 rfl ?_
    refine ez_icmp_ne (tgt := 61) (by omega) (by decide) d_Mo_breakLines_53 rfl (fun c53 => ?_) (fun c53 => ?_)
    · have hD : drf S4 (i * 64) j = S4 (i * 64 + j) := drf_n (by omega)
      refine ev_iload d_Mo_breakLines_61 rfl ?_
      refine ez_iastore (F' := zup (dfU (drf S4 (i * 64)) E0 j) j (S4 (i * 64 + j))) j d_Mo_breakLines_63 hdr (by omega) (by omega) (by decide) rfl (fun h1 h1a h1o => ?_)
      have hm := (h1o _ (cne hm hdr (by simp))).trans hm
      have hs4 := (h1o _ (cne hs4 hdr (by simp))).trans hs4
      have hdr := h1a
      have fm := fm.step (by simp) h1o
      refine ev_iload_n d_Mo_breakLines_64 rfl rfl ?_
      refine ev_aload_n d_Mo_breakLines_65 rfl rfl ?_
      refine ev_getF d_Mo_breakLines_66 fl_Mo_81 hm (by decide) f33 ?_
      refine ev_iload d_Mo_breakLines_69 rfl ?_
      refine ez_iaload j d_Mo_breakLines_71 hdr (by omega) (by omega) (by decide) ?_
      refine ev_top (drf S4 (i * 64) j) (zup_at.trans hD.symm) ?_
      have rd := drf_r (o := i * 64) hB j
      skip
      refine ev_pS M_Mo_cellsOf 0 0 (As := [.int (iZ (drf S4 (i * 64) j))]) (c_Mo_cellsOf G h1 (drf S4 (i * 64) j) (by omega)) d_Mo_breakLines_72 mk_Mo_cellsOf ml_Mo_88 ms_Mo_cellsOf rfl rfl (Nat.le_of_ble_eq_true rfl) ⟨by decide, by decide⟩ ⟨by decide, by decide⟩ ?_
      have rc72 := cellZ_r (drf S4 (i * 64) j)
      refine ez_iadd d_Mo_breakLines_75 ?_
      refine ev_istore_n (L' := [(0, .ref m), (1, .int (iZ (i : Int))), (2, .int (iZ (z : Int))), (3, .int (iZ (acc + (cellZ (drf S4 (i * 64) j))))), (4, .int (iZ (j : Int))), (5, .int (iZ (S4 (i * 64 + j))))]) d_Mo_breakLines_76 rfl (by decide) rfl ?_
      refine ez_iinc (L' := [(0, .ref m), (1, .int (iZ (i : Int))), (2, .int (iZ (z : Int))), (3, .int (iZ (acc + (cellZ (drf S4 (i * 64) j))))), (4, .int (iZ ((j + 1 : Nat) : Int))), (5, .int (iZ (S4 (i * 64 + j))))]) d_Mo_breakLines_77 rfl (by decide) rfl ?_
      refine ev_goto (tgt := 23) d_Mo_breakLines_80 rfl ?_
      refine ev_loc [(0, .ref m), (1, .int (iZ (i : Int))), (2, .int (iZ (z : Int))), (3, .int (iZ (acc + (cellZ (drf S4 (i * 64) j))))), (4, .int (iZ ((j + 1 : Nat) : Int)))] (by simp) ?_
      exact ih (d - 1) (by omega) (j + 1) h1 (acc + (cellZ (drf S4 (i * 64) j))) (by omega) (by rw [hacc, cellsN_s0]) hm hs4 (by rw [← dfU_s, hD]; exact hdr) fm
    · have hD : drf S4 (i * 64) j = 32 := drf_10 (by omega)
      refine ev_bipush (v := iZ 32) d_Mo_breakLines_56 rfl ?_
      refine ev_goto (tgt := 63) d_Mo_breakLines_58 rfl ?_
      refine ez_iastore (F' := zup (dfU (drf S4 (i * 64)) E0 j) j 32) j d_Mo_breakLines_63 hdr (by omega) (by omega) (by decide) rfl (fun h2 h2a h2o => ?_)
      have hm := (h2o _ (cne hm hdr (by simp))).trans hm
      have hs4 := (h2o _ (cne hs4 hdr (by simp))).trans hs4
      have hdr := h2a
      have fm := fm.step (by simp) h2o
      refine ev_iload_n d_Mo_breakLines_64 rfl rfl ?_
      refine ev_aload_n d_Mo_breakLines_65 rfl rfl ?_
      refine ev_getF d_Mo_breakLines_66 fl_Mo_81 hm (by decide) f33 ?_
      refine ev_iload d_Mo_breakLines_69 rfl ?_
      refine ez_iaload j d_Mo_breakLines_71 hdr (by omega) (by omega) (by decide) ?_
      refine ev_top (drf S4 (i * 64) j) (zup_at.trans hD.symm) ?_
      have rd := drf_r (o := i * 64) hB j
      skip
      refine ev_pS M_Mo_cellsOf 0 0 (As := [.int (iZ (drf S4 (i * 64) j))]) (c_Mo_cellsOf G h2 (drf S4 (i * 64) j) (by omega)) d_Mo_breakLines_72 mk_Mo_cellsOf ml_Mo_88 ms_Mo_cellsOf rfl rfl (Nat.le_of_ble_eq_true rfl) ⟨by decide, by decide⟩ ⟨by decide, by decide⟩ ?_
      have rc72 := cellZ_r (drf S4 (i * 64) j)
      refine ez_iadd d_Mo_breakLines_75 ?_
      refine ev_istore_n (L' := [(0, .ref m), (1, .int (iZ (i : Int))), (2, .int (iZ (z : Int))), (3, .int (iZ (acc + (cellZ (drf S4 (i * 64) j))))), (4, .int (iZ (j : Int))), (5, .int (iZ (S4 (i * 64 + j))))]) d_Mo_breakLines_76 rfl (by decide) rfl ?_
      refine ez_iinc (L' := [(0, .ref m), (1, .int (iZ (i : Int))), (2, .int (iZ (z : Int))), (3, .int (iZ (acc + (cellZ (drf S4 (i * 64) j))))), (4, .int (iZ ((j + 1 : Nat) : Int))), (5, .int (iZ (S4 (i * 64 + j))))]) d_Mo_breakLines_77 rfl (by decide) rfl ?_
      refine ev_goto (tgt := 23) d_Mo_breakLines_80 rfl ?_
      refine ev_loc [(0, .ref m), (1, .int (iZ (i : Int))), (2, .int (iZ (z : Int))), (3, .int (iZ (acc + (cellZ (drf S4 (i * 64) j))))), (4, .int (iZ ((j + 1 : Nat) : Int)))] (by simp) ?_
      exact ih (d - 1) (by omega) (j + 1) h2 (acc + (cellZ (drf S4 (i * 64) j))) (by omega) (by rw [hacc, cellsN_s0]) hm hs4 (by rw [← dfU_s, hD]; exact hdr) fm
theorem bVal_r (d : Nat → Int) (z j : Nat) (hz : z ≤ 64) : -1 ≤ bVal d z j ∧ bVal d z j ≤ 200001 := by
  have h1 : 0 ≤ bOne d j := (cellsN_r d 0 _).1
  have h2 : 0 ≤ bTwo d z j := (cellsN_r d _ _).1
  unfold bVal
  split
  · rename_i q
    have q1 := q.2.1
    have q2 := q.2.2
    unfold bDf
    split <;> omega
  · omega
set_option maxHeartbeats 4000000 in
set_option maxRecDepth 100000 in
theorem lp_Mo_bl2 (G : GT) (Q : Option Value → HM → Prop) (h : HM) (σ : Nat → Value) (m s3 dr i z : Nat) (S3 E D : Nat → Int) (al : Int) (hm : h m = some (.inr (11, fsN 34 σ))) (f7 : σ 7 = .ref s3) (f33 : σ 33 = .ref dr) (hs3 : h s3 = some (.inl (G_i G, 16, .inl (iA S3)))) (hdr : h dr = some (.inl (G_i G, 65, .inl (iA E)))) (hi : i < 16) (hz : S3 i = (z : Int)) (hz64 : z ≤ 64) (hal : al = cellsN D 0 z) (hED : ∀ k, k < z → E k = D k) (hD : ∀ k, 0 ≤ D k ∧ D k ≤ 255) (kk : ∀ (j : Nat) (bs : Int), bs = brP D z → Ev G M_Mo_breakLines (rm 2 70) Q 160 [(0, .ref m), (1, .int (iZ (i : Int))), (2, .int (iZ (z : Int))), (3, .int (iZ al)), (4, .int (iZ bs)), (5, .int (iZ (j : Int)))] [] h 0 0) : ∀ (d : Nat) (j : Nat) (bs : Int), j + d = z → bs = bestS D z j → (al ≤ 28 → j = 0) → Ev G M_Mo_breakLines (rm 2 70) (Q) 89 [(0, .ref m), (1, .int (iZ (i : Int))), (2, .int (iZ (z : Int))), (3, .int (iZ al)), (4, .int (iZ bs)), (5, .int (iZ (j : Int)))] [] h 0 0 := by
  intro d
  induction d using Nat.strongRecOn with
  | ind d ih =>
  intro j bs hd hbs h28
  have rbs := bestS_r D z j
  have ra := cellsN_r D 0 z
  refine ev_iload d_Mo_breakLines_89 rfl ?_
  refine ev_iload_n d_Mo_breakLines_91 rfl rfl ?_
  refine ez_icmp_ge (tgt := 160) (by omega) (by omega) d_Mo_breakLines_92 rfl (fun c92 => ?_) (fun c92 => ?_)
  · exact kk j bs (by unfold brP; split; (rw [hbs, h28 (by omega)]; rfl); (rw [hbs, show j = z by omega]))
  · refine ev_iload_n d_Mo_breakLines_95 rfl rfl ?_
    refine ev_bipush (v := iZ 28) d_Mo_breakLines_96 rfl ?_
    refine ez_icmp_le (tgt := 160) (by omega) (by decide) d_Mo_breakLines_98 rfl (fun c98 => ?_) (fun c98 => ?_)
    · exact kk j bs (by unfold brP; split; (rw [hbs, h28 (by omega)]; rfl); (rw [hbs, show j = z by omega]))
    · refine ev_aload_n d_Mo_breakLines_101 rfl rfl ?_
      refine ev_iload_n d_Mo_breakLines_102 rfl rfl ?_
      refine ev_iload d_Mo_breakLines_103 rfl ?_
      refine ev_pV M_Mo_breakAt 1 30 (As := [.int (iZ (i : Int)), .int (iZ (j : Int))]) (c_Mo_breakAt G h σ m s3 dr i j z S3 E hm f7 f33 hs3 hdr hi hz hz64 (by omega) (fun k hk => by rw [hED k hk]; exact hD k)) d_Mo_breakLines_105 mk_Mo_breakAt ml_Mo_262 mv_Mo_breakAt hm rfl rfl rfl (Nat.le_of_ble_eq_true rfl) ⟨by decide, by decide⟩ ⟨by decide, by decide⟩ ?_
      refine ev_top (bVal D z j) (bVal_e hED (by omega)) ?_
      have rv105 := bVal_r D z j hz64
      refine ez_if_lt (tgt := 137) (by omega) d_Mo_breakLines_108 rfl (fun c108 => ?_) (fun c108 => ?_)
      · refine ev_iconst (v := iZ 0) d_Mo_breakLines_137 rfl ?_
        refine ev_istore (L' := [(0, .ref m), (1, .int (iZ (i : Int))), (2, .int (iZ (z : Int))), (3, .int (iZ al)), (4, .int (iZ bs)), (5, .int (iZ (j : Int))), (6, .int (iZ 0))]) d_Mo_breakLines_138 (by decide) rfl ?_
        refine ev_iload d_Mo_breakLines_140 rfl ?_
        refine ez_if_eq (tgt := 150) (by decide) d_Mo_breakLines_142 rfl (fun c142 => ?_) (fun c142 => absurd c142 (by omega))
        refine ev_iload d_Mo_breakLines_150 rfl ?_
        refine ev_istore (L' := [(0, .ref m), (1, .int (iZ (i : Int))), (2, .int (iZ (z : Int))), (3, .int (iZ al)), (4, .int (iZ bs)), (5, .int (iZ (j : Int))), (6, .int (iZ 0))]) d_Mo_breakLines_152 (by decide) rfl ?_
        refine ez_iinc (L' := [(0, .ref m), (1, .int (iZ (i : Int))), (2, .int (iZ (z : Int))), (3, .int (iZ al)), (4, .int (iZ bs)), (5, .int (iZ ((j + 1 : Nat) : Int))), (6, .int (iZ 0))]) d_Mo_breakLines_154 rfl (by decide) rfl ?_
        refine ev_goto (tgt := 89) d_Mo_breakLines_157 rfl ?_
        refine ev_loc [(0, .ref m), (1, .int (iZ (i : Int))), (2, .int (iZ (z : Int))), (3, .int (iZ al)), (4, .int (iZ bs)), (5, .int (iZ ((j + 1 : Nat) : Int)))] (by simp) ?_
        exact ih (d - 1) (by omega) (j + 1) bs (by omega) (hbs.trans (bestS_no (fun q => by have := bVal_nn.mpr q; omega)).symm) (fun q => absurd q (by omega))
      · refine ev_iload d_Mo_breakLines_111 rfl ?_
        refine ez_if_lt (tgt := 133) (by omega) d_Mo_breakLines_113 rfl (fun c113 => ?_) (fun c113 => ?_)
        · refine ev_iconst (v := iZ 1) d_Mo_breakLines_133 rfl ?_
          refine ev_goto (tgt := 138) d_Mo_breakLines_134 rfl ?_
          refine ev_istore (L' := [(0, .ref m), (1, .int (iZ (i : Int))), (2, .int (iZ (z : Int))), (3, .int (iZ al)), (4, .int (iZ bs)), (5, .int (iZ (j : Int))), (6, .int (iZ 1))]) d_Mo_breakLines_138 (by decide) rfl ?_
          refine ev_iload d_Mo_breakLines_140 rfl ?_
          refine ez_if_eq (tgt := 150) (by decide) d_Mo_breakLines_142 rfl (fun c142 => absurd c142 (by omega)) (fun c142 => ?_)
          refine ev_iload d_Mo_breakLines_145 rfl ?_
          refine ev_goto (tgt := 152) d_Mo_breakLines_147 rfl ?_
          refine ev_istore (L' := [(0, .ref m), (1, .int (iZ (i : Int))), (2, .int (iZ (z : Int))), (3, .int (iZ al)), (4, .int (iZ (j : Int))), (5, .int (iZ (j : Int))), (6, .int (iZ 1))]) d_Mo_breakLines_152 (by decide) rfl ?_
          refine ez_iinc (L' := [(0, .ref m), (1, .int (iZ (i : Int))), (2, .int (iZ (z : Int))), (3, .int (iZ al)), (4, .int (iZ (j : Int))), (5, .int (iZ ((j + 1 : Nat) : Int))), (6, .int (iZ 1))]) d_Mo_breakLines_154 rfl (by decide) rfl ?_
          refine ev_goto (tgt := 89) d_Mo_breakLines_157 rfl ?_
          refine ev_loc [(0, .ref m), (1, .int (iZ (i : Int))), (2, .int (iZ (z : Int))), (3, .int (iZ al)), (4, .int (iZ (j : Int))), (5, .int (iZ ((j + 1 : Nat) : Int)))] (by simp) ?_
          exact ih (d - 1) (by omega) (j + 1) (j : Int) (by omega) ((if_pos ⟨bVal_nn.mp (by omega), Or.inl (by rcases rbs with q | q <;> omega)⟩).symm) (fun q => absurd q (by omega))
        · refine ev_aload_n d_Mo_breakLines_116 rfl rfl ?_
          refine ev_iload_n d_Mo_breakLines_117 rfl rfl ?_
          refine ev_iload d_Mo_breakLines_118 rfl ?_
          refine ev_pV M_Mo_breakAt 1 30 (As := [.int (iZ (i : Int)), .int (iZ (j : Int))]) (c_Mo_breakAt G h σ m s3 dr i j z S3 E hm f7 f33 hs3 hdr hi hz hz64 (by omega) (fun k hk => by rw [hED k hk]; exact hD k)) d_Mo_breakLines_120 mk_Mo_breakAt ml_Mo_262 mv_Mo_breakAt hm rfl rfl rfl (Nat.le_of_ble_eq_true rfl) ⟨by decide, by decide⟩ ⟨by decide, by decide⟩ ?_
          refine ev_top (bVal D z j) (bVal_e hED (by omega)) ?_
          have rv120 := bVal_r D z j hz64
          refine ev_aload_n d_Mo_breakLines_123 rfl rfl ?_
          refine ev_iload_n d_Mo_breakLines_124 rfl rfl ?_
          refine ev_iload d_Mo_breakLines_125 rfl ?_
          obtain ⟨p, hp⟩ : ∃ p : Nat, bs = (p : Int) := ⟨bs.toNat, by omega⟩
          refine ev_top ((p : Int)) (hp) ?_
          have okp : bOk D z p := by rcases rbs with q | q; omega; have := q.2.2; rw [← hbs, hp, Int.toNat_natCast] at this; exact this
          have hpj : p < j := by rcases rbs with q | q <;> omega
          refine ev_pV M_Mo_breakAt 1 30 (As := [.int (iZ (i : Int)), .int (iZ (p : Int))]) (c_Mo_breakAt G h σ m s3 dr i p z S3 E hm f7 f33 hs3 hdr hi hz hz64 (by omega) (fun k hk => by rw [hED k hk]; exact hD k)) d_Mo_breakLines_127 mk_Mo_breakAt ml_Mo_262 mv_Mo_breakAt hm rfl rfl rfl (Nat.le_of_ble_eq_true rfl) ⟨by decide, by decide⟩ ⟨by decide, by decide⟩ ?_
          refine ev_top (bVal D z p) (bVal_e hED (by omega)) ?_
          have rv127 := bVal_r D z p hz64
          refine ez_icmp_ge (tgt := 137) (by omega) (by omega) d_Mo_breakLines_130 rfl (fun c130 => ?_) (fun c130 => ?_)
          · refine ev_iconst (v := iZ 0) d_Mo_breakLines_137 rfl ?_
            refine ev_istore (L' := [(0, .ref m), (1, .int (iZ (i : Int))), (2, .int (iZ (z : Int))), (3, .int (iZ al)), (4, .int (iZ bs)), (5, .int (iZ (j : Int))), (6, .int (iZ 0))]) d_Mo_breakLines_138 (by decide) rfl ?_
            refine ev_iload d_Mo_breakLines_140 rfl ?_
            refine ez_if_eq (tgt := 150) (by decide) d_Mo_breakLines_142 rfl (fun c142 => ?_) (fun c142 => absurd c142 (by omega))
            refine ev_iload d_Mo_breakLines_150 rfl ?_
            refine ev_istore (L' := [(0, .ref m), (1, .int (iZ (i : Int))), (2, .int (iZ (z : Int))), (3, .int (iZ al)), (4, .int (iZ bs)), (5, .int (iZ (j : Int))), (6, .int (iZ 0))]) d_Mo_breakLines_152 (by decide) rfl ?_
            refine ez_iinc (L' := [(0, .ref m), (1, .int (iZ (i : Int))), (2, .int (iZ (z : Int))), (3, .int (iZ al)), (4, .int (iZ bs)), (5, .int (iZ ((j + 1 : Nat) : Int))), (6, .int (iZ 0))]) d_Mo_breakLines_154 rfl (by decide) rfl ?_
            refine ev_goto (tgt := 89) d_Mo_breakLines_157 rfl ?_
            refine ev_loc [(0, .ref m), (1, .int (iZ (i : Int))), (2, .int (iZ (z : Int))), (3, .int (iZ al)), (4, .int (iZ bs)), (5, .int (iZ ((j + 1 : Nat) : Int)))] (by simp) ?_
            exact ih (d - 1) (by omega) (j + 1) bs (by omega) (hbs.trans (if_neg (fun q => by rcases q.2 with w | w; omega; rw [← hbs, hp, Int.toNat_natCast] at w; have := (bVal_lt hpj okp q.1).mpr w; omega)).symm) (fun q => absurd q (by omega))
          · refine ev_iconst (v := iZ 1) d_Mo_breakLines_133 rfl ?_
            refine ev_goto (tgt := 138) d_Mo_breakLines_134 rfl ?_
            refine ev_istore (L' := [(0, .ref m), (1, .int (iZ (i : Int))), (2, .int (iZ (z : Int))), (3, .int (iZ al)), (4, .int (iZ bs)), (5, .int (iZ (j : Int))), (6, .int (iZ 1))]) d_Mo_breakLines_138 (by decide) rfl ?_
            refine ev_iload d_Mo_breakLines_140 rfl ?_
            refine ez_if_eq (tgt := 150) (by decide) d_Mo_breakLines_142 rfl (fun c142 => absurd c142 (by omega)) (fun c142 => ?_)
            refine ev_iload d_Mo_breakLines_145 rfl ?_
            refine ev_goto (tgt := 152) d_Mo_breakLines_147 rfl ?_
            refine ev_istore (L' := [(0, .ref m), (1, .int (iZ (i : Int))), (2, .int (iZ (z : Int))), (3, .int (iZ al)), (4, .int (iZ (j : Int))), (5, .int (iZ (j : Int))), (6, .int (iZ 1))]) d_Mo_breakLines_152 (by decide) rfl ?_
            refine ez_iinc (L' := [(0, .ref m), (1, .int (iZ (i : Int))), (2, .int (iZ (z : Int))), (3, .int (iZ al)), (4, .int (iZ (j : Int))), (5, .int (iZ ((j + 1 : Nat) : Int))), (6, .int (iZ 1))]) d_Mo_breakLines_154 rfl (by decide) rfl ?_
            refine ev_goto (tgt := 89) d_Mo_breakLines_157 rfl ?_
            refine ev_loc [(0, .ref m), (1, .int (iZ (i : Int))), (2, .int (iZ (z : Int))), (3, .int (iZ al)), (4, .int (iZ (j : Int))), (5, .int (iZ ((j + 1 : Nat) : Int)))] (by simp) ?_
            exact ih (d - 1) (by omega) (j + 1) (j : Int) (by omega) ((if_pos ⟨bVal_nn.mp (by omega), Or.inr (by rw [← hbs, hp, Int.toNat_natCast]; exact (bVal_lt hpj okp (bVal_nn.mp (by omega))).mp (by omega))⟩).symm) (fun q => absurd q (by omega))
set_option maxHeartbeats 4000000 in
set_option maxRecDepth 100000 in
theorem lp_Mo_bl3 (G : GT) (Q : Option Value → HM → Prop) (h0 : HM) (σ : Nat → Value) (m s4 dr i z : Nat) (S4 E D : Nat → Int) (al p : Int) (f8 : σ 8 = .ref s4) (f33 : σ 33 = .ref dr) (hi : i < 16) (hz : z ≤ 64) (hED : ∀ k, k < z → E k = D k) (hD : ∀ k, 0 ≤ D k ∧ D k ≤ 255) (hpr : iR p) (hp : p = -1 ∨ (0 ≤ p ∧ bOk D z p.toNat)) (kk : ∀ h t, t = ntt D p z → h m = some (.inr (11, fsN 34 σ)) → h s4 = some (.inl (G_i G, 1024, .inl (iA (ntF S4 i D p t)))) → h dr = some (.inl (G_i G, 65, .inl (iA E))) → Fm [s4] h0 h → Ev G M_Mo_breakLines (rm 2 70) Q 271 [(0, .ref m), (1, .int (iZ (i : Int))), (2, .int (iZ (z : Int))), (3, .int (iZ al)), (4, .int (iZ p)), (5, .int (iZ (t : Int))), (6, .int (iZ (z : Int)))] [] h 0 0) : ∀ (d : Nat) (j t : Nat) (h : HM), j + d = z → t = ntt D p j → h m = some (.inr (11, fsN 34 σ)) → h s4 = some (.inl (G_i G, 1024, .inl (iA (ntF S4 i D p t)))) → h dr = some (.inl (G_i G, 65, .inl (iA E))) → Fm [s4] h0 h → Ev G M_Mo_breakLines (rm 2 70) (Q) 183 [(0, .ref m), (1, .int (iZ (i : Int))), (2, .int (iZ (z : Int))), (3, .int (iZ al)), (4, .int (iZ p)), (5, .int (iZ (t : Int))), (6, .int (iZ (j : Int)))] [] h 0 0 := by
  intro d
  induction d using Nat.strongRecOn with
  | ind d ih =>
  intro j t h hd ht hm hs4 hdr fm
  refine ev_iload d_Mo_breakLines_183 rfl ?_
  refine ev_iload_n d_Mo_breakLines_185 rfl rfl ?_
  refine ez_icmp_ge (tgt := 271) (by omega) (by omega) d_Mo_breakLines_186 rfl (fun c186 => ?_) (fun c186 => ?_)
  · obtain rfl : j = z := by omega
    exact kk h t ht hm hs4 hdr fm
  · have hpk : p = (j : Int) → D j = 32 ∨ D j = 45 := fun q => by rcases hp with w | w; omega; have := w.2.1.2; rw [q, Int.toNat_natCast] at this; omega
    have h45 : 0 ≤ p → D p.toNat = 45 → z < 64 := fun q q2 => by rcases hp with w | w; omega; have := w.2.1.2; omega
    have htt := ht
    unfold ntt at ht
    refine ev_aload_n d_Mo_breakLines_189 rfl rfl ?_
    refine ev_getF d_Mo_breakLines_190 fl_Mo_81 hm (by decide) f33 ?_
    refine ev_iload d_Mo_breakLines_193 rfl ?_
    refine ez_iaload j d_Mo_breakLines_195 hdr (by omega) (by omega) (by decide) ?_
    refine ev_top (D j) (hED j (by omega)) ?_
    have rd := hD j
    skip
    refine ev_istore (L' := [(0, .ref m), (1, .int (iZ (i : Int))), (2, .int (iZ (z : Int))), (3, .int (iZ al)), (4, .int (iZ p)), (5, .int (iZ (t : Int))), (6, .int (iZ (j : Int))), (7, .int (iZ (D j)))]) d_Mo_breakLines_196 (by decide) rfl ?_
    refine ev_aload_n d_Mo_breakLines_198 rfl rfl ?_
    refine ev_getF d_Mo_breakLines_199 fl_Mo_30 hm (by decide) f8 ?_
    refine ev_bipush (v := iZ 64) d_Mo_breakLines_202 rfl ?_
    refine ev_iload_n d_Mo_breakLines_204 rfl rfl ?_
    refine ez_imul d_Mo_breakLines_205 ?_
    refine ev_iload d_Mo_breakLines_206 rfl ?_
    refine ez_iadd d_Mo_breakLines_208 ?_
    refine ev_iload d_Mo_breakLines_209 rfl ?_
    refine ev_iload d_Mo_breakLines_211 rfl ?_
    refine ez_icmp_ne (tgt := 228) (by omega) (by omega) d_Mo_breakLines_213 rfl (fun c213 => ?_) (fun c213 => ?_)
    · refine ev_iload d_Mo_breakLines_228 rfl ?_
      have h45b := h45
      have tle : t < 64 := by by_cases q : 0 ≤ p ∧ p < j ∧ D p.toNat = 45; (rw [if_pos q] at ht; have := h45 q.1 q.2.2; omega); (rw [if_neg q] at ht; omega)
      refine ez_iastore (F' := zup (ntF S4 i D p t) (i * 64 + t) (D j)) (i * 64 + t) d_Mo_breakLines_230 hs4 (by omega) (by omega) (by decide) rfl (fun h1 h1a h1o => ?_)
      have hm := (h1o _ (cne hm hs4 (by simp))).trans hm
      have hdr := (h1o _ (cne hdr hs4 (by simp))).trans hdr
      have hs4 := h1a
      have fm := fm.step (by simp) h1o
      refine ez_iinc (L' := [(0, .ref m), (1, .int (iZ (i : Int))), (2, .int (iZ (z : Int))), (3, .int (iZ al)), (4, .int (iZ p)), (5, .int (iZ ((t + 1 : Nat) : Int))), (6, .int (iZ (j : Int))), (7, .int (iZ (D j)))]) d_Mo_breakLines_231 rfl (by decide) rfl ?_
      refine ev_iload d_Mo_breakLines_234 rfl ?_
      refine ev_iload d_Mo_breakLines_236 rfl ?_
      refine ez_icmp_ne (tgt := 265) (by omega) (by omega) d_Mo_breakLines_238 rfl (fun c238 => ?_) (fun c238 => absurd c238 (by omega))
      refine ez_iinc (L' := [(0, .ref m), (1, .int (iZ (i : Int))), (2, .int (iZ (z : Int))), (3, .int (iZ al)), (4, .int (iZ p)), (5, .int (iZ ((t + 1 : Nat) : Int))), (6, .int (iZ ((j + 1 : Nat) : Int))), (7, .int (iZ (D j)))]) d_Mo_breakLines_265 rfl (by decide) rfl ?_
      refine ev_goto (tgt := 183) d_Mo_breakLines_268 rfl ?_
      refine ev_loc [(0, .ref m), (1, .int (iZ (i : Int))), (2, .int (iZ (z : Int))), (3, .int (iZ al)), (4, .int (iZ p)), (5, .int (iZ ((t + 1 : Nat) : Int))), (6, .int (iZ ((j + 1 : Nat) : Int)))] (by simp) ?_
      have hv : D j = ntx D p t := by
        by_cases q : p < 0 ∨ (j : Int) < p
        · rw [if_neg (by omega)] at ht; rw [ht, ntx_lt q]
        · by_cases q2 : D p.toNat = 45
          · rw [if_pos ⟨by omega, by omega, q2⟩] at ht; rw [ht, ntx_h2 (by omega) (by omega) q2]
          · rw [if_neg (fun w => q2 w.2.2)] at ht; rw [ht, ntx_b1 (by omega) (by omega) q2]
      have ht2 : t + 1 = ntt D p (j + 1) := by
        unfold ntt
        by_cases q : 0 ≤ p ∧ p < j ∧ D p.toNat = 45
        · rw [if_pos q] at ht; rw [if_pos ⟨q.1, by omega, q.2.2⟩]; omega
        · rw [if_neg q] at ht; rw [if_neg (fun w => q ⟨w.1, by omega, w.2.2⟩)]; omega
      exact ih (d - 1) (by omega) (j + 1) (t + 1) h1 (by omega) ht2 hm (by rw [← ntF_s hv]; exact hs4) hdr fm
    · refine ev_iload d_Mo_breakLines_216 rfl ?_
      refine ev_bipush (v := iZ 32) d_Mo_breakLines_218 rfl ?_
      refine ez_icmp_ne (tgt := 228) (by omega) (by decide) d_Mo_breakLines_220 rfl (fun c220 => ?_) (fun c220 => ?_)
      · refine ev_iload d_Mo_breakLines_228 rfl ?_
        have h45b := h45
        have tle : t < 64 := by by_cases q : 0 ≤ p ∧ p < j ∧ D p.toNat = 45; (rw [if_pos q] at ht; have := h45 q.1 q.2.2; omega); (rw [if_neg q] at ht; omega)
        refine ez_iastore (F' := zup (ntF S4 i D p t) (i * 64 + t) (D j)) (i * 64 + t) d_Mo_breakLines_230 hs4 (by omega) (by omega) (by decide) rfl (fun h2 h2a h2o => ?_)
        have hm := (h2o _ (cne hm hs4 (by simp))).trans hm
        have hdr := (h2o _ (cne hdr hs4 (by simp))).trans hdr
        have hs4 := h2a
        have fm := fm.step (by simp) h2o
        refine ez_iinc (L' := [(0, .ref m), (1, .int (iZ (i : Int))), (2, .int (iZ (z : Int))), (3, .int (iZ al)), (4, .int (iZ p)), (5, .int (iZ ((t + 1 : Nat) : Int))), (6, .int (iZ (j : Int))), (7, .int (iZ (D j)))]) d_Mo_breakLines_231 rfl (by decide) rfl ?_
        refine ev_iload d_Mo_breakLines_234 rfl ?_
        refine ev_iload d_Mo_breakLines_236 rfl ?_
        refine ez_icmp_ne (tgt := 265) (by omega) (by omega) d_Mo_breakLines_238 rfl (fun c238 => absurd c238 (by omega)) (fun c238 => ?_)
        refine ev_iload d_Mo_breakLines_241 rfl ?_
        refine ev_bipush (v := iZ 45) d_Mo_breakLines_243 rfl ?_
        refine ez_icmp_ne (tgt := 265) (by omega) (by decide) d_Mo_breakLines_245 rfl (fun c245 => absurd c245 (by omega)) (fun c245 => ?_)
        refine ev_aload_n d_Mo_breakLines_248 rfl rfl ?_
        refine ev_getF d_Mo_breakLines_249 fl_Mo_30 hm (by decide) f8 ?_
        refine ev_bipush (v := iZ 64) d_Mo_breakLines_252 rfl ?_
        refine ev_iload_n d_Mo_breakLines_254 rfl rfl ?_
        refine ez_imul d_Mo_breakLines_255 ?_
        refine ev_iload d_Mo_breakLines_256 rfl ?_
        refine ez_iadd d_Mo_breakLines_258 ?_
        refine ev_bipush (v := iZ 10) d_Mo_breakLines_259 rfl ?_
        have t2 : z < 64 := h45 (by omega) (by rw [show p.toNat = j by omega]; omega)
        have t3 : t = j := by rw [if_neg (by omega)] at ht; omega
        refine ez_iastore (F' := zup (zup (ntF S4 i D p t) (i * 64 + t) (D j)) (i * 64 + (t + 1)) 10) (i * 64 + (t + 1)) d_Mo_breakLines_261 hs4 (by omega) (by omega) (by decide) rfl (fun h3 h3a h3o => ?_)
        have hm := (h3o _ (cne hm hs4 (by simp))).trans hm
        have hdr := (h3o _ (cne hdr hs4 (by simp))).trans hdr
        have hs4 := h3a
        have fm := fm.step (by simp) h3o
        refine ez_iinc (L' := [(0, .ref m), (1, .int (iZ (i : Int))), (2, .int (iZ (z : Int))), (3, .int (iZ al)), (4, .int (iZ p)), (5, .int (iZ ((t + 1 + 1 : Nat) : Int))), (6, .int (iZ (j : Int))), (7, .int (iZ (D j)))]) d_Mo_breakLines_262 rfl (by decide) rfl ?_
        refine ez_iinc (L' := [(0, .ref m), (1, .int (iZ (i : Int))), (2, .int (iZ (z : Int))), (3, .int (iZ al)), (4, .int (iZ p)), (5, .int (iZ ((t + 1 + 1 : Nat) : Int))), (6, .int (iZ ((j + 1 : Nat) : Int))), (7, .int (iZ (D j)))]) d_Mo_breakLines_265 rfl (by decide) rfl ?_
        refine ev_goto (tgt := 183) d_Mo_breakLines_268 rfl ?_
        refine ev_loc [(0, .ref m), (1, .int (iZ (i : Int))), (2, .int (iZ (z : Int))), (3, .int (iZ al)), (4, .int (iZ p)), (5, .int (iZ ((t + 1 + 1 : Nat) : Int))), (6, .int (iZ ((j + 1 : Nat) : Int)))] (by simp) ?_
        rw [if_neg (by omega)] at ht
        have hv : D j = ntx D p t := by rw [ht, ntx_h0 (by omega) (by omega)]; omega
        have hv2 : (10 : Int) = ntx D p (t + 1) := by rw [ht]; exact (ntx_h1 (by omega) (by omega)).symm
        have ht2 : t + 1 + 1 = ntt D p (j + 1) := by unfold ntt; rw [if_pos ⟨by omega, by omega, by rw [show p.toNat = j by omega]; omega⟩]; omega
        exact ih (d - 1) (by omega) (j + 1) (t + 1 + 1) h3 (by omega) ht2 hm (by rw [← ntF_s hv2, ← ntF_s hv]; exact hs4) hdr fm
      · refine ev_bipush (v := iZ 10) d_Mo_breakLines_223 rfl ?_
        refine ev_goto (tgt := 230) d_Mo_breakLines_225 rfl ?_
        have h45b := h45
        have tle : t < 64 := by by_cases q : 0 ≤ p ∧ p < j ∧ D p.toNat = 45; (rw [if_pos q] at ht; have := h45 q.1 q.2.2; omega); (rw [if_neg q] at ht; omega)
        refine ez_iastore (F' := zup (ntF S4 i D p t) (i * 64 + t) 10) (i * 64 + t) d_Mo_breakLines_230 hs4 (by omega) (by omega) (by decide) rfl (fun h4 h4a h4o => ?_)
        have hm := (h4o _ (cne hm hs4 (by simp))).trans hm
        have hdr := (h4o _ (cne hdr hs4 (by simp))).trans hdr
        have hs4 := h4a
        have fm := fm.step (by simp) h4o
        refine ez_iinc (L' := [(0, .ref m), (1, .int (iZ (i : Int))), (2, .int (iZ (z : Int))), (3, .int (iZ al)), (4, .int (iZ p)), (5, .int (iZ ((t + 1 : Nat) : Int))), (6, .int (iZ (j : Int))), (7, .int (iZ (D j)))]) d_Mo_breakLines_231 rfl (by decide) rfl ?_
        refine ev_iload d_Mo_breakLines_234 rfl ?_
        refine ev_iload d_Mo_breakLines_236 rfl ?_
        refine ez_icmp_ne (tgt := 265) (by omega) (by omega) d_Mo_breakLines_238 rfl (fun c238 => absurd c238 (by omega)) (fun c238 => ?_)
        refine ev_iload d_Mo_breakLines_241 rfl ?_
        refine ev_bipush (v := iZ 45) d_Mo_breakLines_243 rfl ?_
        refine ez_icmp_ne (tgt := 265) (by omega) (by decide) d_Mo_breakLines_245 rfl (fun c245 => ?_) (fun c245 => absurd c245 (by omega))
        refine ez_iinc (L' := [(0, .ref m), (1, .int (iZ (i : Int))), (2, .int (iZ (z : Int))), (3, .int (iZ al)), (4, .int (iZ p)), (5, .int (iZ ((t + 1 : Nat) : Int))), (6, .int (iZ ((j + 1 : Nat) : Int))), (7, .int (iZ (D j)))]) d_Mo_breakLines_265 rfl (by decide) rfl ?_
        refine ev_goto (tgt := 183) d_Mo_breakLines_268 rfl ?_
        refine ev_loc [(0, .ref m), (1, .int (iZ (i : Int))), (2, .int (iZ (z : Int))), (3, .int (iZ al)), (4, .int (iZ p)), (5, .int (iZ ((t + 1 : Nat) : Int))), (6, .int (iZ ((j + 1 : Nat) : Int)))] (by simp) ?_
        rw [if_neg (by omega)] at ht
        have hv : (10 : Int) = ntx D p t := by rw [ht]; exact (ntx_b0 (by omega) (by omega)).symm
        have ht2 : t + 1 = ntt D p (j + 1) := by unfold ntt; rw [if_neg (fun w => by have := w.2.2; rw [show p.toNat = j by omega] at this; omega)]; omega
        exact ih (d - 1) (by omega) (j + 1) (t + 1) h4 (by omega) ht2 hm (by rw [← ntF_s hv]; exact hs4) hdr fm
theorem ntt_l {d : Nat → Int} {z : Nat} : ntt d (brP d z) z = ntl d (brP d z) z := by
  have := brP_r d z
  unfold ntt ntl
  by_cases q : 0 ≤ brP d z ∧ d (brP d z).toNat = 45
  · rw [if_pos q, if_pos ⟨q.1, by omega, q.2⟩]
  · rw [if_neg q, if_neg (fun w => q ⟨w.1, w.2.2⟩)]
theorem ntl_64 {d : Nat → Int} {z : Nat} (hz : z ≤ 64) : ntl d (brP d z) z ≤ 64 := by
  unfold ntl
  split
  · rename_i q
    rcases brP_r d z with w | w
    · omega
    · have := w.2.2.1.2
      omega
  · exact hz
set_option maxHeartbeats 4000000 in
set_option maxRecDepth 100000 in
theorem c_Mo_breakB (G : GT) (h : HM) (σ : Nat → Value) (m n : Nat) (i : Int) (hm : h m = some (.inr (11, fsN 34 σ))) (f4 : σ 4 = .int (iZ (n : Int))) (hn : n ≤ 16) (hi : iR i) (hb : ¬ (0 ≤ i ∧ i < n)) : Rn G M_Mo_breakLines (rm 1 40) [.ref m, .int (iZ i)] h (Pu (.int (iZ (-2))) h) := by
  refine rn_of (by decide) (Nat.le_of_ble_eq_true rfl) ?_
  show Ev G M_Mo_breakLines _ _ 0 [(0, .ref m), (1, .int (iZ i))] [] _ 0 0
  refine ev_aload_n d_Mo_breakLines_0 rfl rfl ?_
  refine ev_iload_n d_Mo_breakLines_1 rfl rfl ?_
  have hr9 := hasZ_r (n : Int) i
  refine ev_pV M_Mo_isCue 0 0 (As := [.int (iZ i)]) (c_Mo_isCue G h σ m (n : Int) i hm f4 (by omega) (by omega)) d_Mo_breakLines_2 mk_Mo_isCue ml_Mo_217 mv_Mo_isCue hm rfl rfl rfl (Nat.le_of_ble_eq_true rfl) ⟨by decide, by decide⟩ ⟨by decide, by decide⟩ ?_
  refine ez_if_ne (tgt := 11) (by omega) d_Mo_breakLines_5 rfl (fun c5 => ?_) (fun c5 => ?_)
  · have z5 := hasZ_1 c5
    omega
  · have z5 := hasZ_0 c5
    refine ev_bipush (v := iZ (-2)) d_Mo_breakLines_8 rfl ?_
    exact ev_ireturn d_Mo_breakLines_10 rfl (by decide) (by decide) (⟨rfl, rfl⟩)
set_option maxHeartbeats 4000000 in
set_option maxRecDepth 100000 in
theorem c_Mo_break (G : GT) (h : HM) (σ : Nat → Value) (m s1 s2 s3 s4 k0 k1 k2 k3 k4 : Nat) (n c bk : Nat) (S1 S2 S3 S4 K0 K1 K2 K3 K4 : Nat → Int) (i dr : Nat) (E0 : Nat → Int) (hm : h m = some (.inr (11, fsN 34 σ))) (f4 : σ 4 = .int (iZ (n : Int))) (f5 : σ 5 = .ref s1) (f6 : σ 6 = .ref s2) (f7 : σ 7 = .ref s3) (f8 : σ 8 = .ref s4) (f9 : σ 9 = .int (iZ (c : Int))) (f10 : σ 10 = .int (iZ (bk : Int))) (f11 : σ 11 = .ref k0) (f12 : σ 12 = .ref k1) (f13 : σ 13 = .ref k2) (f14 : σ 14 = .ref k3) (f15 : σ 15 = .ref k4) (f33 : σ 33 = .ref dr) (hs1 : h s1 = some (.inl (G_j G, 16, .inr (.inl (lA S1))))) (hs2 : h s2 = some (.inl (G_j G, 16, .inr (.inl (lA S2))))) (hs3 : h s3 = some (.inl (G_i G, 16, .inl (iA S3)))) (hs4 : h s4 = some (.inl (G_i G, 1024, .inl (iA S4)))) (hk0 : h k0 = some (.inl (G_i G, 10, .inl (iA K0)))) (hk1 : h k1 = some (.inl (G_j G, 160, .inr (.inl (lA K1))))) (hk2 : h k2 = some (.inl (G_j G, 160, .inr (.inl (lA K2))))) (hk3 : h k3 = some (.inl (G_i G, 160, .inl (iA K3)))) (hk4 : h k4 = some (.inl (G_i G, 10240, .inl (iA K4)))) (hdr : h dr = some (.inl (G_i G, 65, .inl (iA E0)))) (hn : n ≤ 16) (hZ : ∀ k, 0 ≤ S3 k ∧ S3 k ≤ 64) (hB : ∀ k, 0 ≤ S4 k ∧ S4 k ≤ 255) (hi : i < n) (hc : c ≤ 1000) (hbk : bk ≤ 10) (n_s : s1 ≠ s2) (n_k : k1 ≠ k2) : Rn G M_Mo_breakLines (rm 2 70) [.ref m, .int (iZ (i : Int))] h (fun r h' => ((28 < cellsN (drf S4 (i * 64)) 0 (S3 i).toNat ∧ bestS (drf S4 (i * 64)) (S3 i).toNat (S3 i).toNat = -1) → r = some (.int (iZ (-1))) ∧ (∃ E', h' dr = some (.inl (G_i G, 65, .inl (iA E')))) ∧ Fm [dr] h h') ∧ (¬ (28 < cellsN (drf S4 (i * 64)) 0 (S3 i).toNat ∧ bestS (drf S4 (i * 64)) (S3 i).toNat (S3 i).toNat = -1) → r = some (.int (iZ (if cellsN (drf S4 (i * 64)) 0 (S3 i).toNat ≤ 28 then 1 else 2))) ∧ (∃ σ', h' m = some (.inr (11, fsN 34 σ')) ∧ σ' 9 = .int (iZ ((c : Int) + 1)) ∧ σ' 10 = .int (iZ ((min (bk + 1) 10 : Nat) : Int)) ∧ Fs [9, 10] σ σ') ∧ (∃ F', h' s4 = some (.inl (G_i G, 1024, .inl (iA F'))) ∧ ntR S4 F' i (drf S4 (i * 64)) (brP (drf S4 (i * 64)) (S3 i).toNat) (S3 i).toNat) ∧ h' s3 = some (.inl (G_i G, 16, .inl (iA (zup S3 i ((ntl (drf S4 (i * 64)) (brP (drf S4 (i * 64)) (S3 i).toNat) (S3 i).toNat : Nat) : Int))))) ∧ (∃ E', h' dr = some (.inl (G_i G, 65, .inl (iA E')))) ∧ h' k0 = some (.inl (G_i G, 10, .inl (iA (zup K0 (c % 10) n)))) ∧ h' k1 = some (.inl (G_j G, 160, .inr (.inl (lA (va_cpy S1 K1 0 (16 * (c % 10)) 16))))) ∧ h' k2 = some (.inl (G_j G, 160, .inr (.inl (lA (va_cpy S2 K2 0 (16 * (c % 10)) 16))))) ∧ h' k3 = some (.inl (G_i G, 160, .inl (iA (va_cpy S3 K3 0 (16 * (c % 10)) 16)))) ∧ h' k4 = some (.inl (G_i G, 10240, .inl (iA (va_cpy S4 K4 0 (1024 * (c % 10)) 1024)))) ∧ Fm [m, s3, s4, k0, k1, k2, k3, k4, dr] h h')) := by
  refine rn_of (by decide) (Nat.le_of_ble_eq_true rfl) ?_
  show Ev G M_Mo_breakLines _ _ 0 [(0, .ref m), (1, .int (iZ (i : Int)))] [] _ 0 0
  have fm : Fm [m, s3, s4, k0, k1, k2, k3, k4, dr] h h := Fm.rf
  have fs : Fs [9, 10] σ σ := Fs.rf
  have z0 := hZ i
  refine ev_aload_n d_Mo_breakLines_0 rfl rfl ?_
  refine ev_iload_n d_Mo_breakLines_1 rfl rfl ?_
  have hr9 := hasZ_r (n : Int) (i : Int)
  refine ev_pV M_Mo_isCue 0 0 (As := [.int (iZ (i : Int))]) (c_Mo_isCue G h σ m (n : Int) (i : Int) hm f4 (by omega) (by omega)) d_Mo_breakLines_2 mk_Mo_isCue ml_Mo_217 mv_Mo_isCue hm rfl rfl rfl (Nat.le_of_ble_eq_true rfl) ⟨by decide, by decide⟩ ⟨by decide, by decide⟩ ?_
  refine ez_if_ne (tgt := 11) (by omega) d_Mo_breakLines_5 rfl (fun c5 => ?_) (fun c5 => ?_)
  · have z5 := hasZ_1 c5
    refine ev_aload_n d_Mo_breakLines_11 rfl rfl ?_
    refine ev_getF d_Mo_breakLines_12 fl_Mo_27 hm (by decide) f7 ?_
    refine ev_iload_n d_Mo_breakLines_15 rfl rfl ?_
    refine ez_iaload i d_Mo_breakLines_16 hs3 (by omega) (by omega) (by decide) ?_
    refine ev_top (((S3 i).toNat : Int)) (by omega) ?_
    skip
    refine ev_istore_n (L' := [(0, .ref m), (1, .int (iZ (i : Int))), (2, .int (iZ ((S3 i).toNat : Int)))]) d_Mo_breakLines_17 rfl (by decide) rfl ?_
    refine ev_iconst (v := iZ 0) d_Mo_breakLines_18 rfl ?_
    refine ev_istore_n (L' := [(0, .ref m), (1, .int (iZ (i : Int))), (2, .int (iZ ((S3 i).toNat : Int))), (3, .int (iZ 0))]) d_Mo_breakLines_19 rfl (by decide) rfl ?_
    refine ev_iconst (v := iZ 0) d_Mo_breakLines_20 rfl ?_
    refine ev_istore (L' := [(0, .ref m), (1, .int (iZ (i : Int))), (2, .int (iZ ((S3 i).toNat : Int))), (3, .int (iZ 0)), (4, .int (iZ 0))]) d_Mo_breakLines_21 (by decide) rfl ?_
    refine lp_Mo_bl1 G _ h σ m s4 dr i (S3 i).toNat S4 E0 f8 f33 (by omega) (by omega) hB ?_ (S3 i).toNat 0 h 0 (by omega) rfl hm hs4 (by rw [dfU_0]; exact hdr) Fm.rf
    have jm := hm
    have js1 := hs1
    have js2 := hs2
    have js3 := hs3
    have js4 := hs4
    have jk0 := hk0
    have jk1 := hk1
    have jk2 := hk2
    have jk3 := hk3
    have jk4 := hk4
    have jdr := hdr
    intro h5 acc hacc hm hs4 hdr fm1
    have hs1 := (fm1 _ (ninc (cne js1 jdr (by simp)) nin0)).trans js1
    have hs2 := (fm1 _ (ninc (cne js2 jdr (by simp)) nin0)).trans js2
    have hs3 := (fm1 _ (ninc (cne js3 jdr (by simp)) nin0)).trans js3
    have hk0 := (fm1 _ (ninc (cne jk0 jdr (by simp)) nin0)).trans jk0
    have hk1 := (fm1 _ (ninc (cne jk1 jdr (by simp)) nin0)).trans jk1
    have hk2 := (fm1 _ (ninc (cne jk2 jdr (by simp)) nin0)).trans jk2
    have hk3 := (fm1 _ (ninc (cne jk3 jdr (by simp)) nin0)).trans jk3
    have hk4 := (fm1 _ (ninc (cne jk4 jdr (by simp)) nin0)).trans jk4
    have fm := fm.call (by simp) fm1
    have hED : ∀ k, k < (S3 i).toNat → (dfU (drf S4 (i * 64)) E0 (S3 i).toNat) k = (drf S4 (i * 64)) k := fun k hk => dfU_in hk
    have hD := drf_r (o := i * 64) hB
    have ra := cellsN_r (drf S4 (i * 64)) 0 (S3 i).toNat
    refine ev_iconst (v := iZ (-1)) d_Mo_breakLines_83 rfl ?_
    refine ev_istore (L' := [(0, .ref m), (1, .int (iZ (i : Int))), (2, .int (iZ ((S3 i).toNat : Int))), (3, .int (iZ acc)), (4, .int (iZ (-1)))]) d_Mo_breakLines_84 (by decide) rfl ?_
    refine ev_iconst (v := iZ 0) d_Mo_breakLines_86 rfl ?_
    refine ev_istore (L' := [(0, .ref m), (1, .int (iZ (i : Int))), (2, .int (iZ ((S3 i).toNat : Int))), (3, .int (iZ acc)), (4, .int (iZ (-1))), (5, .int (iZ 0))]) d_Mo_breakLines_87 (by decide) rfl ?_
    refine lp_Mo_bl2 G _ h5 σ m s3 dr i (S3 i).toNat S3 (dfU (drf S4 (i * 64)) E0 (S3 i).toNat) (drf S4 (i * 64)) acc hm f7 f33 hs3 hdr (by omega) (by omega) (by omega) hacc hED hD (fun j bs hbs => ?_) (S3 i).toNat 0 (-1) (by omega) rfl (fun _ => rfl)
    have rbr := brP_r (drf S4 (i * 64)) (S3 i).toNat
    have hb2 : 28 < acc → bestS (drf S4 (i * 64)) (S3 i).toNat (S3 i).toNat = bs := fun q => by rw [hbs, brP, if_neg (by omega)]
    have rbs : iR bs := by rw [hbs]; omega
    refine ev_iload_n d_Mo_breakLines_160 rfl rfl ?_
    refine ev_bipush (v := iZ 28) d_Mo_breakLines_161 rfl ?_
    refine ez_icmp_le (tgt := 173) (by omega) (by decide) d_Mo_breakLines_163 rfl (fun c163 => ?_) (fun c163 => ?_)
    · have hnf : ¬ (28 < cellsN (drf S4 (i * 64)) 0 (S3 i).toNat ∧ bestS (drf S4 (i * 64)) (S3 i).toNat (S3 i).toNat = -1) := fun q => absurd q.1 (by omega)
      refine ev_aload_n d_Mo_breakLines_173 rfl rfl ?_
      refine ev_callV M_Mo_keep (rm 0 0) _ (As := []) (c_Mo_keep G h5 σ m s1 s2 s3 s4 k0 k1 k2 k3 k4 n c bk S1 S2 S3 S4 K0 K1 K2 K3 K4 hm f4 f5 f6 f7 f8 f9 f10 f11 f12 f13 f14 f15 hs1 hs2 hs3 hs4 hk0 hk1 hk2 hk3 hk4 hc hbk n_s n_k) d_Mo_breakLines_174 mk_Mo_keep ml_Mo_176 mv_Mo_keep hm rfl rfl rfl (Nat.le_of_ble_eq_true rfl) ⟨by decide, by decide⟩ ⟨by decide, by decide⟩ (fun r h8 hq => ?_)
      obtain ⟨rfl, ⟨σ9, gm, g9, g10, gs⟩, gk0, gk1, gk2, gk3, gk4, fmk⟩ := hq
      have hs1 := (fmk _ (ninc (cne hs1 hm (by simp)) (ninc (cne hs1 hk0 (by simp)) (ninc (cne hs1 hk1 (by simp)) (ninc (cne hs1 hk2 (by simp)) (ninc (cne hs1 hk3 (by simp)) (ninc (cne hs1 hk4 (by simp)) nin0))))))).trans hs1
      have hs2 := (fmk _ (ninc (cne hs2 hm (by simp)) (ninc (cne hs2 hk0 (by simp)) (ninc (cne hs2 hk1 (by simp)) (ninc (cne hs2 hk2 (by simp)) (ninc (cne hs2 hk3 (by simp)) (ninc (cne hs2 hk4 (by simp)) nin0))))))).trans hs2
      have hs3 := (fmk _ (ninc (cne hs3 hm (by simp)) (ninc (cne hs3 hk0 (by simp)) (ninc (cne hs3 hk1 (by simp)) (ninc (cne hs3 hk2 (by simp)) (ninc (cne hs3 hk3 (by simp)) (ninc (cne hs3 hk4 (by simp)) nin0))))))).trans hs3
      have hs4 := (fmk _ (ninc (cne hs4 hm (by simp)) (ninc (cne hs4 hk0 (by simp)) (ninc (cne hs4 hk1 (by simp)) (ninc (cne hs4 hk2 (by simp)) (ninc (cne hs4 hk3 (by simp)) (ninc (cne hs4 hk4 (by simp)) nin0))))))).trans hs4
      have hdr := (fmk _ (ninc (cne hdr hm (by simp)) (ninc (cne hdr hk0 (by simp)) (ninc (cne hdr hk1 (by simp)) (ninc (cne hdr hk2 (by simp)) (ninc (cne hdr hk3 (by simp)) (ninc (cne hdr hk4 (by simp)) nin0))))))).trans hdr
      have hm := gm
      have hk0 := gk0
      have hk1 := gk1
      have hk2 := gk2
      have hk3 := gk3
      have hk4 := gk4
      have f4 := (gs 4 (by decide)).trans f4
      have f5 := (gs 5 (by decide)).trans f5
      have f6 := (gs 6 (by decide)).trans f6
      have f7 := (gs 7 (by decide)).trans f7
      have f8 := (gs 8 (by decide)).trans f8
      have f11 := (gs 11 (by decide)).trans f11
      have f12 := (gs 12 (by decide)).trans f12
      have f13 := (gs 13 (by decide)).trans f13
      have f14 := (gs 14 (by decide)).trans f14
      have f15 := (gs 15 (by decide)).trans f15
      have f33 := (gs 33 (by decide)).trans f33
      have f9 := g9
      have f10 := g10
      have fm := fm.call (by simp) fmk
      have fs := fs.call (by simp) gs
      refine ev_iconst (v := iZ 0) d_Mo_breakLines_177 rfl ?_
      refine ev_istore (L' := [(0, .ref m), (1, .int (iZ (i : Int))), (2, .int (iZ ((S3 i).toNat : Int))), (3, .int (iZ acc)), (4, .int (iZ bs)), (5, .int (iZ 0))]) d_Mo_breakLines_178 (by decide) rfl ?_
      refine ev_iconst (v := iZ 0) d_Mo_breakLines_180 rfl ?_
      refine ev_istore (L' := [(0, .ref m), (1, .int (iZ (i : Int))), (2, .int (iZ ((S3 i).toNat : Int))), (3, .int (iZ acc)), (4, .int (iZ bs)), (5, .int (iZ 0)), (6, .int (iZ 0))]) d_Mo_breakLines_181 (by decide) rfl ?_
      refine lp_Mo_bl3 G _ h8 σ9 m s4 dr i (S3 i).toNat S4 (dfU (drf S4 (i * 64)) E0 (S3 i).toNat) (drf S4 (i * 64)) acc bs f8 f33 (by omega) (by omega) hED hD rbs (by rw [hbs]; rcases brP_r (drf S4 (i * 64)) (S3 i).toNat with q | q; exact Or.inl q; exact Or.inr ⟨q.1, q.2.2⟩) ?_ (S3 i).toNat 0 0 h8 (by omega) (by unfold ntt; rw [if_neg (by omega)]) hm (by rw [ntF_0]; exact hs4) hdr Fm.rf
      have jm := hm
      have js1 := hs1
      have js2 := hs2
      have js3 := hs3
      have js4 := hs4
      have jk0 := hk0
      have jk1 := hk1
      have jk2 := hk2
      have jk3 := hk3
      have jk4 := hk4
      have jdr := hdr
      intro h15 t ht hm hs4 hdr fm2
      have hs1 := (fm2 _ (ninc (cne js1 js4 (by simp)) nin0)).trans js1
      have hs2 := (fm2 _ (ninc (cne js2 js4 (by simp)) nin0)).trans js2
      have hs3 := (fm2 _ (ninc (cne js3 js4 (by simp)) nin0)).trans js3
      have hk0 := (fm2 _ (ninc (cne jk0 js4 (by simp)) nin0)).trans jk0
      have hk1 := (fm2 _ (ninc (cne jk1 js4 (by simp)) nin0)).trans jk1
      have hk2 := (fm2 _ (ninc (cne jk2 js4 (by simp)) nin0)).trans jk2
      have hk3 := (fm2 _ (ninc (cne jk3 js4 (by simp)) nin0)).trans jk3
      have hk4 := (fm2 _ (ninc (cne jk4 js4 (by simp)) nin0)).trans jk4
      have fm := fm.call (by simp) fm2
      rw [hbs, ntt_l] at ht
      have h64 := ntl_64 (d := (drf S4 (i * 64))) (z := (S3 i).toNat) (by omega)
      refine ev_aload_n d_Mo_breakLines_271 rfl rfl ?_
      refine ev_getF d_Mo_breakLines_272 fl_Mo_27 hm (by decide) f7 ?_
      refine ev_iload_n d_Mo_breakLines_275 rfl rfl ?_
      refine ev_iload d_Mo_breakLines_276 rfl ?_
      refine ez_iastore (F' := zup S3 i (t : Int)) i d_Mo_breakLines_278 hs3 (by omega) (by omega) (by decide) rfl (fun h1 h1a h1o => ?_)
      have hm := (h1o _ (cne hm hs3 (by simp))).trans hm
      have hs1 := (h1o _ (cne hs1 hs3 (by simp))).trans hs1
      have hs2 := (h1o _ (cne hs2 hs3 (by simp))).trans hs2
      have hs4 := (h1o _ (cne hs4 hs3 (by simp))).trans hs4
      have hk0 := (h1o _ (cne hk0 hs3 (by simp))).trans hk0
      have hk1 := (h1o _ (cne hk1 hs3 (by simp))).trans hk1
      have hk2 := (h1o _ (cne hk2 hs3 (by simp))).trans hk2
      have hk3 := (h1o _ (cne hk3 hs3 (by simp))).trans hk3
      have hk4 := (h1o _ (cne hk4 hs3 (by simp))).trans hk4
      have hdr := (h1o _ (cne hdr hs3 (by simp))).trans hdr
      have hs3 := h1a
      have fm := fm.step (by simp) h1o
      refine ev_iload_n d_Mo_breakLines_279 rfl rfl ?_
      refine ev_bipush (v := iZ 28) d_Mo_breakLines_280 rfl ?_
      refine ez_icmp_le (tgt := 289) (by omega) (by decide) d_Mo_breakLines_282 rfl (fun c282 => ?_) (fun c282 => ?_)
      · refine ev_iconst (v := iZ 1) d_Mo_breakLines_289 rfl ?_
        exact ev_ireturn d_Mo_breakLines_290 rfl (by decide) (by decide) (⟨fun q => absurd q hnf, fun _ => ⟨by rw [if_pos (by omega)], ⟨σ9, hm, f9, f10, fs⟩, ⟨_, hs4, by rw [← hbs, ht, ← hbs]; exact ntF_R hD hB (by rw [hbs]; exact h64)⟩, by rw [← ht]; exact hs3, ⟨_, hdr⟩, hk0, hk1, hk2, hk3, hk4, fm⟩⟩)
      · refine ev_iconst (v := iZ 2) d_Mo_breakLines_285 rfl ?_
        refine ev_goto (tgt := 290) d_Mo_breakLines_286 rfl ?_
        exact ev_ireturn d_Mo_breakLines_290 rfl (by decide) (by decide) (⟨fun q => absurd q hnf, fun _ => ⟨by rw [if_neg (by omega)], ⟨σ9, hm, f9, f10, fs⟩, ⟨_, hs4, by rw [← hbs, ht, ← hbs]; exact ntF_R hD hB (by rw [hbs]; exact h64)⟩, by rw [← ht]; exact hs3, ⟨_, hdr⟩, hk0, hk1, hk2, hk3, hk4, fm⟩⟩)
    · refine ev_iload d_Mo_breakLines_166 rfl ?_
      refine ez_if_ge (tgt := 173) (by omega) d_Mo_breakLines_168 rfl (fun c168 => ?_) (fun c168 => ?_)
      · have hnf : ¬ (28 < cellsN (drf S4 (i * 64)) 0 (S3 i).toNat ∧ bestS (drf S4 (i * 64)) (S3 i).toNat (S3 i).toNat = -1) := fun q => absurd q.2 (by rw [hb2 (by omega)]; omega)
        refine ev_aload_n d_Mo_breakLines_173 rfl rfl ?_
        refine ev_callV M_Mo_keep (rm 0 0) _ (As := []) (c_Mo_keep G h5 σ m s1 s2 s3 s4 k0 k1 k2 k3 k4 n c bk S1 S2 S3 S4 K0 K1 K2 K3 K4 hm f4 f5 f6 f7 f8 f9 f10 f11 f12 f13 f14 f15 hs1 hs2 hs3 hs4 hk0 hk1 hk2 hk3 hk4 hc hbk n_s n_k) d_Mo_breakLines_174 mk_Mo_keep ml_Mo_176 mv_Mo_keep hm rfl rfl rfl (Nat.le_of_ble_eq_true rfl) ⟨by decide, by decide⟩ ⟨by decide, by decide⟩ (fun r h8 hq => ?_)
        obtain ⟨rfl, ⟨σ9, gm, g9, g10, gs⟩, gk0, gk1, gk2, gk3, gk4, fmk⟩ := hq
        have hs1 := (fmk _ (ninc (cne hs1 hm (by simp)) (ninc (cne hs1 hk0 (by simp)) (ninc (cne hs1 hk1 (by simp)) (ninc (cne hs1 hk2 (by simp)) (ninc (cne hs1 hk3 (by simp)) (ninc (cne hs1 hk4 (by simp)) nin0))))))).trans hs1
        have hs2 := (fmk _ (ninc (cne hs2 hm (by simp)) (ninc (cne hs2 hk0 (by simp)) (ninc (cne hs2 hk1 (by simp)) (ninc (cne hs2 hk2 (by simp)) (ninc (cne hs2 hk3 (by simp)) (ninc (cne hs2 hk4 (by simp)) nin0))))))).trans hs2
        have hs3 := (fmk _ (ninc (cne hs3 hm (by simp)) (ninc (cne hs3 hk0 (by simp)) (ninc (cne hs3 hk1 (by simp)) (ninc (cne hs3 hk2 (by simp)) (ninc (cne hs3 hk3 (by simp)) (ninc (cne hs3 hk4 (by simp)) nin0))))))).trans hs3
        have hs4 := (fmk _ (ninc (cne hs4 hm (by simp)) (ninc (cne hs4 hk0 (by simp)) (ninc (cne hs4 hk1 (by simp)) (ninc (cne hs4 hk2 (by simp)) (ninc (cne hs4 hk3 (by simp)) (ninc (cne hs4 hk4 (by simp)) nin0))))))).trans hs4
        have hdr := (fmk _ (ninc (cne hdr hm (by simp)) (ninc (cne hdr hk0 (by simp)) (ninc (cne hdr hk1 (by simp)) (ninc (cne hdr hk2 (by simp)) (ninc (cne hdr hk3 (by simp)) (ninc (cne hdr hk4 (by simp)) nin0))))))).trans hdr
        have hm := gm
        have hk0 := gk0
        have hk1 := gk1
        have hk2 := gk2
        have hk3 := gk3
        have hk4 := gk4
        have f4 := (gs 4 (by decide)).trans f4
        have f5 := (gs 5 (by decide)).trans f5
        have f6 := (gs 6 (by decide)).trans f6
        have f7 := (gs 7 (by decide)).trans f7
        have f8 := (gs 8 (by decide)).trans f8
        have f11 := (gs 11 (by decide)).trans f11
        have f12 := (gs 12 (by decide)).trans f12
        have f13 := (gs 13 (by decide)).trans f13
        have f14 := (gs 14 (by decide)).trans f14
        have f15 := (gs 15 (by decide)).trans f15
        have f33 := (gs 33 (by decide)).trans f33
        have f9 := g9
        have f10 := g10
        have fm := fm.call (by simp) fmk
        have fs := fs.call (by simp) gs
        refine ev_iconst (v := iZ 0) d_Mo_breakLines_177 rfl ?_
        refine ev_istore (L' := [(0, .ref m), (1, .int (iZ (i : Int))), (2, .int (iZ ((S3 i).toNat : Int))), (3, .int (iZ acc)), (4, .int (iZ bs)), (5, .int (iZ 0))]) d_Mo_breakLines_178 (by decide) rfl ?_
        refine ev_iconst (v := iZ 0) d_Mo_breakLines_180 rfl ?_
        refine ev_istore (L' := [(0, .ref m), (1, .int (iZ (i : Int))), (2, .int (iZ ((S3 i).toNat : Int))), (3, .int (iZ acc)), (4, .int (iZ bs)), (5, .int (iZ 0)), (6, .int (iZ 0))]) d_Mo_breakLines_181 (by decide) rfl ?_
        refine lp_Mo_bl3 G _ h8 σ9 m s4 dr i (S3 i).toNat S4 (dfU (drf S4 (i * 64)) E0 (S3 i).toNat) (drf S4 (i * 64)) acc bs f8 f33 (by omega) (by omega) hED hD rbs (by rw [hbs]; rcases brP_r (drf S4 (i * 64)) (S3 i).toNat with q | q; exact Or.inl q; exact Or.inr ⟨q.1, q.2.2⟩) ?_ (S3 i).toNat 0 0 h8 (by omega) (by unfold ntt; rw [if_neg (by omega)]) hm (by rw [ntF_0]; exact hs4) hdr Fm.rf
        have jm := hm
        have js1 := hs1
        have js2 := hs2
        have js3 := hs3
        have js4 := hs4
        have jk0 := hk0
        have jk1 := hk1
        have jk2 := hk2
        have jk3 := hk3
        have jk4 := hk4
        have jdr := hdr
        intro h15 t ht hm hs4 hdr fm2
        have hs1 := (fm2 _ (ninc (cne js1 js4 (by simp)) nin0)).trans js1
        have hs2 := (fm2 _ (ninc (cne js2 js4 (by simp)) nin0)).trans js2
        have hs3 := (fm2 _ (ninc (cne js3 js4 (by simp)) nin0)).trans js3
        have hk0 := (fm2 _ (ninc (cne jk0 js4 (by simp)) nin0)).trans jk0
        have hk1 := (fm2 _ (ninc (cne jk1 js4 (by simp)) nin0)).trans jk1
        have hk2 := (fm2 _ (ninc (cne jk2 js4 (by simp)) nin0)).trans jk2
        have hk3 := (fm2 _ (ninc (cne jk3 js4 (by simp)) nin0)).trans jk3
        have hk4 := (fm2 _ (ninc (cne jk4 js4 (by simp)) nin0)).trans jk4
        have fm := fm.call (by simp) fm2
        rw [hbs, ntt_l] at ht
        have h64 := ntl_64 (d := (drf S4 (i * 64))) (z := (S3 i).toNat) (by omega)
        refine ev_aload_n d_Mo_breakLines_271 rfl rfl ?_
        refine ev_getF d_Mo_breakLines_272 fl_Mo_27 hm (by decide) f7 ?_
        refine ev_iload_n d_Mo_breakLines_275 rfl rfl ?_
        refine ev_iload d_Mo_breakLines_276 rfl ?_
        refine ez_iastore (F' := zup S3 i (t : Int)) i d_Mo_breakLines_278 hs3 (by omega) (by omega) (by decide) rfl (fun h2 h2a h2o => ?_)
        have hm := (h2o _ (cne hm hs3 (by simp))).trans hm
        have hs1 := (h2o _ (cne hs1 hs3 (by simp))).trans hs1
        have hs2 := (h2o _ (cne hs2 hs3 (by simp))).trans hs2
        have hs4 := (h2o _ (cne hs4 hs3 (by simp))).trans hs4
        have hk0 := (h2o _ (cne hk0 hs3 (by simp))).trans hk0
        have hk1 := (h2o _ (cne hk1 hs3 (by simp))).trans hk1
        have hk2 := (h2o _ (cne hk2 hs3 (by simp))).trans hk2
        have hk3 := (h2o _ (cne hk3 hs3 (by simp))).trans hk3
        have hk4 := (h2o _ (cne hk4 hs3 (by simp))).trans hk4
        have hdr := (h2o _ (cne hdr hs3 (by simp))).trans hdr
        have hs3 := h2a
        have fm := fm.step (by simp) h2o
        refine ev_iload_n d_Mo_breakLines_279 rfl rfl ?_
        refine ev_bipush (v := iZ 28) d_Mo_breakLines_280 rfl ?_
        refine ez_icmp_le (tgt := 289) (by omega) (by decide) d_Mo_breakLines_282 rfl (fun c282 => ?_) (fun c282 => ?_)
        · refine ev_iconst (v := iZ 1) d_Mo_breakLines_289 rfl ?_
          exact ev_ireturn d_Mo_breakLines_290 rfl (by decide) (by decide) (⟨fun q => absurd q hnf, fun _ => ⟨by rw [if_pos (by omega)], ⟨σ9, hm, f9, f10, fs⟩, ⟨_, hs4, by rw [← hbs, ht, ← hbs]; exact ntF_R hD hB (by rw [hbs]; exact h64)⟩, by rw [← ht]; exact hs3, ⟨_, hdr⟩, hk0, hk1, hk2, hk3, hk4, fm⟩⟩)
        · refine ev_iconst (v := iZ 2) d_Mo_breakLines_285 rfl ?_
          refine ev_goto (tgt := 290) d_Mo_breakLines_286 rfl ?_
          exact ev_ireturn d_Mo_breakLines_290 rfl (by decide) (by decide) (⟨fun q => absurd q hnf, fun _ => ⟨by rw [if_neg (by omega)], ⟨σ9, hm, f9, f10, fs⟩, ⟨_, hs4, by rw [← hbs, ht, ← hbs]; exact ntF_R hD hB (by rw [hbs]; exact h64)⟩, by rw [← ht]; exact hs3, ⟨_, hdr⟩, hk0, hk1, hk2, hk3, hk4, fm⟩⟩)
      · refine ev_iconst (v := iZ (-1)) d_Mo_breakLines_171 rfl ?_
        exact ev_ireturn d_Mo_breakLines_172 rfl (by decide) (by decide) (⟨fun _ => ⟨rfl, ⟨_, hdr⟩, fm1⟩, fun q => absurd ⟨by omega, by rw [hb2 (by omega)]; rcases rbr with w | w <;> omega⟩ q⟩)
  · have z5 := hasZ_0 c5
    omega
