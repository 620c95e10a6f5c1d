theorem d_Mo_copy_0 : decode M_Mo_copy.2.1 0 = .ok (.aload_n 0, 1) := by decide +kernel
theorem d_Mo_copy_1 : decode M_Mo_copy.2.1 1 = .ok (.getfield 20, 3) := by decide +kernel
theorem d_Mo_copy_4 : decode M_Mo_copy.2.1 4 = .ok (.iload_n 2, 1) := by decide +kernel
theorem d_Mo_copy_5 : decode M_Mo_copy.2.1 5 = .ok (.aload_n 0, 1) := by decide +kernel
theorem d_Mo_copy_6 : decode M_Mo_copy.2.1 6 = .ok (.getfield 20, 3) := by decide +kernel
theorem d_Mo_copy_9 : decode M_Mo_copy.2.1 9 = .ok (.iload_n 1, 1) := by decide +kernel
theorem d_Mo_copy_10 : decode M_Mo_copy.2.1 10 = .ok (.laload, 1) := by decide +kernel
theorem d_Mo_copy_11 : decode M_Mo_copy.2.1 11 = .ok (.lastore, 1) := by decide +kernel
theorem d_Mo_copy_12 : decode M_Mo_copy.2.1 12 = .ok (.aload_n 0, 1) := by decide +kernel
theorem d_Mo_copy_13 : decode M_Mo_copy.2.1 13 = .ok (.getfield 24, 3) := by decide +kernel
theorem d_Mo_copy_16 : decode M_Mo_copy.2.1 16 = .ok (.iload_n 2, 1) := by decide +kernel
theorem d_Mo_copy_17 : decode M_Mo_copy.2.1 17 = .ok (.aload_n 0, 1) := by decide +kernel
theorem d_Mo_copy_18 : decode M_Mo_copy.2.1 18 = .ok (.getfield 24, 3) := by decide +kernel
theorem d_Mo_copy_21 : decode M_Mo_copy.2.1 21 = .ok (.iload_n 1, 1) := by decide +kernel
theorem d_Mo_copy_22 : decode M_Mo_copy.2.1 22 = .ok (.laload, 1) := by decide +kernel
theorem d_Mo_copy_23 : decode M_Mo_copy.2.1 23 = .ok (.lastore, 1) := by decide +kernel
theorem d_Mo_copy_24 : decode M_Mo_copy.2.1 24 = .ok (.aload_n 0, 1) := by decide +kernel
theorem d_Mo_copy_25 : decode M_Mo_copy.2.1 25 = .ok (.getfield 27, 3) := by decide +kernel
theorem d_Mo_copy_28 : decode M_Mo_copy.2.1 28 = .ok (.iload_n 2, 1) := by decide +kernel
theorem d_Mo_copy_29 : decode M_Mo_copy.2.1 29 = .ok (.aload_n 0, 1) := by decide +kernel
theorem d_Mo_copy_30 : decode M_Mo_copy.2.1 30 = .ok (.getfield 27, 3) := by decide +kernel
theorem d_Mo_copy_33 : decode M_Mo_copy.2.1 33 = .ok (.iload_n 1, 1) := by decide +kernel
theorem d_Mo_copy_34 : decode M_Mo_copy.2.1 34 = .ok (.iaload, 1) := by decide +kernel
theorem d_Mo_copy_35 : decode M_Mo_copy.2.1 35 = .ok (.iastore, 1) := by decide +kernel
theorem d_Mo_copy_36 : decode M_Mo_copy.2.1 36 = .ok (.iconst 0, 1) := by decide +kernel
theorem d_Mo_copy_37 : decode M_Mo_copy.2.1 37 = .ok (.istore_n 3, 1) := by decide +kernel
theorem d_Mo_copy_38 : decode M_Mo_copy.2.1 38 = .ok (.iload_n 3, 1) := by decide +kernel
theorem d_Mo_copy_39 : decode M_Mo_copy.2.1 39 = .ok (.bipush 64, 2) := by decide +kernel
theorem d_Mo_copy_41 : decode M_Mo_copy.2.1 41 = .ok (.if_icmp .ge 31, 3) := by decide +kernel
theorem d_Mo_copy_44 : decode M_Mo_copy.2.1 44 = .ok (.aload_n 0, 1) := by decide +kernel
theorem d_Mo_copy_45 : decode M_Mo_copy.2.1 45 = .ok (.getfield 30, 3) := by decide +kernel
theorem d_Mo_copy_48 : decode M_Mo_copy.2.1 48 = .ok (.bipush 64, 2) := by decide +kernel
theorem d_Mo_copy_50 : decode M_Mo_copy.2.1 50 = .ok (.iload_n 2, 1) := by decide +kernel
theorem d_Mo_copy_51 : decode M_Mo_copy.2.1 51 = .ok (.imul, 1) := by decide +kernel
theorem d_Mo_copy_52 : decode M_Mo_copy.2.1 52 = .ok (.iload_n 3, 1) := by decide +kernel
theorem d_Mo_copy_53 : decode M_Mo_copy.2.1 53 = .ok (.iadd, 1) := by decide +kernel
theorem d_Mo_copy_54 : decode M_Mo_copy.2.1 54 = .ok (.aload_n 0, 1) := by decide +kernel
theorem d_Mo_copy_55 : decode M_Mo_copy.2.1 55 = .ok (.getfield 30, 3) := by decide +kernel
theorem d_Mo_copy_58 : decode M_Mo_copy.2.1 58 = .ok (.bipush 64, 2) := by decide +kernel
theorem d_Mo_copy_60 : decode M_Mo_copy.2.1 60 = .ok (.iload_n 1, 1) := by decide +kernel
theorem d_Mo_copy_61 : decode M_Mo_copy.2.1 61 = .ok (.imul, 1) := by decide +kernel
theorem d_Mo_copy_62 : decode M_Mo_copy.2.1 62 = .ok (.iload_n 3, 1) := by decide +kernel
theorem d_Mo_copy_63 : decode M_Mo_copy.2.1 63 = .ok (.iadd, 1) := by decide +kernel
theorem d_Mo_copy_64 : decode M_Mo_copy.2.1 64 = .ok (.iaload, 1) := by decide +kernel
theorem d_Mo_copy_65 : decode M_Mo_copy.2.1 65 = .ok (.iastore, 1) := by decide +kernel
theorem d_Mo_copy_66 : decode M_Mo_copy.2.1 66 = .ok (.iinc 3 1, 3) := by decide +kernel
theorem d_Mo_copy_69 : decode M_Mo_copy.2.1 69 = .ok (.goto (-31), 3) := by decide +kernel
theorem d_Mo_copy_72 : decode M_Mo_copy.2.1 72 = .ok (.return_, 1) := by decide +kernel
theorem d_Mo_merge_0 : decode M_Mo_merge.2.1 0 = .ok (.aload_n 0, 1) := by decide +kernel
theorem d_Mo_merge_1 : decode M_Mo_merge.2.1 1 = .ok (.iload_n 1, 1) := by decide +kernel
theorem d_Mo_merge_2 : decode M_Mo_merge.2.1 2 = .ok (.invokevirtual 217, 3) := by decide +kernel
theorem d_Mo_merge_5 : decode M_Mo_merge.2.1 5 = .ok (.ifCond .eq 13, 3) := by decide +kernel
theorem d_Mo_merge_8 : decode M_Mo_merge.2.1 8 = .ok (.iload_n 1, 1) := by decide +kernel
theorem d_Mo_merge_9 : decode M_Mo_merge.2.1 9 = .ok (.iconst 1, 1) := by decide +kernel
theorem d_Mo_merge_10 : decode M_Mo_merge.2.1 10 = .ok (.iadd, 1) := by decide +kernel
theorem d_Mo_merge_11 : decode M_Mo_merge.2.1 11 = .ok (.aload_n 0, 1) := by decide +kernel
theorem d_Mo_merge_12 : decode M_Mo_merge.2.1 12 = .ok (.getfield 92, 3) := by decide +kernel
theorem d_Mo_merge_15 : decode M_Mo_merge.2.1 15 = .ok (.if_icmp .ne 6, 3) := by decide +kernel
theorem d_Mo_merge_18 : decode M_Mo_merge.2.1 18 = .ok (.bipush (-2), 2) := by decide +kernel
theorem d_Mo_merge_20 : decode M_Mo_merge.2.1 20 = .ok (.ireturn, 1) := by decide +kernel
theorem d_Mo_merge_21 : decode M_Mo_merge.2.1 21 = .ok (.aload_n 0, 1) := by decide +kernel
theorem d_Mo_merge_22 : decode M_Mo_merge.2.1 22 = .ok (.getfield 27, 3) := by decide +kernel
theorem d_Mo_merge_25 : decode M_Mo_merge.2.1 25 = .ok (.iload_n 1, 1) := by decide +kernel
theorem d_Mo_merge_26 : decode M_Mo_merge.2.1 26 = .ok (.iaload, 1) := by decide +kernel
theorem d_Mo_merge_27 : decode M_Mo_merge.2.1 27 = .ok (.iconst 1, 1) := by decide +kernel
theorem d_Mo_merge_28 : decode M_Mo_merge.2.1 28 = .ok (.iadd, 1) := by decide +kernel
theorem d_Mo_merge_29 : decode M_Mo_merge.2.1 29 = .ok (.aload_n 0, 1) := by decide +kernel
theorem d_Mo_merge_30 : decode M_Mo_merge.2.1 30 = .ok (.getfield 27, 3) := by decide +kernel
theorem d_Mo_merge_33 : decode M_Mo_merge.2.1 33 = .ok (.iload_n 1, 1) := by decide +kernel
theorem d_Mo_merge_34 : decode M_Mo_merge.2.1 34 = .ok (.iconst 1, 1) := by decide +kernel
theorem d_Mo_merge_35 : decode M_Mo_merge.2.1 35 = .ok (.iadd, 1) := by decide +kernel
theorem d_Mo_merge_36 : decode M_Mo_merge.2.1 36 = .ok (.iaload, 1) := by decide +kernel
theorem d_Mo_merge_37 : decode M_Mo_merge.2.1 37 = .ok (.iadd, 1) := by decide +kernel
theorem d_Mo_merge_38 : decode M_Mo_merge.2.1 38 = .ok (.bipush 64, 2) := by decide +kernel
theorem d_Mo_merge_40 : decode M_Mo_merge.2.1 40 = .ok (.if_icmp .le 6, 3) := by decide +kernel
theorem d_Mo_merge_43 : decode M_Mo_merge.2.1 43 = .ok (.bipush (-3), 2) := by decide +kernel
theorem d_Mo_merge_45 : decode M_Mo_merge.2.1 45 = .ok (.ireturn, 1) := by decide +kernel
theorem d_Mo_merge_46 : decode M_Mo_merge.2.1 46 = .ok (.aload_n 0, 1) := by decide +kernel
theorem d_Mo_merge_47 : decode M_Mo_merge.2.1 47 = .ok (.invokevirtual 176, 3) := by decide +kernel
theorem d_Mo_merge_50 : decode M_Mo_merge.2.1 50 = .ok (.aload_n 0, 1) := by decide +kernel
theorem d_Mo_merge_51 : decode M_Mo_merge.2.1 51 = .ok (.getfield 27, 3) := by decide +kernel
theorem d_Mo_merge_54 : decode M_Mo_merge.2.1 54 = .ok (.iload_n 1, 1) := by decide +kernel
theorem d_Mo_merge_55 : decode M_Mo_merge.2.1 55 = .ok (.iaload, 1) := by decide +kernel
theorem d_Mo_merge_56 : decode M_Mo_merge.2.1 56 = .ok (.istore_n 2, 1) := by decide +kernel
theorem d_Mo_merge_57 : decode M_Mo_merge.2.1 57 = .ok (.aload_n 0, 1) := by decide +kernel
theorem d_Mo_merge_58 : decode M_Mo_merge.2.1 58 = .ok (.getfield 30, 3) := by decide +kernel
theorem d_Mo_merge_61 : decode M_Mo_merge.2.1 61 = .ok (.bipush 64, 2) := by decide +kernel
theorem d_Mo_merge_63 : decode M_Mo_merge.2.1 63 = .ok (.iload_n 1, 1) := by decide +kernel
theorem d_Mo_merge_64 : decode M_Mo_merge.2.1 64 = .ok (.imul, 1) := by decide +kernel
theorem d_Mo_merge_65 : decode M_Mo_merge.2.1 65 = .ok (.iload_n 2, 1) := by decide +kernel
theorem d_Mo_merge_66 : decode M_Mo_merge.2.1 66 = .ok (.iadd, 1) := by decide +kernel
theorem d_Mo_merge_67 : decode M_Mo_merge.2.1 67 = .ok (.bipush 10, 2) := by decide +kernel
theorem d_Mo_merge_69 : decode M_Mo_merge.2.1 69 = .ok (.iastore, 1) := by decide +kernel
theorem d_Mo_merge_70 : decode M_Mo_merge.2.1 70 = .ok (.iconst 0, 1) := by decide +kernel
theorem d_Mo_merge_71 : decode M_Mo_merge.2.1 71 = .ok (.istore_n 3, 1) := by decide +kernel
theorem d_Mo_merge_72 : decode M_Mo_merge.2.1 72 = .ok (.iload_n 3, 1) := by decide +kernel
theorem d_Mo_merge_73 : decode M_Mo_merge.2.1 73 = .ok (.aload_n 0, 1) := by decide +kernel
theorem d_Mo_merge_74 : decode M_Mo_merge.2.1 74 = .ok (.getfield 27, 3) := by decide +kernel
theorem d_Mo_merge_77 : decode M_Mo_merge.2.1 77 = .ok (.iload_n 1, 1) := by decide +kernel
theorem d_Mo_merge_78 : decode M_Mo_merge.2.1 78 = .ok (.iconst 1, 1) := by decide +kernel
theorem d_Mo_merge_79 : decode M_Mo_merge.2.1 79 = .ok (.iadd, 1) := by decide +kernel
theorem d_Mo_merge_80 : decode M_Mo_merge.2.1 80 = .ok (.iaload, 1) := by decide +kernel
theorem d_Mo_merge_81 : decode M_Mo_merge.2.1 81 = .ok (.if_icmp .ge 38, 3) := by decide +kernel
theorem d_Mo_merge_84 : decode M_Mo_merge.2.1 84 = .ok (.aload_n 0, 1) := by decide +kernel
theorem d_Mo_merge_85 : decode M_Mo_merge.2.1 85 = .ok (.getfield 30, 3) := by decide +kernel
theorem d_Mo_merge_88 : decode M_Mo_merge.2.1 88 = .ok (.bipush 64, 2) := by decide +kernel
theorem d_Mo_merge_90 : decode M_Mo_merge.2.1 90 = .ok (.iload_n 1, 1) := by decide +kernel
theorem d_Mo_merge_91 : decode M_Mo_merge.2.1 91 = .ok (.imul, 1) := by decide +kernel
theorem d_Mo_merge_92 : decode M_Mo_merge.2.1 92 = .ok (.iload_n 2, 1) := by decide +kernel
theorem d_Mo_merge_93 : decode M_Mo_merge.2.1 93 = .ok (.iadd, 1) := by decide +kernel
theorem d_Mo_merge_94 : decode M_Mo_merge.2.1 94 = .ok (.iconst 1, 1) := by decide +kernel
theorem d_Mo_merge_95 : decode M_Mo_merge.2.1 95 = .ok (.iadd, 1) := by decide +kernel
theorem d_Mo_merge_96 : decode M_Mo_merge.2.1 96 = .ok (.iload_n 3, 1) := by decide +kernel
theorem d_Mo_merge_97 : decode M_Mo_merge.2.1 97 = .ok (.iadd, 1) := by decide +kernel
theorem d_Mo_merge_98 : decode M_Mo_merge.2.1 98 = .ok (.aload_n 0, 1) := by decide +kernel
theorem d_Mo_merge_99 : decode M_Mo_merge.2.1 99 = .ok (.getfield 30, 3) := by decide +kernel
theorem d_Mo_merge_102 : decode M_Mo_merge.2.1 102 = .ok (.bipush 64, 2) := by decide +kernel
theorem d_Mo_merge_104 : decode M_Mo_merge.2.1 104 = .ok (.iload_n 1, 1) := by decide +kernel
theorem d_Mo_merge_105 : decode M_Mo_merge.2.1 105 = .ok (.imul, 1) := by decide +kernel
theorem d_Mo_merge_106 : decode M_Mo_merge.2.1 106 = .ok (.bipush 64, 2) := by decide +kernel
theorem d_Mo_merge_108 : decode M_Mo_merge.2.1 108 = .ok (.iadd, 1) := by decide +kernel
theorem d_Mo_merge_109 : decode M_Mo_merge.2.1 109 = .ok (.iload_n 3, 1) := by decide +kernel
theorem d_Mo_merge_110 : decode M_Mo_merge.2.1 110 = .ok (.iadd, 1) := by decide +kernel
theorem d_Mo_merge_111 : decode M_Mo_merge.2.1 111 = .ok (.iaload, 1) := by decide +kernel
theorem d_Mo_merge_112 : decode M_Mo_merge.2.1 112 = .ok (.iastore, 1) := by decide +kernel
theorem d_Mo_merge_113 : decode M_Mo_merge.2.1 113 = .ok (.iinc 3 1, 3) := by decide +kernel
theorem d_Mo_merge_116 : decode M_Mo_merge.2.1 116 = .ok (.goto (-44), 3) := by decide +kernel
theorem d_Mo_merge_119 : decode M_Mo_merge.2.1 119 = .ok (.aload_n 0, 1) := by decide +kernel
theorem d_Mo_merge_120 : decode M_Mo_merge.2.1 120 = .ok (.getfield 27, 3) := by decide +kernel
theorem d_Mo_merge_123 : decode M_Mo_merge.2.1 123 = .ok (.iload_n 1, 1) := by decide +kernel
theorem d_Mo_merge_124 : decode M_Mo_merge.2.1 124 = .ok (.iload_n 2, 1) := by decide +kernel
theorem d_Mo_merge_125 : decode M_Mo_merge.2.1 125 = .ok (.iconst 1, 1) := by decide +kernel
theorem d_Mo_merge_126 : decode M_Mo_merge.2.1 126 = .ok (.iadd, 1) := by decide +kernel
theorem d_Mo_merge_127 : decode M_Mo_merge.2.1 127 = .ok (.aload_n 0, 1) := by decide +kernel
theorem d_Mo_merge_128 : decode M_Mo_merge.2.1 128 = .ok (.getfield 27, 3) := by decide +kernel
theorem d_Mo_merge_131 : decode M_Mo_merge.2.1 131 = .ok (.iload_n 1, 1) := by decide +kernel
theorem d_Mo_merge_132 : decode M_Mo_merge.2.1 132 = .ok (.iconst 1, 1) := by decide +kernel
theorem d_Mo_merge_133 : decode M_Mo_merge.2.1 133 = .ok (.iadd, 1) := by decide +kernel
theorem d_Mo_merge_134 : decode M_Mo_merge.2.1 134 = .ok (.iaload, 1) := by decide +kernel
theorem d_Mo_merge_135 : decode M_Mo_merge.2.1 135 = .ok (.iadd, 1) := by decide +kernel
theorem d_Mo_merge_136 : decode M_Mo_merge.2.1 136 = .ok (.iastore, 1) := by decide +kernel
theorem d_Mo_merge_137 : decode M_Mo_merge.2.1 137 = .ok (.aload_n 0, 1) := by decide +kernel
theorem d_Mo_merge_138 : decode M_Mo_merge.2.1 138 = .ok (.getfield 24, 3) := by decide +kernel
theorem d_Mo_merge_141 : decode M_Mo_merge.2.1 141 = .ok (.iload_n 1, 1) := by decide +kernel
theorem d_Mo_merge_142 : decode M_Mo_merge.2.1 142 = .ok (.aload_n 0, 1) := by decide +kernel
theorem d_Mo_merge_143 : decode M_Mo_merge.2.1 143 = .ok (.getfield 24, 3) := by decide +kernel
theorem d_Mo_merge_146 : decode M_Mo_merge.2.1 146 = .ok (.iload_n 1, 1) := by decide +kernel
theorem d_Mo_merge_147 : decode M_Mo_merge.2.1 147 = .ok (.laload, 1) := by decide +kernel
theorem d_Mo_merge_148 : decode M_Mo_merge.2.1 148 = .ok (.aload_n 0, 1) := by decide +kernel
theorem d_Mo_merge_149 : decode M_Mo_merge.2.1 149 = .ok (.getfield 24, 3) := by decide +kernel
theorem d_Mo_merge_152 : decode M_Mo_merge.2.1 152 = .ok (.iload_n 1, 1) := by decide +kernel
theorem d_Mo_merge_153 : decode M_Mo_merge.2.1 153 = .ok (.iconst 1, 1) := by decide +kernel
theorem d_Mo_merge_154 : decode M_Mo_merge.2.1 154 = .ok (.iadd, 1) := by decide +kernel
theorem d_Mo_merge_155 : decode M_Mo_merge.2.1 155 = .ok (.laload, 1) := by decide +kernel
theorem d_Mo_merge_156 : decode M_Mo_merge.2.1 156 = .ok (.lcmp, 1) := by decide +kernel
theorem d_Mo_merge_157 : decode M_Mo_merge.2.1 157 = .ok (.ifCond .le 12, 3) := by decide +kernel
theorem d_Mo_merge_160 : decode M_Mo_merge.2.1 160 = .ok (.aload_n 0, 1) := by decide +kernel
theorem d_Mo_merge_161 : decode M_Mo_merge.2.1 161 = .ok (.getfield 24, 3) := by decide +kernel
theorem d_Mo_merge_164 : decode M_Mo_merge.2.1 164 = .ok (.iload_n 1, 1) := by decide +kernel
theorem d_Mo_merge_165 : decode M_Mo_merge.2.1 165 = .ok (.laload, 1) := by decide +kernel
theorem d_Mo_merge_166 : decode M_Mo_merge.2.1 166 = .ok (.goto 11, 3) := by decide +kernel
theorem d_Mo_merge_169 : decode M_Mo_merge.2.1 169 = .ok (.aload_n 0, 1) := by decide +kernel
theorem d_Mo_merge_170 : decode M_Mo_merge.2.1 170 = .ok (.getfield 24, 3) := by decide +kernel
theorem d_Mo_merge_173 : decode M_Mo_merge.2.1 173 = .ok (.iload_n 1, 1) := by decide +kernel
theorem d_Mo_merge_174 : decode M_Mo_merge.2.1 174 = .ok (.iconst 1, 1) := by decide +kernel
theorem d_Mo_merge_175 : decode M_Mo_merge.2.1 175 = .ok (.iadd, 1) := by decide +kernel
theorem d_Mo_merge_176 : decode M_Mo_merge.2.1 176 = .ok (.laload, 1) := by decide +kernel
theorem d_Mo_merge_177 : decode M_Mo_merge.2.1 177 = .ok (.lastore, 1) := by decide +kernel
theorem d_Mo_merge_178 : decode M_Mo_merge.2.1 178 = .ok (.iload_n 1, 1) := by decide +kernel
theorem d_Mo_merge_179 : decode M_Mo_merge.2.1 179 = .ok (.iconst 1, 1) := by decide +kernel
theorem d_Mo_merge_180 : decode M_Mo_merge.2.1 180 = .ok (.iadd, 1) := by decide +kernel
theorem d_Mo_merge_181 : decode M_Mo_merge.2.1 181 = .ok (.istore_n 3, 1) := by decide +kernel
theorem d_Mo_merge_182 : decode M_Mo_merge.2.1 182 = .ok (.iload_n 3, 1) := by decide +kernel
theorem d_Mo_merge_183 : decode M_Mo_merge.2.1 183 = .ok (.iconst 1, 1) := by decide +kernel
theorem d_Mo_merge_184 : decode M_Mo_merge.2.1 184 = .ok (.iadd, 1) := by decide +kernel
theorem d_Mo_merge_185 : decode M_Mo_merge.2.1 185 = .ok (.aload_n 0, 1) := by decide +kernel
theorem d_Mo_merge_186 : decode M_Mo_merge.2.1 186 = .ok (.getfield 92, 3) := by decide +kernel
theorem d_Mo_merge_189 : decode M_Mo_merge.2.1 189 = .ok (.if_icmp .ge 17, 3) := by decide +kernel
theorem d_Mo_merge_192 : decode M_Mo_merge.2.1 192 = .ok (.aload_n 0, 1) := by decide +kernel
theorem d_Mo_merge_193 : decode M_Mo_merge.2.1 193 = .ok (.iload_n 3, 1) := by decide +kernel
theorem d_Mo_merge_194 : decode M_Mo_merge.2.1 194 = .ok (.iconst 1, 1) := by decide +kernel
theorem d_Mo_merge_195 : decode M_Mo_merge.2.1 195 = .ok (.iadd, 1) := by decide +kernel
theorem d_Mo_merge_196 : decode M_Mo_merge.2.1 196 = .ok (.iload_n 3, 1) := by decide +kernel
theorem d_Mo_merge_197 : decode M_Mo_merge.2.1 197 = .ok (.invokevirtual 275, 3) := by decide +kernel
theorem d_Mo_merge_200 : decode M_Mo_merge.2.1 200 = .ok (.iinc 3 1, 3) := by decide +kernel
theorem d_Mo_merge_203 : decode M_Mo_merge.2.1 203 = .ok (.goto (-21), 3) := by decide +kernel
theorem d_Mo_merge_206 : decode M_Mo_merge.2.1 206 = .ok (.aload_n 0, 1) := by decide +kernel
theorem d_Mo_merge_207 : decode M_Mo_merge.2.1 207 = .ok (.dup, 1) := by decide +kernel
theorem d_Mo_merge_208 : decode M_Mo_merge.2.1 208 = .ok (.getfield 92, 3) := by decide +kernel
theorem d_Mo_merge_211 : decode M_Mo_merge.2.1 211 = .ok (.iconst 1, 1) := by decide +kernel
theorem d_Mo_merge_212 : decode M_Mo_merge.2.1 212 = .ok (.isub, 1) := by decide +kernel
theorem d_Mo_merge_213 : decode M_Mo_merge.2.1 213 = .ok (.putfield 92, 3) := by decide +kernel
theorem d_Mo_merge_216 : decode M_Mo_merge.2.1 216 = .ok (.aload_n 0, 1) := by decide +kernel
theorem d_Mo_merge_217 : decode M_Mo_merge.2.1 217 = .ok (.getfield 92, 3) := by decide +kernel
theorem d_Mo_merge_220 : decode M_Mo_merge.2.1 220 = .ok (.ireturn, 1) := by decide +kernel
theorem cpy_i {F K : Nat → Int} {sp dp m k : Nat} : va_cpy F K sp dp m k = if dp ≤ k ∧ k < dp + m then F (sp + (k - dp)) else K k := rfl
theorem cpy_ss {F : Nat → Int} {sp dp j p q : Nat} (hp : p = sp + j) (hq : q = dp + j) (ho : ¬ (dp ≤ sp + j ∧ sp + j < dp + j)) : zup (va_cpy F F sp dp j) q (va_cpy F F sp dp j p) = va_cpy F F sp dp (j + 1) := by
  subst hp hq
  rw [← cpy_up]
  congr 1
  rw [cpy_i, if_neg ho]
theorem cpy_bl {F : Nat → Int} {b m p q : Nat} (hp : p = b + 1 + m) (hq : q = b + m) : va_cpy (va_cpy F F (64 * (b + 1)) (64 * b) (64 * m)) (va_cpy F F (64 * (b + 1)) (64 * b) (64 * m)) (64 * p) (64 * q) 64 = va_cpy F F (64 * (b + 1)) (64 * b) (64 * (m + 1)) := by
  subst hp hq
  funext k
  simp only [cpy_i]
  by_cases h1 : 64 * (b + m) ≤ k ∧ k < 64 * (b + m) + 64
  · rw [if_pos h1, if_neg (by omega), if_pos (by omega)]
    congr 1; omega
  · rw [if_neg h1]
    by_cases h2 : 64 * b ≤ k ∧ k < 64 * b + 64 * m
    · rw [if_pos h2, if_pos (by omega)]
    · rw [if_neg h2, if_neg (by omega)]
/-- the row with cue i and the next joined -/
def jnC (c : Cu) (i : Nat) : Cu :=
  let u := (c.2.2.2.1 i).toNat
  let v := (c.2.2.2.1 (i + 1)).toNat
  let Z := zup c.2.2.2.2 (i * 64 + u) 10
  let X := va_cpy Z Z ((i + 1) * 64) (i * 64 + u + 1) v
  let T2 := zup c.2.2.1 i (max (c.2.2.1 i) (c.2.2.1 (i + 1)))
  let T3 := zup c.2.2.2.1 i (c.2.2.2.1 i + (1 + c.2.2.2.1 (i + 1)))
  (c.1 - 1, va_cpy c.2.1 c.2.1 (i + 2) (i + 1) (c.1 - (i + 2)), va_cpy T2 T2 (i + 2) (i + 1) (c.1 - (i + 2)), va_cpy T3 T3 (i + 2) (i + 1) (c.1 - (i + 2)), va_cpy X X ((i + 2) * 64) ((i + 1) * 64) ((c.1 - (i + 2)) * 64))
set_option maxHeartbeats 4000000 in
set_option maxRecDepth 100000 in
theorem lp_Mo_copy (G : GT) (Q : Option Value → HM → Prop) (h0 : HM) (a b : Nat) (hab : a ≠ b) (ha : a < 16) (hb : b < 16) (σ : Nat → Value) (m s4 : Nat) (S4 : Nat → Int) (f8 : σ 8 = .ref s4) (kk : ∀ h (j : Nat), j = 64 → h s4 = some (.inl (G_i G, 1024, .inl (iA (va_cpy S4 S4 (64 * a) (64 * b) j)))) → Fm [s4] h0 h → Q none h) : ∀ (d : Nat) (j : Nat) (h : HM), j + d = 64 → h m = some (.inr (11, fsN 34 σ)) → h s4 = some (.inl (G_i G, 1024, .inl (iA (va_cpy S4 S4 (64 * a) (64 * b) j)))) → Fm [s4] h0 h → Ev G M_Mo_copy (rm 0 0) (Q) 38 [(0, .ref m), (1, .int (iZ (a : Int))), (2, .int (iZ (b : Int))), (3, .int (iZ (j : Int)))] [] h 0 0 := by
  intro d
  induction d using Nat.strongRecOn with
  | ind d ih =>
  intro j h hd hm hs4 fm
  refine ev_iload_n d_Mo_copy_38 rfl rfl ?_
  refine ev_bipush (v := iZ 64) d_Mo_copy_39 rfl ?_
  refine ez_icmp_ge (tgt := 72) (by omega) (by decide) d_Mo_copy_41 rfl (fun c41 => ?_) (fun c41 => ?_)
  · exact ev_return d_Mo_copy_72 rfl (by decide) (by decide) (kk h j (by omega) hs4 fm)
  · refine ev_aload_n d_Mo_copy_44 rfl rfl ?_
    refine ev_getF d_Mo_copy_45 fl_Mo_30 hm (by decide) f8 ?_
    refine ev_bipush (v := iZ 64) d_Mo_copy_48 rfl ?_
    refine ev_iload_n d_Mo_copy_50 rfl rfl ?_
    refine ez_imul d_Mo_copy_51 ?_
    refine ev_iload_n d_Mo_copy_52 rfl rfl ?_
    refine ez_iadd d_Mo_copy_53 ?_
    refine ev_aload_n d_Mo_copy_54 rfl rfl ?_
    refine ev_getF d_Mo_copy_55 fl_Mo_30 hm (by decide) f8 ?_
    refine ev_bipush (v := iZ 64) d_Mo_copy_58 rfl ?_
    refine ev_iload_n d_Mo_copy_60 rfl rfl ?_
    refine ez_imul d_Mo_copy_61 ?_
    refine ev_iload_n d_Mo_copy_62 rfl rfl ?_
    refine ez_iadd d_Mo_copy_63 ?_
    refine ez_iaload ((64 * a) + j) d_Mo_copy_64 hs4 (by omega) (by omega) (by decide) ?_
    refine ez_iastore (F' := zup (va_cpy S4 S4 (64 * a) (64 * b) j) ((64 * b) + j) ((va_cpy S4 S4 (64 * a) (64 * b) j) ((64 * a) + j))) ((64 * b) + j) d_Mo_copy_65 hs4 (by omega) (by omega) (by decide) rfl (fun h1 h1a h1o => ?_)
    have hm := (h1o _ (cne hm hs4 (by simp))).trans hm
    have hs4 := h1a
    have fm := fm.step (by simp) h1o
    refine ez_iinc (L' := [(0, .ref m), (1, .int (iZ (a : Int))), (2, .int (iZ (b : Int))), (3, .int (iZ ((j + 1 : Nat) : Int)))]) d_Mo_copy_66 rfl (by decide) rfl ?_
    refine ev_goto (tgt := 38) d_Mo_copy_69 rfl ?_
    exact ih (d - 1) (by omega) (j + 1) h1 (by omega) hm (by rw [← cpy_ss rfl rfl (by omega)]; exact hs4) fm
set_option maxHeartbeats 4000000 in
set_option maxRecDepth 100000 in
theorem c_Mo_copy (G : GT) (h : HM) (a b : Nat) (σ : Nat → Value) (m s1 s2 s3 s4 : Nat) (S1 S2 S3 S4 : Nat → Int) (hm : h m = some (.inr (11, fsN 34 σ))) (f5 : σ 5 = .ref s1) (f6 : σ 6 = .ref s2) (f7 : σ 7 = .ref s3) (f8 : σ 8 = .ref s4) (hs1 : h s1 = some (.inl (G_j G, 16, .inr (.inl (lA S1))))) (hs2 : h s2 = some (.inl (G_j G, 16, .inr (.inl (lA S2))))) (hs3 : h s3 = some (.inl (G_i G, 16, .inl (iA S3)))) (hs4 : h s4 = some (.inl (G_i G, 1024, .inl (iA S4)))) (hab : a ≠ b) (ha : a < 16) (hb : b < 16) (n_s : s1 ≠ s2) : Rn G M_Mo_copy (rm 0 0) [.ref m, .int (iZ (a : Int)), .int (iZ (b : Int))] h (fun r h' => r = none ∧ h' s1 = some (.inl (G_j G, 16, .inr (.inl (lA (zup S1 b (S1 a)))))) ∧ h' s2 = some (.inl (G_j G, 16, .inr (.inl (lA (zup S2 b (S2 a)))))) ∧ h' s3 = some (.inl (G_i G, 16, .inl (iA (zup S3 b (S3 a))))) ∧ h' s4 = some (.inl (G_i G, 1024, .inl (iA (va_cpy S4 S4 (64 * a) (64 * b) 64)))) ∧ Fm [s1, s2, s3, s4] h h') := by
  refine rn_of (by decide) (Nat.le_of_ble_eq_true rfl) ?_
  show Ev G M_Mo_copy _ _ 0 [(0, .ref m), (1, .int (iZ (a : Int))), (2, .int (iZ (b : Int)))] [] _ 0 0
  have fm : Fm [s1, s2, s3, s4] h h := Fm.rf
  refine ev_aload_n d_Mo_copy_0 rfl rfl ?_
  refine ev_getF d_Mo_copy_1 fl_Mo_20 hm (by decide) f5 ?_
  refine ev_iload_n d_Mo_copy_4 rfl rfl ?_
  refine ev_aload_n d_Mo_copy_5 rfl rfl ?_
  refine ev_getF d_Mo_copy_6 fl_Mo_20 hm (by decide) f5 ?_
  refine ev_iload_n d_Mo_copy_9 rfl rfl ?_
  refine ez_laload a d_Mo_copy_10 hs1 (by omega) (by omega) (by decide) ?_
  refine ez_lastore (F' := zup S1 b (S1 a)) b d_Mo_copy_11 hs1 (by omega) (by omega) (by decide) rfl (fun h1 h1a h1o => ?_)
  have hm := (h1o _ (cne hm hs1 (by simp))).trans hm
  have hs2 := (h1o _ (Ne.symm n_s)).trans hs2
  have hs3 := (h1o _ (cne hs3 hs1 (by simp))).trans hs3
  have hs4 := (h1o _ (cne hs4 hs1 (by simp))).trans hs4
  have hs1 := h1a
  have fm := fm.step (by simp) h1o
  refine ev_aload_n d_Mo_copy_12 rfl rfl ?_
  refine ev_getF d_Mo_copy_13 fl_Mo_24 hm (by decide) f6 ?_
  refine ev_iload_n d_Mo_copy_16 rfl rfl ?_
  refine ev_aload_n d_Mo_copy_17 rfl rfl ?_
  refine ev_getF d_Mo_copy_18 fl_Mo_24 hm (by decide) f6 ?_
  refine ev_iload_n d_Mo_copy_21 rfl rfl ?_
  refine ez_laload a d_Mo_copy_22 hs2 (by omega) (by omega) (by decide) ?_
  refine ez_lastore (F' := zup S2 b (S2 a)) b d_Mo_copy_23 hs2 (by omega) (by omega) (by decide) rfl (fun h2 h2a h2o => ?_)
  have hm := (h2o _ (cne hm hs2 (by simp))).trans hm
  have hs1 := (h2o _ n_s).trans hs1
  have hs3 := (h2o _ (cne hs3 hs2 (by simp))).trans hs3
  have hs4 := (h2o _ (cne hs4 hs2 (by simp))).trans hs4
  have hs2 := h2a
  have fm := fm.step (by simp) h2o
  refine ev_aload_n d_Mo_copy_24 rfl rfl ?_
  refine ev_getF d_Mo_copy_25 fl_Mo_27 hm (by decide) f7 ?_
  refine ev_iload_n d_Mo_copy_28 rfl rfl ?_
  refine ev_aload_n d_Mo_copy_29 rfl rfl ?_
  refine ev_getF d_Mo_copy_30 fl_Mo_27 hm (by decide) f7 ?_
  refine ev_iload_n d_Mo_copy_33 rfl rfl ?_
  refine ez_iaload a d_Mo_copy_34 hs3 (by omega) (by omega) (by decide) ?_
  refine ez_iastore (F' := zup S3 b (S3 a)) b d_Mo_copy_35 hs3 (by omega) (by omega) (by decide) rfl (fun h3 h3a h3o => ?_)
  have hm := (h3o _ (cne hm hs3 (by simp))).trans hm
  have hs1 := (h3o _ (cne hs1 hs3 (by simp))).trans hs1
  have hs2 := (h3o _ (cne hs2 hs3 (by simp))).trans hs2
  have hs4 := (h3o _ (cne hs4 hs3 (by simp))).trans hs4
  have hs3 := h3a
  have fm := fm.step (by simp) h3o
  refine ev_iconst (v := iZ 0) d_Mo_copy_36 rfl ?_
  refine ev_istore_n (L' := [(0, .ref m), (1, .int (iZ (a : Int))), (2, .int (iZ (b : Int))), (3, .int (iZ 0))]) d_Mo_copy_37 rfl (by decide) rfl ?_
  refine lp_Mo_copy G _ h3 a b hab ha hb σ m s4 S4 f8 ?_ 64 0 h3 (by omega) hm (by rw [cpy_z]; exact hs4) Fm.rf
  rintro h9 j rfl gs4 fm2
  have gs1 := (fm2 _ (ninc (cne hs1 hs4 (by simp)) nin0)).trans hs1
  have gs2 := (fm2 _ (ninc (cne hs2 hs4 (by simp)) nin0)).trans hs2
  have gs3 := (fm2 _ (ninc (cne hs3 hs4 (by simp)) nin0)).trans hs3
  exact ⟨rfl, gs1, gs2, gs3, gs4, fm.call (by simp) fm2⟩
set_option maxHeartbeats 4000000 in
set_option maxRecDepth 100000 in
theorem lp_Mo_mg1 (G : GT) (Q : Option Value → HM → Prop) (h0 : HM) (i u v : Nat) (hi : i + 1 < 16) (huv : u + 1 + v ≤ 64) (σ : Nat → Value) (m s3 s4 : Nat) (S3 Z : Nat → Int) (f7 : σ 7 = .ref s3) (f8 : σ 8 = .ref s4) (hv : S3 (i + 1) = (v : Int)) (kk : ∀ h (j : Nat), j = v → h m = some (.inr (11, fsN 34 σ)) → h s3 = some (.inl (G_i G, 16, .inl (iA S3))) → h s4 = some (.inl (G_i G, 1024, .inl (iA (va_cpy Z Z (64 * i + 64) (64 * i + u + 1) j)))) → Fm [s4] h0 h → Ev G M_Mo_merge (rm 1 30) Q 119 [(0, .ref m), (1, .int (iZ (i : Int))), (2, .int (iZ (u : Int))), (3, .int (iZ (j : Int)))] [] h 0 0) : ∀ (d : Nat) (j : Nat) (h : HM), j + d = v → h m = some (.inr (11, fsN 34 σ)) → h s3 = some (.inl (G_i G, 16, .inl (iA S3))) → h s4 = some (.inl (G_i G, 1024, .inl (iA (va_cpy Z Z (64 * i + 64) (64 * i + u + 1) j)))) → Fm [s4] h0 h → Ev G M_Mo_merge (rm 1 30) (Q) 72 [(0, .ref m), (1, .int (iZ (i : Int))), (2, .int (iZ (u : Int))), (3, .int (iZ (j : Int)))] [] h 0 0 := by
  intro d
  induction d using Nat.strongRecOn with
  | ind d ih =>
  intro j h hd hm hs3 hs4 fm
  refine ev_iload_n d_Mo_merge_72 rfl rfl ?_
  refine ev_aload_n d_Mo_merge_73 rfl rfl ?_
  refine ev_getF d_Mo_merge_74 fl_Mo_27 hm (by decide) f7 ?_
  refine ev_iload_n d_Mo_merge_77 rfl rfl ?_
  refine ev_iconst (v := iZ 1) d_Mo_merge_78 rfl ?_
  refine ez_iadd d_Mo_merge_79 ?_
  refine ez_iaload (i + 1) d_Mo_merge_80 hs3 (by omega) (by omega) (by decide) ?_
  refine ez_icmp_ge (tgt := 119) (by omega) (by omega) d_Mo_merge_81 rfl (fun c81 => ?_) (fun c81 => ?_)
  · exact kk h j (by omega) hm hs3 hs4 fm
  · refine ev_aload_n d_Mo_merge_84 rfl rfl ?_
    refine ev_getF d_Mo_merge_85 fl_Mo_30 hm (by decide) f8 ?_
    refine ev_bipush (v := iZ 64) d_Mo_merge_88 rfl ?_
    refine ev_iload_n d_Mo_merge_90 rfl rfl ?_
    refine ez_imul d_Mo_merge_91 ?_
    refine ev_iload_n d_Mo_merge_92 rfl rfl ?_
    refine ez_iadd d_Mo_merge_93 ?_
    refine ev_iconst (v := iZ 1) d_Mo_merge_94 rfl ?_
    refine ez_iadd d_Mo_merge_95 ?_
    refine ev_iload_n d_Mo_merge_96 rfl rfl ?_
    refine ez_iadd d_Mo_merge_97 ?_
    refine ev_aload_n d_Mo_merge_98 rfl rfl ?_
    refine ev_getF d_Mo_merge_99 fl_Mo_30 hm (by decide) f8 ?_
    refine ev_bipush (v := iZ 64) d_Mo_merge_102 rfl ?_
    refine ev_iload_n d_Mo_merge_104 rfl rfl ?_
    refine ez_imul d_Mo_merge_105 ?_
    refine ev_bipush (v := iZ 64) d_Mo_merge_106 rfl ?_
    refine ez_iadd d_Mo_merge_108 ?_
    refine ev_iload_n d_Mo_merge_109 rfl rfl ?_
    refine ez_iadd d_Mo_merge_110 ?_
    refine ez_iaload (64 * i + 64 + j) d_Mo_merge_111 hs4 (by omega) (by omega) (by decide) ?_
    refine ez_iastore (F' := zup (va_cpy Z Z (64 * i + 64) (64 * i + u + 1) j) (64 * i + u + 1 + j) ((va_cpy Z Z (64 * i + 64) (64 * i + u + 1) j) (64 * i + 64 + j))) (64 * i + u + 1 + j) d_Mo_merge_112 hs4 (by omega) (by omega) (by decide) rfl (fun h1 h1a h1o => ?_)
    have hm := (h1o _ (cne hm hs4 (by simp))).trans hm
    have hs3 := (h1o _ (cne hs3 hs4 (by simp))).trans hs3
    have hs4 := h1a
    have fm := fm.step (by simp) h1o
    refine ez_iinc (L' := [(0, .ref m), (1, .int (iZ (i : Int))), (2, .int (iZ (u : Int))), (3, .int (iZ ((j + 1 : Nat) : Int)))]) d_Mo_merge_113 rfl (by decide) rfl ?_
    refine ev_goto (tgt := 72) d_Mo_merge_116 rfl ?_
    exact ih (d - 1) (by omega) (j + 1) h1 (by omega) hm hs3 (by rw [← cpy_ss rfl rfl (by omega)]; exact hs4) fm
set_option maxHeartbeats 4000000 in
set_option maxRecDepth 100000 in
theorem lp_Mo_mg2 (G : GT) (Q : Option Value → HM → Prop) (h0 : HM) (i u n : Nat) (hi : i + 1 < n) (hn : n ≤ 16) (σ : Nat → Value) (m s1 s2 s3 s4 : Nat) (S1 S2 S3 S4 : Nat → Int) (f4 : σ 4 = .int (iZ (n : Int))) (f5 : σ 5 = .ref s1) (f6 : σ 6 = .ref s2) (f7 : σ 7 = .ref s3) (f8 : σ 8 = .ref s4) (n_s : s1 ≠ s2) (kk : ∀ h (j : Nat), j = n - (i + 2) → h m = some (.inr (11, fsN 34 σ)) → h s1 = some (.inl (G_j G, 16, .inr (.inl (lA (va_cpy S1 S1 (i + 2) (i + 1) j))))) → h s2 = some (.inl (G_j G, 16, .inr (.inl (lA (va_cpy S2 S2 (i + 2) (i + 1) j))))) → h s3 = some (.inl (G_i G, 16, .inl (iA (va_cpy S3 S3 (i + 2) (i + 1) j)))) → h s4 = some (.inl (G_i G, 1024, .inl (iA (va_cpy S4 S4 (64 * (i + 1 + 1)) (64 * (i + 1)) (64 * j))))) → Fm [s1, s2, s3, s4] h0 h → Ev G M_Mo_merge (rm 1 30) Q 206 [(0, .ref m), (1, .int (iZ (i : Int))), (2, .int (iZ (u : Int))), (3, .int (iZ ((i + 1 + j : Nat) : Int)))] [] h 0 0) : ∀ (d : Nat) (j : Nat) (h : HM), i + 2 + j + d = n → h m = some (.inr (11, fsN 34 σ)) → h s1 = some (.inl (G_j G, 16, .inr (.inl (lA (va_cpy S1 S1 (i + 2) (i + 1) j))))) → h s2 = some (.inl (G_j G, 16, .inr (.inl (lA (va_cpy S2 S2 (i + 2) (i + 1) j))))) → h s3 = some (.inl (G_i G, 16, .inl (iA (va_cpy S3 S3 (i + 2) (i + 1) j)))) → h s4 = some (.inl (G_i G, 1024, .inl (iA (va_cpy S4 S4 (64 * (i + 1 + 1)) (64 * (i + 1)) (64 * j))))) → Fm [s1, s2, s3, s4] h0 h → Ev G M_Mo_merge (rm 1 30) (Q) 182 [(0, .ref m), (1, .int (iZ (i : Int))), (2, .int (iZ (u : Int))), (3, .int (iZ ((i + 1 + j : Nat) : Int)))] [] h 0 0 := by
  intro d
  induction d using Nat.strongRecOn with
  | ind d ih =>
  intro j h hd hm hs1 hs2 hs3 hs4 fm
  refine ev_iload_n d_Mo_merge_182 rfl rfl ?_
  refine ev_iconst (v := iZ 1) d_Mo_merge_183 rfl ?_
  refine ez_iadd d_Mo_merge_184 ?_
  refine ev_aload_n d_Mo_merge_185 rfl rfl ?_
  refine ev_getF d_Mo_merge_186 fl_Mo_92 hm (by decide) f4 ?_
  refine ez_icmp_ge (tgt := 206) (by omega) (by omega) d_Mo_merge_189 rfl (fun c189 => ?_) (fun c189 => ?_)
  · exact kk h j (by omega) hm hs1 hs2 hs3 hs4 fm
  · refine ev_aload_n d_Mo_merge_192 rfl rfl ?_
    refine ev_iload_n d_Mo_merge_193 rfl rfl ?_
    refine ev_iconst (v := iZ 1) d_Mo_merge_194 rfl ?_
    refine ez_iadd d_Mo_merge_195 ?_
    rw [show (((i + 1 + j : Nat) : Int) + 1 : Int) = ((i + 1 + j + 1 : Nat) : Int) from by omega]
    refine ev_iload_n d_Mo_merge_196 rfl rfl ?_
    refine ev_callV M_Mo_copy (rm 0 0) _ (As := [.int (iZ ((i + 1 + j + 1 : Nat) : Int)), .int (iZ ((i + 1 + j : Nat) : Int))]) (c_Mo_copy G h (i + 1 + j + 1) (i + 1 + j) σ m s1 s2 s3 s4 (va_cpy S1 S1 (i + 2) (i + 1) j) (va_cpy S2 S2 (i + 2) (i + 1) j) (va_cpy S3 S3 (i + 2) (i + 1) j) (va_cpy S4 S4 (64 * (i + 1 + 1)) (64 * (i + 1)) (64 * j)) hm f5 f6 f7 f8 hs1 hs2 hs3 hs4 (by omega) (by omega) (by omega) n_s) d_Mo_merge_197 mk_Mo_copy ml_Mo_275 mv_Mo_copy hm rfl rfl rfl (Nat.le_of_ble_eq_true rfl) ⟨by decide, by decide⟩ ⟨by decide, by decide⟩ (fun r h9 hq => ?_)
    obtain ⟨rfl, gs1, gs2, gs3, gs4, fmc⟩ := hq
    have hm := (fmc _ (ninc (cne hm hs1 (by simp)) (ninc (cne hm hs2 (by simp)) (ninc (cne hm hs3 (by simp)) (ninc (cne hm hs4 (by simp)) nin0))))).trans hm
    have fm := fm.call (by simp) fmc
    refine ez_iinc (L' := [(0, .ref m), (1, .int (iZ (i : Int))), (2, .int (iZ (u : Int))), (3, .int (iZ ((i + 1 + (j + 1) : Nat) : Int)))]) d_Mo_merge_200 rfl (by decide) rfl ?_
    refine ev_goto (tgt := 182) d_Mo_merge_203 rfl ?_
    exact ih (d - 1) (by omega) (j + 1) h9 (by omega) hm (by rw [← cpy_ss (p := i + 1 + j + 1) (q := i + 1 + j) (by omega) (by omega) (by omega)]; exact gs1) (by rw [← cpy_ss (p := i + 1 + j + 1) (q := i + 1 + j) (by omega) (by omega) (by omega)]; exact gs2) (by rw [← cpy_ss (p := i + 1 + j + 1) (q := i + 1 + j) (by omega) (by omega) (by omega)]; exact gs3) (by rw [← cpy_bl (p := i + 1 + j + 1) (q := i + 1 + j) (by omega) (by omega)]; exact gs4) fm
set_option maxHeartbeats 4000000 in
set_option maxRecDepth 100000 in
theorem c_Mo_mergeB (G : GT) (h : HM) (σ : Nat → Value) (m n : Nat) (i : Int) (hm : h m = some (.inr (11, fsN 34 σ))) (f4 : σ 4 = .int (iZ (n : Int))) (hn : n ≤ 16) (hi : iR i) (hb : ¬ (0 ≤ i ∧ i + 1 < n)) : Rn G M_Mo_merge (rm 1 40) [.ref m, .int (iZ i)] h (Pu (.int (iZ (-2))) h) := by
  refine rn_of (by decide) (Nat.le_of_ble_eq_true rfl) ?_
  show Ev G M_Mo_merge _ _ 0 [(0, .ref m), (1, .int (iZ i))] [] _ 0 0
  refine ev_aload_n d_Mo_merge_0 rfl rfl ?_
  refine ev_iload_n d_Mo_merge_1 rfl rfl ?_
  have hr9 := hasZ_r (n : Int) i
  refine ev_pV M_Mo_isCue 0 0 (As := [.int (iZ i)]) (c_Mo_isCue G h σ m (n : Int) i hm f4 (by omega) (by omega)) d_Mo_merge_2 mk_Mo_isCue ml_Mo_217 mv_Mo_isCue hm rfl rfl rfl (Nat.le_of_ble_eq_true rfl) ⟨by decide, by decide⟩ ⟨by decide, by decide⟩ ?_
  refine ez_if_eq (tgt := 18) (by omega) d_Mo_merge_5 rfl (fun c5 => ?_) (fun c5 => ?_)
  · have z5 := hasZ_0 c5
    refine ev_bipush (v := iZ (-2)) d_Mo_merge_18 rfl ?_
    exact ev_ireturn d_Mo_merge_20 rfl (by decide) (by decide) (⟨rfl, rfl⟩)
  · have z5 := hasZ_1 c5
    refine ev_iload_n d_Mo_merge_8 rfl rfl ?_
    refine ev_iconst (v := iZ 1) d_Mo_merge_9 rfl ?_
    refine ez_iadd d_Mo_merge_10 ?_
    refine ev_aload_n d_Mo_merge_11 rfl rfl ?_
    refine ev_getF d_Mo_merge_12 fl_Mo_92 hm (by decide) f4 ?_
    refine ez_icmp_ne (tgt := 21) (by omega) (by omega) d_Mo_merge_15 rfl (fun c15 => absurd c15 (by omega)) (fun c15 => ?_)
    refine ev_bipush (v := iZ (-2)) d_Mo_merge_18 rfl ?_
    exact ev_ireturn d_Mo_merge_20 rfl (by decide) (by decide) (⟨rfl, rfl⟩)
set_option maxHeartbeats 4000000 in
set_option maxRecDepth 100000 in
theorem c_Mo_merge (G : GT) (h : HM) (σ : Nat → Value) (m s1 s2 s3 s4 k0 k1 k2 k3 k4 : Nat) (n c bk : Nat) (S1 S2 S3 S4 K0 K1 K2 K3 K4 : Nat → Int) (i : Nat) (hm : h m = some (.inr (11, fsN 34 σ))) (f4 : σ 4 = .int (iZ (n : Int))) (f5 : σ 5 = .ref s1) (f6 : σ 6 = .ref s2) (f7 : σ 7 = .ref s3) (f8 : σ 8 = .ref s4) (f9 : σ 9 = .int (iZ (c : Int))) (f10 : σ 10 = .int (iZ (bk : Int))) (f11 : σ 11 = .ref k0) (f12 : σ 12 = .ref k1) (f13 : σ 13 = .ref k2) (f14 : σ 14 = .ref k3) (f15 : σ 15 = .ref k4) (hs1 : h s1 = some (.inl (G_j G, 16, .inr (.inl (lA S1))))) (hs2 : h s2 = some (.inl (G_j G, 16, .inr (.inl (lA S2))))) (hs3 : h s3 = some (.inl (G_i G, 16, .inl (iA S3)))) (hs4 : h s4 = some (.inl (G_i G, 1024, .inl (iA S4)))) (hk0 : h k0 = some (.inl (G_i G, 10, .inl (iA K0)))) (hk1 : h k1 = some (.inl (G_j G, 160, .inr (.inl (lA K1))))) (hk2 : h k2 = some (.inl (G_j G, 160, .inr (.inl (lA K2))))) (hk3 : h k3 = some (.inl (G_i G, 160, .inl (iA K3)))) (hk4 : h k4 = some (.inl (G_i G, 10240, .inl (iA K4)))) (hn : n ≤ 16) (hE : ∀ k, 0 ≤ S2 k ∧ S2 k ≤ 2540160000000) (hZ : ∀ k, 0 ≤ S3 k ∧ S3 k ≤ 64) (hi : i + 1 < n) (hc : c ≤ 1000) (hbk : bk ≤ 10) (n_s : s1 ≠ s2) (n_k : k1 ≠ k2) : Rn G M_Mo_merge (rm 1 30) [.ref m, .int (iZ (i : Int))] h (fun r h' => (64 < S3 i + 1 + S3 (i + 1) → r = some (.int (iZ (-3))) ∧ h' = h) ∧ (S3 i + 1 + S3 (i + 1) ≤ 64 → r = some (.int (iZ ((n - 1 : Nat) : Int))) ∧ (∃ σ', h' m = some (.inr (11, fsN 34 σ')) ∧ σ' 4 = .int (iZ ((n - 1 : Nat) : Int)) ∧ σ' 9 = .int (iZ ((c : Int) + 1)) ∧ σ' 10 = .int (iZ ((min (bk + 1) 10 : Nat) : Int)) ∧ Fs [4, 9, 10] σ σ') ∧ h' s1 = some (.inl (G_j G, 16, .inr (.inl (lA (jnC (n, S1, S2, S3, S4) i).2.1)))) ∧ h' s2 = some (.inl (G_j G, 16, .inr (.inl (lA (jnC (n, S1, S2, S3, S4) i).2.2.1)))) ∧ h' s3 = some (.inl (G_i G, 16, .inl (iA (jnC (n, S1, S2, S3, S4) i).2.2.2.1))) ∧ h' s4 = some (.inl (G_i G, 1024, .inl (iA (jnC (n, S1, S2, S3, S4) i).2.2.2.2))) ∧ h' k0 = some (.inl (G_i G, 10, .inl (iA (zup K0 (c % 10) n)))) ∧ h' k1 = some (.inl (G_j G, 160, .inr (.inl (lA (va_cpy S1 K1 0 (16 * (c % 10)) 16))))) ∧ h' k2 = some (.inl (G_j G, 160, .inr (.inl (lA (va_cpy S2 K2 0 (16 * (c % 10)) 16))))) ∧ h' k3 = some (.inl (G_i G, 160, .inl (iA (va_cpy S3 K3 0 (16 * (c % 10)) 16)))) ∧ h' k4 = some (.inl (G_i G, 10240, .inl (iA (va_cpy S4 K4 0 (1024 * (c % 10)) 1024)))) ∧ Fm [m, s1, s2, s3, s4, k0, k1, k2, k3, k4] h h')) := by
  refine rn_of (by decide) (Nat.le_of_ble_eq_true rfl) ?_
  show Ev G M_Mo_merge _ _ 0 [(0, .ref m), (1, .int (iZ (i : Int)))] [] _ 0 0
  have fm : Fm [m, s1, s2, s3, s4, k0, k1, k2, k3, k4] h h := Fm.rf
  have fs : Fs [4, 9, 10] σ σ := Fs.rf
  have z0 := hZ i
  have z1 := hZ (i + 1)
  refine ev_aload_n d_Mo_merge_0 rfl rfl ?_
  refine ev_iload_n d_Mo_merge_1 rfl rfl ?_
  have hr9 := hasZ_r (n : Int) (i : Int)
  refine ev_pV M_Mo_isCue 0 0 (As := [.int (iZ (i : Int))]) (c_Mo_isCue G h σ m (n : Int) (i : Int) hm f4 (by omega) (by omega)) d_Mo_merge_2 mk_Mo_isCue ml_Mo_217 mv_Mo_isCue hm rfl rfl rfl (Nat.le_of_ble_eq_true rfl) ⟨by decide, by decide⟩ ⟨by decide, by decide⟩ ?_
  refine ez_if_eq (tgt := 18) (by omega) d_Mo_merge_5 rfl (fun c5 => ?_) (fun c5 => ?_)
  · have z5 := hasZ_0 c5
    omega
  · have z5 := hasZ_1 c5
    refine ev_iload_n d_Mo_merge_8 rfl rfl ?_
    refine ev_iconst (v := iZ 1) d_Mo_merge_9 rfl ?_
    refine ez_iadd d_Mo_merge_10 ?_
    refine ev_aload_n d_Mo_merge_11 rfl rfl ?_
    refine ev_getF d_Mo_merge_12 fl_Mo_92 hm (by decide) f4 ?_
    refine ez_icmp_ne (tgt := 21) (by omega) (by omega) d_Mo_merge_15 rfl (fun c15 => ?_) (fun c15 => absurd c15 (by omega))
    refine ev_aload_n d_Mo_merge_21 rfl rfl ?_
    refine ev_getF d_Mo_merge_22 fl_Mo_27 hm (by decide) f7 ?_
    refine ev_iload_n d_Mo_merge_25 rfl rfl ?_
    refine ez_iaload i d_Mo_merge_26 hs3 (by omega) (by omega) (by decide) ?_
    refine ev_iconst (v := iZ 1) d_Mo_merge_27 rfl ?_
    refine ez_iadd d_Mo_merge_28 ?_
    refine ev_aload_n d_Mo_merge_29 rfl rfl ?_
    refine ev_getF d_Mo_merge_30 fl_Mo_27 hm (by decide) f7 ?_
    refine ev_iload_n d_Mo_merge_33 rfl rfl ?_
    refine ev_iconst (v := iZ 1) d_Mo_merge_34 rfl ?_
    refine ez_iadd d_Mo_merge_35 ?_
    refine ez_iaload (i + 1) d_Mo_merge_36 hs3 (by omega) (by omega) (by decide) ?_
    refine ez_iadd d_Mo_merge_37 ?_
    refine ev_bipush (v := iZ 64) d_Mo_merge_38 rfl ?_
    refine ez_icmp_le (tgt := 46) (by omega) (by decide) d_Mo_merge_40 rfl (fun c40 => ?_) (fun c40 => ?_)
    · refine ev_aload_n d_Mo_merge_46 rfl rfl ?_
      refine ev_callV M_Mo_keep (rm 0 0) _ (As := []) (c_Mo_keep G h σ m s1 s2 s3 s4 k0 k1 k2 k3 k4 n c bk S1 S2 S3 S4 K0 K1 K2 K3 K4 hm f4 f5 f6 f7 f8 f9 f10 f11 f12 f13 f14 f15 hs1 hs2 hs3 hs4 hk0 hk1 hk2 hk3 hk4 hc hbk n_s n_k) d_Mo_merge_47 mk_Mo_keep ml_Mo_176 mv_Mo_keep hm rfl rfl rfl (Nat.le_of_ble_eq_true rfl) ⟨by decide, by decide⟩ ⟨by decide, by decide⟩ (fun r h8 hq => ?_)
      obtain ⟨rfl, ⟨σ9, gm, g9, g10, gs⟩, gk0, gk1, gk2, gk3, gk4, fmk⟩ := hq
      have hs1 := (fmk _ (ninc (cne hs1 hm (by simp)) (ninc (cne hs1 hk0 (by simp)) (ninc (cne hs1 hk1 (by simp)) (ninc (cne hs1 hk2 (by simp)) (ninc (cne hs1 hk3 (by simp)) (ninc (cne hs1 hk4 (by simp)) nin0))))))).trans hs1
      have hs2 := (fmk _ (ninc (cne hs2 hm (by simp)) (ninc (cne hs2 hk0 (by simp)) (ninc (cne hs2 hk1 (by simp)) (ninc (cne hs2 hk2 (by simp)) (ninc (cne hs2 hk3 (by simp)) (ninc (cne hs2 hk4 (by simp)) nin0))))))).trans hs2
      have hs3 := (fmk _ (ninc (cne hs3 hm (by simp)) (ninc (cne hs3 hk0 (by simp)) (ninc (cne hs3 hk1 (by simp)) (ninc (cne hs3 hk2 (by simp)) (ninc (cne hs3 hk3 (by simp)) (ninc (cne hs3 hk4 (by simp)) nin0))))))).trans hs3
      have hs4 := (fmk _ (ninc (cne hs4 hm (by simp)) (ninc (cne hs4 hk0 (by simp)) (ninc (cne hs4 hk1 (by simp)) (ninc (cne hs4 hk2 (by simp)) (ninc (cne hs4 hk3 (by simp)) (ninc (cne hs4 hk4 (by simp)) nin0))))))).trans hs4
      have hm := gm
      have hk0 := gk0
      have hk1 := gk1
      have hk2 := gk2
      have hk3 := gk3
      have hk4 := gk4
      have f4 := (gs 4 (by decide)).trans f4
      have f5 := (gs 5 (by decide)).trans f5
      have f6 := (gs 6 (by decide)).trans f6
      have f7 := (gs 7 (by decide)).trans f7
      have f8 := (gs 8 (by decide)).trans f8
      have f11 := (gs 11 (by decide)).trans f11
      have f12 := (gs 12 (by decide)).trans f12
      have f13 := (gs 13 (by decide)).trans f13
      have f14 := (gs 14 (by decide)).trans f14
      have f15 := (gs 15 (by decide)).trans f15
      have f9 := g9
      have f10 := g10
      have fm := fm.call (by simp) fmk
      have fs := fs.call (by simp) gs
      obtain ⟨u, hu⟩ : ∃ u : Nat, S3 i = (u : Int) := ⟨(S3 i).toNat, by omega⟩
      obtain ⟨v, hv⟩ : ∃ v : Nat, S3 (i + 1) = (v : Int) := ⟨(S3 (i + 1)).toNat, by omega⟩
      refine ev_aload_n d_Mo_merge_50 rfl rfl ?_
      refine ev_getF d_Mo_merge_51 fl_Mo_27 hm (by decide) f7 ?_
      refine ev_iload_n d_Mo_merge_54 rfl rfl ?_
      refine ez_iaload i d_Mo_merge_55 hs3 (by omega) (by omega) (by decide) ?_
      refine ev_istore_n (L' := [(0, .ref m), (1, .int (iZ (i : Int))), (2, .int (iZ (S3 i)))]) d_Mo_merge_56 rfl (by decide) rfl ?_
      refine ev_aload_n d_Mo_merge_57 rfl rfl ?_
      refine ev_getF d_Mo_merge_58 fl_Mo_30 hm (by decide) f8 ?_
      refine ev_bipush (v := iZ 64) d_Mo_merge_61 rfl ?_
      refine ev_iload_n d_Mo_merge_63 rfl rfl ?_
      refine ez_imul d_Mo_merge_64 ?_
      refine ev_iload_n d_Mo_merge_65 rfl rfl ?_
      refine ez_iadd d_Mo_merge_66 ?_
      refine ev_bipush (v := iZ 10) d_Mo_merge_67 rfl ?_
      refine ez_iastore (F' := zup S4 (64 * i + (S3 i).toNat) 10) (64 * i + (S3 i).toNat) d_Mo_merge_69 hs4 (by omega) (by omega) (by decide) rfl (fun h1 h1a h1o => ?_)
      have hm := (h1o _ (cne hm hs4 (by simp))).trans hm
      have hs1 := (h1o _ (cne hs1 hs4 (by simp))).trans hs1
      have hs2 := (h1o _ (cne hs2 hs4 (by simp))).trans hs2
      have hs3 := (h1o _ (cne hs3 hs4 (by simp))).trans hs3
      have hk0 := (h1o _ (cne hk0 hs4 (by simp))).trans hk0
      have hk1 := (h1o _ (cne hk1 hs4 (by simp))).trans hk1
      have hk2 := (h1o _ (cne hk2 hs4 (by simp))).trans hk2
      have hk3 := (h1o _ (cne hk3 hs4 (by simp))).trans hk3
      have hk4 := (h1o _ (cne hk4 hs4 (by simp))).trans hk4
      have hs4 := h1a
      have fm := fm.step (by simp) h1o
      refine ev_iconst (v := iZ 0) d_Mo_merge_70 rfl ?_
      refine ev_istore_n (L' := [(0, .ref m), (1, .int (iZ (i : Int))), (2, .int (iZ (S3 i))), (3, .int (iZ 0))]) d_Mo_merge_71 rfl (by decide) rfl ?_
      rw [hu]
      refine lp_Mo_mg1 G _ h1 i u v (by omega) (by omega) σ9 m s3 s4 S3 (zup S4 (64 * i + (S3 i).toNat) 10) f7 f8 hv ?_ v 0 h1 (by omega) hm hs3 (by rw [cpy_z]; exact hs4) Fm.rf
      have jm := hm
      have js1 := hs1
      have js2 := hs2
      have js3 := hs3
      have js4 := hs4
      have jk0 := hk0
      have jk1 := hk1
      have jk2 := hk2
      have jk3 := hk3
      have jk4 := hk4
      rintro h9 j rfl hm hs3 hs4 fm2
      have hs1 := (fm2 _ (ninc (cne hs1 js4 (by simp)) nin0)).trans hs1
      have hs2 := (fm2 _ (ninc (cne hs2 js4 (by simp)) nin0)).trans hs2
      have hk0 := (fm2 _ (ninc (cne hk0 js4 (by simp)) nin0)).trans hk0
      have hk1 := (fm2 _ (ninc (cne hk1 js4 (by simp)) nin0)).trans hk1
      have hk2 := (fm2 _ (ninc (cne hk2 js4 (by simp)) nin0)).trans hk2
      have hk3 := (fm2 _ (ninc (cne hk3 js4 (by simp)) nin0)).trans hk3
      have hk4 := (fm2 _ (ninc (cne hk4 js4 (by simp)) nin0)).trans hk4
      have fm := fm.call (by simp) fm2
      refine ev_aload_n d_Mo_merge_119 rfl rfl ?_
      refine ev_getF d_Mo_merge_120 fl_Mo_27 hm (by decide) f7 ?_
      refine ev_iload_n d_Mo_merge_123 rfl rfl ?_
      refine ev_iload_n d_Mo_merge_124 rfl rfl ?_
      refine ev_iconst (v := iZ 1) d_Mo_merge_125 rfl ?_
      refine ez_iadd d_Mo_merge_126 ?_
      refine ev_aload_n d_Mo_merge_127 rfl rfl ?_
      refine ev_getF d_Mo_merge_128 fl_Mo_27 hm (by decide) f7 ?_
      refine ev_iload_n d_Mo_merge_131 rfl rfl ?_
      refine ev_iconst (v := iZ 1) d_Mo_merge_132 rfl ?_
      refine ez_iadd d_Mo_merge_133 ?_
      refine ez_iaload (i + 1) d_Mo_merge_134 hs3 (by omega) (by omega) (by decide) ?_
      refine ez_iadd d_Mo_merge_135 ?_
      refine ez_iastore (F' := zup S3 i (((u : Int) + 1) + (S3 (i + 1)))) i d_Mo_merge_136 hs3 (by omega) (by omega) (by decide) rfl (fun h2 h2a h2o => ?_)
      have hm := (h2o _ (cne hm hs3 (by simp))).trans hm
      have hs1 := (h2o _ (cne hs1 hs3 (by simp))).trans hs1
      have hs2 := (h2o _ (cne hs2 hs3 (by simp))).trans hs2
      have hs4 := (h2o _ (cne hs4 hs3 (by simp))).trans hs4
      have hk0 := (h2o _ (cne hk0 hs3 (by simp))).trans hk0
      have hk1 := (h2o _ (cne hk1 hs3 (by simp))).trans hk1
      have hk2 := (h2o _ (cne hk2 hs3 (by simp))).trans hk2
      have hk3 := (h2o _ (cne hk3 hs3 (by simp))).trans hk3
      have hk4 := (h2o _ (cne hk4 hs3 (by simp))).trans hk4
      have hs3 := h2a
      have fm := fm.step (by simp) h2o
      refine ev_aload_n d_Mo_merge_137 rfl rfl ?_
      refine ev_getF d_Mo_merge_138 fl_Mo_24 hm (by decide) f6 ?_
      refine ev_iload_n d_Mo_merge_141 rfl rfl ?_
      refine ev_aload_n d_Mo_merge_142 rfl rfl ?_
      refine ev_getF d_Mo_merge_143 fl_Mo_24 hm (by decide) f6 ?_
      refine ev_iload_n d_Mo_merge_146 rfl rfl ?_
      refine ez_laload i d_Mo_merge_147 hs2 (by omega) (by omega) (by decide) ?_
      refine ev_aload_n d_Mo_merge_148 rfl rfl ?_
      refine ev_getF d_Mo_merge_149 fl_Mo_24 hm (by decide) f6 ?_
      refine ev_iload_n d_Mo_merge_152 rfl rfl ?_
      refine ev_iconst (v := iZ 1) d_Mo_merge_153 rfl ?_
      refine ez_iadd d_Mo_merge_154 ?_
      refine ez_laload (i + 1) d_Mo_merge_155 hs2 (by omega) (by omega) (by decide) ?_
      refine ev_lcmp d_Mo_merge_156 ?_
      have e0 := hE i
      have e1 := hE (i + 1)
      refine ez_lif_le (tgt := 169) (by omega) (by omega) d_Mo_merge_157 rfl (fun c157 => ?_) (fun c157 => ?_)
      · refine ev_aload_n d_Mo_merge_169 rfl rfl ?_
        refine ev_getF d_Mo_merge_170 fl_Mo_24 hm (by decide) f6 ?_
        refine ev_iload_n d_Mo_merge_173 rfl rfl ?_
        refine ev_iconst (v := iZ 1) d_Mo_merge_174 rfl ?_
        refine ez_iadd d_Mo_merge_175 ?_
        refine ez_laload (i + 1) d_Mo_merge_176 hs2 (by omega) (by omega) (by decide) ?_
        refine ez_lastore (F' := zup S2 i (S2 (i + 1))) i d_Mo_merge_177 hs2 (by omega) (by omega) (by decide) rfl (fun h3 h3a h3o => ?_)
        have hm := (h3o _ (cne hm hs2 (by simp))).trans hm
        have hs1 := (h3o _ n_s).trans hs1
        have hs3 := (h3o _ (cne hs3 hs2 (by simp))).trans hs3
        have hs4 := (h3o _ (cne hs4 hs2 (by simp))).trans hs4
        have hk0 := (h3o _ (cne hk0 hs2 (by simp))).trans hk0
        have hk1 := (h3o _ (cne hk1 hs2 (by simp))).trans hk1
        have hk2 := (h3o _ (cne hk2 hs2 (by simp))).trans hk2
        have hk3 := (h3o _ (cne hk3 hs2 (by simp))).trans hk3
        have hk4 := (h3o _ (cne hk4 hs2 (by simp))).trans hk4
        have hs2 := h3a
        have fm := fm.step (by simp) h3o
        have hs2 : h3 s2 = some (.inl (G_j G, 16, .inr (.inl (lA (zup S2 i (max (S2 i) (S2 (i + 1)))))))) := by rw [show max (S2 i) (S2 (i + 1)) = S2 (i + 1) from by omega]; exact hs2
        refine ev_iload_n d_Mo_merge_178 rfl rfl ?_
        refine ev_iconst (v := iZ 1) d_Mo_merge_179 rfl ?_
        refine ez_iadd d_Mo_merge_180 ?_
        refine ev_istore_n (L' := [(0, .ref m), (1, .int (iZ (i : Int))), (2, .int (iZ (u : Int))), (3, .int (iZ ((i : Int) + 1)))]) d_Mo_merge_181 rfl (by decide) rfl ?_
        refine lp_Mo_mg2 G _ h3 i u n hi hn σ9 m s1 s2 s3 s4 S1 (zup S2 i (max (S2 i) (S2 (i + 1)))) (zup S3 i (((u : Int) + 1) + (S3 (i + 1)))) (va_cpy (zup S4 (64 * i + (S3 i).toNat) 10) (zup S4 (64 * i + (S3 i).toNat) 10) (64 * i + 64) (64 * i + u + 1) j) f4 f5 f6 f7 f8 n_s ?_ (n - (i + 2)) 0 h3 (by omega) hm (by rw [cpy_z]; exact hs1) (by rw [cpy_z]; exact hs2) (by rw [cpy_z]; exact hs3) (by rw [Nat.mul_zero, cpy_z]; exact hs4) Fm.rf
        have jm := hm
        have js1 := hs1
        have js2 := hs2
        have js3 := hs3
        have js4 := hs4
        have jk0 := hk0
        have jk1 := hk1
        have jk2 := hk2
        have jk3 := hk3
        have jk4 := hk4
        rintro h10 z rfl hm hs1 hs2 hs3 hs4 fm2
        have hk0 := (fm2 _ (ninc (cne jk0 js1 (by simp)) (ninc (cne jk0 js2 (by simp)) (ninc (cne jk0 js3 (by simp)) (ninc (cne jk0 js4 (by simp)) nin0))))).trans jk0
        have hk1 := (fm2 _ (ninc (cne jk1 js1 (by simp)) (ninc (cne jk1 js2 (by simp)) (ninc (cne jk1 js3 (by simp)) (ninc (cne jk1 js4 (by simp)) nin0))))).trans jk1
        have hk2 := (fm2 _ (ninc (cne jk2 js1 (by simp)) (ninc (cne jk2 js2 (by simp)) (ninc (cne jk2 js3 (by simp)) (ninc (cne jk2 js4 (by simp)) nin0))))).trans jk2
        have hk3 := (fm2 _ (ninc (cne jk3 js1 (by simp)) (ninc (cne jk3 js2 (by simp)) (ninc (cne jk3 js3 (by simp)) (ninc (cne jk3 js4 (by simp)) nin0))))).trans jk3
        have hk4 := (fm2 _ (ninc (cne jk4 js1 (by simp)) (ninc (cne jk4 js2 (by simp)) (ninc (cne jk4 js3 (by simp)) (ninc (cne jk4 js4 (by simp)) nin0))))).trans jk4
        have fm := fm.call (by simp) fm2
        refine ev_aload_n d_Mo_merge_206 rfl rfl ?_
        refine ev_dup d_Mo_merge_207 rfl ?_
        refine ev_getF d_Mo_merge_208 fl_Mo_92 hm (by decide) f4 ?_
        refine ev_iconst (v := iZ 1) d_Mo_merge_211 rfl ?_
        refine ez_isub d_Mo_merge_212 ?_
        rw [show ((n : Int) - 1 : Int) = ((n - 1 : Nat) : Int) from by omega]
        refine ev_putF2 d_Mo_merge_213 fw_Mo_92 (Or.inr (fun _ _ _ q => by cases q; rfl)) hm (by decide) rfl rfl (fun h4 σ5 h4a σ5j σ5o h4o => ?_)
        have f5 := (σ5o 5 (by decide)).trans f5
        have f6 := (σ5o 6 (by decide)).trans f6
        have f7 := (σ5o 7 (by decide)).trans f7
        have f8 := (σ5o 8 (by decide)).trans f8
        have f9 := (σ5o 9 (by decide)).trans f9
        have f10 := (σ5o 10 (by decide)).trans f10
        have f11 := (σ5o 11 (by decide)).trans f11
        have f12 := (σ5o 12 (by decide)).trans f12
        have f13 := (σ5o 13 (by decide)).trans f13
        have f14 := (σ5o 14 (by decide)).trans f14
        have f15 := (σ5o 15 (by decide)).trans f15
        have f4 := σ5j
        have fs := fs.step (by simp) σ5o
        have hs1 := (h4o _ (cne hs1 hm (by simp))).trans hs1
        have hs2 := (h4o _ (cne hs2 hm (by simp))).trans hs2
        have hs3 := (h4o _ (cne hs3 hm (by simp))).trans hs3
        have hs4 := (h4o _ (cne hs4 hm (by simp))).trans hs4
        have hk0 := (h4o _ (cne hk0 hm (by simp))).trans hk0
        have hk1 := (h4o _ (cne hk1 hm (by simp))).trans hk1
        have hk2 := (h4o _ (cne hk2 hm (by simp))).trans hk2
        have hk3 := (h4o _ (cne hk3 hm (by simp))).trans hk3
        have hk4 := (h4o _ (cne hk4 hm (by simp))).trans hk4
        have hm := h4a
        have fm := fm.step (by simp) h4o
        refine ev_aload_n d_Mo_merge_216 rfl rfl ?_
        refine ev_getF d_Mo_merge_217 fl_Mo_92 hm (by decide) f4 ?_
        have hq : (jnC (n, S1, S2, S3, S4) i).2.2.1 = va_cpy (zup S2 i (max (S2 i) (S2 (i + 1)))) (zup S2 i (max (S2 i) (S2 (i + 1)))) (i + 2) (i + 1) (n - (i + 2)) := rfl
        have e3 : (jnC (n, S1, S2, S3, S4) i).2.2.2.1 = va_cpy (zup S3 i (((u : Int) + 1) + (S3 (i + 1)))) (zup S3 i (((u : Int) + 1) + (S3 (i + 1)))) (i + 2) (i + 1) (n - (i + 2)) := by
          show va_cpy (zup S3 i (S3 i + (1 + S3 (i + 1)))) (zup S3 i (S3 i + (1 + S3 (i + 1)))) (i + 2) (i + 1) (n - (i + 2)) = _
          rw [show S3 i + (1 + S3 (i + 1)) = (u : Int) + 1 + S3 (i + 1) from by omega]
        have e4 : (jnC (n, S1, S2, S3, S4) i).2.2.2.2 = va_cpy (va_cpy (zup S4 (64 * i + (S3 i).toNat) 10) (zup S4 (64 * i + (S3 i).toNat) 10) (64 * i + 64) (64 * i + u + 1) j) (va_cpy (zup S4 (64 * i + (S3 i).toNat) 10) (zup S4 (64 * i + (S3 i).toNat) 10) (64 * i + 64) (64 * i + u + 1) j) (64 * (i + 1 + 1)) (64 * (i + 1)) (64 * (n - (i + 2))) := by
          have a1 : (S3 i).toNat = u := by omega
          have a2 : (S3 (i + 1)).toNat = j := by omega
          show va_cpy (va_cpy (zup S4 (i * 64 + (S3 i).toNat) 10) (zup S4 (i * 64 + (S3 i).toNat) 10) ((i + 1) * 64) (i * 64 + (S3 i).toNat + 1) (S3 (i + 1)).toNat) _ ((i + 2) * 64) ((i + 1) * 64) ((n - (i + 2)) * 64) = _
          rw [a1, a2, show (i + 1) * 64 = 64 * i + 64 by omega, show i * 64 = 64 * i by omega, show (i + 2) * 64 = 64 * (i + 1 + 1) by omega, show (n - (i + 2)) * 64 = 64 * (n - (i + 2)) by omega, show 64 * i + 64 = 64 * (i + 1) by omega]
        exact ev_ireturn d_Mo_merge_220 rfl (by decide) (by decide) (⟨fun q => absurd q (by omega), fun _ => ⟨rfl, ⟨σ5, hm, f4, f9, f10, fs⟩, hs1, hs2, by rw [e3]; exact hs3, by rw [e4]; exact hs4, hk0, hk1, hk2, hk3, hk4, fm⟩⟩)
      · refine ev_aload_n d_Mo_merge_160 rfl rfl ?_
        refine ev_getF d_Mo_merge_161 fl_Mo_24 hm (by decide) f6 ?_
        refine ev_iload_n d_Mo_merge_164 rfl rfl ?_
        refine ez_laload i d_Mo_merge_165 hs2 (by omega) (by omega) (by decide) ?_
        refine ev_goto (tgt := 177) d_Mo_merge_166 rfl ?_
        refine ez_lastore (F' := zup S2 i (S2 i)) i d_Mo_merge_177 hs2 (by omega) (by omega) (by decide) rfl (fun h6 h6a h6o => ?_)
        have hm := (h6o _ (cne hm hs2 (by simp))).trans hm
        have hs1 := (h6o _ n_s).trans hs1
        have hs3 := (h6o _ (cne hs3 hs2 (by simp))).trans hs3
        have hs4 := (h6o _ (cne hs4 hs2 (by simp))).trans hs4
        have hk0 := (h6o _ (cne hk0 hs2 (by simp))).trans hk0
        have hk1 := (h6o _ (cne hk1 hs2 (by simp))).trans hk1
        have hk2 := (h6o _ (cne hk2 hs2 (by simp))).trans hk2
        have hk3 := (h6o _ (cne hk3 hs2 (by simp))).trans hk3
        have hk4 := (h6o _ (cne hk4 hs2 (by simp))).trans hk4
        have hs2 := h6a
        have fm := fm.step (by simp) h6o
        have hs2 : h6 s2 = some (.inl (G_j G, 16, .inr (.inl (lA (zup S2 i (max (S2 i) (S2 (i + 1)))))))) := by rw [show max (S2 i) (S2 (i + 1)) = S2 i from by omega]; exact hs2
        refine ev_iload_n d_Mo_merge_178 rfl rfl ?_
        refine ev_iconst (v := iZ 1) d_Mo_merge_179 rfl ?_
        refine ez_iadd d_Mo_merge_180 ?_
        refine ev_istore_n (L' := [(0, .ref m), (1, .int (iZ (i : Int))), (2, .int (iZ (u : Int))), (3, .int (iZ ((i : Int) + 1)))]) d_Mo_merge_181 rfl (by decide) rfl ?_
        refine lp_Mo_mg2 G _ h6 i u n hi hn σ9 m s1 s2 s3 s4 S1 (zup S2 i (max (S2 i) (S2 (i + 1)))) (zup S3 i (((u : Int) + 1) + (S3 (i + 1)))) (va_cpy (zup S4 (64 * i + (S3 i).toNat) 10) (zup S4 (64 * i + (S3 i).toNat) 10) (64 * i + 64) (64 * i + u + 1) j) f4 f5 f6 f7 f8 n_s ?_ (n - (i + 2)) 0 h6 (by omega) hm (by rw [cpy_z]; exact hs1) (by rw [cpy_z]; exact hs2) (by rw [cpy_z]; exact hs3) (by rw [Nat.mul_zero, cpy_z]; exact hs4) Fm.rf
        have jm := hm
        have js1 := hs1
        have js2 := hs2
        have js3 := hs3
        have js4 := hs4
        have jk0 := hk0
        have jk1 := hk1
        have jk2 := hk2
        have jk3 := hk3
        have jk4 := hk4
        rintro h10 z rfl hm hs1 hs2 hs3 hs4 fm2
        have hk0 := (fm2 _ (ninc (cne jk0 js1 (by simp)) (ninc (cne jk0 js2 (by simp)) (ninc (cne jk0 js3 (by simp)) (ninc (cne jk0 js4 (by simp)) nin0))))).trans jk0
        have hk1 := (fm2 _ (ninc (cne jk1 js1 (by simp)) (ninc (cne jk1 js2 (by simp)) (ninc (cne jk1 js3 (by simp)) (ninc (cne jk1 js4 (by simp)) nin0))))).trans jk1
        have hk2 := (fm2 _ (ninc (cne jk2 js1 (by simp)) (ninc (cne jk2 js2 (by simp)) (ninc (cne jk2 js3 (by simp)) (ninc (cne jk2 js4 (by simp)) nin0))))).trans jk2
        have hk3 := (fm2 _ (ninc (cne jk3 js1 (by simp)) (ninc (cne jk3 js2 (by simp)) (ninc (cne jk3 js3 (by simp)) (ninc (cne jk3 js4 (by simp)) nin0))))).trans jk3
        have hk4 := (fm2 _ (ninc (cne jk4 js1 (by simp)) (ninc (cne jk4 js2 (by simp)) (ninc (cne jk4 js3 (by simp)) (ninc (cne jk4 js4 (by simp)) nin0))))).trans jk4
        have fm := fm.call (by simp) fm2
        refine ev_aload_n d_Mo_merge_206 rfl rfl ?_
        refine ev_dup d_Mo_merge_207 rfl ?_
        refine ev_getF d_Mo_merge_208 fl_Mo_92 hm (by decide) f4 ?_
        refine ev_iconst (v := iZ 1) d_Mo_merge_211 rfl ?_
        refine ez_isub d_Mo_merge_212 ?_
        rw [show ((n : Int) - 1 : Int) = ((n - 1 : Nat) : Int) from by omega]
        refine ev_putF2 d_Mo_merge_213 fw_Mo_92 (Or.inr (fun _ _ _ q => by cases q; rfl)) hm (by decide) rfl rfl (fun h7 σ8 h7a σ8j σ8o h7o => ?_)
        have f5 := (σ8o 5 (by decide)).trans f5
        have f6 := (σ8o 6 (by decide)).trans f6
        have f7 := (σ8o 7 (by decide)).trans f7
        have f8 := (σ8o 8 (by decide)).trans f8
        have f9 := (σ8o 9 (by decide)).trans f9
        have f10 := (σ8o 10 (by decide)).trans f10
        have f11 := (σ8o 11 (by decide)).trans f11
        have f12 := (σ8o 12 (by decide)).trans f12
        have f13 := (σ8o 13 (by decide)).trans f13
        have f14 := (σ8o 14 (by decide)).trans f14
        have f15 := (σ8o 15 (by decide)).trans f15
        have f4 := σ8j
        have fs := fs.step (by simp) σ8o
        have hs1 := (h7o _ (cne hs1 hm (by simp))).trans hs1
        have hs2 := (h7o _ (cne hs2 hm (by simp))).trans hs2
        have hs3 := (h7o _ (cne hs3 hm (by simp))).trans hs3
        have hs4 := (h7o _ (cne hs4 hm (by simp))).trans hs4
        have hk0 := (h7o _ (cne hk0 hm (by simp))).trans hk0
        have hk1 := (h7o _ (cne hk1 hm (by simp))).trans hk1
        have hk2 := (h7o _ (cne hk2 hm (by simp))).trans hk2
        have hk3 := (h7o _ (cne hk3 hm (by simp))).trans hk3
        have hk4 := (h7o _ (cne hk4 hm (by simp))).trans hk4
        have hm := h7a
        have fm := fm.step (by simp) h7o
        refine ev_aload_n d_Mo_merge_216 rfl rfl ?_
        refine ev_getF d_Mo_merge_217 fl_Mo_92 hm (by decide) f4 ?_
        have hq : (jnC (n, S1, S2, S3, S4) i).2.2.1 = va_cpy (zup S2 i (max (S2 i) (S2 (i + 1)))) (zup S2 i (max (S2 i) (S2 (i + 1)))) (i + 2) (i + 1) (n - (i + 2)) := rfl
        have e3 : (jnC (n, S1, S2, S3, S4) i).2.2.2.1 = va_cpy (zup S3 i (((u : Int) + 1) + (S3 (i + 1)))) (zup S3 i (((u : Int) + 1) + (S3 (i + 1)))) (i + 2) (i + 1) (n - (i + 2)) := by
          show va_cpy (zup S3 i (S3 i + (1 + S3 (i + 1)))) (zup S3 i (S3 i + (1 + S3 (i + 1)))) (i + 2) (i + 1) (n - (i + 2)) = _
          rw [show S3 i + (1 + S3 (i + 1)) = (u : Int) + 1 + S3 (i + 1) from by omega]
        have e4 : (jnC (n, S1, S2, S3, S4) i).2.2.2.2 = va_cpy (va_cpy (zup S4 (64 * i + (S3 i).toNat) 10) (zup S4 (64 * i + (S3 i).toNat) 10) (64 * i + 64) (64 * i + u + 1) j) (va_cpy (zup S4 (64 * i + (S3 i).toNat) 10) (zup S4 (64 * i + (S3 i).toNat) 10) (64 * i + 64) (64 * i + u + 1) j) (64 * (i + 1 + 1)) (64 * (i + 1)) (64 * (n - (i + 2))) := by
          have a1 : (S3 i).toNat = u := by omega
          have a2 : (S3 (i + 1)).toNat = j := by omega
          show va_cpy (va_cpy (zup S4 (i * 64 + (S3 i).toNat) 10) (zup S4 (i * 64 + (S3 i).toNat) 10) ((i + 1) * 64) (i * 64 + (S3 i).toNat + 1) (S3 (i + 1)).toNat) _ ((i + 2) * 64) ((i + 1) * 64) ((n - (i + 2)) * 64) = _
          rw [a1, a2, show (i + 1) * 64 = 64 * i + 64 by omega, show i * 64 = 64 * i by omega, show (i + 2) * 64 = 64 * (i + 1 + 1) by omega, show (n - (i + 2)) * 64 = 64 * (n - (i + 2)) by omega, show 64 * i + 64 = 64 * (i + 1) by omega]
        exact ev_ireturn d_Mo_merge_220 rfl (by decide) (by decide) (⟨fun q => absurd q (by omega), fun _ => ⟨rfl, ⟨σ8, hm, f4, f9, f10, fs⟩, hs1, hs2, by rw [e3]; exact hs3, by rw [e4]; exact hs4, hk0, hk1, hk2, hk3, hk4, fm⟩⟩)
    · refine ev_bipush (v := iZ (-3)) d_Mo_merge_43 rfl ?_
      exact ev_ireturn d_Mo_merge_45 rfl (by decide) (by decide) (⟨fun _ => ⟨rfl, rfl⟩, fun q => absurd q (by omega)⟩)
