theorem d_CB_init_0 : decode M_CB_init.2.1 0 = .ok (.aload_n 0, 1) := by decide +kernel
theorem d_CB_init_1 : decode M_CB_init.2.1 1 = .ok (.invokespecial 1, 3) := by decide +kernel
theorem d_CB_init_4 : decode M_CB_init.2.1 4 = .ok (.aload_n 0, 1) := by decide +kernel
theorem d_CB_init_5 : decode M_CB_init.2.1 5 = .ok (.new 7, 3) := by decide +kernel
theorem d_CB_init_8 : decode M_CB_init.2.1 8 = .ok (.dup, 1) := by decide +kernel
theorem d_CB_init_9 : decode M_CB_init.2.1 9 = .ok (.invokespecial 9, 3) := by decide +kernel
theorem d_CB_init_12 : decode M_CB_init.2.1 12 = .ok (.putfield 10, 3) := by decide +kernel
theorem d_CB_init_15 : decode M_CB_init.2.1 15 = .ok (.aload_n 0, 1) := by decide +kernel
theorem d_CB_init_16 : decode M_CB_init.2.1 16 = .ok (.new 16, 3) := by decide +kernel
theorem d_CB_init_19 : decode M_CB_init.2.1 19 = .ok (.dup, 1) := by decide +kernel
theorem d_CB_init_20 : decode M_CB_init.2.1 20 = .ok (.invokespecial 18, 3) := by decide +kernel
theorem d_CB_init_23 : decode M_CB_init.2.1 23 = .ok (.putfield 19, 3) := by decide +kernel
theorem d_CB_init_26 : decode M_CB_init.2.1 26 = .ok (.aload_n 0, 1) := by decide +kernel
theorem d_CB_init_27 : decode M_CB_init.2.1 27 = .ok (.new 23, 3) := by decide +kernel
theorem d_CB_init_30 : decode M_CB_init.2.1 30 = .ok (.dup, 1) := by decide +kernel
theorem d_CB_init_31 : decode M_CB_init.2.1 31 = .ok (.invokespecial 25, 3) := by decide +kernel
theorem d_CB_init_34 : decode M_CB_init.2.1 34 = .ok (.putfield 26, 3) := by decide +kernel
theorem d_CB_init_37 : decode M_CB_init.2.1 37 = .ok (.aload_n 0, 1) := by decide +kernel
theorem d_CB_init_38 : decode M_CB_init.2.1 38 = .ok (.new 30, 3) := by decide +kernel
theorem d_CB_init_41 : decode M_CB_init.2.1 41 = .ok (.dup, 1) := by decide +kernel
theorem d_CB_init_42 : decode M_CB_init.2.1 42 = .ok (.invokespecial 32, 3) := by decide +kernel
theorem d_CB_init_45 : decode M_CB_init.2.1 45 = .ok (.putfield 33, 3) := by decide +kernel
theorem d_CB_init_48 : decode M_CB_init.2.1 48 = .ok (.aload_n 0, 1) := by decide +kernel
theorem d_CB_init_49 : decode M_CB_init.2.1 49 = .ok (.new 37, 3) := by decide +kernel
theorem d_CB_init_52 : decode M_CB_init.2.1 52 = .ok (.dup, 1) := by decide +kernel
theorem d_CB_init_53 : decode M_CB_init.2.1 53 = .ok (.invokespecial 39, 3) := by decide +kernel
theorem d_CB_init_56 : decode M_CB_init.2.1 56 = .ok (.putfield 40, 3) := by decide +kernel
theorem d_CB_init_59 : decode M_CB_init.2.1 59 = .ok (.aload_n 0, 1) := by decide +kernel
theorem d_CB_init_60 : decode M_CB_init.2.1 60 = .ok (.new 44, 3) := by decide +kernel
theorem d_CB_init_63 : decode M_CB_init.2.1 63 = .ok (.dup, 1) := by decide +kernel
theorem d_CB_init_64 : decode M_CB_init.2.1 64 = .ok (.aload_n 0, 1) := by decide +kernel
theorem d_CB_init_65 : decode M_CB_init.2.1 65 = .ok (.getfield 10, 3) := by decide +kernel
theorem d_CB_init_68 : decode M_CB_init.2.1 68 = .ok (.aload_n 0, 1) := by decide +kernel
theorem d_CB_init_69 : decode M_CB_init.2.1 69 = .ok (.getfield 19, 3) := by decide +kernel
theorem d_CB_init_72 : decode M_CB_init.2.1 72 = .ok (.invokespecial 46, 3) := by decide +kernel
theorem d_CB_init_75 : decode M_CB_init.2.1 75 = .ok (.putfield 49, 3) := by decide +kernel
theorem d_CB_init_78 : decode M_CB_init.2.1 78 = .ok (.aload_n 0, 1) := by decide +kernel
theorem d_CB_init_79 : decode M_CB_init.2.1 79 = .ok (.new 53, 3) := by decide +kernel
theorem d_CB_init_82 : decode M_CB_init.2.1 82 = .ok (.dup, 1) := by decide +kernel
theorem d_CB_init_83 : decode M_CB_init.2.1 83 = .ok (.aload_n 0, 1) := by decide +kernel
theorem d_CB_init_84 : decode M_CB_init.2.1 84 = .ok (.getfield 10, 3) := by decide +kernel
theorem d_CB_init_87 : decode M_CB_init.2.1 87 = .ok (.aload_n 0, 1) := by decide +kernel
theorem d_CB_init_88 : decode M_CB_init.2.1 88 = .ok (.getfield 19, 3) := by decide +kernel
theorem d_CB_init_91 : decode M_CB_init.2.1 91 = .ok (.aload_n 0, 1) := by decide +kernel
theorem d_CB_init_92 : decode M_CB_init.2.1 92 = .ok (.getfield 33, 3) := by decide +kernel
theorem d_CB_init_95 : decode M_CB_init.2.1 95 = .ok (.invokespecial 55, 3) := by decide +kernel
theorem d_CB_init_98 : decode M_CB_init.2.1 98 = .ok (.putfield 58, 3) := by decide +kernel
theorem d_CB_init_101 : decode M_CB_init.2.1 101 = .ok (.aload_n 0, 1) := by decide +kernel
theorem d_CB_init_102 : decode M_CB_init.2.1 102 = .ok (.new 62, 3) := by decide +kernel
theorem d_CB_init_105 : decode M_CB_init.2.1 105 = .ok (.dup, 1) := by decide +kernel
theorem d_CB_init_106 : decode M_CB_init.2.1 106 = .ok (.aload_n 0, 1) := by decide +kernel
theorem d_CB_init_107 : decode M_CB_init.2.1 107 = .ok (.getfield 33, 3) := by decide +kernel
theorem d_CB_init_110 : decode M_CB_init.2.1 110 = .ok (.invokespecial 64, 3) := by decide +kernel
theorem d_CB_init_113 : decode M_CB_init.2.1 113 = .ok (.putfield 67, 3) := by decide +kernel
theorem d_CB_init_116 : decode M_CB_init.2.1 116 = .ok (.aload_n 0, 1) := by decide +kernel
theorem d_CB_init_117 : decode M_CB_init.2.1 117 = .ok (.new 71, 3) := by decide +kernel
theorem d_CB_init_120 : decode M_CB_init.2.1 120 = .ok (.dup, 1) := by decide +kernel
theorem d_CB_init_121 : decode M_CB_init.2.1 121 = .ok (.aload_n 0, 1) := by decide +kernel
theorem d_CB_init_122 : decode M_CB_init.2.1 122 = .ok (.getfield 33, 3) := by decide +kernel
theorem d_CB_init_125 : decode M_CB_init.2.1 125 = .ok (.aload_n 0, 1) := by decide +kernel
theorem d_CB_init_126 : decode M_CB_init.2.1 126 = .ok (.getfield 19, 3) := by decide +kernel
theorem d_CB_init_129 : decode M_CB_init.2.1 129 = .ok (.aload_n 0, 1) := by decide +kernel
theorem d_CB_init_130 : decode M_CB_init.2.1 130 = .ok (.getfield 26, 3) := by decide +kernel
theorem d_CB_init_133 : decode M_CB_init.2.1 133 = .ok (.invokespecial 73, 3) := by decide +kernel
theorem d_CB_init_136 : decode M_CB_init.2.1 136 = .ok (.putfield 76, 3) := by decide +kernel
theorem d_CB_init_139 : decode M_CB_init.2.1 139 = .ok (.return_, 1) := by decide +kernel
theorem d_Mo_init_0 : decode M_Mo_init.2.1 0 = .ok (.aload_n 0, 1) := by decide +kernel
theorem d_Mo_init_1 : decode M_Mo_init.2.1 1 = .ok (.invokespecial 1, 3) := by decide +kernel
theorem d_Mo_init_4 : decode M_Mo_init.2.1 4 = .ok (.aload_n 0, 1) := by decide +kernel
theorem d_Mo_init_5 : decode M_Mo_init.2.1 5 = .ok (.sipush 1000, 3) := by decide +kernel
theorem d_Mo_init_8 : decode M_Mo_init.2.1 8 = .ok (.newarray .int, 2) := by decide +kernel
theorem d_Mo_init_10 : decode M_Mo_init.2.1 10 = .ok (.putfield 7, 3) := by decide +kernel
theorem d_Mo_init_13 : decode M_Mo_init.2.1 13 = .ok (.aload_n 0, 1) := by decide +kernel
theorem d_Mo_init_14 : decode M_Mo_init.2.1 14 = .ok (.bipush 25, 2) := by decide +kernel
theorem d_Mo_init_16 : decode M_Mo_init.2.1 16 = .ok (.putfield 13, 3) := by decide +kernel
theorem d_Mo_init_19 : decode M_Mo_init.2.1 19 = .ok (.aload_n 0, 1) := by decide +kernel
theorem d_Mo_init_20 : decode M_Mo_init.2.1 20 = .ok (.iconst 1, 1) := by decide +kernel
theorem d_Mo_init_21 : decode M_Mo_init.2.1 21 = .ok (.putfield 17, 3) := by decide +kernel
theorem d_Mo_init_24 : decode M_Mo_init.2.1 24 = .ok (.aload_n 0, 1) := by decide +kernel
theorem d_Mo_init_25 : decode M_Mo_init.2.1 25 = .ok (.bipush 16, 2) := by decide +kernel
theorem d_Mo_init_27 : decode M_Mo_init.2.1 27 = .ok (.newarray .long, 2) := by decide +kernel
theorem d_Mo_init_29 : decode M_Mo_init.2.1 29 = .ok (.putfield 20, 3) := by decide +kernel
theorem d_Mo_init_32 : decode M_Mo_init.2.1 32 = .ok (.aload_n 0, 1) := by decide +kernel
theorem d_Mo_init_33 : decode M_Mo_init.2.1 33 = .ok (.bipush 16, 2) := by decide +kernel
theorem d_Mo_init_35 : decode M_Mo_init.2.1 35 = .ok (.newarray .long, 2) := by decide +kernel
theorem d_Mo_init_37 : decode M_Mo_init.2.1 37 = .ok (.putfield 24, 3) := by decide +kernel
theorem d_Mo_init_40 : decode M_Mo_init.2.1 40 = .ok (.aload_n 0, 1) := by decide +kernel
theorem d_Mo_init_41 : decode M_Mo_init.2.1 41 = .ok (.bipush 16, 2) := by decide +kernel
theorem d_Mo_init_43 : decode M_Mo_init.2.1 43 = .ok (.newarray .int, 2) := by decide +kernel
theorem d_Mo_init_45 : decode M_Mo_init.2.1 45 = .ok (.putfield 27, 3) := by decide +kernel
theorem d_Mo_init_48 : decode M_Mo_init.2.1 48 = .ok (.aload_n 0, 1) := by decide +kernel
theorem d_Mo_init_49 : decode M_Mo_init.2.1 49 = .ok (.sipush 1024, 3) := by decide +kernel
theorem d_Mo_init_52 : decode M_Mo_init.2.1 52 = .ok (.newarray .int, 2) := by decide +kernel
theorem d_Mo_init_54 : decode M_Mo_init.2.1 54 = .ok (.putfield 30, 3) := by decide +kernel
theorem d_Mo_init_57 : decode M_Mo_init.2.1 57 = .ok (.aload_n 0, 1) := by decide +kernel
theorem d_Mo_init_58 : decode M_Mo_init.2.1 58 = .ok (.bipush 10, 2) := by decide +kernel
theorem d_Mo_init_60 : decode M_Mo_init.2.1 60 = .ok (.newarray .int, 2) := by decide +kernel
theorem d_Mo_init_62 : decode M_Mo_init.2.1 62 = .ok (.putfield 33, 3) := by decide +kernel
theorem d_Mo_init_65 : decode M_Mo_init.2.1 65 = .ok (.aload_n 0, 1) := by decide +kernel
theorem d_Mo_init_66 : decode M_Mo_init.2.1 66 = .ok (.sipush 160, 3) := by decide +kernel
theorem d_Mo_init_69 : decode M_Mo_init.2.1 69 = .ok (.newarray .long, 2) := by decide +kernel
theorem d_Mo_init_71 : decode M_Mo_init.2.1 71 = .ok (.putfield 36, 3) := by decide +kernel
theorem d_Mo_init_74 : decode M_Mo_init.2.1 74 = .ok (.aload_n 0, 1) := by decide +kernel
theorem d_Mo_init_75 : decode M_Mo_init.2.1 75 = .ok (.sipush 160, 3) := by decide +kernel
theorem d_Mo_init_78 : decode M_Mo_init.2.1 78 = .ok (.newarray .long, 2) := by decide +kernel
theorem d_Mo_init_80 : decode M_Mo_init.2.1 80 = .ok (.putfield 39, 3) := by decide +kernel
theorem d_Mo_init_83 : decode M_Mo_init.2.1 83 = .ok (.aload_n 0, 1) := by decide +kernel
theorem d_Mo_init_84 : decode M_Mo_init.2.1 84 = .ok (.sipush 160, 3) := by decide +kernel
theorem d_Mo_init_87 : decode M_Mo_init.2.1 87 = .ok (.newarray .int, 2) := by decide +kernel
theorem d_Mo_init_89 : decode M_Mo_init.2.1 89 = .ok (.putfield 42, 3) := by decide +kernel
theorem d_Mo_init_92 : decode M_Mo_init.2.1 92 = .ok (.aload_n 0, 1) := by decide +kernel
theorem d_Mo_init_93 : decode M_Mo_init.2.1 93 = .ok (.sipush 10240, 3) := by decide +kernel
theorem d_Mo_init_96 : decode M_Mo_init.2.1 96 = .ok (.newarray .int, 2) := by decide +kernel
theorem d_Mo_init_98 : decode M_Mo_init.2.1 98 = .ok (.putfield 45, 3) := by decide +kernel
theorem d_Mo_init_101 : decode M_Mo_init.2.1 101 = .ok (.aload_n 0, 1) := by decide +kernel
theorem d_Mo_init_102 : decode M_Mo_init.2.1 102 = .ok (.bipush 16, 2) := by decide +kernel
theorem d_Mo_init_104 : decode M_Mo_init.2.1 104 = .ok (.newarray .long, 2) := by decide +kernel
theorem d_Mo_init_106 : decode M_Mo_init.2.1 106 = .ok (.putfield 48, 3) := by decide +kernel
theorem d_Mo_init_109 : decode M_Mo_init.2.1 109 = .ok (.aload_n 0, 1) := by decide +kernel
theorem d_Mo_init_110 : decode M_Mo_init.2.1 110 = .ok (.bipush 16, 2) := by decide +kernel
theorem d_Mo_init_112 : decode M_Mo_init.2.1 112 = .ok (.newarray .long, 2) := by decide +kernel
theorem d_Mo_init_114 : decode M_Mo_init.2.1 114 = .ok (.putfield 51, 3) := by decide +kernel
theorem d_Mo_init_117 : decode M_Mo_init.2.1 117 = .ok (.aload_n 0, 1) := by decide +kernel
theorem d_Mo_init_118 : decode M_Mo_init.2.1 118 = .ok (.bipush 16, 2) := by decide +kernel
theorem d_Mo_init_120 : decode M_Mo_init.2.1 120 = .ok (.newarray .int, 2) := by decide +kernel
theorem d_Mo_init_122 : decode M_Mo_init.2.1 122 = .ok (.putfield 54, 3) := by decide +kernel
theorem d_Mo_init_125 : decode M_Mo_init.2.1 125 = .ok (.aload_n 0, 1) := by decide +kernel
theorem d_Mo_init_126 : decode M_Mo_init.2.1 126 = .ok (.sipush 1024, 3) := by decide +kernel
theorem d_Mo_init_129 : decode M_Mo_init.2.1 129 = .ok (.newarray .int, 2) := by decide +kernel
theorem d_Mo_init_131 : decode M_Mo_init.2.1 131 = .ok (.putfield 57, 3) := by decide +kernel
theorem d_Mo_init_134 : decode M_Mo_init.2.1 134 = .ok (.aload_n 0, 1) := by decide +kernel
theorem d_Mo_init_135 : decode M_Mo_init.2.1 135 = .ok (.bipush 20, 2) := by decide +kernel
theorem d_Mo_init_137 : decode M_Mo_init.2.1 137 = .ok (.newarray .int, 2) := by decide +kernel
theorem d_Mo_init_139 : decode M_Mo_init.2.1 139 = .ok (.putfield 60, 3) := by decide +kernel
theorem d_Mo_init_142 : decode M_Mo_init.2.1 142 = .ok (.aload_n 0, 1) := by decide +kernel
theorem d_Mo_init_143 : decode M_Mo_init.2.1 143 = .ok (.iconst 2, 1) := by decide +kernel
theorem d_Mo_init_144 : decode M_Mo_init.2.1 144 = .ok (.putfield 63, 3) := by decide +kernel
theorem d_Mo_init_147 : decode M_Mo_init.2.1 147 = .ok (.aload_n 0, 1) := by decide +kernel
theorem d_Mo_init_148 : decode M_Mo_init.2.1 148 = .ok (.bipush 20, 2) := by decide +kernel
theorem d_Mo_init_150 : decode M_Mo_init.2.1 150 = .ok (.putfield 66, 3) := by decide +kernel
theorem d_Mo_init_153 : decode M_Mo_init.2.1 153 = .ok (.aload_n 0, 1) := by decide +kernel
theorem d_Mo_init_154 : decode M_Mo_init.2.1 154 = .ok (.sipush 168, 3) := by decide +kernel
theorem d_Mo_init_157 : decode M_Mo_init.2.1 157 = .ok (.putfield 69, 3) := by decide +kernel
theorem d_Mo_init_160 : decode M_Mo_init.2.1 160 = .ok (.aload_n 0, 1) := by decide +kernel
theorem d_Mo_init_161 : decode M_Mo_init.2.1 161 = .ok (.bipush 17, 2) := by decide +kernel
theorem d_Mo_init_163 : decode M_Mo_init.2.1 163 = .ok (.putfield 72, 3) := by decide +kernel
theorem d_Mo_init_166 : decode M_Mo_init.2.1 166 = .ok (.aload_n 0, 1) := by decide +kernel
theorem d_Mo_init_167 : decode M_Mo_init.2.1 167 = .ok (.sipush 194, 3) := by decide +kernel
theorem d_Mo_init_170 : decode M_Mo_init.2.1 170 = .ok (.newarray .int, 2) := by decide +kernel
theorem d_Mo_init_172 : decode M_Mo_init.2.1 172 = .ok (.putfield 75, 3) := by decide +kernel
theorem d_Mo_init_175 : decode M_Mo_init.2.1 175 = .ok (.aload_n 0, 1) := by decide +kernel
theorem d_Mo_init_176 : decode M_Mo_init.2.1 176 = .ok (.sipush 3104, 3) := by decide +kernel
theorem d_Mo_init_179 : decode M_Mo_init.2.1 179 = .ok (.newarray .int, 2) := by decide +kernel
theorem d_Mo_init_181 : decode M_Mo_init.2.1 181 = .ok (.putfield 78, 3) := by decide +kernel
theorem d_Mo_init_184 : decode M_Mo_init.2.1 184 = .ok (.aload_n 0, 1) := by decide +kernel
theorem d_Mo_init_185 : decode M_Mo_init.2.1 185 = .ok (.bipush 65, 2) := by decide +kernel
theorem d_Mo_init_187 : decode M_Mo_init.2.1 187 = .ok (.newarray .int, 2) := by decide +kernel
theorem d_Mo_init_189 : decode M_Mo_init.2.1 189 = .ok (.putfield 81, 3) := by decide +kernel
theorem d_Mo_init_192 : decode M_Mo_init.2.1 192 = .ok (.return_, 1) := by decide +kernel
set_option maxHeartbeats 4000000 in
set_option maxRecDepth 100000 in
theorem c_CB_init (G : GT) (h : HM) (q : Nat) (hq : h q = some (.inr (0, [.null, .null, .null, .null, .null, .null, .null, .null, .null]))) : Rn G M_CB_init ({ frames := 3, cells := 29, slots := 4633, locals := 54 }) [.ref q] h (fun r h' => r = none ∧ ∃ q1 q1_q1 q4 q7 q7_q5 q10 q10_q1 q10_q4 q10_q7 q10_q10 q13 q13_q1 q16 q16_q1 q16_q1_q1 q16_q1_q4 q16_q1_q7 q16_q1_q10 q16_q4 q19 q22 q25 q25_q1 q25_q4 q25_q7 q25_q10 q25_q13 q25_q16 q25_q19 : Nat, (∀ b e, h b = some e → b < q1) ∧ q1 < q1_q1 ∧ q1_q1 < q4 ∧ q4 < q7 ∧ q7 < q7_q5 ∧ q7_q5 < q10 ∧ q10 < q10_q1 ∧ q10_q1 < q10_q4 ∧ q10_q4 < q10_q7 ∧ q10_q7 < q10_q10 ∧ q10_q10 < q13 ∧ q13 < q13_q1 ∧ q13_q1 < q16 ∧ q16 < q16_q1 ∧ q16_q1 < q16_q1_q1 ∧ q16_q1_q1 < q16_q1_q4 ∧ q16_q1_q4 < q16_q1_q7 ∧ q16_q1_q7 < q16_q1_q10 ∧ q16_q1_q10 < q16_q4 ∧ q16_q4 < q19 ∧ q19 < q22 ∧ q22 < q25 ∧ q25 < q25_q1 ∧ q25_q1 < q25_q4 ∧ q25_q4 < q25_q7 ∧ q25_q7 < q25_q10 ∧ q25_q10 < q25_q13 ∧ q25_q13 < q25_q16 ∧ q25_q16 < q25_q19 ∧ h' q = some (.inr (0, [.ref q1, .ref q4, .ref q7, .ref q10, .ref q13, .ref q16, .ref q19, .ref q22, .ref q25])) ∧ h' q1 = some (.inr (1, [.ref q1_q1, .int (iZ 0)])) ∧ h' q1_q1 = some (.inl (G_i G, 1000, .inl (iA (fun _ => 0)))) ∧ h' q4 = some (.inr (5, [.int (iZ 25), .int (iZ 1), .long (lZ 28224000)])) ∧ h' q7 = some (.inr (10, [.int (iZ 2), .int (iZ 20), .int (iZ 168), .int (iZ 17), .ref q7_q5, .int (iZ 0)])) ∧ h' q7_q5 = some (.inl (G_i G, 20, .inl (iA (fun _ => 0)))) ∧ h' q10 = some (.inr (2, [.ref q10_q1, .ref q10_q4, .ref q10_q7, .ref q10_q10, .int (iZ 0)])) ∧ h' q10_q1 = some (.inl (G_j G, 16, .inr (.inl (lA (fun _ => 0))))) ∧ h' q10_q4 = some (.inl (G_j G, 16, .inr (.inl (lA (fun _ => 0))))) ∧ h' q10_q7 = some (.inl (G_i G, 16, .inl (iA (fun _ => 0)))) ∧ h' q10_q10 = some (.inl (G_i G, 1024, .inl (iA (fun _ => 0)))) ∧ h' q13 = some (.inr (7, [.ref q13_q1, .int (iZ 0), .int (iZ 0)])) ∧ h' q13_q1 = some (.inl (G_q G, 10, .inr (.inr (.inr (.inr (fun _ => none)))))) ∧ h' q16 = some (.inr (3, [.ref q1, .ref q4, .ref q16_q1, .ref q16_q4, .int (iZ 0), .int (iZ 0), .int (iZ 0), .long (lZ 0), .long (lZ 0), .long (lZ 0)])) ∧ h' q16_q1 = some (.inr (2, [.ref q16_q1_q1, .ref q16_q1_q4, .ref q16_q1_q7, .ref q16_q1_q10, .int (iZ 0)])) ∧ h' q16_q1_q1 = some (.inl (G_j G, 16, .inr (.inl (lA (fun _ => 0))))) ∧ h' q16_q1_q4 = some (.inl (G_j G, 16, .inr (.inl (lA (fun _ => 0))))) ∧ h' q16_q1_q7 = some (.inl (G_i G, 16, .inl (iA (fun _ => 0)))) ∧ h' q16_q1_q10 = some (.inl (G_i G, 1024, .inl (iA (fun _ => 0)))) ∧ h' q16_q4 = some (.inl (G_i G, 64, .inl (iA (fun _ => 0)))) ∧ h' q19 = some (.inr (4, [.ref q1, .ref q4, .ref q10])) ∧ h' q22 = some (.inr (6, [.ref q10, .int (iZ 0), .int (iZ 0)])) ∧ h' q25 = some (.inr (9, [.ref q10, .ref q4, .ref q7, .ref q25_q1, .ref q25_q4, .ref q25_q7, .ref q25_q10, .ref q25_q13, .ref q25_q16, .ref q25_q19])) ∧ h' q25_q1 = some (.inl (G_i G, 16, .inl (iA (fun _ => 0)))) ∧ h' q25_q4 = some (.inl (G_i G, 16, .inl (iA (fun _ => 0)))) ∧ h' q25_q7 = some (.inl (G_i G, 16, .inl (iA (fun _ => 0)))) ∧ h' q25_q10 = some (.inl (G_i G, 97, .inl (iA (fun _ => 0)))) ∧ h' q25_q13 = some (.inl (G_i G, 400, .inl (iA (fun _ => 0)))) ∧ h' q25_q16 = some (.inl (G_i G, 400, .inl (iA (fun _ => 0)))) ∧ h' q25_q19 = some (.inl (G_i G, 400, .inl (iA (fun _ => 0)))) ∧ Fx [q] h h') := by
  refine rn_of (by decide) (Nat.le_of_ble_eq_true rfl) ?_
  show Ev G M_CB_init _ _ 0 [(0, .ref q)] [] _ 0 0
  have fx : Fx [q] h h := Fx.rf
  refine ev_aload_n d_CB_init_0 rfl rfl ?_
  refine ev_objInit d_CB_init_1 ml_CB_1 oi_1 oi_2 (by decide) (by decide) ?_
  refine ev_aload_n d_CB_init_4 rfl rfl ?_
  refine ez_new 2 d_CB_init_5 nc_CB_7 rfl (by decide) (by decide) (fun q1 h2 lt_q1 h2a h2o => ?_)
  have o_q1 := lt_q1 _ _ hq
  have lo_q1 : ∀ b e, h b = some e → b < q1 := by
    intro b e hb9
    by_cases w9 : b = q
    · subst w9; omega
    · exact lt_q1 b e (fx b e hb9 (ninc w9 nin0))
  have fx := fx.new lt_q1 h2o
  have hq := (h2o _ (Nat.ne_of_lt (lt_q1 _ _ hq))).trans hq
  have h_q1 := h2a
  refine ev_dup d_CB_init_8 rfl ?_
  refine ev_callI M_Bu_init ({ frames := 1, cells := 1, slots := 1000, locals := 12 }) _ (As := []) (c_Bu_init G h2 q1 h_q1) d_CB_init_9 mk_Bu_init ml_CB_9 ⟨rfl, rfl⟩ mi_Bu_init rfl rfl (Nat.le_of_ble_eq_true rfl) ⟨by decide, by decide⟩ ⟨by decide, by decide⟩ (fun r h2 hq => ?_)
  obtain ⟨rfl, q1_q1, lt, hb9, h_q1_q1, fxc⟩ := hq
  have o_q1_q1 := lt _ _ h_q1
  have hq := fxc _ _ hq (ninc (by omega) nin0)
  have h_q1 := hb9
  have fx := fx.call fxc (by intro x hx9; rcases List.mem_cons.mp hx9 with rfl | hx9; exact Or.inr (fun b e hb9 => Nat.ne_of_lt (lo_q1 b e hb9)); exact absurd hx9 nin0)
  refine ev_put2 (fs' := [.ref q1, .null, .null, .null, .null, .null, .null, .null, .null]) d_CB_init_12 fw_CB_10 (Or.inl rfl) hq (Nat.le_of_ble_eq_true rfl) rfl rfl rfl (fun h3 h3a h3o => ?_)
  have h_q1 := (h3o _ (by omega)).trans h_q1
  have h_q1_q1 := (h3o _ (by omega)).trans h_q1_q1
  have hq := h3a
  have fx := fx.step (by simp) h3o
  refine ev_aload_n d_CB_init_15 rfl rfl ?_
  refine ez_new 3 d_CB_init_16 nc_CB_16 rfl (by decide) (by decide) (fun q4 h5 lt_q4 h5a h5o => ?_)
  have o_q4 := lt_q4 _ _ h_q1_q1
  have lo_q4 : ∀ b e, h b = some e → b < q4 := by
    intro b e hb9
    by_cases w9 : b = q
    · subst w9; omega
    · exact lt_q4 b e (fx b e hb9 (ninc w9 nin0))
  have fx := fx.new lt_q4 h5o
  have hq := (h5o _ (Nat.ne_of_lt (lt_q4 _ _ hq))).trans hq
  have h_q1 := (h5o _ (Nat.ne_of_lt (lt_q4 _ _ h_q1))).trans h_q1
  have h_q1_q1 := (h5o _ (Nat.ne_of_lt (lt_q4 _ _ h_q1_q1))).trans h_q1_q1
  have h_q4 := h5a
  refine ev_dup d_CB_init_19 rfl ?_
  refine ev_callI M_Fr_init ({ frames := 1, cells := 0, slots := 0, locals := 12 }) _ (As := []) (c_Fr_init G h5 q4 h_q4) d_CB_init_20 mk_Fr_init ml_CB_18 ⟨rfl, rfl⟩ mi_Fr_init rfl rfl (Nat.le_of_ble_eq_true rfl) ⟨by decide, by decide⟩ ⟨by decide, by decide⟩ (fun r h2 hq => ?_)
  obtain ⟨rfl, hb9, fxc⟩ := hq
  have hq := fxc _ _ hq (ninc (by omega) nin0)
  have h_q1 := fxc _ _ h_q1 (ninc (by omega) nin0)
  have h_q1_q1 := fxc _ _ h_q1_q1 (ninc (by omega) nin0)
  have h_q4 := hb9
  have fx := fx.call fxc (by intro x hx9; rcases List.mem_cons.mp hx9 with rfl | hx9; exact Or.inr (fun b e hb9 => Nat.ne_of_lt (lo_q4 b e hb9)); exact absurd hx9 nin0)
  refine ev_put2 (fs' := [.ref q1, .ref q4, .null, .null, .null, .null, .null, .null, .null]) d_CB_init_23 fw_CB_19 (Or.inl rfl) hq (Nat.le_of_ble_eq_true rfl) rfl rfl rfl (fun h6 h6a h6o => ?_)
  have h_q1 := (h6o _ (by omega)).trans h_q1
  have h_q1_q1 := (h6o _ (by omega)).trans h_q1_q1
  have h_q4 := (h6o _ (by omega)).trans h_q4
  have hq := h6a
  have fx := fx.step (by simp) h6o
  refine ev_aload_n d_CB_init_26 rfl rfl ?_
  refine ez_new 6 d_CB_init_27 nc_CB_23 rfl (by decide) (by decide) (fun q7 h8 lt_q7 h8a h8o => ?_)
  have o_q7 := lt_q7 _ _ h_q4
  have lo_q7 : ∀ b e, h b = some e → b < q7 := by
    intro b e hb9
    by_cases w9 : b = q
    · subst w9; omega
    · exact lt_q7 b e (fx b e hb9 (ninc w9 nin0))
  have fx := fx.new lt_q7 h8o
  have hq := (h8o _ (Nat.ne_of_lt (lt_q7 _ _ hq))).trans hq
  have h_q1 := (h8o _ (Nat.ne_of_lt (lt_q7 _ _ h_q1))).trans h_q1
  have h_q1_q1 := (h8o _ (Nat.ne_of_lt (lt_q7 _ _ h_q1_q1))).trans h_q1_q1
  have h_q4 := (h8o _ (Nat.ne_of_lt (lt_q7 _ _ h_q4))).trans h_q4
  have h_q7 := h8a
  refine ev_dup d_CB_init_30 rfl ?_
  refine ev_callI M_Ru_init ({ frames := 1, cells := 1, slots := 20, locals := 12 }) _ (As := []) (c_Ru_init G h8 q7 h_q7) d_CB_init_31 mk_Ru_init ml_CB_25 ⟨rfl, rfl⟩ mi_Ru_init rfl rfl (Nat.le_of_ble_eq_true rfl) ⟨by decide, by decide⟩ ⟨by decide, by decide⟩ (fun r h2 hq => ?_)
  obtain ⟨rfl, q7_q5, lt, hb9, h_q7_q5, fxc⟩ := hq
  have o_q7_q5 := lt _ _ h_q7
  have hq := fxc _ _ hq (ninc (by omega) nin0)
  have h_q1 := fxc _ _ h_q1 (ninc (by omega) nin0)
  have h_q1_q1 := fxc _ _ h_q1_q1 (ninc (by omega) nin0)
  have h_q4 := fxc _ _ h_q4 (ninc (by omega) nin0)
  have h_q7 := hb9
  have fx := fx.call fxc (by intro x hx9; rcases List.mem_cons.mp hx9 with rfl | hx9; exact Or.inr (fun b e hb9 => Nat.ne_of_lt (lo_q7 b e hb9)); exact absurd hx9 nin0)
  refine ev_put2 (fs' := [.ref q1, .ref q4, .ref q7, .null, .null, .null, .null, .null, .null]) d_CB_init_34 fw_CB_26 (Or.inl rfl) hq (Nat.le_of_ble_eq_true rfl) rfl rfl rfl (fun h9 h9a h9o => ?_)
  have h_q1 := (h9o _ (by omega)).trans h_q1
  have h_q1_q1 := (h9o _ (by omega)).trans h_q1_q1
  have h_q4 := (h9o _ (by omega)).trans h_q4
  have h_q7 := (h9o _ (by omega)).trans h_q7
  have h_q7_q5 := (h9o _ (by omega)).trans h_q7_q5
  have hq := h9a
  have fx := fx.step (by simp) h9o
  refine ev_aload_n d_CB_init_37 rfl rfl ?_
  refine ez_new 5 d_CB_init_38 nc_CB_30 rfl (by decide) (by decide) (fun q10 h11 lt_q10 h11a h11o => ?_)
  have o_q10 := lt_q10 _ _ h_q7_q5
  have lo_q10 : ∀ b e, h b = some e → b < q10 := by
    intro b e hb9
    by_cases w9 : b = q
    · subst w9; omega
    · exact lt_q10 b e (fx b e hb9 (ninc w9 nin0))
  have fx := fx.new lt_q10 h11o
  have hq := (h11o _ (Nat.ne_of_lt (lt_q10 _ _ hq))).trans hq
  have h_q1 := (h11o _ (Nat.ne_of_lt (lt_q10 _ _ h_q1))).trans h_q1
  have h_q1_q1 := (h11o _ (Nat.ne_of_lt (lt_q10 _ _ h_q1_q1))).trans h_q1_q1
  have h_q4 := (h11o _ (Nat.ne_of_lt (lt_q10 _ _ h_q4))).trans h_q4
  have h_q7 := (h11o _ (Nat.ne_of_lt (lt_q10 _ _ h_q7))).trans h_q7
  have h_q7_q5 := (h11o _ (Nat.ne_of_lt (lt_q10 _ _ h_q7_q5))).trans h_q7_q5
  have h_q10 := h11a
  refine ev_dup d_CB_init_41 rfl ?_
  refine ev_callI M_Ro_init ({ frames := 1, cells := 4, slots := 1072, locals := 12 }) _ (As := []) (c_Ro_init G h11 q10 h_q10) d_CB_init_42 mk_Ro_init ml_CB_32 ⟨rfl, rfl⟩ mi_Ro_init rfl rfl (Nat.le_of_ble_eq_true rfl) ⟨by decide, by decide⟩ ⟨by decide, by decide⟩ (fun r h2 hq => ?_)
  obtain ⟨rfl, q10_q1, q10_q4, q10_q7, q10_q10, lt, o_q10_q4, o_q10_q7, o_q10_q10, hb9, h_q10_q1, h_q10_q4, h_q10_q7, h_q10_q10, fxc⟩ := hq
  have o_q10_q1 := lt _ _ h_q10
  have hq := fxc _ _ hq (ninc (by omega) nin0)
  have h_q1 := fxc _ _ h_q1 (ninc (by omega) nin0)
  have h_q1_q1 := fxc _ _ h_q1_q1 (ninc (by omega) nin0)
  have h_q4 := fxc _ _ h_q4 (ninc (by omega) nin0)
  have h_q7 := fxc _ _ h_q7 (ninc (by omega) nin0)
  have h_q7_q5 := fxc _ _ h_q7_q5 (ninc (by omega) nin0)
  have h_q10 := hb9
  have fx := fx.call fxc (by intro x hx9; rcases List.mem_cons.mp hx9 with rfl | hx9; exact Or.inr (fun b e hb9 => Nat.ne_of_lt (lo_q10 b e hb9)); exact absurd hx9 nin0)
  refine ev_put2 (fs' := [.ref q1, .ref q4, .ref q7, .ref q10, .null, .null, .null, .null, .null]) d_CB_init_45 fw_CB_33 (Or.inl rfl) hq (Nat.le_of_ble_eq_true rfl) rfl rfl rfl (fun h12 h12a h12o => ?_)
  have h_q1 := (h12o _ (by omega)).trans h_q1
  have h_q1_q1 := (h12o _ (by omega)).trans h_q1_q1
  have h_q4 := (h12o _ (by omega)).trans h_q4
  have h_q7 := (h12o _ (by omega)).trans h_q7
  have h_q7_q5 := (h12o _ (by omega)).trans h_q7_q5
  have h_q10 := (h12o _ (by omega)).trans h_q10
  have h_q10_q1 := (h12o _ (by omega)).trans h_q10_q1
  have h_q10_q4 := (h12o _ (by omega)).trans h_q10_q4
  have h_q10_q7 := (h12o _ (by omega)).trans h_q10_q7
  have h_q10_q10 := (h12o _ (by omega)).trans h_q10_q10
  have hq := h12a
  have fx := fx.step (by simp) h12o
  refine ev_aload_n d_CB_init_48 rfl rfl ?_
  refine ez_new 3 d_CB_init_49 nc_CB_37 rfl (by decide) (by decide) (fun q13 h14 lt_q13 h14a h14o => ?_)
  have o_q13 := lt_q13 _ _ h_q10_q10
  have lo_q13 : ∀ b e, h b = some e → b < q13 := by
    intro b e hb9
    by_cases w9 : b = q
    · subst w9; omega
    · exact lt_q13 b e (fx b e hb9 (ninc w9 nin0))
  have fx := fx.new lt_q13 h14o
  have hq := (h14o _ (Nat.ne_of_lt (lt_q13 _ _ hq))).trans hq
  have h_q1 := (h14o _ (Nat.ne_of_lt (lt_q13 _ _ h_q1))).trans h_q1
  have h_q1_q1 := (h14o _ (Nat.ne_of_lt (lt_q13 _ _ h_q1_q1))).trans h_q1_q1
  have h_q4 := (h14o _ (Nat.ne_of_lt (lt_q13 _ _ h_q4))).trans h_q4
  have h_q7 := (h14o _ (Nat.ne_of_lt (lt_q13 _ _ h_q7))).trans h_q7
  have h_q7_q5 := (h14o _ (Nat.ne_of_lt (lt_q13 _ _ h_q7_q5))).trans h_q7_q5
  have h_q10 := (h14o _ (Nat.ne_of_lt (lt_q13 _ _ h_q10))).trans h_q10
  have h_q10_q1 := (h14o _ (Nat.ne_of_lt (lt_q13 _ _ h_q10_q1))).trans h_q10_q1
  have h_q10_q4 := (h14o _ (Nat.ne_of_lt (lt_q13 _ _ h_q10_q4))).trans h_q10_q4
  have h_q10_q7 := (h14o _ (Nat.ne_of_lt (lt_q13 _ _ h_q10_q7))).trans h_q10_q7
  have h_q10_q10 := (h14o _ (Nat.ne_of_lt (lt_q13 _ _ h_q10_q10))).trans h_q10_q10
  have h_q13 := h14a
  refine ev_dup d_CB_init_52 rfl ?_
  refine ev_callI M_Pa_init ({ frames := 1, cells := 1, slots := 10, locals := 12 }) _ (As := []) (c_Pa_init G h14 q13 h_q13) d_CB_init_53 mk_Pa_init ml_CB_39 ⟨rfl, rfl⟩ mi_Pa_init rfl rfl (Nat.le_of_ble_eq_true rfl) ⟨by decide, by decide⟩ ⟨by decide, by decide⟩ (fun r h2 hq => ?_)
  obtain ⟨rfl, q13_q1, lt, hb9, h_q13_q1, fxc⟩ := hq
  have o_q13_q1 := lt _ _ h_q13
  have hq := fxc _ _ hq (ninc (by omega) nin0)
  have h_q1 := fxc _ _ h_q1 (ninc (by omega) nin0)
  have h_q1_q1 := fxc _ _ h_q1_q1 (ninc (by omega) nin0)
  have h_q4 := fxc _ _ h_q4 (ninc (by omega) nin0)
  have h_q7 := fxc _ _ h_q7 (ninc (by omega) nin0)
  have h_q7_q5 := fxc _ _ h_q7_q5 (ninc (by omega) nin0)
  have h_q10 := fxc _ _ h_q10 (ninc (by omega) nin0)
  have h_q10_q1 := fxc _ _ h_q10_q1 (ninc (by omega) nin0)
  have h_q10_q4 := fxc _ _ h_q10_q4 (ninc (by omega) nin0)
  have h_q10_q7 := fxc _ _ h_q10_q7 (ninc (by omega) nin0)
  have h_q10_q10 := fxc _ _ h_q10_q10 (ninc (by omega) nin0)
  have h_q13 := hb9
  have fx := fx.call fxc (by intro x hx9; rcases List.mem_cons.mp hx9 with rfl | hx9; exact Or.inr (fun b e hb9 => Nat.ne_of_lt (lo_q13 b e hb9)); exact absurd hx9 nin0)
  refine ev_put2 (fs' := [.ref q1, .ref q4, .ref q7, .ref q10, .ref q13, .null, .null, .null, .null]) d_CB_init_56 fw_CB_40 (Or.inl rfl) hq (Nat.le_of_ble_eq_true rfl) rfl rfl rfl (fun h15 h15a h15o => ?_)
  have h_q1 := (h15o _ (by omega)).trans h_q1
  have h_q1_q1 := (h15o _ (by omega)).trans h_q1_q1
  have h_q4 := (h15o _ (by omega)).trans h_q4
  have h_q7 := (h15o _ (by omega)).trans h_q7
  have h_q7_q5 := (h15o _ (by omega)).trans h_q7_q5
  have h_q10 := (h15o _ (by omega)).trans h_q10
  have h_q10_q1 := (h15o _ (by omega)).trans h_q10_q1
  have h_q10_q4 := (h15o _ (by omega)).trans h_q10_q4
  have h_q10_q7 := (h15o _ (by omega)).trans h_q10_q7
  have h_q10_q10 := (h15o _ (by omega)).trans h_q10_q10
  have h_q13 := (h15o _ (by omega)).trans h_q13
  have h_q13_q1 := (h15o _ (by omega)).trans h_q13_q1
  have hq := h15a
  have fx := fx.step (by simp) h15o
  refine ev_aload_n d_CB_init_59 rfl rfl ?_
  refine ez_new 10 d_CB_init_60 nc_CB_44 rfl (by decide) (by decide) (fun q16 h17 lt_q16 h17a h17o => ?_)
  have o_q16 := lt_q16 _ _ h_q13_q1
  have lo_q16 : ∀ b e, h b = some e → b < q16 := by
    intro b e hb9
    by_cases w9 : b = q
    · subst w9; omega
    · exact lt_q16 b e (fx b e hb9 (ninc w9 nin0))
  have fx := fx.new lt_q16 h17o
  have hq := (h17o _ (Nat.ne_of_lt (lt_q16 _ _ hq))).trans hq
  have h_q1 := (h17o _ (Nat.ne_of_lt (lt_q16 _ _ h_q1))).trans h_q1
  have h_q1_q1 := (h17o _ (Nat.ne_of_lt (lt_q16 _ _ h_q1_q1))).trans h_q1_q1
  have h_q4 := (h17o _ (Nat.ne_of_lt (lt_q16 _ _ h_q4))).trans h_q4
  have h_q7 := (h17o _ (Nat.ne_of_lt (lt_q16 _ _ h_q7))).trans h_q7
  have h_q7_q5 := (h17o _ (Nat.ne_of_lt (lt_q16 _ _ h_q7_q5))).trans h_q7_q5
  have h_q10 := (h17o _ (Nat.ne_of_lt (lt_q16 _ _ h_q10))).trans h_q10
  have h_q10_q1 := (h17o _ (Nat.ne_of_lt (lt_q16 _ _ h_q10_q1))).trans h_q10_q1
  have h_q10_q4 := (h17o _ (Nat.ne_of_lt (lt_q16 _ _ h_q10_q4))).trans h_q10_q4
  have h_q10_q7 := (h17o _ (Nat.ne_of_lt (lt_q16 _ _ h_q10_q7))).trans h_q10_q7
  have h_q10_q10 := (h17o _ (Nat.ne_of_lt (lt_q16 _ _ h_q10_q10))).trans h_q10_q10
  have h_q13 := (h17o _ (Nat.ne_of_lt (lt_q16 _ _ h_q13))).trans h_q13
  have h_q13_q1 := (h17o _ (Nat.ne_of_lt (lt_q16 _ _ h_q13_q1))).trans h_q13_q1
  have h_q16 := h17a
  refine ev_dup d_CB_init_63 rfl ?_
  refine ev_aload_n d_CB_init_64 rfl rfl ?_
  refine ev_get d_CB_init_65 fl_CB_10 hq rfl ?_
  refine ev_aload_n d_CB_init_68 rfl rfl ?_
  refine ev_get d_CB_init_69 fl_CB_19 hq rfl ?_
  refine ev_callI M_Re_init ({ frames := 2, cells := 6, slots := 1141, locals := 32 }) _ (As := [.ref q1, .ref q4]) (c_Re_init G h17 q16 q1 q4 h_q16) d_CB_init_72 mk_Re_init ml_CB_46 ⟨rfl, rfl⟩ mi_Re_init rfl rfl (Nat.le_of_ble_eq_true rfl) ⟨by decide, by decide⟩ ⟨by decide, by decide⟩ (fun r h2 hq => ?_)
  obtain ⟨rfl, q16_q1, q16_q1_q1, q16_q1_q4, q16_q1_q7, q16_q1_q10, q16_q4, lt, o_q16_q1_q1, o_q16_q1_q4, o_q16_q1_q7, o_q16_q1_q10, o_q16_q4, hb9, h_q16_q1, h_q16_q1_q1, h_q16_q1_q4, h_q16_q1_q7, h_q16_q1_q10, h_q16_q4, fxc⟩ := hq
  have o_q16_q1 := lt _ _ h_q16
  have hq := fxc _ _ hq (ninc (by omega) nin0)
  have h_q1 := fxc _ _ h_q1 (ninc (by omega) nin0)
  have h_q1_q1 := fxc _ _ h_q1_q1 (ninc (by omega) nin0)
  have h_q4 := fxc _ _ h_q4 (ninc (by omega) nin0)
  have h_q7 := fxc _ _ h_q7 (ninc (by omega) nin0)
  have h_q7_q5 := fxc _ _ h_q7_q5 (ninc (by omega) nin0)
  have h_q10 := fxc _ _ h_q10 (ninc (by omega) nin0)
  have h_q10_q1 := fxc _ _ h_q10_q1 (ninc (by omega) nin0)
  have h_q10_q4 := fxc _ _ h_q10_q4 (ninc (by omega) nin0)
  have h_q10_q7 := fxc _ _ h_q10_q7 (ninc (by omega) nin0)
  have h_q10_q10 := fxc _ _ h_q10_q10 (ninc (by omega) nin0)
  have h_q13 := fxc _ _ h_q13 (ninc (by omega) nin0)
  have h_q13_q1 := fxc _ _ h_q13_q1 (ninc (by omega) nin0)
  have h_q16 := hb9
  have fx := fx.call fxc (by intro x hx9; rcases List.mem_cons.mp hx9 with rfl | hx9; exact Or.inr (fun b e hb9 => Nat.ne_of_lt (lo_q16 b e hb9)); exact absurd hx9 nin0)
  refine ev_put2 (fs' := [.ref q1, .ref q4, .ref q7, .ref q10, .ref q13, .ref q16, .null, .null, .null]) d_CB_init_75 fw_CB_49 (Or.inl rfl) hq (Nat.le_of_ble_eq_true rfl) rfl rfl rfl (fun h18 h18a h18o => ?_)
  have h_q1 := (h18o _ (by omega)).trans h_q1
  have h_q1_q1 := (h18o _ (by omega)).trans h_q1_q1
  have h_q4 := (h18o _ (by omega)).trans h_q4
  have h_q7 := (h18o _ (by omega)).trans h_q7
  have h_q7_q5 := (h18o _ (by omega)).trans h_q7_q5
  have h_q10 := (h18o _ (by omega)).trans h_q10
  have h_q10_q1 := (h18o _ (by omega)).trans h_q10_q1
  have h_q10_q4 := (h18o _ (by omega)).trans h_q10_q4
  have h_q10_q7 := (h18o _ (by omega)).trans h_q10_q7
  have h_q10_q10 := (h18o _ (by omega)).trans h_q10_q10
  have h_q13 := (h18o _ (by omega)).trans h_q13
  have h_q13_q1 := (h18o _ (by omega)).trans h_q13_q1
  have h_q16 := (h18o _ (by omega)).trans h_q16
  have h_q16_q1 := (h18o _ (by omega)).trans h_q16_q1
  have h_q16_q1_q1 := (h18o _ (by omega)).trans h_q16_q1_q1
  have h_q16_q1_q4 := (h18o _ (by omega)).trans h_q16_q1_q4
  have h_q16_q1_q7 := (h18o _ (by omega)).trans h_q16_q1_q7
  have h_q16_q1_q10 := (h18o _ (by omega)).trans h_q16_q1_q10
  have h_q16_q4 := (h18o _ (by omega)).trans h_q16_q4
  have hq := h18a
  have fx := fx.step (by simp) h18o
  refine ev_aload_n d_CB_init_78 rfl rfl ?_
  refine ez_new 3 d_CB_init_79 nc_CB_53 rfl (by decide) (by decide) (fun q19 h20 lt_q19 h20a h20o => ?_)
  have o_q19 := lt_q19 _ _ h_q16_q4
  have lo_q19 : ∀ b e, h b = some e → b < q19 := by
    intro b e hb9
    by_cases w9 : b = q
    · subst w9; omega
    · exact lt_q19 b e (fx b e hb9 (ninc w9 nin0))
  have fx := fx.new lt_q19 h20o
  have hq := (h20o _ (Nat.ne_of_lt (lt_q19 _ _ hq))).trans hq
  have h_q1 := (h20o _ (Nat.ne_of_lt (lt_q19 _ _ h_q1))).trans h_q1
  have h_q1_q1 := (h20o _ (Nat.ne_of_lt (lt_q19 _ _ h_q1_q1))).trans h_q1_q1
  have h_q4 := (h20o _ (Nat.ne_of_lt (lt_q19 _ _ h_q4))).trans h_q4
  have h_q7 := (h20o _ (Nat.ne_of_lt (lt_q19 _ _ h_q7))).trans h_q7
  have h_q7_q5 := (h20o _ (Nat.ne_of_lt (lt_q19 _ _ h_q7_q5))).trans h_q7_q5
  have h_q10 := (h20o _ (Nat.ne_of_lt (lt_q19 _ _ h_q10))).trans h_q10
  have h_q10_q1 := (h20o _ (Nat.ne_of_lt (lt_q19 _ _ h_q10_q1))).trans h_q10_q1
  have h_q10_q4 := (h20o _ (Nat.ne_of_lt (lt_q19 _ _ h_q10_q4))).trans h_q10_q4
  have h_q10_q7 := (h20o _ (Nat.ne_of_lt (lt_q19 _ _ h_q10_q7))).trans h_q10_q7
  have h_q10_q10 := (h20o _ (Nat.ne_of_lt (lt_q19 _ _ h_q10_q10))).trans h_q10_q10
  have h_q13 := (h20o _ (Nat.ne_of_lt (lt_q19 _ _ h_q13))).trans h_q13
  have h_q13_q1 := (h20o _ (Nat.ne_of_lt (lt_q19 _ _ h_q13_q1))).trans h_q13_q1
  have h_q16 := (h20o _ (Nat.ne_of_lt (lt_q19 _ _ h_q16))).trans h_q16
  have h_q16_q1 := (h20o _ (Nat.ne_of_lt (lt_q19 _ _ h_q16_q1))).trans h_q16_q1
  have h_q16_q1_q1 := (h20o _ (Nat.ne_of_lt (lt_q19 _ _ h_q16_q1_q1))).trans h_q16_q1_q1
  have h_q16_q1_q4 := (h20o _ (Nat.ne_of_lt (lt_q19 _ _ h_q16_q1_q4))).trans h_q16_q1_q4
  have h_q16_q1_q7 := (h20o _ (Nat.ne_of_lt (lt_q19 _ _ h_q16_q1_q7))).trans h_q16_q1_q7
  have h_q16_q1_q10 := (h20o _ (Nat.ne_of_lt (lt_q19 _ _ h_q16_q1_q10))).trans h_q16_q1_q10
  have h_q16_q4 := (h20o _ (Nat.ne_of_lt (lt_q19 _ _ h_q16_q4))).trans h_q16_q4
  have h_q19 := h20a
  refine ev_dup d_CB_init_82 rfl ?_
  refine ev_aload_n d_CB_init_83 rfl rfl ?_
  refine ev_get d_CB_init_84 fl_CB_10 hq rfl ?_
  refine ev_aload_n d_CB_init_87 rfl rfl ?_
  refine ev_get d_CB_init_88 fl_CB_19 hq rfl ?_
  refine ev_aload_n d_CB_init_91 rfl rfl ?_
  refine ev_get d_CB_init_92 fl_CB_33 hq rfl ?_
  refine ev_callI M_Wr_init ({ frames := 1, cells := 0, slots := 0, locals := 12 }) _ (As := [.ref q1, .ref q4, .ref q10]) (c_Wr_init G h20 q19 q1 q4 q10 h_q19) d_CB_init_95 mk_Wr_init ml_CB_55 ⟨rfl, rfl⟩ mi_Wr_init rfl rfl (Nat.le_of_ble_eq_true rfl) ⟨by decide, by decide⟩ ⟨by decide, by decide⟩ (fun r h2 hq => ?_)
  obtain ⟨rfl, hb9, fxc⟩ := hq
  have hq := fxc _ _ hq (ninc (by omega) nin0)
  have h_q1 := fxc _ _ h_q1 (ninc (by omega) nin0)
  have h_q1_q1 := fxc _ _ h_q1_q1 (ninc (by omega) nin0)
  have h_q4 := fxc _ _ h_q4 (ninc (by omega) nin0)
  have h_q7 := fxc _ _ h_q7 (ninc (by omega) nin0)
  have h_q7_q5 := fxc _ _ h_q7_q5 (ninc (by omega) nin0)
  have h_q10 := fxc _ _ h_q10 (ninc (by omega) nin0)
  have h_q10_q1 := fxc _ _ h_q10_q1 (ninc (by omega) nin0)
  have h_q10_q4 := fxc _ _ h_q10_q4 (ninc (by omega) nin0)
  have h_q10_q7 := fxc _ _ h_q10_q7 (ninc (by omega) nin0)
  have h_q10_q10 := fxc _ _ h_q10_q10 (ninc (by omega) nin0)
  have h_q13 := fxc _ _ h_q13 (ninc (by omega) nin0)
  have h_q13_q1 := fxc _ _ h_q13_q1 (ninc (by omega) nin0)
  have h_q16 := fxc _ _ h_q16 (ninc (by omega) nin0)
  have h_q16_q1 := fxc _ _ h_q16_q1 (ninc (by omega) nin0)
  have h_q16_q1_q1 := fxc _ _ h_q16_q1_q1 (ninc (by omega) nin0)
  have h_q16_q1_q4 := fxc _ _ h_q16_q1_q4 (ninc (by omega) nin0)
  have h_q16_q1_q7 := fxc _ _ h_q16_q1_q7 (ninc (by omega) nin0)
  have h_q16_q1_q10 := fxc _ _ h_q16_q1_q10 (ninc (by omega) nin0)
  have h_q16_q4 := fxc _ _ h_q16_q4 (ninc (by omega) nin0)
  have h_q19 := hb9
  have fx := fx.call fxc (by intro x hx9; rcases List.mem_cons.mp hx9 with rfl | hx9; exact Or.inr (fun b e hb9 => Nat.ne_of_lt (lo_q19 b e hb9)); exact absurd hx9 nin0)
  refine ev_put2 (fs' := [.ref q1, .ref q4, .ref q7, .ref q10, .ref q13, .ref q16, .ref q19, .null, .null]) d_CB_init_98 fw_CB_58 (Or.inl rfl) hq (Nat.le_of_ble_eq_true rfl) rfl rfl rfl (fun h21 h21a h21o => ?_)
  have h_q1 := (h21o _ (by omega)).trans h_q1
  have h_q1_q1 := (h21o _ (by omega)).trans h_q1_q1
  have h_q4 := (h21o _ (by omega)).trans h_q4
  have h_q7 := (h21o _ (by omega)).trans h_q7
  have h_q7_q5 := (h21o _ (by omega)).trans h_q7_q5
  have h_q10 := (h21o _ (by omega)).trans h_q10
  have h_q10_q1 := (h21o _ (by omega)).trans h_q10_q1
  have h_q10_q4 := (h21o _ (by omega)).trans h_q10_q4
  have h_q10_q7 := (h21o _ (by omega)).trans h_q10_q7
  have h_q10_q10 := (h21o _ (by omega)).trans h_q10_q10
  have h_q13 := (h21o _ (by omega)).trans h_q13
  have h_q13_q1 := (h21o _ (by omega)).trans h_q13_q1
  have h_q16 := (h21o _ (by omega)).trans h_q16
  have h_q16_q1 := (h21o _ (by omega)).trans h_q16_q1
  have h_q16_q1_q1 := (h21o _ (by omega)).trans h_q16_q1_q1
  have h_q16_q1_q4 := (h21o _ (by omega)).trans h_q16_q1_q4
  have h_q16_q1_q7 := (h21o _ (by omega)).trans h_q16_q1_q7
  have h_q16_q1_q10 := (h21o _ (by omega)).trans h_q16_q1_q10
  have h_q16_q4 := (h21o _ (by omega)).trans h_q16_q4
  have h_q19 := (h21o _ (by omega)).trans h_q19
  have hq := h21a
  have fx := fx.step (by simp) h21o
  refine ev_aload_n d_CB_init_101 rfl rfl ?_
  refine ez_new 3 d_CB_init_102 nc_CB_62 rfl (by decide) (by decide) (fun q22 h23 lt_q22 h23a h23o => ?_)
  have o_q22 := lt_q22 _ _ h_q19
  have lo_q22 : ∀ b e, h b = some e → b < q22 := by
    intro b e hb9
    by_cases w9 : b = q
    · subst w9; omega
    · exact lt_q22 b e (fx b e hb9 (ninc w9 nin0))
  have fx := fx.new lt_q22 h23o
  have hq := (h23o _ (Nat.ne_of_lt (lt_q22 _ _ hq))).trans hq
  have h_q1 := (h23o _ (Nat.ne_of_lt (lt_q22 _ _ h_q1))).trans h_q1
  have h_q1_q1 := (h23o _ (Nat.ne_of_lt (lt_q22 _ _ h_q1_q1))).trans h_q1_q1
  have h_q4 := (h23o _ (Nat.ne_of_lt (lt_q22 _ _ h_q4))).trans h_q4
  have h_q7 := (h23o _ (Nat.ne_of_lt (lt_q22 _ _ h_q7))).trans h_q7
  have h_q7_q5 := (h23o _ (Nat.ne_of_lt (lt_q22 _ _ h_q7_q5))).trans h_q7_q5
  have h_q10 := (h23o _ (Nat.ne_of_lt (lt_q22 _ _ h_q10))).trans h_q10
  have h_q10_q1 := (h23o _ (Nat.ne_of_lt (lt_q22 _ _ h_q10_q1))).trans h_q10_q1
  have h_q10_q4 := (h23o _ (Nat.ne_of_lt (lt_q22 _ _ h_q10_q4))).trans h_q10_q4
  have h_q10_q7 := (h23o _ (Nat.ne_of_lt (lt_q22 _ _ h_q10_q7))).trans h_q10_q7
  have h_q10_q10 := (h23o _ (Nat.ne_of_lt (lt_q22 _ _ h_q10_q10))).trans h_q10_q10
  have h_q13 := (h23o _ (Nat.ne_of_lt (lt_q22 _ _ h_q13))).trans h_q13
  have h_q13_q1 := (h23o _ (Nat.ne_of_lt (lt_q22 _ _ h_q13_q1))).trans h_q13_q1
  have h_q16 := (h23o _ (Nat.ne_of_lt (lt_q22 _ _ h_q16))).trans h_q16
  have h_q16_q1 := (h23o _ (Nat.ne_of_lt (lt_q22 _ _ h_q16_q1))).trans h_q16_q1
  have h_q16_q1_q1 := (h23o _ (Nat.ne_of_lt (lt_q22 _ _ h_q16_q1_q1))).trans h_q16_q1_q1
  have h_q16_q1_q4 := (h23o _ (Nat.ne_of_lt (lt_q22 _ _ h_q16_q1_q4))).trans h_q16_q1_q4
  have h_q16_q1_q7 := (h23o _ (Nat.ne_of_lt (lt_q22 _ _ h_q16_q1_q7))).trans h_q16_q1_q7
  have h_q16_q1_q10 := (h23o _ (Nat.ne_of_lt (lt_q22 _ _ h_q16_q1_q10))).trans h_q16_q1_q10
  have h_q16_q4 := (h23o _ (Nat.ne_of_lt (lt_q22 _ _ h_q16_q4))).trans h_q16_q4
  have h_q19 := (h23o _ (Nat.ne_of_lt (lt_q22 _ _ h_q19))).trans h_q19
  have h_q22 := h23a
  refine ev_dup d_CB_init_105 rfl ?_
  refine ev_aload_n d_CB_init_106 rfl rfl ?_
  refine ev_get d_CB_init_107 fl_CB_33 hq rfl ?_
  refine ev_callI M_Li_init ({ frames := 1, cells := 0, slots := 0, locals := 12 }) _ (As := [.ref q10]) (c_Li_init G h23 q22 q10 h_q22) d_CB_init_110 mk_Li_init ml_CB_64 ⟨rfl, rfl⟩ mi_Li_init rfl rfl (Nat.le_of_ble_eq_true rfl) ⟨by decide, by decide⟩ ⟨by decide, by decide⟩ (fun r h2 hq => ?_)
  obtain ⟨rfl, hb9, fxc⟩ := hq
  have hq := fxc _ _ hq (ninc (by omega) nin0)
  have h_q1 := fxc _ _ h_q1 (ninc (by omega) nin0)
  have h_q1_q1 := fxc _ _ h_q1_q1 (ninc (by omega) nin0)
  have h_q4 := fxc _ _ h_q4 (ninc (by omega) nin0)
  have h_q7 := fxc _ _ h_q7 (ninc (by omega) nin0)
  have h_q7_q5 := fxc _ _ h_q7_q5 (ninc (by omega) nin0)
  have h_q10 := fxc _ _ h_q10 (ninc (by omega) nin0)
  have h_q10_q1 := fxc _ _ h_q10_q1 (ninc (by omega) nin0)
  have h_q10_q4 := fxc _ _ h_q10_q4 (ninc (by omega) nin0)
  have h_q10_q7 := fxc _ _ h_q10_q7 (ninc (by omega) nin0)
  have h_q10_q10 := fxc _ _ h_q10_q10 (ninc (by omega) nin0)
  have h_q13 := fxc _ _ h_q13 (ninc (by omega) nin0)
  have h_q13_q1 := fxc _ _ h_q13_q1 (ninc (by omega) nin0)
  have h_q16 := fxc _ _ h_q16 (ninc (by omega) nin0)
  have h_q16_q1 := fxc _ _ h_q16_q1 (ninc (by omega) nin0)
  have h_q16_q1_q1 := fxc _ _ h_q16_q1_q1 (ninc (by omega) nin0)
  have h_q16_q1_q4 := fxc _ _ h_q16_q1_q4 (ninc (by omega) nin0)
  have h_q16_q1_q7 := fxc _ _ h_q16_q1_q7 (ninc (by omega) nin0)
  have h_q16_q1_q10 := fxc _ _ h_q16_q1_q10 (ninc (by omega) nin0)
  have h_q16_q4 := fxc _ _ h_q16_q4 (ninc (by omega) nin0)
  have h_q19 := fxc _ _ h_q19 (ninc (by omega) nin0)
  have h_q22 := hb9
  have fx := fx.call fxc (by intro x hx9; rcases List.mem_cons.mp hx9 with rfl | hx9; exact Or.inr (fun b e hb9 => Nat.ne_of_lt (lo_q22 b e hb9)); exact absurd hx9 nin0)
  refine ev_put2 (fs' := [.ref q1, .ref q4, .ref q7, .ref q10, .ref q13, .ref q16, .ref q19, .ref q22, .null]) d_CB_init_113 fw_CB_67 (Or.inl rfl) hq (Nat.le_of_ble_eq_true rfl) rfl rfl rfl (fun h24 h24a h24o => ?_)
  have h_q1 := (h24o _ (by omega)).trans h_q1
  have h_q1_q1 := (h24o _ (by omega)).trans h_q1_q1
  have h_q4 := (h24o _ (by omega)).trans h_q4
  have h_q7 := (h24o _ (by omega)).trans h_q7
  have h_q7_q5 := (h24o _ (by omega)).trans h_q7_q5
  have h_q10 := (h24o _ (by omega)).trans h_q10
  have h_q10_q1 := (h24o _ (by omega)).trans h_q10_q1
  have h_q10_q4 := (h24o _ (by omega)).trans h_q10_q4
  have h_q10_q7 := (h24o _ (by omega)).trans h_q10_q7
  have h_q10_q10 := (h24o _ (by omega)).trans h_q10_q10
  have h_q13 := (h24o _ (by omega)).trans h_q13
  have h_q13_q1 := (h24o _ (by omega)).trans h_q13_q1
  have h_q16 := (h24o _ (by omega)).trans h_q16
  have h_q16_q1 := (h24o _ (by omega)).trans h_q16_q1
  have h_q16_q1_q1 := (h24o _ (by omega)).trans h_q16_q1_q1
  have h_q16_q1_q4 := (h24o _ (by omega)).trans h_q16_q1_q4
  have h_q16_q1_q7 := (h24o _ (by omega)).trans h_q16_q1_q7
  have h_q16_q1_q10 := (h24o _ (by omega)).trans h_q16_q1_q10
  have h_q16_q4 := (h24o _ (by omega)).trans h_q16_q4
  have h_q19 := (h24o _ (by omega)).trans h_q19
  have h_q22 := (h24o _ (by omega)).trans h_q22
  have hq := h24a
  have fx := fx.step (by simp) h24o
  refine ev_aload_n d_CB_init_116 rfl rfl ?_
  refine ez_new 10 d_CB_init_117 nc_CB_71 rfl (by decide) (by decide) (fun q25 h26 lt_q25 h26a h26o => ?_)
  have o_q25 := lt_q25 _ _ h_q22
  have lo_q25 : ∀ b e, h b = some e → b < q25 := by
    intro b e hb9
    by_cases w9 : b = q
    · subst w9; omega
    · exact lt_q25 b e (fx b e hb9 (ninc w9 nin0))
  have fx := fx.new lt_q25 h26o
  have hq := (h26o _ (Nat.ne_of_lt (lt_q25 _ _ hq))).trans hq
  have h_q1 := (h26o _ (Nat.ne_of_lt (lt_q25 _ _ h_q1))).trans h_q1
  have h_q1_q1 := (h26o _ (Nat.ne_of_lt (lt_q25 _ _ h_q1_q1))).trans h_q1_q1
  have h_q4 := (h26o _ (Nat.ne_of_lt (lt_q25 _ _ h_q4))).trans h_q4
  have h_q7 := (h26o _ (Nat.ne_of_lt (lt_q25 _ _ h_q7))).trans h_q7
  have h_q7_q5 := (h26o _ (Nat.ne_of_lt (lt_q25 _ _ h_q7_q5))).trans h_q7_q5
  have h_q10 := (h26o _ (Nat.ne_of_lt (lt_q25 _ _ h_q10))).trans h_q10
  have h_q10_q1 := (h26o _ (Nat.ne_of_lt (lt_q25 _ _ h_q10_q1))).trans h_q10_q1
  have h_q10_q4 := (h26o _ (Nat.ne_of_lt (lt_q25 _ _ h_q10_q4))).trans h_q10_q4
  have h_q10_q7 := (h26o _ (Nat.ne_of_lt (lt_q25 _ _ h_q10_q7))).trans h_q10_q7
  have h_q10_q10 := (h26o _ (Nat.ne_of_lt (lt_q25 _ _ h_q10_q10))).trans h_q10_q10
  have h_q13 := (h26o _ (Nat.ne_of_lt (lt_q25 _ _ h_q13))).trans h_q13
  have h_q13_q1 := (h26o _ (Nat.ne_of_lt (lt_q25 _ _ h_q13_q1))).trans h_q13_q1
  have h_q16 := (h26o _ (Nat.ne_of_lt (lt_q25 _ _ h_q16))).trans h_q16
  have h_q16_q1 := (h26o _ (Nat.ne_of_lt (lt_q25 _ _ h_q16_q1))).trans h_q16_q1
  have h_q16_q1_q1 := (h26o _ (Nat.ne_of_lt (lt_q25 _ _ h_q16_q1_q1))).trans h_q16_q1_q1
  have h_q16_q1_q4 := (h26o _ (Nat.ne_of_lt (lt_q25 _ _ h_q16_q1_q4))).trans h_q16_q1_q4
  have h_q16_q1_q7 := (h26o _ (Nat.ne_of_lt (lt_q25 _ _ h_q16_q1_q7))).trans h_q16_q1_q7
  have h_q16_q1_q10 := (h26o _ (Nat.ne_of_lt (lt_q25 _ _ h_q16_q1_q10))).trans h_q16_q1_q10
  have h_q16_q4 := (h26o _ (Nat.ne_of_lt (lt_q25 _ _ h_q16_q4))).trans h_q16_q4
  have h_q19 := (h26o _ (Nat.ne_of_lt (lt_q25 _ _ h_q19))).trans h_q19
  have h_q22 := (h26o _ (Nat.ne_of_lt (lt_q25 _ _ h_q22))).trans h_q22
  have h_q25 := h26a
  refine ev_dup d_CB_init_120 rfl ?_
  refine ev_aload_n d_CB_init_121 rfl rfl ?_
  refine ev_get d_CB_init_122 fl_CB_33 hq rfl ?_
  refine ev_aload_n d_CB_init_125 rfl rfl ?_
  refine ev_get d_CB_init_126 fl_CB_19 hq rfl ?_
  refine ev_aload_n d_CB_init_129 rfl rfl ?_
  refine ev_get d_CB_init_130 fl_CB_26 hq rfl ?_
  refine ev_callI M_Rp_init ({ frames := 1, cells := 7, slots := 1345, locals := 12 }) _ (As := [.ref q10, .ref q4, .ref q7]) (c_Rp_init G h26 q25 q10 q4 q7 h_q25) d_CB_init_133 mk_Rp_init ml_CB_73 ⟨rfl, rfl⟩ mi_Rp_init rfl rfl (Nat.le_of_ble_eq_true rfl) ⟨by decide, by decide⟩ ⟨by decide, by decide⟩ (fun r h2 hq => ?_)
  obtain ⟨rfl, q25_q1, q25_q4, q25_q7, q25_q10, q25_q13, q25_q16, q25_q19, lt, o_q25_q4, o_q25_q7, o_q25_q10, o_q25_q13, o_q25_q16, o_q25_q19, hb9, h_q25_q1, h_q25_q4, h_q25_q7, h_q25_q10, h_q25_q13, h_q25_q16, h_q25_q19, fxc⟩ := hq
  have o_q25_q1 := lt _ _ h_q25
  have hq := fxc _ _ hq (ninc (by omega) nin0)
  have h_q1 := fxc _ _ h_q1 (ninc (by omega) nin0)
  have h_q1_q1 := fxc _ _ h_q1_q1 (ninc (by omega) nin0)
  have h_q4 := fxc _ _ h_q4 (ninc (by omega) nin0)
  have h_q7 := fxc _ _ h_q7 (ninc (by omega) nin0)
  have h_q7_q5 := fxc _ _ h_q7_q5 (ninc (by omega) nin0)
  have h_q10 := fxc _ _ h_q10 (ninc (by omega) nin0)
  have h_q10_q1 := fxc _ _ h_q10_q1 (ninc (by omega) nin0)
  have h_q10_q4 := fxc _ _ h_q10_q4 (ninc (by omega) nin0)
  have h_q10_q7 := fxc _ _ h_q10_q7 (ninc (by omega) nin0)
  have h_q10_q10 := fxc _ _ h_q10_q10 (ninc (by omega) nin0)
  have h_q13 := fxc _ _ h_q13 (ninc (by omega) nin0)
  have h_q13_q1 := fxc _ _ h_q13_q1 (ninc (by omega) nin0)
  have h_q16 := fxc _ _ h_q16 (ninc (by omega) nin0)
  have h_q16_q1 := fxc _ _ h_q16_q1 (ninc (by omega) nin0)
  have h_q16_q1_q1 := fxc _ _ h_q16_q1_q1 (ninc (by omega) nin0)
  have h_q16_q1_q4 := fxc _ _ h_q16_q1_q4 (ninc (by omega) nin0)
  have h_q16_q1_q7 := fxc _ _ h_q16_q1_q7 (ninc (by omega) nin0)
  have h_q16_q1_q10 := fxc _ _ h_q16_q1_q10 (ninc (by omega) nin0)
  have h_q16_q4 := fxc _ _ h_q16_q4 (ninc (by omega) nin0)
  have h_q19 := fxc _ _ h_q19 (ninc (by omega) nin0)
  have h_q22 := fxc _ _ h_q22 (ninc (by omega) nin0)
  have h_q25 := hb9
  have fx := fx.call fxc (by intro x hx9; rcases List.mem_cons.mp hx9 with rfl | hx9; exact Or.inr (fun b e hb9 => Nat.ne_of_lt (lo_q25 b e hb9)); exact absurd hx9 nin0)
  refine ev_put2 (fs' := [.ref q1, .ref q4, .ref q7, .ref q10, .ref q13, .ref q16, .ref q19, .ref q22, .ref q25]) d_CB_init_136 fw_CB_76 (Or.inl rfl) hq (Nat.le_of_ble_eq_true rfl) rfl rfl rfl (fun h27 h27a h27o => ?_)
  have h_q1 := (h27o _ (by omega)).trans h_q1
  have h_q1_q1 := (h27o _ (by omega)).trans h_q1_q1
  have h_q4 := (h27o _ (by omega)).trans h_q4
  have h_q7 := (h27o _ (by omega)).trans h_q7
  have h_q7_q5 := (h27o _ (by omega)).trans h_q7_q5
  have h_q10 := (h27o _ (by omega)).trans h_q10
  have h_q10_q1 := (h27o _ (by omega)).trans h_q10_q1
  have h_q10_q4 := (h27o _ (by omega)).trans h_q10_q4
  have h_q10_q7 := (h27o _ (by omega)).trans h_q10_q7
  have h_q10_q10 := (h27o _ (by omega)).trans h_q10_q10
  have h_q13 := (h27o _ (by omega)).trans h_q13
  have h_q13_q1 := (h27o _ (by omega)).trans h_q13_q1
  have h_q16 := (h27o _ (by omega)).trans h_q16
  have h_q16_q1 := (h27o _ (by omega)).trans h_q16_q1
  have h_q16_q1_q1 := (h27o _ (by omega)).trans h_q16_q1_q1
  have h_q16_q1_q4 := (h27o _ (by omega)).trans h_q16_q1_q4
  have h_q16_q1_q7 := (h27o _ (by omega)).trans h_q16_q1_q7
  have h_q16_q1_q10 := (h27o _ (by omega)).trans h_q16_q1_q10
  have h_q16_q4 := (h27o _ (by omega)).trans h_q16_q4
  have h_q19 := (h27o _ (by omega)).trans h_q19
  have h_q22 := (h27o _ (by omega)).trans h_q22
  have h_q25 := (h27o _ (by omega)).trans h_q25
  have h_q25_q1 := (h27o _ (by omega)).trans h_q25_q1
  have h_q25_q4 := (h27o _ (by omega)).trans h_q25_q4
  have h_q25_q7 := (h27o _ (by omega)).trans h_q25_q7
  have h_q25_q10 := (h27o _ (by omega)).trans h_q25_q10
  have h_q25_q13 := (h27o _ (by omega)).trans h_q25_q13
  have h_q25_q16 := (h27o _ (by omega)).trans h_q25_q16
  have h_q25_q19 := (h27o _ (by omega)).trans h_q25_q19
  have hq := h27a
  have fx := fx.step (by simp) h27o
  exact ev_return d_CB_init_139 rfl (by decide) (by decide) (⟨rfl, q1, q1_q1, q4, q7, q7_q5, q10, q10_q1, q10_q4, q10_q7, q10_q10, q13, q13_q1, q16, q16_q1, q16_q1_q1, q16_q1_q4, q16_q1_q7, q16_q1_q10, q16_q4, q19, q22, q25, q25_q1, q25_q4, q25_q7, q25_q10, q25_q13, q25_q16, q25_q19, lo_q1, o_q1_q1, o_q4, o_q7, o_q7_q5, o_q10, o_q10_q1, o_q10_q4, o_q10_q7, o_q10_q10, o_q13, o_q13_q1, o_q16, o_q16_q1, o_q16_q1_q1, o_q16_q1_q4, o_q16_q1_q7, o_q16_q1_q10, o_q16_q4, o_q19, o_q22, o_q25, o_q25_q1, o_q25_q4, o_q25_q7, o_q25_q10, o_q25_q13, o_q25_q16, o_q25_q19, hq, h_q1, h_q1_q1, h_q4, h_q7, h_q7_q5, h_q10, h_q10_q1, h_q10_q4, h_q10_q7, h_q10_q10, h_q13, h_q13_q1, h_q16, h_q16_q1, h_q16_q1_q1, h_q16_q1_q4, h_q16_q1_q7, h_q16_q1_q10, h_q16_q4, h_q19, h_q22, h_q25, h_q25_q1, h_q25_q4, h_q25_q7, h_q25_q10, h_q25_q13, h_q25_q16, h_q25_q19, fx⟩)
set_option maxHeartbeats 4000000 in
set_option maxRecDepth 100000 in
theorem c_Mo_init (G : GT) (h : HM) (q : Nat) (hq : h q = some (.inr (11, fsN 34 mo0))) : Rn G M_Mo_init ({ frames := 1, cells := 18, slots := 17257, locals := 12 }) [.ref q] h (fun r h' => r = none ∧ ∃ (σ : Nat → Value) (q1 q9 q13 q17 q21 q25 q29 q33 q37 q41 q45 q49 q53 q57 q61 q73 q77 q81 : Nat), (∀ b e, h b = some e → b < q1) ∧ q1 < q9 ∧ q9 < q13 ∧ q13 < q17 ∧ q17 < q21 ∧ q21 < q25 ∧ q25 < q29 ∧ q29 < q33 ∧ q33 < q37 ∧ q37 < q41 ∧ q41 < q45 ∧ q45 < q49 ∧ q49 < q53 ∧ q53 < q57 ∧ q57 < q61 ∧ q61 < q73 ∧ q73 < q77 ∧ q77 < q81 ∧ h' q = some (.inr (11, fsN 34 σ)) ∧ σ 0 = .int (iZ 0) ∧ σ 1 = .ref q1 ∧ σ 2 = .int (iZ 25) ∧ σ 3 = .int (iZ 1) ∧ σ 4 = .int (iZ 0) ∧ σ 5 = .ref q9 ∧ σ 6 = .ref q13 ∧ σ 7 = .ref q17 ∧ σ 8 = .ref q21 ∧ σ 9 = .int (iZ 0) ∧ σ 10 = .int (iZ 0) ∧ σ 11 = .ref q25 ∧ σ 12 = .ref q29 ∧ σ 13 = .ref q33 ∧ σ 14 = .ref q37 ∧ σ 15 = .ref q41 ∧ σ 16 = .int (iZ 0) ∧ σ 17 = .int (iZ 0) ∧ σ 18 = .int (iZ 0) ∧ σ 19 = .ref q45 ∧ σ 20 = .ref q49 ∧ σ 21 = .ref q53 ∧ σ 22 = .ref q57 ∧ σ 23 = .int (iZ 0) ∧ σ 24 = .int (iZ 0) ∧ σ 25 = .int (iZ 0) ∧ σ 26 = .ref q61 ∧ σ 27 = .int (iZ 2) ∧ σ 28 = .int (iZ 20) ∧ σ 29 = .int (iZ 168) ∧ σ 30 = .int (iZ 17) ∧ σ 31 = .ref q73 ∧ σ 32 = .ref q77 ∧ σ 33 = .ref q81 ∧ h' q1 = some (.inl (G_i G, 1000, .inl (iA (fun _ => 0)))) ∧ h' q9 = some (.inl (G_j G, 16, .inr (.inl (lA (fun _ => 0))))) ∧ h' q13 = some (.inl (G_j G, 16, .inr (.inl (lA (fun _ => 0))))) ∧ h' q17 = some (.inl (G_i G, 16, .inl (iA (fun _ => 0)))) ∧ h' q21 = some (.inl (G_i G, 1024, .inl (iA (fun _ => 0)))) ∧ h' q25 = some (.inl (G_i G, 10, .inl (iA (fun _ => 0)))) ∧ h' q29 = some (.inl (G_j G, 160, .inr (.inl (lA (fun _ => 0))))) ∧ h' q33 = some (.inl (G_j G, 160, .inr (.inl (lA (fun _ => 0))))) ∧ h' q37 = some (.inl (G_i G, 160, .inl (iA (fun _ => 0)))) ∧ h' q41 = some (.inl (G_i G, 10240, .inl (iA (fun _ => 0)))) ∧ h' q45 = some (.inl (G_j G, 16, .inr (.inl (lA (fun _ => 0))))) ∧ h' q49 = some (.inl (G_j G, 16, .inr (.inl (lA (fun _ => 0))))) ∧ h' q53 = some (.inl (G_i G, 16, .inl (iA (fun _ => 0)))) ∧ h' q57 = some (.inl (G_i G, 1024, .inl (iA (fun _ => 0)))) ∧ h' q61 = some (.inl (G_i G, 20, .inl (iA (fun _ => 0)))) ∧ h' q73 = some (.inl (G_i G, 194, .inl (iA (fun _ => 0)))) ∧ h' q77 = some (.inl (G_i G, 3104, .inl (iA (fun _ => 0)))) ∧ h' q81 = some (.inl (G_i G, 65, .inl (iA (fun _ => 0)))) ∧ Fx [q] h h') := by
  refine rn_of (by decide) (Nat.le_of_ble_eq_true rfl) ?_
  show Ev G M_Mo_init _ _ 0 [(0, .ref q)] [] _ 0 0
  have fx : Fx [q] h h := Fx.rf
  have f0 : mo0 0 = .int (iZ 0) := rfl
  have f1 : mo0 1 = .null := rfl
  have f2 : mo0 2 = .int (iZ 0) := rfl
  have f3 : mo0 3 = .int (iZ 0) := rfl
  have f4 : mo0 4 = .int (iZ 0) := rfl
  have f5 : mo0 5 = .null := rfl
  have f6 : mo0 6 = .null := rfl
  have f7 : mo0 7 = .null := rfl
  have f8 : mo0 8 = .null := rfl
  have f9 : mo0 9 = .int (iZ 0) := rfl
  have f10 : mo0 10 = .int (iZ 0) := rfl
  have f11 : mo0 11 = .null := rfl
  have f12 : mo0 12 = .null := rfl
  have f13 : mo0 13 = .null := rfl
  have f14 : mo0 14 = .null := rfl
  have f15 : mo0 15 = .null := rfl
  have f16 : mo0 16 = .int (iZ 0) := rfl
  have f17 : mo0 17 = .int (iZ 0) := rfl
  have f18 : mo0 18 = .int (iZ 0) := rfl
  have f19 : mo0 19 = .null := rfl
  have f20 : mo0 20 = .null := rfl
  have f21 : mo0 21 = .null := rfl
  have f22 : mo0 22 = .null := rfl
  have f23 : mo0 23 = .int (iZ 0) := rfl
  have f24 : mo0 24 = .int (iZ 0) := rfl
  have f25 : mo0 25 = .int (iZ 0) := rfl
  have f26 : mo0 26 = .null := rfl
  have f27 : mo0 27 = .int (iZ 0) := rfl
  have f28 : mo0 28 = .int (iZ 0) := rfl
  have f29 : mo0 29 = .int (iZ 0) := rfl
  have f30 : mo0 30 = .int (iZ 0) := rfl
  have f31 : mo0 31 = .null := rfl
  have f32 : mo0 32 = .null := rfl
  have f33 : mo0 33 = .null := rfl
  refine ev_aload_n d_Mo_init_0 rfl rfl ?_
  refine ev_objInit d_Mo_init_1 ml_Mo_1 oi_1 oi_2 (by decide) (by decide) ?_
  refine ev_aload_n d_Mo_init_4 rfl rfl ?_
  refine ev_sipush (v := iZ 1000) d_Mo_init_5 rfl ?_
  refine ez_newi 1000 d_Mo_init_8 ac_i (by decide) (by decide) (by decide) (by decide) (fun q1 h2 lt_q1 h2a h2o => ?_)
  have o_q1 := lt_q1 _ _ hq
  have lo_q1 : ∀ b e, h b = some e → b < q1 := by
    intro b e hb9
    by_cases w9 : b = q
    · subst w9; omega
    · exact lt_q1 b e (fx b e hb9 (ninc w9 nin0))
  have fx := fx.new lt_q1 h2o
  have hq := (h2o _ (Nat.ne_of_lt (lt_q1 _ _ hq))).trans hq
  have h_q1 := h2a
  refine ev_putF2 d_Mo_init_10 fw_Mo_7 (Or.inl rfl) hq (by decide) rfl rfl (fun h3 σ4 h3a σ4j σ4o h3o => ?_)
  have f0 := (σ4o 0 (by decide)).trans f0
  have f2 := (σ4o 2 (by decide)).trans f2
  have f3 := (σ4o 3 (by decide)).trans f3
  have f4 := (σ4o 4 (by decide)).trans f4
  have f5 := (σ4o 5 (by decide)).trans f5
  have f6 := (σ4o 6 (by decide)).trans f6
  have f7 := (σ4o 7 (by decide)).trans f7
  have f8 := (σ4o 8 (by decide)).trans f8
  have f9 := (σ4o 9 (by decide)).trans f9
  have f10 := (σ4o 10 (by decide)).trans f10
  have f11 := (σ4o 11 (by decide)).trans f11
  have f12 := (σ4o 12 (by decide)).trans f12
  have f13 := (σ4o 13 (by decide)).trans f13
  have f14 := (σ4o 14 (by decide)).trans f14
  have f15 := (σ4o 15 (by decide)).trans f15
  have f16 := (σ4o 16 (by decide)).trans f16
  have f17 := (σ4o 17 (by decide)).trans f17
  have f18 := (σ4o 18 (by decide)).trans f18
  have f19 := (σ4o 19 (by decide)).trans f19
  have f20 := (σ4o 20 (by decide)).trans f20
  have f21 := (σ4o 21 (by decide)).trans f21
  have f22 := (σ4o 22 (by decide)).trans f22
  have f23 := (σ4o 23 (by decide)).trans f23
  have f24 := (σ4o 24 (by decide)).trans f24
  have f25 := (σ4o 25 (by decide)).trans f25
  have f26 := (σ4o 26 (by decide)).trans f26
  have f27 := (σ4o 27 (by decide)).trans f27
  have f28 := (σ4o 28 (by decide)).trans f28
  have f29 := (σ4o 29 (by decide)).trans f29
  have f30 := (σ4o 30 (by decide)).trans f30
  have f31 := (σ4o 31 (by decide)).trans f31
  have f32 := (σ4o 32 (by decide)).trans f32
  have f33 := (σ4o 33 (by decide)).trans f33
  have f1 := σ4j
  have h_q1 := (h3o _ (by omega)).trans h_q1
  have hq := h3a
  have fx := fx.step (by simp) h3o
  refine ev_aload_n d_Mo_init_13 rfl rfl ?_
  refine ev_bipush (v := iZ 25) d_Mo_init_14 rfl ?_
  refine ev_putF2 d_Mo_init_16 fw_Mo_13 (Or.inr (fun _ _ _ q => by cases q; rfl)) hq (by decide) rfl rfl (fun h5 σ6 h5a σ6j σ6o h5o => ?_)
  have f0 := (σ6o 0 (by decide)).trans f0
  have f1 := (σ6o 1 (by decide)).trans f1
  have f3 := (σ6o 3 (by decide)).trans f3
  have f4 := (σ6o 4 (by decide)).trans f4
  have f5 := (σ6o 5 (by decide)).trans f5
  have f6 := (σ6o 6 (by decide)).trans f6
  have f7 := (σ6o 7 (by decide)).trans f7
  have f8 := (σ6o 8 (by decide)).trans f8
  have f9 := (σ6o 9 (by decide)).trans f9
  have f10 := (σ6o 10 (by decide)).trans f10
  have f11 := (σ6o 11 (by decide)).trans f11
  have f12 := (σ6o 12 (by decide)).trans f12
  have f13 := (σ6o 13 (by decide)).trans f13
  have f14 := (σ6o 14 (by decide)).trans f14
  have f15 := (σ6o 15 (by decide)).trans f15
  have f16 := (σ6o 16 (by decide)).trans f16
  have f17 := (σ6o 17 (by decide)).trans f17
  have f18 := (σ6o 18 (by decide)).trans f18
  have f19 := (σ6o 19 (by decide)).trans f19
  have f20 := (σ6o 20 (by decide)).trans f20
  have f21 := (σ6o 21 (by decide)).trans f21
  have f22 := (σ6o 22 (by decide)).trans f22
  have f23 := (σ6o 23 (by decide)).trans f23
  have f24 := (σ6o 24 (by decide)).trans f24
  have f25 := (σ6o 25 (by decide)).trans f25
  have f26 := (σ6o 26 (by decide)).trans f26
  have f27 := (σ6o 27 (by decide)).trans f27
  have f28 := (σ6o 28 (by decide)).trans f28
  have f29 := (σ6o 29 (by decide)).trans f29
  have f30 := (σ6o 30 (by decide)).trans f30
  have f31 := (σ6o 31 (by decide)).trans f31
  have f32 := (σ6o 32 (by decide)).trans f32
  have f33 := (σ6o 33 (by decide)).trans f33
  have f2 := σ6j
  have h_q1 := (h5o _ (by omega)).trans h_q1
  have hq := h5a
  have fx := fx.step (by simp) h5o
  refine ev_aload_n d_Mo_init_19 rfl rfl ?_
  refine ev_iconst (v := iZ 1) d_Mo_init_20 rfl ?_
  refine ev_putF2 d_Mo_init_21 fw_Mo_17 (Or.inr (fun _ _ _ q => by cases q; rfl)) hq (by decide) rfl rfl (fun h7 σ8 h7a σ8j σ8o h7o => ?_)
  have f0 := (σ8o 0 (by decide)).trans f0
  have f1 := (σ8o 1 (by decide)).trans f1
  have f2 := (σ8o 2 (by decide)).trans f2
  have f4 := (σ8o 4 (by decide)).trans f4
  have f5 := (σ8o 5 (by decide)).trans f5
  have f6 := (σ8o 6 (by decide)).trans f6
  have f7 := (σ8o 7 (by decide)).trans f7
  have f8 := (σ8o 8 (by decide)).trans f8
  have f9 := (σ8o 9 (by decide)).trans f9
  have f10 := (σ8o 10 (by decide)).trans f10
  have f11 := (σ8o 11 (by decide)).trans f11
  have f12 := (σ8o 12 (by decide)).trans f12
  have f13 := (σ8o 13 (by decide)).trans f13
  have f14 := (σ8o 14 (by decide)).trans f14
  have f15 := (σ8o 15 (by decide)).trans f15
  have f16 := (σ8o 16 (by decide)).trans f16
  have f17 := (σ8o 17 (by decide)).trans f17
  have f18 := (σ8o 18 (by decide)).trans f18
  have f19 := (σ8o 19 (by decide)).trans f19
  have f20 := (σ8o 20 (by decide)).trans f20
  have f21 := (σ8o 21 (by decide)).trans f21
  have f22 := (σ8o 22 (by decide)).trans f22
  have f23 := (σ8o 23 (by decide)).trans f23
  have f24 := (σ8o 24 (by decide)).trans f24
  have f25 := (σ8o 25 (by decide)).trans f25
  have f26 := (σ8o 26 (by decide)).trans f26
  have f27 := (σ8o 27 (by decide)).trans f27
  have f28 := (σ8o 28 (by decide)).trans f28
  have f29 := (σ8o 29 (by decide)).trans f29
  have f30 := (σ8o 30 (by decide)).trans f30
  have f31 := (σ8o 31 (by decide)).trans f31
  have f32 := (σ8o 32 (by decide)).trans f32
  have f33 := (σ8o 33 (by decide)).trans f33
  have f3 := σ8j
  have h_q1 := (h7o _ (by omega)).trans h_q1
  have hq := h7a
  have fx := fx.step (by simp) h7o
  refine ev_aload_n d_Mo_init_24 rfl rfl ?_
  refine ev_bipush (v := iZ 16) d_Mo_init_25 rfl ?_
  refine ez_newl 16 d_Mo_init_27 ac_l (by decide) (by decide) (by decide) (by decide) (fun q9 h10 lt_q9 h10a h10o => ?_)
  have o_q9 := lt_q9 _ _ h_q1
  have lo_q9 : ∀ b e, h b = some e → b < q9 := by
    intro b e hb9
    by_cases w9 : b = q
    · subst w9; omega
    · exact lt_q9 b e (fx b e hb9 (ninc w9 nin0))
  have fx := fx.new lt_q9 h10o
  have hq := (h10o _ (Nat.ne_of_lt (lt_q9 _ _ hq))).trans hq
  have h_q1 := (h10o _ (Nat.ne_of_lt (lt_q9 _ _ h_q1))).trans h_q1
  have h_q9 := h10a
  refine ev_putF2 d_Mo_init_29 fw_Mo_20 (Or.inl rfl) hq (by decide) rfl rfl (fun h11 σ12 h11a σ12j σ12o h11o => ?_)
  have f0 := (σ12o 0 (by decide)).trans f0
  have f1 := (σ12o 1 (by decide)).trans f1
  have f2 := (σ12o 2 (by decide)).trans f2
  have f3 := (σ12o 3 (by decide)).trans f3
  have f4 := (σ12o 4 (by decide)).trans f4
  have f6 := (σ12o 6 (by decide)).trans f6
  have f7 := (σ12o 7 (by decide)).trans f7
  have f8 := (σ12o 8 (by decide)).trans f8
  have f9 := (σ12o 9 (by decide)).trans f9
  have f10 := (σ12o 10 (by decide)).trans f10
  have f11 := (σ12o 11 (by decide)).trans f11
  have f12 := (σ12o 12 (by decide)).trans f12
  have f13 := (σ12o 13 (by decide)).trans f13
  have f14 := (σ12o 14 (by decide)).trans f14
  have f15 := (σ12o 15 (by decide)).trans f15
  have f16 := (σ12o 16 (by decide)).trans f16
  have f17 := (σ12o 17 (by decide)).trans f17
  have f18 := (σ12o 18 (by decide)).trans f18
  have f19 := (σ12o 19 (by decide)).trans f19
  have f20 := (σ12o 20 (by decide)).trans f20
  have f21 := (σ12o 21 (by decide)).trans f21
  have f22 := (σ12o 22 (by decide)).trans f22
  have f23 := (σ12o 23 (by decide)).trans f23
  have f24 := (σ12o 24 (by decide)).trans f24
  have f25 := (σ12o 25 (by decide)).trans f25
  have f26 := (σ12o 26 (by decide)).trans f26
  have f27 := (σ12o 27 (by decide)).trans f27
  have f28 := (σ12o 28 (by decide)).trans f28
  have f29 := (σ12o 29 (by decide)).trans f29
  have f30 := (σ12o 30 (by decide)).trans f30
  have f31 := (σ12o 31 (by decide)).trans f31
  have f32 := (σ12o 32 (by decide)).trans f32
  have f33 := (σ12o 33 (by decide)).trans f33
  have f5 := σ12j
  have h_q1 := (h11o _ (by omega)).trans h_q1
  have h_q9 := (h11o _ (by omega)).trans h_q9
  have hq := h11a
  have fx := fx.step (by simp) h11o
  refine ev_aload_n d_Mo_init_32 rfl rfl ?_
  refine ev_bipush (v := iZ 16) d_Mo_init_33 rfl ?_
  refine ez_newl 16 d_Mo_init_35 ac_l (by decide) (by decide) (by decide) (by decide) (fun q13 h14 lt_q13 h14a h14o => ?_)
  have o_q13 := lt_q13 _ _ h_q9
  have lo_q13 : ∀ b e, h b = some e → b < q13 := by
    intro b e hb9
    by_cases w9 : b = q
    · subst w9; omega
    · exact lt_q13 b e (fx b e hb9 (ninc w9 nin0))
  have fx := fx.new lt_q13 h14o
  have hq := (h14o _ (Nat.ne_of_lt (lt_q13 _ _ hq))).trans hq
  have h_q1 := (h14o _ (Nat.ne_of_lt (lt_q13 _ _ h_q1))).trans h_q1
  have h_q9 := (h14o _ (Nat.ne_of_lt (lt_q13 _ _ h_q9))).trans h_q9
  have h_q13 := h14a
  refine ev_putF2 d_Mo_init_37 fw_Mo_24 (Or.inl rfl) hq (by decide) rfl rfl (fun h15 σ16 h15a σ16j σ16o h15o => ?_)
  have f0 := (σ16o 0 (by decide)).trans f0
  have f1 := (σ16o 1 (by decide)).trans f1
  have f2 := (σ16o 2 (by decide)).trans f2
  have f3 := (σ16o 3 (by decide)).trans f3
  have f4 := (σ16o 4 (by decide)).trans f4
  have f5 := (σ16o 5 (by decide)).trans f5
  have f7 := (σ16o 7 (by decide)).trans f7
  have f8 := (σ16o 8 (by decide)).trans f8
  have f9 := (σ16o 9 (by decide)).trans f9
  have f10 := (σ16o 10 (by decide)).trans f10
  have f11 := (σ16o 11 (by decide)).trans f11
  have f12 := (σ16o 12 (by decide)).trans f12
  have f13 := (σ16o 13 (by decide)).trans f13
  have f14 := (σ16o 14 (by decide)).trans f14
  have f15 := (σ16o 15 (by decide)).trans f15
  have f16 := (σ16o 16 (by decide)).trans f16
  have f17 := (σ16o 17 (by decide)).trans f17
  have f18 := (σ16o 18 (by decide)).trans f18
  have f19 := (σ16o 19 (by decide)).trans f19
  have f20 := (σ16o 20 (by decide)).trans f20
  have f21 := (σ16o 21 (by decide)).trans f21
  have f22 := (σ16o 22 (by decide)).trans f22
  have f23 := (σ16o 23 (by decide)).trans f23
  have f24 := (σ16o 24 (by decide)).trans f24
  have f25 := (σ16o 25 (by decide)).trans f25
  have f26 := (σ16o 26 (by decide)).trans f26
  have f27 := (σ16o 27 (by decide)).trans f27
  have f28 := (σ16o 28 (by decide)).trans f28
  have f29 := (σ16o 29 (by decide)).trans f29
  have f30 := (σ16o 30 (by decide)).trans f30
  have f31 := (σ16o 31 (by decide)).trans f31
  have f32 := (σ16o 32 (by decide)).trans f32
  have f33 := (σ16o 33 (by decide)).trans f33
  have f6 := σ16j
  have h_q1 := (h15o _ (by omega)).trans h_q1
  have h_q9 := (h15o _ (by omega)).trans h_q9
  have h_q13 := (h15o _ (by omega)).trans h_q13
  have hq := h15a
  have fx := fx.step (by simp) h15o
  refine ev_aload_n d_Mo_init_40 rfl rfl ?_
  refine ev_bipush (v := iZ 16) d_Mo_init_41 rfl ?_
  refine ez_newi 16 d_Mo_init_43 ac_i (by decide) (by decide) (by decide) (by decide) (fun q17 h18 lt_q17 h18a h18o => ?_)
  have o_q17 := lt_q17 _ _ h_q13
  have lo_q17 : ∀ b e, h b = some e → b < q17 := by
    intro b e hb9
    by_cases w9 : b = q
    · subst w9; omega
    · exact lt_q17 b e (fx b e hb9 (ninc w9 nin0))
  have fx := fx.new lt_q17 h18o
  have hq := (h18o _ (Nat.ne_of_lt (lt_q17 _ _ hq))).trans hq
  have h_q1 := (h18o _ (Nat.ne_of_lt (lt_q17 _ _ h_q1))).trans h_q1
  have h_q9 := (h18o _ (Nat.ne_of_lt (lt_q17 _ _ h_q9))).trans h_q9
  have h_q13 := (h18o _ (Nat.ne_of_lt (lt_q17 _ _ h_q13))).trans h_q13
  have h_q17 := h18a
  refine ev_putF2 d_Mo_init_45 fw_Mo_27 (Or.inl rfl) hq (by decide) rfl rfl (fun h19 σ20 h19a σ20j σ20o h19o => ?_)
  have f0 := (σ20o 0 (by decide)).trans f0
  have f1 := (σ20o 1 (by decide)).trans f1
  have f2 := (σ20o 2 (by decide)).trans f2
  have f3 := (σ20o 3 (by decide)).trans f3
  have f4 := (σ20o 4 (by decide)).trans f4
  have f5 := (σ20o 5 (by decide)).trans f5
  have f6 := (σ20o 6 (by decide)).trans f6
  have f8 := (σ20o 8 (by decide)).trans f8
  have f9 := (σ20o 9 (by decide)).trans f9
  have f10 := (σ20o 10 (by decide)).trans f10
  have f11 := (σ20o 11 (by decide)).trans f11
  have f12 := (σ20o 12 (by decide)).trans f12
  have f13 := (σ20o 13 (by decide)).trans f13
  have f14 := (σ20o 14 (by decide)).trans f14
  have f15 := (σ20o 15 (by decide)).trans f15
  have f16 := (σ20o 16 (by decide)).trans f16
  have f17 := (σ20o 17 (by decide)).trans f17
  have f18 := (σ20o 18 (by decide)).trans f18
  have f19 := (σ20o 19 (by decide)).trans f19
  have f20 := (σ20o 20 (by decide)).trans f20
  have f21 := (σ20o 21 (by decide)).trans f21
  have f22 := (σ20o 22 (by decide)).trans f22
  have f23 := (σ20o 23 (by decide)).trans f23
  have f24 := (σ20o 24 (by decide)).trans f24
  have f25 := (σ20o 25 (by decide)).trans f25
  have f26 := (σ20o 26 (by decide)).trans f26
  have f27 := (σ20o 27 (by decide)).trans f27
  have f28 := (σ20o 28 (by decide)).trans f28
  have f29 := (σ20o 29 (by decide)).trans f29
  have f30 := (σ20o 30 (by decide)).trans f30
  have f31 := (σ20o 31 (by decide)).trans f31
  have f32 := (σ20o 32 (by decide)).trans f32
  have f33 := (σ20o 33 (by decide)).trans f33
  have f7 := σ20j
  have h_q1 := (h19o _ (by omega)).trans h_q1
  have h_q9 := (h19o _ (by omega)).trans h_q9
  have h_q13 := (h19o _ (by omega)).trans h_q13
  have h_q17 := (h19o _ (by omega)).trans h_q17
  have hq := h19a
  have fx := fx.step (by simp) h19o
  refine ev_aload_n d_Mo_init_48 rfl rfl ?_
  refine ev_sipush (v := iZ 1024) d_Mo_init_49 rfl ?_
  refine ez_newi 1024 d_Mo_init_52 ac_i (by decide) (by decide) (by decide) (by decide) (fun q21 h22 lt_q21 h22a h22o => ?_)
  have o_q21 := lt_q21 _ _ h_q17
  have lo_q21 : ∀ b e, h b = some e → b < q21 := by
    intro b e hb9
    by_cases w9 : b = q
    · subst w9; omega
    · exact lt_q21 b e (fx b e hb9 (ninc w9 nin0))
  have fx := fx.new lt_q21 h22o
  have hq := (h22o _ (Nat.ne_of_lt (lt_q21 _ _ hq))).trans hq
  have h_q1 := (h22o _ (Nat.ne_of_lt (lt_q21 _ _ h_q1))).trans h_q1
  have h_q9 := (h22o _ (Nat.ne_of_lt (lt_q21 _ _ h_q9))).trans h_q9
  have h_q13 := (h22o _ (Nat.ne_of_lt (lt_q21 _ _ h_q13))).trans h_q13
  have h_q17 := (h22o _ (Nat.ne_of_lt (lt_q21 _ _ h_q17))).trans h_q17
  have h_q21 := h22a
  refine ev_putF2 d_Mo_init_54 fw_Mo_30 (Or.inl rfl) hq (by decide) rfl rfl (fun h23 σ24 h23a σ24j σ24o h23o => ?_)
  have f0 := (σ24o 0 (by decide)).trans f0
  have f1 := (σ24o 1 (by decide)).trans f1
  have f2 := (σ24o 2 (by decide)).trans f2
  have f3 := (σ24o 3 (by decide)).trans f3
  have f4 := (σ24o 4 (by decide)).trans f4
  have f5 := (σ24o 5 (by decide)).trans f5
  have f6 := (σ24o 6 (by decide)).trans f6
  have f7 := (σ24o 7 (by decide)).trans f7
  have f9 := (σ24o 9 (by decide)).trans f9
  have f10 := (σ24o 10 (by decide)).trans f10
  have f11 := (σ24o 11 (by decide)).trans f11
  have f12 := (σ24o 12 (by decide)).trans f12
  have f13 := (σ24o 13 (by decide)).trans f13
  have f14 := (σ24o 14 (by decide)).trans f14
  have f15 := (σ24o 15 (by decide)).trans f15
  have f16 := (σ24o 16 (by decide)).trans f16
  have f17 := (σ24o 17 (by decide)).trans f17
  have f18 := (σ24o 18 (by decide)).trans f18
  have f19 := (σ24o 19 (by decide)).trans f19
  have f20 := (σ24o 20 (by decide)).trans f20
  have f21 := (σ24o 21 (by decide)).trans f21
  have f22 := (σ24o 22 (by decide)).trans f22
  have f23 := (σ24o 23 (by decide)).trans f23
  have f24 := (σ24o 24 (by decide)).trans f24
  have f25 := (σ24o 25 (by decide)).trans f25
  have f26 := (σ24o 26 (by decide)).trans f26
  have f27 := (σ24o 27 (by decide)).trans f27
  have f28 := (σ24o 28 (by decide)).trans f28
  have f29 := (σ24o 29 (by decide)).trans f29
  have f30 := (σ24o 30 (by decide)).trans f30
  have f31 := (σ24o 31 (by decide)).trans f31
  have f32 := (σ24o 32 (by decide)).trans f32
  have f33 := (σ24o 33 (by decide)).trans f33
  have f8 := σ24j
  have h_q1 := (h23o _ (by omega)).trans h_q1
  have h_q9 := (h23o _ (by omega)).trans h_q9
  have h_q13 := (h23o _ (by omega)).trans h_q13
  have h_q17 := (h23o _ (by omega)).trans h_q17
  have h_q21 := (h23o _ (by omega)).trans h_q21
  have hq := h23a
  have fx := fx.step (by simp) h23o
  refine ev_aload_n d_Mo_init_57 rfl rfl ?_
  refine ev_bipush (v := iZ 10) d_Mo_init_58 rfl ?_
  refine ez_newi 10 d_Mo_init_60 ac_i (by decide) (by decide) (by decide) (by decide) (fun q25 h26 lt_q25 h26a h26o => ?_)
  have o_q25 := lt_q25 _ _ h_q21
  have lo_q25 : ∀ b e, h b = some e → b < q25 := by
    intro b e hb9
    by_cases w9 : b = q
    · subst w9; omega
    · exact lt_q25 b e (fx b e hb9 (ninc w9 nin0))
  have fx := fx.new lt_q25 h26o
  have hq := (h26o _ (Nat.ne_of_lt (lt_q25 _ _ hq))).trans hq
  have h_q1 := (h26o _ (Nat.ne_of_lt (lt_q25 _ _ h_q1))).trans h_q1
  have h_q9 := (h26o _ (Nat.ne_of_lt (lt_q25 _ _ h_q9))).trans h_q9
  have h_q13 := (h26o _ (Nat.ne_of_lt (lt_q25 _ _ h_q13))).trans h_q13
  have h_q17 := (h26o _ (Nat.ne_of_lt (lt_q25 _ _ h_q17))).trans h_q17
  have h_q21 := (h26o _ (Nat.ne_of_lt (lt_q25 _ _ h_q21))).trans h_q21
  have h_q25 := h26a
  refine ev_putF2 d_Mo_init_62 fw_Mo_33 (Or.inl rfl) hq (by decide) rfl rfl (fun h27 σ28 h27a σ28j σ28o h27o => ?_)
  have f0 := (σ28o 0 (by decide)).trans f0
  have f1 := (σ28o 1 (by decide)).trans f1
  have f2 := (σ28o 2 (by decide)).trans f2
  have f3 := (σ28o 3 (by decide)).trans f3
  have f4 := (σ28o 4 (by decide)).trans f4
  have f5 := (σ28o 5 (by decide)).trans f5
  have f6 := (σ28o 6 (by decide)).trans f6
  have f7 := (σ28o 7 (by decide)).trans f7
  have f8 := (σ28o 8 (by decide)).trans f8
  have f9 := (σ28o 9 (by decide)).trans f9
  have f10 := (σ28o 10 (by decide)).trans f10
  have f12 := (σ28o 12 (by decide)).trans f12
  have f13 := (σ28o 13 (by decide)).trans f13
  have f14 := (σ28o 14 (by decide)).trans f14
  have f15 := (σ28o 15 (by decide)).trans f15
  have f16 := (σ28o 16 (by decide)).trans f16
  have f17 := (σ28o 17 (by decide)).trans f17
  have f18 := (σ28o 18 (by decide)).trans f18
  have f19 := (σ28o 19 (by decide)).trans f19
  have f20 := (σ28o 20 (by decide)).trans f20
  have f21 := (σ28o 21 (by decide)).trans f21
  have f22 := (σ28o 22 (by decide)).trans f22
  have f23 := (σ28o 23 (by decide)).trans f23
  have f24 := (σ28o 24 (by decide)).trans f24
  have f25 := (σ28o 25 (by decide)).trans f25
  have f26 := (σ28o 26 (by decide)).trans f26
  have f27 := (σ28o 27 (by decide)).trans f27
  have f28 := (σ28o 28 (by decide)).trans f28
  have f29 := (σ28o 29 (by decide)).trans f29
  have f30 := (σ28o 30 (by decide)).trans f30
  have f31 := (σ28o 31 (by decide)).trans f31
  have f32 := (σ28o 32 (by decide)).trans f32
  have f33 := (σ28o 33 (by decide)).trans f33
  have f11 := σ28j
  have h_q1 := (h27o _ (by omega)).trans h_q1
  have h_q9 := (h27o _ (by omega)).trans h_q9
  have h_q13 := (h27o _ (by omega)).trans h_q13
  have h_q17 := (h27o _ (by omega)).trans h_q17
  have h_q21 := (h27o _ (by omega)).trans h_q21
  have h_q25 := (h27o _ (by omega)).trans h_q25
  have hq := h27a
  have fx := fx.step (by simp) h27o
  refine ev_aload_n d_Mo_init_65 rfl rfl ?_
  refine ev_sipush (v := iZ 160) d_Mo_init_66 rfl ?_
  refine ez_newl 160 d_Mo_init_69 ac_l (by decide) (by decide) (by decide) (by decide) (fun q29 h30 lt_q29 h30a h30o => ?_)
  have o_q29 := lt_q29 _ _ h_q25
  have lo_q29 : ∀ b e, h b = some e → b < q29 := by
    intro b e hb9
    by_cases w9 : b = q
    · subst w9; omega
    · exact lt_q29 b e (fx b e hb9 (ninc w9 nin0))
  have fx := fx.new lt_q29 h30o
  have hq := (h30o _ (Nat.ne_of_lt (lt_q29 _ _ hq))).trans hq
  have h_q1 := (h30o _ (Nat.ne_of_lt (lt_q29 _ _ h_q1))).trans h_q1
  have h_q9 := (h30o _ (Nat.ne_of_lt (lt_q29 _ _ h_q9))).trans h_q9
  have h_q13 := (h30o _ (Nat.ne_of_lt (lt_q29 _ _ h_q13))).trans h_q13
  have h_q17 := (h30o _ (Nat.ne_of_lt (lt_q29 _ _ h_q17))).trans h_q17
  have h_q21 := (h30o _ (Nat.ne_of_lt (lt_q29 _ _ h_q21))).trans h_q21
  have h_q25 := (h30o _ (Nat.ne_of_lt (lt_q29 _ _ h_q25))).trans h_q25
  have h_q29 := h30a
  refine ev_putF2 d_Mo_init_71 fw_Mo_36 (Or.inl rfl) hq (by decide) rfl rfl (fun h31 σ32 h31a σ32j σ32o h31o => ?_)
  have f0 := (σ32o 0 (by decide)).trans f0
  have f1 := (σ32o 1 (by decide)).trans f1
  have f2 := (σ32o 2 (by decide)).trans f2
  have f3 := (σ32o 3 (by decide)).trans f3
  have f4 := (σ32o 4 (by decide)).trans f4
  have f5 := (σ32o 5 (by decide)).trans f5
  have f6 := (σ32o 6 (by decide)).trans f6
  have f7 := (σ32o 7 (by decide)).trans f7
  have f8 := (σ32o 8 (by decide)).trans f8
  have f9 := (σ32o 9 (by decide)).trans f9
  have f10 := (σ32o 10 (by decide)).trans f10
  have f11 := (σ32o 11 (by decide)).trans f11
  have f13 := (σ32o 13 (by decide)).trans f13
  have f14 := (σ32o 14 (by decide)).trans f14
  have f15 := (σ32o 15 (by decide)).trans f15
  have f16 := (σ32o 16 (by decide)).trans f16
  have f17 := (σ32o 17 (by decide)).trans f17
  have f18 := (σ32o 18 (by decide)).trans f18
  have f19 := (σ32o 19 (by decide)).trans f19
  have f20 := (σ32o 20 (by decide)).trans f20
  have f21 := (σ32o 21 (by decide)).trans f21
  have f22 := (σ32o 22 (by decide)).trans f22
  have f23 := (σ32o 23 (by decide)).trans f23
  have f24 := (σ32o 24 (by decide)).trans f24
  have f25 := (σ32o 25 (by decide)).trans f25
  have f26 := (σ32o 26 (by decide)).trans f26
  have f27 := (σ32o 27 (by decide)).trans f27
  have f28 := (σ32o 28 (by decide)).trans f28
  have f29 := (σ32o 29 (by decide)).trans f29
  have f30 := (σ32o 30 (by decide)).trans f30
  have f31 := (σ32o 31 (by decide)).trans f31
  have f32 := (σ32o 32 (by decide)).trans f32
  have f33 := (σ32o 33 (by decide)).trans f33
  have f12 := σ32j
  have h_q1 := (h31o _ (by omega)).trans h_q1
  have h_q9 := (h31o _ (by omega)).trans h_q9
  have h_q13 := (h31o _ (by omega)).trans h_q13
  have h_q17 := (h31o _ (by omega)).trans h_q17
  have h_q21 := (h31o _ (by omega)).trans h_q21
  have h_q25 := (h31o _ (by omega)).trans h_q25
  have h_q29 := (h31o _ (by omega)).trans h_q29
  have hq := h31a
  have fx := fx.step (by simp) h31o
  refine ev_aload_n d_Mo_init_74 rfl rfl ?_
  refine ev_sipush (v := iZ 160) d_Mo_init_75 rfl ?_
  refine ez_newl 160 d_Mo_init_78 ac_l (by decide) (by decide) (by decide) (by decide) (fun q33 h34 lt_q33 h34a h34o => ?_)
  have o_q33 := lt_q33 _ _ h_q29
  have lo_q33 : ∀ b e, h b = some e → b < q33 := by
    intro b e hb9
    by_cases w9 : b = q
    · subst w9; omega
    · exact lt_q33 b e (fx b e hb9 (ninc w9 nin0))
  have fx := fx.new lt_q33 h34o
  have hq := (h34o _ (Nat.ne_of_lt (lt_q33 _ _ hq))).trans hq
  have h_q1 := (h34o _ (Nat.ne_of_lt (lt_q33 _ _ h_q1))).trans h_q1
  have h_q9 := (h34o _ (Nat.ne_of_lt (lt_q33 _ _ h_q9))).trans h_q9
  have h_q13 := (h34o _ (Nat.ne_of_lt (lt_q33 _ _ h_q13))).trans h_q13
  have h_q17 := (h34o _ (Nat.ne_of_lt (lt_q33 _ _ h_q17))).trans h_q17
  have h_q21 := (h34o _ (Nat.ne_of_lt (lt_q33 _ _ h_q21))).trans h_q21
  have h_q25 := (h34o _ (Nat.ne_of_lt (lt_q33 _ _ h_q25))).trans h_q25
  have h_q29 := (h34o _ (Nat.ne_of_lt (lt_q33 _ _ h_q29))).trans h_q29
  have h_q33 := h34a
  refine ev_putF2 d_Mo_init_80 fw_Mo_39 (Or.inl rfl) hq (by decide) rfl rfl (fun h35 σ36 h35a σ36j σ36o h35o => ?_)
  have f0 := (σ36o 0 (by decide)).trans f0
  have f1 := (σ36o 1 (by decide)).trans f1
  have f2 := (σ36o 2 (by decide)).trans f2
  have f3 := (σ36o 3 (by decide)).trans f3
  have f4 := (σ36o 4 (by decide)).trans f4
  have f5 := (σ36o 5 (by decide)).trans f5
  have f6 := (σ36o 6 (by decide)).trans f6
  have f7 := (σ36o 7 (by decide)).trans f7
  have f8 := (σ36o 8 (by decide)).trans f8
  have f9 := (σ36o 9 (by decide)).trans f9
  have f10 := (σ36o 10 (by decide)).trans f10
  have f11 := (σ36o 11 (by decide)).trans f11
  have f12 := (σ36o 12 (by decide)).trans f12
  have f14 := (σ36o 14 (by decide)).trans f14
  have f15 := (σ36o 15 (by decide)).trans f15
  have f16 := (σ36o 16 (by decide)).trans f16
  have f17 := (σ36o 17 (by decide)).trans f17
  have f18 := (σ36o 18 (by decide)).trans f18
  have f19 := (σ36o 19 (by decide)).trans f19
  have f20 := (σ36o 20 (by decide)).trans f20
  have f21 := (σ36o 21 (by decide)).trans f21
  have f22 := (σ36o 22 (by decide)).trans f22
  have f23 := (σ36o 23 (by decide)).trans f23
  have f24 := (σ36o 24 (by decide)).trans f24
  have f25 := (σ36o 25 (by decide)).trans f25
  have f26 := (σ36o 26 (by decide)).trans f26
  have f27 := (σ36o 27 (by decide)).trans f27
  have f28 := (σ36o 28 (by decide)).trans f28
  have f29 := (σ36o 29 (by decide)).trans f29
  have f30 := (σ36o 30 (by decide)).trans f30
  have f31 := (σ36o 31 (by decide)).trans f31
  have f32 := (σ36o 32 (by decide)).trans f32
  have f33 := (σ36o 33 (by decide)).trans f33
  have f13 := σ36j
  have h_q1 := (h35o _ (by omega)).trans h_q1
  have h_q9 := (h35o _ (by omega)).trans h_q9
  have h_q13 := (h35o _ (by omega)).trans h_q13
  have h_q17 := (h35o _ (by omega)).trans h_q17
  have h_q21 := (h35o _ (by omega)).trans h_q21
  have h_q25 := (h35o _ (by omega)).trans h_q25
  have h_q29 := (h35o _ (by omega)).trans h_q29
  have h_q33 := (h35o _ (by omega)).trans h_q33
  have hq := h35a
  have fx := fx.step (by simp) h35o
  refine ev_aload_n d_Mo_init_83 rfl rfl ?_
  refine ev_sipush (v := iZ 160) d_Mo_init_84 rfl ?_
  refine ez_newi 160 d_Mo_init_87 ac_i (by decide) (by decide) (by decide) (by decide) (fun q37 h38 lt_q37 h38a h38o => ?_)
  have o_q37 := lt_q37 _ _ h_q33
  have lo_q37 : ∀ b e, h b = some e → b < q37 := by
    intro b e hb9
    by_cases w9 : b = q
    · subst w9; omega
    · exact lt_q37 b e (fx b e hb9 (ninc w9 nin0))
  have fx := fx.new lt_q37 h38o
  have hq := (h38o _ (Nat.ne_of_lt (lt_q37 _ _ hq))).trans hq
  have h_q1 := (h38o _ (Nat.ne_of_lt (lt_q37 _ _ h_q1))).trans h_q1
  have h_q9 := (h38o _ (Nat.ne_of_lt (lt_q37 _ _ h_q9))).trans h_q9
  have h_q13 := (h38o _ (Nat.ne_of_lt (lt_q37 _ _ h_q13))).trans h_q13
  have h_q17 := (h38o _ (Nat.ne_of_lt (lt_q37 _ _ h_q17))).trans h_q17
  have h_q21 := (h38o _ (Nat.ne_of_lt (lt_q37 _ _ h_q21))).trans h_q21
  have h_q25 := (h38o _ (Nat.ne_of_lt (lt_q37 _ _ h_q25))).trans h_q25
  have h_q29 := (h38o _ (Nat.ne_of_lt (lt_q37 _ _ h_q29))).trans h_q29
  have h_q33 := (h38o _ (Nat.ne_of_lt (lt_q37 _ _ h_q33))).trans h_q33
  have h_q37 := h38a
  refine ev_putF2 d_Mo_init_89 fw_Mo_42 (Or.inl rfl) hq (by decide) rfl rfl (fun h39 σ40 h39a σ40j σ40o h39o => ?_)
  have f0 := (σ40o 0 (by decide)).trans f0
  have f1 := (σ40o 1 (by decide)).trans f1
  have f2 := (σ40o 2 (by decide)).trans f2
  have f3 := (σ40o 3 (by decide)).trans f3
  have f4 := (σ40o 4 (by decide)).trans f4
  have f5 := (σ40o 5 (by decide)).trans f5
  have f6 := (σ40o 6 (by decide)).trans f6
  have f7 := (σ40o 7 (by decide)).trans f7
  have f8 := (σ40o 8 (by decide)).trans f8
  have f9 := (σ40o 9 (by decide)).trans f9
  have f10 := (σ40o 10 (by decide)).trans f10
  have f11 := (σ40o 11 (by decide)).trans f11
  have f12 := (σ40o 12 (by decide)).trans f12
  have f13 := (σ40o 13 (by decide)).trans f13
  have f15 := (σ40o 15 (by decide)).trans f15
  have f16 := (σ40o 16 (by decide)).trans f16
  have f17 := (σ40o 17 (by decide)).trans f17
  have f18 := (σ40o 18 (by decide)).trans f18
  have f19 := (σ40o 19 (by decide)).trans f19
  have f20 := (σ40o 20 (by decide)).trans f20
  have f21 := (σ40o 21 (by decide)).trans f21
  have f22 := (σ40o 22 (by decide)).trans f22
  have f23 := (σ40o 23 (by decide)).trans f23
  have f24 := (σ40o 24 (by decide)).trans f24
  have f25 := (σ40o 25 (by decide)).trans f25
  have f26 := (σ40o 26 (by decide)).trans f26
  have f27 := (σ40o 27 (by decide)).trans f27
  have f28 := (σ40o 28 (by decide)).trans f28
  have f29 := (σ40o 29 (by decide)).trans f29
  have f30 := (σ40o 30 (by decide)).trans f30
  have f31 := (σ40o 31 (by decide)).trans f31
  have f32 := (σ40o 32 (by decide)).trans f32
  have f33 := (σ40o 33 (by decide)).trans f33
  have f14 := σ40j
  have h_q1 := (h39o _ (by omega)).trans h_q1
  have h_q9 := (h39o _ (by omega)).trans h_q9
  have h_q13 := (h39o _ (by omega)).trans h_q13
  have h_q17 := (h39o _ (by omega)).trans h_q17
  have h_q21 := (h39o _ (by omega)).trans h_q21
  have h_q25 := (h39o _ (by omega)).trans h_q25
  have h_q29 := (h39o _ (by omega)).trans h_q29
  have h_q33 := (h39o _ (by omega)).trans h_q33
  have h_q37 := (h39o _ (by omega)).trans h_q37
  have hq := h39a
  have fx := fx.step (by simp) h39o
  refine ev_aload_n d_Mo_init_92 rfl rfl ?_
  refine ev_sipush (v := iZ 10240) d_Mo_init_93 rfl ?_
  refine ez_newi 10240 d_Mo_init_96 ac_i (by decide) (by decide) (by decide) (by decide) (fun q41 h42 lt_q41 h42a h42o => ?_)
  have o_q41 := lt_q41 _ _ h_q37
  have lo_q41 : ∀ b e, h b = some e → b < q41 := by
    intro b e hb9
    by_cases w9 : b = q
    · subst w9; omega
    · exact lt_q41 b e (fx b e hb9 (ninc w9 nin0))
  have fx := fx.new lt_q41 h42o
  have hq := (h42o _ (Nat.ne_of_lt (lt_q41 _ _ hq))).trans hq
  have h_q1 := (h42o _ (Nat.ne_of_lt (lt_q41 _ _ h_q1))).trans h_q1
  have h_q9 := (h42o _ (Nat.ne_of_lt (lt_q41 _ _ h_q9))).trans h_q9
  have h_q13 := (h42o _ (Nat.ne_of_lt (lt_q41 _ _ h_q13))).trans h_q13
  have h_q17 := (h42o _ (Nat.ne_of_lt (lt_q41 _ _ h_q17))).trans h_q17
  have h_q21 := (h42o _ (Nat.ne_of_lt (lt_q41 _ _ h_q21))).trans h_q21
  have h_q25 := (h42o _ (Nat.ne_of_lt (lt_q41 _ _ h_q25))).trans h_q25
  have h_q29 := (h42o _ (Nat.ne_of_lt (lt_q41 _ _ h_q29))).trans h_q29
  have h_q33 := (h42o _ (Nat.ne_of_lt (lt_q41 _ _ h_q33))).trans h_q33
  have h_q37 := (h42o _ (Nat.ne_of_lt (lt_q41 _ _ h_q37))).trans h_q37
  have h_q41 := h42a
  refine ev_putF2 d_Mo_init_98 fw_Mo_45 (Or.inl rfl) hq (by decide) rfl rfl (fun h43 σ44 h43a σ44j σ44o h43o => ?_)
  have f0 := (σ44o 0 (by decide)).trans f0
  have f1 := (σ44o 1 (by decide)).trans f1
  have f2 := (σ44o 2 (by decide)).trans f2
  have f3 := (σ44o 3 (by decide)).trans f3
  have f4 := (σ44o 4 (by decide)).trans f4
  have f5 := (σ44o 5 (by decide)).trans f5
  have f6 := (σ44o 6 (by decide)).trans f6
  have f7 := (σ44o 7 (by decide)).trans f7
  have f8 := (σ44o 8 (by decide)).trans f8
  have f9 := (σ44o 9 (by decide)).trans f9
  have f10 := (σ44o 10 (by decide)).trans f10
  have f11 := (σ44o 11 (by decide)).trans f11
  have f12 := (σ44o 12 (by decide)).trans f12
  have f13 := (σ44o 13 (by decide)).trans f13
  have f14 := (σ44o 14 (by decide)).trans f14
  have f16 := (σ44o 16 (by decide)).trans f16
  have f17 := (σ44o 17 (by decide)).trans f17
  have f18 := (σ44o 18 (by decide)).trans f18
  have f19 := (σ44o 19 (by decide)).trans f19
  have f20 := (σ44o 20 (by decide)).trans f20
  have f21 := (σ44o 21 (by decide)).trans f21
  have f22 := (σ44o 22 (by decide)).trans f22
  have f23 := (σ44o 23 (by decide)).trans f23
  have f24 := (σ44o 24 (by decide)).trans f24
  have f25 := (σ44o 25 (by decide)).trans f25
  have f26 := (σ44o 26 (by decide)).trans f26
  have f27 := (σ44o 27 (by decide)).trans f27
  have f28 := (σ44o 28 (by decide)).trans f28
  have f29 := (σ44o 29 (by decide)).trans f29
  have f30 := (σ44o 30 (by decide)).trans f30
  have f31 := (σ44o 31 (by decide)).trans f31
  have f32 := (σ44o 32 (by decide)).trans f32
  have f33 := (σ44o 33 (by decide)).trans f33
  have f15 := σ44j
  have h_q1 := (h43o _ (by omega)).trans h_q1
  have h_q9 := (h43o _ (by omega)).trans h_q9
  have h_q13 := (h43o _ (by omega)).trans h_q13
  have h_q17 := (h43o _ (by omega)).trans h_q17
  have h_q21 := (h43o _ (by omega)).trans h_q21
  have h_q25 := (h43o _ (by omega)).trans h_q25
  have h_q29 := (h43o _ (by omega)).trans h_q29
  have h_q33 := (h43o _ (by omega)).trans h_q33
  have h_q37 := (h43o _ (by omega)).trans h_q37
  have h_q41 := (h43o _ (by omega)).trans h_q41
  have hq := h43a
  have fx := fx.step (by simp) h43o
  refine ev_aload_n d_Mo_init_101 rfl rfl ?_
  refine ev_bipush (v := iZ 16) d_Mo_init_102 rfl ?_
  refine ez_newl 16 d_Mo_init_104 ac_l (by decide) (by decide) (by decide) (by decide) (fun q45 h46 lt_q45 h46a h46o => ?_)
  have o_q45 := lt_q45 _ _ h_q41
  have lo_q45 : ∀ b e, h b = some e → b < q45 := by
    intro b e hb9
    by_cases w9 : b = q
    · subst w9; omega
    · exact lt_q45 b e (fx b e hb9 (ninc w9 nin0))
  have fx := fx.new lt_q45 h46o
  have hq := (h46o _ (Nat.ne_of_lt (lt_q45 _ _ hq))).trans hq
  have h_q1 := (h46o _ (Nat.ne_of_lt (lt_q45 _ _ h_q1))).trans h_q1
  have h_q9 := (h46o _ (Nat.ne_of_lt (lt_q45 _ _ h_q9))).trans h_q9
  have h_q13 := (h46o _ (Nat.ne_of_lt (lt_q45 _ _ h_q13))).trans h_q13
  have h_q17 := (h46o _ (Nat.ne_of_lt (lt_q45 _ _ h_q17))).trans h_q17
  have h_q21 := (h46o _ (Nat.ne_of_lt (lt_q45 _ _ h_q21))).trans h_q21
  have h_q25 := (h46o _ (Nat.ne_of_lt (lt_q45 _ _ h_q25))).trans h_q25
  have h_q29 := (h46o _ (Nat.ne_of_lt (lt_q45 _ _ h_q29))).trans h_q29
  have h_q33 := (h46o _ (Nat.ne_of_lt (lt_q45 _ _ h_q33))).trans h_q33
  have h_q37 := (h46o _ (Nat.ne_of_lt (lt_q45 _ _ h_q37))).trans h_q37
  have h_q41 := (h46o _ (Nat.ne_of_lt (lt_q45 _ _ h_q41))).trans h_q41
  have h_q45 := h46a
  refine ev_putF2 d_Mo_init_106 fw_Mo_48 (Or.inl rfl) hq (by decide) rfl rfl (fun h47 σ48 h47a σ48j σ48o h47o => ?_)
  have f0 := (σ48o 0 (by decide)).trans f0
  have f1 := (σ48o 1 (by decide)).trans f1
  have f2 := (σ48o 2 (by decide)).trans f2
  have f3 := (σ48o 3 (by decide)).trans f3
  have f4 := (σ48o 4 (by decide)).trans f4
  have f5 := (σ48o 5 (by decide)).trans f5
  have f6 := (σ48o 6 (by decide)).trans f6
  have f7 := (σ48o 7 (by decide)).trans f7
  have f8 := (σ48o 8 (by decide)).trans f8
  have f9 := (σ48o 9 (by decide)).trans f9
  have f10 := (σ48o 10 (by decide)).trans f10
  have f11 := (σ48o 11 (by decide)).trans f11
  have f12 := (σ48o 12 (by decide)).trans f12
  have f13 := (σ48o 13 (by decide)).trans f13
  have f14 := (σ48o 14 (by decide)).trans f14
  have f15 := (σ48o 15 (by decide)).trans f15
  have f16 := (σ48o 16 (by decide)).trans f16
  have f17 := (σ48o 17 (by decide)).trans f17
  have f18 := (σ48o 18 (by decide)).trans f18
  have f20 := (σ48o 20 (by decide)).trans f20
  have f21 := (σ48o 21 (by decide)).trans f21
  have f22 := (σ48o 22 (by decide)).trans f22
  have f23 := (σ48o 23 (by decide)).trans f23
  have f24 := (σ48o 24 (by decide)).trans f24
  have f25 := (σ48o 25 (by decide)).trans f25
  have f26 := (σ48o 26 (by decide)).trans f26
  have f27 := (σ48o 27 (by decide)).trans f27
  have f28 := (σ48o 28 (by decide)).trans f28
  have f29 := (σ48o 29 (by decide)).trans f29
  have f30 := (σ48o 30 (by decide)).trans f30
  have f31 := (σ48o 31 (by decide)).trans f31
  have f32 := (σ48o 32 (by decide)).trans f32
  have f33 := (σ48o 33 (by decide)).trans f33
  have f19 := σ48j
  have h_q1 := (h47o _ (by omega)).trans h_q1
  have h_q9 := (h47o _ (by omega)).trans h_q9
  have h_q13 := (h47o _ (by omega)).trans h_q13
  have h_q17 := (h47o _ (by omega)).trans h_q17
  have h_q21 := (h47o _ (by omega)).trans h_q21
  have h_q25 := (h47o _ (by omega)).trans h_q25
  have h_q29 := (h47o _ (by omega)).trans h_q29
  have h_q33 := (h47o _ (by omega)).trans h_q33
  have h_q37 := (h47o _ (by omega)).trans h_q37
  have h_q41 := (h47o _ (by omega)).trans h_q41
  have h_q45 := (h47o _ (by omega)).trans h_q45
  have hq := h47a
  have fx := fx.step (by simp) h47o
  refine ev_aload_n d_Mo_init_109 rfl rfl ?_
  refine ev_bipush (v := iZ 16) d_Mo_init_110 rfl ?_
  refine ez_newl 16 d_Mo_init_112 ac_l (by decide) (by decide) (by decide) (by decide) (fun q49 h50 lt_q49 h50a h50o => ?_)
  have o_q49 := lt_q49 _ _ h_q45
  have lo_q49 : ∀ b e, h b = some e → b < q49 := by
    intro b e hb9
    by_cases w9 : b = q
    · subst w9; omega
    · exact lt_q49 b e (fx b e hb9 (ninc w9 nin0))
  have fx := fx.new lt_q49 h50o
  have hq := (h50o _ (Nat.ne_of_lt (lt_q49 _ _ hq))).trans hq
  have h_q1 := (h50o _ (Nat.ne_of_lt (lt_q49 _ _ h_q1))).trans h_q1
  have h_q9 := (h50o _ (Nat.ne_of_lt (lt_q49 _ _ h_q9))).trans h_q9
  have h_q13 := (h50o _ (Nat.ne_of_lt (lt_q49 _ _ h_q13))).trans h_q13
  have h_q17 := (h50o _ (Nat.ne_of_lt (lt_q49 _ _ h_q17))).trans h_q17
  have h_q21 := (h50o _ (Nat.ne_of_lt (lt_q49 _ _ h_q21))).trans h_q21
  have h_q25 := (h50o _ (Nat.ne_of_lt (lt_q49 _ _ h_q25))).trans h_q25
  have h_q29 := (h50o _ (Nat.ne_of_lt (lt_q49 _ _ h_q29))).trans h_q29
  have h_q33 := (h50o _ (Nat.ne_of_lt (lt_q49 _ _ h_q33))).trans h_q33
  have h_q37 := (h50o _ (Nat.ne_of_lt (lt_q49 _ _ h_q37))).trans h_q37
  have h_q41 := (h50o _ (Nat.ne_of_lt (lt_q49 _ _ h_q41))).trans h_q41
  have h_q45 := (h50o _ (Nat.ne_of_lt (lt_q49 _ _ h_q45))).trans h_q45
  have h_q49 := h50a
  refine ev_putF2 d_Mo_init_114 fw_Mo_51 (Or.inl rfl) hq (by decide) rfl rfl (fun h51 σ52 h51a σ52j σ52o h51o => ?_)
  have f0 := (σ52o 0 (by decide)).trans f0
  have f1 := (σ52o 1 (by decide)).trans f1
  have f2 := (σ52o 2 (by decide)).trans f2
  have f3 := (σ52o 3 (by decide)).trans f3
  have f4 := (σ52o 4 (by decide)).trans f4
  have f5 := (σ52o 5 (by decide)).trans f5
  have f6 := (σ52o 6 (by decide)).trans f6
  have f7 := (σ52o 7 (by decide)).trans f7
  have f8 := (σ52o 8 (by decide)).trans f8
  have f9 := (σ52o 9 (by decide)).trans f9
  have f10 := (σ52o 10 (by decide)).trans f10
  have f11 := (σ52o 11 (by decide)).trans f11
  have f12 := (σ52o 12 (by decide)).trans f12
  have f13 := (σ52o 13 (by decide)).trans f13
  have f14 := (σ52o 14 (by decide)).trans f14
  have f15 := (σ52o 15 (by decide)).trans f15
  have f16 := (σ52o 16 (by decide)).trans f16
  have f17 := (σ52o 17 (by decide)).trans f17
  have f18 := (σ52o 18 (by decide)).trans f18
  have f19 := (σ52o 19 (by decide)).trans f19
  have f21 := (σ52o 21 (by decide)).trans f21
  have f22 := (σ52o 22 (by decide)).trans f22
  have f23 := (σ52o 23 (by decide)).trans f23
  have f24 := (σ52o 24 (by decide)).trans f24
  have f25 := (σ52o 25 (by decide)).trans f25
  have f26 := (σ52o 26 (by decide)).trans f26
  have f27 := (σ52o 27 (by decide)).trans f27
  have f28 := (σ52o 28 (by decide)).trans f28
  have f29 := (σ52o 29 (by decide)).trans f29
  have f30 := (σ52o 30 (by decide)).trans f30
  have f31 := (σ52o 31 (by decide)).trans f31
  have f32 := (σ52o 32 (by decide)).trans f32
  have f33 := (σ52o 33 (by decide)).trans f33
  have f20 := σ52j
  have h_q1 := (h51o _ (by omega)).trans h_q1
  have h_q9 := (h51o _ (by omega)).trans h_q9
  have h_q13 := (h51o _ (by omega)).trans h_q13
  have h_q17 := (h51o _ (by omega)).trans h_q17
  have h_q21 := (h51o _ (by omega)).trans h_q21
  have h_q25 := (h51o _ (by omega)).trans h_q25
  have h_q29 := (h51o _ (by omega)).trans h_q29
  have h_q33 := (h51o _ (by omega)).trans h_q33
  have h_q37 := (h51o _ (by omega)).trans h_q37
  have h_q41 := (h51o _ (by omega)).trans h_q41
  have h_q45 := (h51o _ (by omega)).trans h_q45
  have h_q49 := (h51o _ (by omega)).trans h_q49
  have hq := h51a
  have fx := fx.step (by simp) h51o
  refine ev_aload_n d_Mo_init_117 rfl rfl ?_
  refine ev_bipush (v := iZ 16) d_Mo_init_118 rfl ?_
  refine ez_newi 16 d_Mo_init_120 ac_i (by decide) (by decide) (by decide) (by decide) (fun q53 h54 lt_q53 h54a h54o => ?_)
  have o_q53 := lt_q53 _ _ h_q49
  have lo_q53 : ∀ b e, h b = some e → b < q53 := by
    intro b e hb9
    by_cases w9 : b = q
    · subst w9; omega
    · exact lt_q53 b e (fx b e hb9 (ninc w9 nin0))
  have fx := fx.new lt_q53 h54o
  have hq := (h54o _ (Nat.ne_of_lt (lt_q53 _ _ hq))).trans hq
  have h_q1 := (h54o _ (Nat.ne_of_lt (lt_q53 _ _ h_q1))).trans h_q1
  have h_q9 := (h54o _ (Nat.ne_of_lt (lt_q53 _ _ h_q9))).trans h_q9
  have h_q13 := (h54o _ (Nat.ne_of_lt (lt_q53 _ _ h_q13))).trans h_q13
  have h_q17 := (h54o _ (Nat.ne_of_lt (lt_q53 _ _ h_q17))).trans h_q17
  have h_q21 := (h54o _ (Nat.ne_of_lt (lt_q53 _ _ h_q21))).trans h_q21
  have h_q25 := (h54o _ (Nat.ne_of_lt (lt_q53 _ _ h_q25))).trans h_q25
  have h_q29 := (h54o _ (Nat.ne_of_lt (lt_q53 _ _ h_q29))).trans h_q29
  have h_q33 := (h54o _ (Nat.ne_of_lt (lt_q53 _ _ h_q33))).trans h_q33
  have h_q37 := (h54o _ (Nat.ne_of_lt (lt_q53 _ _ h_q37))).trans h_q37
  have h_q41 := (h54o _ (Nat.ne_of_lt (lt_q53 _ _ h_q41))).trans h_q41
  have h_q45 := (h54o _ (Nat.ne_of_lt (lt_q53 _ _ h_q45))).trans h_q45
  have h_q49 := (h54o _ (Nat.ne_of_lt (lt_q53 _ _ h_q49))).trans h_q49
  have h_q53 := h54a
  refine ev_putF2 d_Mo_init_122 fw_Mo_54 (Or.inl rfl) hq (by decide) rfl rfl (fun h55 σ56 h55a σ56j σ56o h55o => ?_)
  have f0 := (σ56o 0 (by decide)).trans f0
  have f1 := (σ56o 1 (by decide)).trans f1
  have f2 := (σ56o 2 (by decide)).trans f2
  have f3 := (σ56o 3 (by decide)).trans f3
  have f4 := (σ56o 4 (by decide)).trans f4
  have f5 := (σ56o 5 (by decide)).trans f5
  have f6 := (σ56o 6 (by decide)).trans f6
  have f7 := (σ56o 7 (by decide)).trans f7
  have f8 := (σ56o 8 (by decide)).trans f8
  have f9 := (σ56o 9 (by decide)).trans f9
  have f10 := (σ56o 10 (by decide)).trans f10
  have f11 := (σ56o 11 (by decide)).trans f11
  have f12 := (σ56o 12 (by decide)).trans f12
  have f13 := (σ56o 13 (by decide)).trans f13
  have f14 := (σ56o 14 (by decide)).trans f14
  have f15 := (σ56o 15 (by decide)).trans f15
  have f16 := (σ56o 16 (by decide)).trans f16
  have f17 := (σ56o 17 (by decide)).trans f17
  have f18 := (σ56o 18 (by decide)).trans f18
  have f19 := (σ56o 19 (by decide)).trans f19
  have f20 := (σ56o 20 (by decide)).trans f20
  have f22 := (σ56o 22 (by decide)).trans f22
  have f23 := (σ56o 23 (by decide)).trans f23
  have f24 := (σ56o 24 (by decide)).trans f24
  have f25 := (σ56o 25 (by decide)).trans f25
  have f26 := (σ56o 26 (by decide)).trans f26
  have f27 := (σ56o 27 (by decide)).trans f27
  have f28 := (σ56o 28 (by decide)).trans f28
  have f29 := (σ56o 29 (by decide)).trans f29
  have f30 := (σ56o 30 (by decide)).trans f30
  have f31 := (σ56o 31 (by decide)).trans f31
  have f32 := (σ56o 32 (by decide)).trans f32
  have f33 := (σ56o 33 (by decide)).trans f33
  have f21 := σ56j
  have h_q1 := (h55o _ (by omega)).trans h_q1
  have h_q9 := (h55o _ (by omega)).trans h_q9
  have h_q13 := (h55o _ (by omega)).trans h_q13
  have h_q17 := (h55o _ (by omega)).trans h_q17
  have h_q21 := (h55o _ (by omega)).trans h_q21
  have h_q25 := (h55o _ (by omega)).trans h_q25
  have h_q29 := (h55o _ (by omega)).trans h_q29
  have h_q33 := (h55o _ (by omega)).trans h_q33
  have h_q37 := (h55o _ (by omega)).trans h_q37
  have h_q41 := (h55o _ (by omega)).trans h_q41
  have h_q45 := (h55o _ (by omega)).trans h_q45
  have h_q49 := (h55o _ (by omega)).trans h_q49
  have h_q53 := (h55o _ (by omega)).trans h_q53
  have hq := h55a
  have fx := fx.step (by simp) h55o
  refine ev_aload_n d_Mo_init_125 rfl rfl ?_
  refine ev_sipush (v := iZ 1024) d_Mo_init_126 rfl ?_
  refine ez_newi 1024 d_Mo_init_129 ac_i (by decide) (by decide) (by decide) (by decide) (fun q57 h58 lt_q57 h58a h58o => ?_)
  have o_q57 := lt_q57 _ _ h_q53
  have lo_q57 : ∀ b e, h b = some e → b < q57 := by
    intro b e hb9
    by_cases w9 : b = q
    · subst w9; omega
    · exact lt_q57 b e (fx b e hb9 (ninc w9 nin0))
  have fx := fx.new lt_q57 h58o
  have hq := (h58o _ (Nat.ne_of_lt (lt_q57 _ _ hq))).trans hq
  have h_q1 := (h58o _ (Nat.ne_of_lt (lt_q57 _ _ h_q1))).trans h_q1
  have h_q9 := (h58o _ (Nat.ne_of_lt (lt_q57 _ _ h_q9))).trans h_q9
  have h_q13 := (h58o _ (Nat.ne_of_lt (lt_q57 _ _ h_q13))).trans h_q13
  have h_q17 := (h58o _ (Nat.ne_of_lt (lt_q57 _ _ h_q17))).trans h_q17
  have h_q21 := (h58o _ (Nat.ne_of_lt (lt_q57 _ _ h_q21))).trans h_q21
  have h_q25 := (h58o _ (Nat.ne_of_lt (lt_q57 _ _ h_q25))).trans h_q25
  have h_q29 := (h58o _ (Nat.ne_of_lt (lt_q57 _ _ h_q29))).trans h_q29
  have h_q33 := (h58o _ (Nat.ne_of_lt (lt_q57 _ _ h_q33))).trans h_q33
  have h_q37 := (h58o _ (Nat.ne_of_lt (lt_q57 _ _ h_q37))).trans h_q37
  have h_q41 := (h58o _ (Nat.ne_of_lt (lt_q57 _ _ h_q41))).trans h_q41
  have h_q45 := (h58o _ (Nat.ne_of_lt (lt_q57 _ _ h_q45))).trans h_q45
  have h_q49 := (h58o _ (Nat.ne_of_lt (lt_q57 _ _ h_q49))).trans h_q49
  have h_q53 := (h58o _ (Nat.ne_of_lt (lt_q57 _ _ h_q53))).trans h_q53
  have h_q57 := h58a
  refine ev_putF2 d_Mo_init_131 fw_Mo_57 (Or.inl rfl) hq (by decide) rfl rfl (fun h59 σ60 h59a σ60j σ60o h59o => ?_)
  have f0 := (σ60o 0 (by decide)).trans f0
  have f1 := (σ60o 1 (by decide)).trans f1
  have f2 := (σ60o 2 (by decide)).trans f2
  have f3 := (σ60o 3 (by decide)).trans f3
  have f4 := (σ60o 4 (by decide)).trans f4
  have f5 := (σ60o 5 (by decide)).trans f5
  have f6 := (σ60o 6 (by decide)).trans f6
  have f7 := (σ60o 7 (by decide)).trans f7
  have f8 := (σ60o 8 (by decide)).trans f8
  have f9 := (σ60o 9 (by decide)).trans f9
  have f10 := (σ60o 10 (by decide)).trans f10
  have f11 := (σ60o 11 (by decide)).trans f11
  have f12 := (σ60o 12 (by decide)).trans f12
  have f13 := (σ60o 13 (by decide)).trans f13
  have f14 := (σ60o 14 (by decide)).trans f14
  have f15 := (σ60o 15 (by decide)).trans f15
  have f16 := (σ60o 16 (by decide)).trans f16
  have f17 := (σ60o 17 (by decide)).trans f17
  have f18 := (σ60o 18 (by decide)).trans f18
  have f19 := (σ60o 19 (by decide)).trans f19
  have f20 := (σ60o 20 (by decide)).trans f20
  have f21 := (σ60o 21 (by decide)).trans f21
  have f23 := (σ60o 23 (by decide)).trans f23
  have f24 := (σ60o 24 (by decide)).trans f24
  have f25 := (σ60o 25 (by decide)).trans f25
  have f26 := (σ60o 26 (by decide)).trans f26
  have f27 := (σ60o 27 (by decide)).trans f27
  have f28 := (σ60o 28 (by decide)).trans f28
  have f29 := (σ60o 29 (by decide)).trans f29
  have f30 := (σ60o 30 (by decide)).trans f30
  have f31 := (σ60o 31 (by decide)).trans f31
  have f32 := (σ60o 32 (by decide)).trans f32
  have f33 := (σ60o 33 (by decide)).trans f33
  have f22 := σ60j
  have h_q1 := (h59o _ (by omega)).trans h_q1
  have h_q9 := (h59o _ (by omega)).trans h_q9
  have h_q13 := (h59o _ (by omega)).trans h_q13
  have h_q17 := (h59o _ (by omega)).trans h_q17
  have h_q21 := (h59o _ (by omega)).trans h_q21
  have h_q25 := (h59o _ (by omega)).trans h_q25
  have h_q29 := (h59o _ (by omega)).trans h_q29
  have h_q33 := (h59o _ (by omega)).trans h_q33
  have h_q37 := (h59o _ (by omega)).trans h_q37
  have h_q41 := (h59o _ (by omega)).trans h_q41
  have h_q45 := (h59o _ (by omega)).trans h_q45
  have h_q49 := (h59o _ (by omega)).trans h_q49
  have h_q53 := (h59o _ (by omega)).trans h_q53
  have h_q57 := (h59o _ (by omega)).trans h_q57
  have hq := h59a
  have fx := fx.step (by simp) h59o
  refine ev_aload_n d_Mo_init_134 rfl rfl ?_
  refine ev_bipush (v := iZ 20) d_Mo_init_135 rfl ?_
  refine ez_newi 20 d_Mo_init_137 ac_i (by decide) (by decide) (by decide) (by decide) (fun q61 h62 lt_q61 h62a h62o => ?_)
  have o_q61 := lt_q61 _ _ h_q57
  have lo_q61 : ∀ b e, h b = some e → b < q61 := by
    intro b e hb9
    by_cases w9 : b = q
    · subst w9; omega
    · exact lt_q61 b e (fx b e hb9 (ninc w9 nin0))
  have fx := fx.new lt_q61 h62o
  have hq := (h62o _ (Nat.ne_of_lt (lt_q61 _ _ hq))).trans hq
  have h_q1 := (h62o _ (Nat.ne_of_lt (lt_q61 _ _ h_q1))).trans h_q1
  have h_q9 := (h62o _ (Nat.ne_of_lt (lt_q61 _ _ h_q9))).trans h_q9
  have h_q13 := (h62o _ (Nat.ne_of_lt (lt_q61 _ _ h_q13))).trans h_q13
  have h_q17 := (h62o _ (Nat.ne_of_lt (lt_q61 _ _ h_q17))).trans h_q17
  have h_q21 := (h62o _ (Nat.ne_of_lt (lt_q61 _ _ h_q21))).trans h_q21
  have h_q25 := (h62o _ (Nat.ne_of_lt (lt_q61 _ _ h_q25))).trans h_q25
  have h_q29 := (h62o _ (Nat.ne_of_lt (lt_q61 _ _ h_q29))).trans h_q29
  have h_q33 := (h62o _ (Nat.ne_of_lt (lt_q61 _ _ h_q33))).trans h_q33
  have h_q37 := (h62o _ (Nat.ne_of_lt (lt_q61 _ _ h_q37))).trans h_q37
  have h_q41 := (h62o _ (Nat.ne_of_lt (lt_q61 _ _ h_q41))).trans h_q41
  have h_q45 := (h62o _ (Nat.ne_of_lt (lt_q61 _ _ h_q45))).trans h_q45
  have h_q49 := (h62o _ (Nat.ne_of_lt (lt_q61 _ _ h_q49))).trans h_q49
  have h_q53 := (h62o _ (Nat.ne_of_lt (lt_q61 _ _ h_q53))).trans h_q53
  have h_q57 := (h62o _ (Nat.ne_of_lt (lt_q61 _ _ h_q57))).trans h_q57
  have h_q61 := h62a
  refine ev_putF2 d_Mo_init_139 fw_Mo_60 (Or.inl rfl) hq (by decide) rfl rfl (fun h63 σ64 h63a σ64j σ64o h63o => ?_)
  have f0 := (σ64o 0 (by decide)).trans f0
  have f1 := (σ64o 1 (by decide)).trans f1
  have f2 := (σ64o 2 (by decide)).trans f2
  have f3 := (σ64o 3 (by decide)).trans f3
  have f4 := (σ64o 4 (by decide)).trans f4
  have f5 := (σ64o 5 (by decide)).trans f5
  have f6 := (σ64o 6 (by decide)).trans f6
  have f7 := (σ64o 7 (by decide)).trans f7
  have f8 := (σ64o 8 (by decide)).trans f8
  have f9 := (σ64o 9 (by decide)).trans f9
  have f10 := (σ64o 10 (by decide)).trans f10
  have f11 := (σ64o 11 (by decide)).trans f11
  have f12 := (σ64o 12 (by decide)).trans f12
  have f13 := (σ64o 13 (by decide)).trans f13
  have f14 := (σ64o 14 (by decide)).trans f14
  have f15 := (σ64o 15 (by decide)).trans f15
  have f16 := (σ64o 16 (by decide)).trans f16
  have f17 := (σ64o 17 (by decide)).trans f17
  have f18 := (σ64o 18 (by decide)).trans f18
  have f19 := (σ64o 19 (by decide)).trans f19
  have f20 := (σ64o 20 (by decide)).trans f20
  have f21 := (σ64o 21 (by decide)).trans f21
  have f22 := (σ64o 22 (by decide)).trans f22
  have f23 := (σ64o 23 (by decide)).trans f23
  have f24 := (σ64o 24 (by decide)).trans f24
  have f25 := (σ64o 25 (by decide)).trans f25
  have f27 := (σ64o 27 (by decide)).trans f27
  have f28 := (σ64o 28 (by decide)).trans f28
  have f29 := (σ64o 29 (by decide)).trans f29
  have f30 := (σ64o 30 (by decide)).trans f30
  have f31 := (σ64o 31 (by decide)).trans f31
  have f32 := (σ64o 32 (by decide)).trans f32
  have f33 := (σ64o 33 (by decide)).trans f33
  have f26 := σ64j
  have h_q1 := (h63o _ (by omega)).trans h_q1
  have h_q9 := (h63o _ (by omega)).trans h_q9
  have h_q13 := (h63o _ (by omega)).trans h_q13
  have h_q17 := (h63o _ (by omega)).trans h_q17
  have h_q21 := (h63o _ (by omega)).trans h_q21
  have h_q25 := (h63o _ (by omega)).trans h_q25
  have h_q29 := (h63o _ (by omega)).trans h_q29
  have h_q33 := (h63o _ (by omega)).trans h_q33
  have h_q37 := (h63o _ (by omega)).trans h_q37
  have h_q41 := (h63o _ (by omega)).trans h_q41
  have h_q45 := (h63o _ (by omega)).trans h_q45
  have h_q49 := (h63o _ (by omega)).trans h_q49
  have h_q53 := (h63o _ (by omega)).trans h_q53
  have h_q57 := (h63o _ (by omega)).trans h_q57
  have h_q61 := (h63o _ (by omega)).trans h_q61
  have hq := h63a
  have fx := fx.step (by simp) h63o
  refine ev_aload_n d_Mo_init_142 rfl rfl ?_
  refine ev_iconst (v := iZ 2) d_Mo_init_143 rfl ?_
  refine ev_putF2 d_Mo_init_144 fw_Mo_63 (Or.inr (fun _ _ _ q => by cases q; rfl)) hq (by decide) rfl rfl (fun h65 σ66 h65a σ66j σ66o h65o => ?_)
  have f0 := (σ66o 0 (by decide)).trans f0
  have f1 := (σ66o 1 (by decide)).trans f1
  have f2 := (σ66o 2 (by decide)).trans f2
  have f3 := (σ66o 3 (by decide)).trans f3
  have f4 := (σ66o 4 (by decide)).trans f4
  have f5 := (σ66o 5 (by decide)).trans f5
  have f6 := (σ66o 6 (by decide)).trans f6
  have f7 := (σ66o 7 (by decide)).trans f7
  have f8 := (σ66o 8 (by decide)).trans f8
  have f9 := (σ66o 9 (by decide)).trans f9
  have f10 := (σ66o 10 (by decide)).trans f10
  have f11 := (σ66o 11 (by decide)).trans f11
  have f12 := (σ66o 12 (by decide)).trans f12
  have f13 := (σ66o 13 (by decide)).trans f13
  have f14 := (σ66o 14 (by decide)).trans f14
  have f15 := (σ66o 15 (by decide)).trans f15
  have f16 := (σ66o 16 (by decide)).trans f16
  have f17 := (σ66o 17 (by decide)).trans f17
  have f18 := (σ66o 18 (by decide)).trans f18
  have f19 := (σ66o 19 (by decide)).trans f19
  have f20 := (σ66o 20 (by decide)).trans f20
  have f21 := (σ66o 21 (by decide)).trans f21
  have f22 := (σ66o 22 (by decide)).trans f22
  have f23 := (σ66o 23 (by decide)).trans f23
  have f24 := (σ66o 24 (by decide)).trans f24
  have f25 := (σ66o 25 (by decide)).trans f25
  have f26 := (σ66o 26 (by decide)).trans f26
  have f28 := (σ66o 28 (by decide)).trans f28
  have f29 := (σ66o 29 (by decide)).trans f29
  have f30 := (σ66o 30 (by decide)).trans f30
  have f31 := (σ66o 31 (by decide)).trans f31
  have f32 := (σ66o 32 (by decide)).trans f32
  have f33 := (σ66o 33 (by decide)).trans f33
  have f27 := σ66j
  have h_q1 := (h65o _ (by omega)).trans h_q1
  have h_q9 := (h65o _ (by omega)).trans h_q9
  have h_q13 := (h65o _ (by omega)).trans h_q13
  have h_q17 := (h65o _ (by omega)).trans h_q17
  have h_q21 := (h65o _ (by omega)).trans h_q21
  have h_q25 := (h65o _ (by omega)).trans h_q25
  have h_q29 := (h65o _ (by omega)).trans h_q29
  have h_q33 := (h65o _ (by omega)).trans h_q33
  have h_q37 := (h65o _ (by omega)).trans h_q37
  have h_q41 := (h65o _ (by omega)).trans h_q41
  have h_q45 := (h65o _ (by omega)).trans h_q45
  have h_q49 := (h65o _ (by omega)).trans h_q49
  have h_q53 := (h65o _ (by omega)).trans h_q53
  have h_q57 := (h65o _ (by omega)).trans h_q57
  have h_q61 := (h65o _ (by omega)).trans h_q61
  have hq := h65a
  have fx := fx.step (by simp) h65o
  refine ev_aload_n d_Mo_init_147 rfl rfl ?_
  refine ev_bipush (v := iZ 20) d_Mo_init_148 rfl ?_
  refine ev_putF2 d_Mo_init_150 fw_Mo_66 (Or.inr (fun _ _ _ q => by cases q; rfl)) hq (by decide) rfl rfl (fun h67 σ68 h67a σ68j σ68o h67o => ?_)
  have f0 := (σ68o 0 (by decide)).trans f0
  have f1 := (σ68o 1 (by decide)).trans f1
  have f2 := (σ68o 2 (by decide)).trans f2
  have f3 := (σ68o 3 (by decide)).trans f3
  have f4 := (σ68o 4 (by decide)).trans f4
  have f5 := (σ68o 5 (by decide)).trans f5
  have f6 := (σ68o 6 (by decide)).trans f6
  have f7 := (σ68o 7 (by decide)).trans f7
  have f8 := (σ68o 8 (by decide)).trans f8
  have f9 := (σ68o 9 (by decide)).trans f9
  have f10 := (σ68o 10 (by decide)).trans f10
  have f11 := (σ68o 11 (by decide)).trans f11
  have f12 := (σ68o 12 (by decide)).trans f12
  have f13 := (σ68o 13 (by decide)).trans f13
  have f14 := (σ68o 14 (by decide)).trans f14
  have f15 := (σ68o 15 (by decide)).trans f15
  have f16 := (σ68o 16 (by decide)).trans f16
  have f17 := (σ68o 17 (by decide)).trans f17
  have f18 := (σ68o 18 (by decide)).trans f18
  have f19 := (σ68o 19 (by decide)).trans f19
  have f20 := (σ68o 20 (by decide)).trans f20
  have f21 := (σ68o 21 (by decide)).trans f21
  have f22 := (σ68o 22 (by decide)).trans f22
  have f23 := (σ68o 23 (by decide)).trans f23
  have f24 := (σ68o 24 (by decide)).trans f24
  have f25 := (σ68o 25 (by decide)).trans f25
  have f26 := (σ68o 26 (by decide)).trans f26
  have f27 := (σ68o 27 (by decide)).trans f27
  have f29 := (σ68o 29 (by decide)).trans f29
  have f30 := (σ68o 30 (by decide)).trans f30
  have f31 := (σ68o 31 (by decide)).trans f31
  have f32 := (σ68o 32 (by decide)).trans f32
  have f33 := (σ68o 33 (by decide)).trans f33
  have f28 := σ68j
  have h_q1 := (h67o _ (by omega)).trans h_q1
  have h_q9 := (h67o _ (by omega)).trans h_q9
  have h_q13 := (h67o _ (by omega)).trans h_q13
  have h_q17 := (h67o _ (by omega)).trans h_q17
  have h_q21 := (h67o _ (by omega)).trans h_q21
  have h_q25 := (h67o _ (by omega)).trans h_q25
  have h_q29 := (h67o _ (by omega)).trans h_q29
  have h_q33 := (h67o _ (by omega)).trans h_q33
  have h_q37 := (h67o _ (by omega)).trans h_q37
  have h_q41 := (h67o _ (by omega)).trans h_q41
  have h_q45 := (h67o _ (by omega)).trans h_q45
  have h_q49 := (h67o _ (by omega)).trans h_q49
  have h_q53 := (h67o _ (by omega)).trans h_q53
  have h_q57 := (h67o _ (by omega)).trans h_q57
  have h_q61 := (h67o _ (by omega)).trans h_q61
  have hq := h67a
  have fx := fx.step (by simp) h67o
  refine ev_aload_n d_Mo_init_153 rfl rfl ?_
  refine ev_sipush (v := iZ 168) d_Mo_init_154 rfl ?_
  refine ev_putF2 d_Mo_init_157 fw_Mo_69 (Or.inr (fun _ _ _ q => by cases q; rfl)) hq (by decide) rfl rfl (fun h69 σ70 h69a σ70j σ70o h69o => ?_)
  have f0 := (σ70o 0 (by decide)).trans f0
  have f1 := (σ70o 1 (by decide)).trans f1
  have f2 := (σ70o 2 (by decide)).trans f2
  have f3 := (σ70o 3 (by decide)).trans f3
  have f4 := (σ70o 4 (by decide)).trans f4
  have f5 := (σ70o 5 (by decide)).trans f5
  have f6 := (σ70o 6 (by decide)).trans f6
  have f7 := (σ70o 7 (by decide)).trans f7
  have f8 := (σ70o 8 (by decide)).trans f8
  have f9 := (σ70o 9 (by decide)).trans f9
  have f10 := (σ70o 10 (by decide)).trans f10
  have f11 := (σ70o 11 (by decide)).trans f11
  have f12 := (σ70o 12 (by decide)).trans f12
  have f13 := (σ70o 13 (by decide)).trans f13
  have f14 := (σ70o 14 (by decide)).trans f14
  have f15 := (σ70o 15 (by decide)).trans f15
  have f16 := (σ70o 16 (by decide)).trans f16
  have f17 := (σ70o 17 (by decide)).trans f17
  have f18 := (σ70o 18 (by decide)).trans f18
  have f19 := (σ70o 19 (by decide)).trans f19
  have f20 := (σ70o 20 (by decide)).trans f20
  have f21 := (σ70o 21 (by decide)).trans f21
  have f22 := (σ70o 22 (by decide)).trans f22
  have f23 := (σ70o 23 (by decide)).trans f23
  have f24 := (σ70o 24 (by decide)).trans f24
  have f25 := (σ70o 25 (by decide)).trans f25
  have f26 := (σ70o 26 (by decide)).trans f26
  have f27 := (σ70o 27 (by decide)).trans f27
  have f28 := (σ70o 28 (by decide)).trans f28
  have f30 := (σ70o 30 (by decide)).trans f30
  have f31 := (σ70o 31 (by decide)).trans f31
  have f32 := (σ70o 32 (by decide)).trans f32
  have f33 := (σ70o 33 (by decide)).trans f33
  have f29 := σ70j
  have h_q1 := (h69o _ (by omega)).trans h_q1
  have h_q9 := (h69o _ (by omega)).trans h_q9
  have h_q13 := (h69o _ (by omega)).trans h_q13
  have h_q17 := (h69o _ (by omega)).trans h_q17
  have h_q21 := (h69o _ (by omega)).trans h_q21
  have h_q25 := (h69o _ (by omega)).trans h_q25
  have h_q29 := (h69o _ (by omega)).trans h_q29
  have h_q33 := (h69o _ (by omega)).trans h_q33
  have h_q37 := (h69o _ (by omega)).trans h_q37
  have h_q41 := (h69o _ (by omega)).trans h_q41
  have h_q45 := (h69o _ (by omega)).trans h_q45
  have h_q49 := (h69o _ (by omega)).trans h_q49
  have h_q53 := (h69o _ (by omega)).trans h_q53
  have h_q57 := (h69o _ (by omega)).trans h_q57
  have h_q61 := (h69o _ (by omega)).trans h_q61
  have hq := h69a
  have fx := fx.step (by simp) h69o
  refine ev_aload_n d_Mo_init_160 rfl rfl ?_
  refine ev_bipush (v := iZ 17) d_Mo_init_161 rfl ?_
  refine ev_putF2 d_Mo_init_163 fw_Mo_72 (Or.inr (fun _ _ _ q => by cases q; rfl)) hq (by decide) rfl rfl (fun h71 σ72 h71a σ72j σ72o h71o => ?_)
  have f0 := (σ72o 0 (by decide)).trans f0
  have f1 := (σ72o 1 (by decide)).trans f1
  have f2 := (σ72o 2 (by decide)).trans f2
  have f3 := (σ72o 3 (by decide)).trans f3
  have f4 := (σ72o 4 (by decide)).trans f4
  have f5 := (σ72o 5 (by decide)).trans f5
  have f6 := (σ72o 6 (by decide)).trans f6
  have f7 := (σ72o 7 (by decide)).trans f7
  have f8 := (σ72o 8 (by decide)).trans f8
  have f9 := (σ72o 9 (by decide)).trans f9
  have f10 := (σ72o 10 (by decide)).trans f10
  have f11 := (σ72o 11 (by decide)).trans f11
  have f12 := (σ72o 12 (by decide)).trans f12
  have f13 := (σ72o 13 (by decide)).trans f13
  have f14 := (σ72o 14 (by decide)).trans f14
  have f15 := (σ72o 15 (by decide)).trans f15
  have f16 := (σ72o 16 (by decide)).trans f16
  have f17 := (σ72o 17 (by decide)).trans f17
  have f18 := (σ72o 18 (by decide)).trans f18
  have f19 := (σ72o 19 (by decide)).trans f19
  have f20 := (σ72o 20 (by decide)).trans f20
  have f21 := (σ72o 21 (by decide)).trans f21
  have f22 := (σ72o 22 (by decide)).trans f22
  have f23 := (σ72o 23 (by decide)).trans f23
  have f24 := (σ72o 24 (by decide)).trans f24
  have f25 := (σ72o 25 (by decide)).trans f25
  have f26 := (σ72o 26 (by decide)).trans f26
  have f27 := (σ72o 27 (by decide)).trans f27
  have f28 := (σ72o 28 (by decide)).trans f28
  have f29 := (σ72o 29 (by decide)).trans f29
  have f31 := (σ72o 31 (by decide)).trans f31
  have f32 := (σ72o 32 (by decide)).trans f32
  have f33 := (σ72o 33 (by decide)).trans f33
  have f30 := σ72j
  have h_q1 := (h71o _ (by omega)).trans h_q1
  have h_q9 := (h71o _ (by omega)).trans h_q9
  have h_q13 := (h71o _ (by omega)).trans h_q13
  have h_q17 := (h71o _ (by omega)).trans h_q17
  have h_q21 := (h71o _ (by omega)).trans h_q21
  have h_q25 := (h71o _ (by omega)).trans h_q25
  have h_q29 := (h71o _ (by omega)).trans h_q29
  have h_q33 := (h71o _ (by omega)).trans h_q33
  have h_q37 := (h71o _ (by omega)).trans h_q37
  have h_q41 := (h71o _ (by omega)).trans h_q41
  have h_q45 := (h71o _ (by omega)).trans h_q45
  have h_q49 := (h71o _ (by omega)).trans h_q49
  have h_q53 := (h71o _ (by omega)).trans h_q53
  have h_q57 := (h71o _ (by omega)).trans h_q57
  have h_q61 := (h71o _ (by omega)).trans h_q61
  have hq := h71a
  have fx := fx.step (by simp) h71o
  refine ev_aload_n d_Mo_init_166 rfl rfl ?_
  refine ev_sipush (v := iZ 194) d_Mo_init_167 rfl ?_
  refine ez_newi 194 d_Mo_init_170 ac_i (by decide) (by decide) (by decide) (by decide) (fun q73 h74 lt_q73 h74a h74o => ?_)
  have o_q73 := lt_q73 _ _ h_q61
  have lo_q73 : ∀ b e, h b = some e → b < q73 := by
    intro b e hb9
    by_cases w9 : b = q
    · subst w9; omega
    · exact lt_q73 b e (fx b e hb9 (ninc w9 nin0))
  have fx := fx.new lt_q73 h74o
  have hq := (h74o _ (Nat.ne_of_lt (lt_q73 _ _ hq))).trans hq
  have h_q1 := (h74o _ (Nat.ne_of_lt (lt_q73 _ _ h_q1))).trans h_q1
  have h_q9 := (h74o _ (Nat.ne_of_lt (lt_q73 _ _ h_q9))).trans h_q9
  have h_q13 := (h74o _ (Nat.ne_of_lt (lt_q73 _ _ h_q13))).trans h_q13
  have h_q17 := (h74o _ (Nat.ne_of_lt (lt_q73 _ _ h_q17))).trans h_q17
  have h_q21 := (h74o _ (Nat.ne_of_lt (lt_q73 _ _ h_q21))).trans h_q21
  have h_q25 := (h74o _ (Nat.ne_of_lt (lt_q73 _ _ h_q25))).trans h_q25
  have h_q29 := (h74o _ (Nat.ne_of_lt (lt_q73 _ _ h_q29))).trans h_q29
  have h_q33 := (h74o _ (Nat.ne_of_lt (lt_q73 _ _ h_q33))).trans h_q33
  have h_q37 := (h74o _ (Nat.ne_of_lt (lt_q73 _ _ h_q37))).trans h_q37
  have h_q41 := (h74o _ (Nat.ne_of_lt (lt_q73 _ _ h_q41))).trans h_q41
  have h_q45 := (h74o _ (Nat.ne_of_lt (lt_q73 _ _ h_q45))).trans h_q45
  have h_q49 := (h74o _ (Nat.ne_of_lt (lt_q73 _ _ h_q49))).trans h_q49
  have h_q53 := (h74o _ (Nat.ne_of_lt (lt_q73 _ _ h_q53))).trans h_q53
  have h_q57 := (h74o _ (Nat.ne_of_lt (lt_q73 _ _ h_q57))).trans h_q57
  have h_q61 := (h74o _ (Nat.ne_of_lt (lt_q73 _ _ h_q61))).trans h_q61
  have h_q73 := h74a
  refine ev_putF2 d_Mo_init_172 fw_Mo_75 (Or.inl rfl) hq (by decide) rfl rfl (fun h75 σ76 h75a σ76j σ76o h75o => ?_)
  have f0 := (σ76o 0 (by decide)).trans f0
  have f1 := (σ76o 1 (by decide)).trans f1
  have f2 := (σ76o 2 (by decide)).trans f2
  have f3 := (σ76o 3 (by decide)).trans f3
  have f4 := (σ76o 4 (by decide)).trans f4
  have f5 := (σ76o 5 (by decide)).trans f5
  have f6 := (σ76o 6 (by decide)).trans f6
  have f7 := (σ76o 7 (by decide)).trans f7
  have f8 := (σ76o 8 (by decide)).trans f8
  have f9 := (σ76o 9 (by decide)).trans f9
  have f10 := (σ76o 10 (by decide)).trans f10
  have f11 := (σ76o 11 (by decide)).trans f11
  have f12 := (σ76o 12 (by decide)).trans f12
  have f13 := (σ76o 13 (by decide)).trans f13
  have f14 := (σ76o 14 (by decide)).trans f14
  have f15 := (σ76o 15 (by decide)).trans f15
  have f16 := (σ76o 16 (by decide)).trans f16
  have f17 := (σ76o 17 (by decide)).trans f17
  have f18 := (σ76o 18 (by decide)).trans f18
  have f19 := (σ76o 19 (by decide)).trans f19
  have f20 := (σ76o 20 (by decide)).trans f20
  have f21 := (σ76o 21 (by decide)).trans f21
  have f22 := (σ76o 22 (by decide)).trans f22
  have f23 := (σ76o 23 (by decide)).trans f23
  have f24 := (σ76o 24 (by decide)).trans f24
  have f25 := (σ76o 25 (by decide)).trans f25
  have f26 := (σ76o 26 (by decide)).trans f26
  have f27 := (σ76o 27 (by decide)).trans f27
  have f28 := (σ76o 28 (by decide)).trans f28
  have f29 := (σ76o 29 (by decide)).trans f29
  have f30 := (σ76o 30 (by decide)).trans f30
  have f32 := (σ76o 32 (by decide)).trans f32
  have f33 := (σ76o 33 (by decide)).trans f33
  have f31 := σ76j
  have h_q1 := (h75o _ (by omega)).trans h_q1
  have h_q9 := (h75o _ (by omega)).trans h_q9
  have h_q13 := (h75o _ (by omega)).trans h_q13
  have h_q17 := (h75o _ (by omega)).trans h_q17
  have h_q21 := (h75o _ (by omega)).trans h_q21
  have h_q25 := (h75o _ (by omega)).trans h_q25
  have h_q29 := (h75o _ (by omega)).trans h_q29
  have h_q33 := (h75o _ (by omega)).trans h_q33
  have h_q37 := (h75o _ (by omega)).trans h_q37
  have h_q41 := (h75o _ (by omega)).trans h_q41
  have h_q45 := (h75o _ (by omega)).trans h_q45
  have h_q49 := (h75o _ (by omega)).trans h_q49
  have h_q53 := (h75o _ (by omega)).trans h_q53
  have h_q57 := (h75o _ (by omega)).trans h_q57
  have h_q61 := (h75o _ (by omega)).trans h_q61
  have h_q73 := (h75o _ (by omega)).trans h_q73
  have hq := h75a
  have fx := fx.step (by simp) h75o
  refine ev_aload_n d_Mo_init_175 rfl rfl ?_
  refine ev_sipush (v := iZ 3104) d_Mo_init_176 rfl ?_
  refine ez_newi 3104 d_Mo_init_179 ac_i (by decide) (by decide) (by decide) (by decide) (fun q77 h78 lt_q77 h78a h78o => ?_)
  have o_q77 := lt_q77 _ _ h_q73
  have lo_q77 : ∀ b e, h b = some e → b < q77 := by
    intro b e hb9
    by_cases w9 : b = q
    · subst w9; omega
    · exact lt_q77 b e (fx b e hb9 (ninc w9 nin0))
  have fx := fx.new lt_q77 h78o
  have hq := (h78o _ (Nat.ne_of_lt (lt_q77 _ _ hq))).trans hq
  have h_q1 := (h78o _ (Nat.ne_of_lt (lt_q77 _ _ h_q1))).trans h_q1
  have h_q9 := (h78o _ (Nat.ne_of_lt (lt_q77 _ _ h_q9))).trans h_q9
  have h_q13 := (h78o _ (Nat.ne_of_lt (lt_q77 _ _ h_q13))).trans h_q13
  have h_q17 := (h78o _ (Nat.ne_of_lt (lt_q77 _ _ h_q17))).trans h_q17
  have h_q21 := (h78o _ (Nat.ne_of_lt (lt_q77 _ _ h_q21))).trans h_q21
  have h_q25 := (h78o _ (Nat.ne_of_lt (lt_q77 _ _ h_q25))).trans h_q25
  have h_q29 := (h78o _ (Nat.ne_of_lt (lt_q77 _ _ h_q29))).trans h_q29
  have h_q33 := (h78o _ (Nat.ne_of_lt (lt_q77 _ _ h_q33))).trans h_q33
  have h_q37 := (h78o _ (Nat.ne_of_lt (lt_q77 _ _ h_q37))).trans h_q37
  have h_q41 := (h78o _ (Nat.ne_of_lt (lt_q77 _ _ h_q41))).trans h_q41
  have h_q45 := (h78o _ (Nat.ne_of_lt (lt_q77 _ _ h_q45))).trans h_q45
  have h_q49 := (h78o _ (Nat.ne_of_lt (lt_q77 _ _ h_q49))).trans h_q49
  have h_q53 := (h78o _ (Nat.ne_of_lt (lt_q77 _ _ h_q53))).trans h_q53
  have h_q57 := (h78o _ (Nat.ne_of_lt (lt_q77 _ _ h_q57))).trans h_q57
  have h_q61 := (h78o _ (Nat.ne_of_lt (lt_q77 _ _ h_q61))).trans h_q61
  have h_q73 := (h78o _ (Nat.ne_of_lt (lt_q77 _ _ h_q73))).trans h_q73
  have h_q77 := h78a
  refine ev_putF2 d_Mo_init_181 fw_Mo_78 (Or.inl rfl) hq (by decide) rfl rfl (fun h79 σ80 h79a σ80j σ80o h79o => ?_)
  have f0 := (σ80o 0 (by decide)).trans f0
  have f1 := (σ80o 1 (by decide)).trans f1
  have f2 := (σ80o 2 (by decide)).trans f2
  have f3 := (σ80o 3 (by decide)).trans f3
  have f4 := (σ80o 4 (by decide)).trans f4
  have f5 := (σ80o 5 (by decide)).trans f5
  have f6 := (σ80o 6 (by decide)).trans f6
  have f7 := (σ80o 7 (by decide)).trans f7
  have f8 := (σ80o 8 (by decide)).trans f8
  have f9 := (σ80o 9 (by decide)).trans f9
  have f10 := (σ80o 10 (by decide)).trans f10
  have f11 := (σ80o 11 (by decide)).trans f11
  have f12 := (σ80o 12 (by decide)).trans f12
  have f13 := (σ80o 13 (by decide)).trans f13
  have f14 := (σ80o 14 (by decide)).trans f14
  have f15 := (σ80o 15 (by decide)).trans f15
  have f16 := (σ80o 16 (by decide)).trans f16
  have f17 := (σ80o 17 (by decide)).trans f17
  have f18 := (σ80o 18 (by decide)).trans f18
  have f19 := (σ80o 19 (by decide)).trans f19
  have f20 := (σ80o 20 (by decide)).trans f20
  have f21 := (σ80o 21 (by decide)).trans f21
  have f22 := (σ80o 22 (by decide)).trans f22
  have f23 := (σ80o 23 (by decide)).trans f23
  have f24 := (σ80o 24 (by decide)).trans f24
  have f25 := (σ80o 25 (by decide)).trans f25
  have f26 := (σ80o 26 (by decide)).trans f26
  have f27 := (σ80o 27 (by decide)).trans f27
  have f28 := (σ80o 28 (by decide)).trans f28
  have f29 := (σ80o 29 (by decide)).trans f29
  have f30 := (σ80o 30 (by decide)).trans f30
  have f31 := (σ80o 31 (by decide)).trans f31
  have f33 := (σ80o 33 (by decide)).trans f33
  have f32 := σ80j
  have h_q1 := (h79o _ (by omega)).trans h_q1
  have h_q9 := (h79o _ (by omega)).trans h_q9
  have h_q13 := (h79o _ (by omega)).trans h_q13
  have h_q17 := (h79o _ (by omega)).trans h_q17
  have h_q21 := (h79o _ (by omega)).trans h_q21
  have h_q25 := (h79o _ (by omega)).trans h_q25
  have h_q29 := (h79o _ (by omega)).trans h_q29
  have h_q33 := (h79o _ (by omega)).trans h_q33
  have h_q37 := (h79o _ (by omega)).trans h_q37
  have h_q41 := (h79o _ (by omega)).trans h_q41
  have h_q45 := (h79o _ (by omega)).trans h_q45
  have h_q49 := (h79o _ (by omega)).trans h_q49
  have h_q53 := (h79o _ (by omega)).trans h_q53
  have h_q57 := (h79o _ (by omega)).trans h_q57
  have h_q61 := (h79o _ (by omega)).trans h_q61
  have h_q73 := (h79o _ (by omega)).trans h_q73
  have h_q77 := (h79o _ (by omega)).trans h_q77
  have hq := h79a
  have fx := fx.step (by simp) h79o
  refine ev_aload_n d_Mo_init_184 rfl rfl ?_
  refine ev_bipush (v := iZ 65) d_Mo_init_185 rfl ?_
  refine ez_newi 65 d_Mo_init_187 ac_i (by decide) (by decide) (by decide) (by decide) (fun q81 h82 lt_q81 h82a h82o => ?_)
  have o_q81 := lt_q81 _ _ h_q77
  have lo_q81 : ∀ b e, h b = some e → b < q81 := by
    intro b e hb9
    by_cases w9 : b = q
    · subst w9; omega
    · exact lt_q81 b e (fx b e hb9 (ninc w9 nin0))
  have fx := fx.new lt_q81 h82o
  have hq := (h82o _ (Nat.ne_of_lt (lt_q81 _ _ hq))).trans hq
  have h_q1 := (h82o _ (Nat.ne_of_lt (lt_q81 _ _ h_q1))).trans h_q1
  have h_q9 := (h82o _ (Nat.ne_of_lt (lt_q81 _ _ h_q9))).trans h_q9
  have h_q13 := (h82o _ (Nat.ne_of_lt (lt_q81 _ _ h_q13))).trans h_q13
  have h_q17 := (h82o _ (Nat.ne_of_lt (lt_q81 _ _ h_q17))).trans h_q17
  have h_q21 := (h82o _ (Nat.ne_of_lt (lt_q81 _ _ h_q21))).trans h_q21
  have h_q25 := (h82o _ (Nat.ne_of_lt (lt_q81 _ _ h_q25))).trans h_q25
  have h_q29 := (h82o _ (Nat.ne_of_lt (lt_q81 _ _ h_q29))).trans h_q29
  have h_q33 := (h82o _ (Nat.ne_of_lt (lt_q81 _ _ h_q33))).trans h_q33
  have h_q37 := (h82o _ (Nat.ne_of_lt (lt_q81 _ _ h_q37))).trans h_q37
  have h_q41 := (h82o _ (Nat.ne_of_lt (lt_q81 _ _ h_q41))).trans h_q41
  have h_q45 := (h82o _ (Nat.ne_of_lt (lt_q81 _ _ h_q45))).trans h_q45
  have h_q49 := (h82o _ (Nat.ne_of_lt (lt_q81 _ _ h_q49))).trans h_q49
  have h_q53 := (h82o _ (Nat.ne_of_lt (lt_q81 _ _ h_q53))).trans h_q53
  have h_q57 := (h82o _ (Nat.ne_of_lt (lt_q81 _ _ h_q57))).trans h_q57
  have h_q61 := (h82o _ (Nat.ne_of_lt (lt_q81 _ _ h_q61))).trans h_q61
  have h_q73 := (h82o _ (Nat.ne_of_lt (lt_q81 _ _ h_q73))).trans h_q73
  have h_q77 := (h82o _ (Nat.ne_of_lt (lt_q81 _ _ h_q77))).trans h_q77
  have h_q81 := h82a
  refine ev_putF2 d_Mo_init_189 fw_Mo_81 (Or.inl rfl) hq (by decide) rfl rfl (fun h83 σ84 h83a σ84j σ84o h83o => ?_)
  have f0 := (σ84o 0 (by decide)).trans f0
  have f1 := (σ84o 1 (by decide)).trans f1
  have f2 := (σ84o 2 (by decide)).trans f2
  have f3 := (σ84o 3 (by decide)).trans f3
  have f4 := (σ84o 4 (by decide)).trans f4
  have f5 := (σ84o 5 (by decide)).trans f5
  have f6 := (σ84o 6 (by decide)).trans f6
  have f7 := (σ84o 7 (by decide)).trans f7
  have f8 := (σ84o 8 (by decide)).trans f8
  have f9 := (σ84o 9 (by decide)).trans f9
  have f10 := (σ84o 10 (by decide)).trans f10
  have f11 := (σ84o 11 (by decide)).trans f11
  have f12 := (σ84o 12 (by decide)).trans f12
  have f13 := (σ84o 13 (by decide)).trans f13
  have f14 := (σ84o 14 (by decide)).trans f14
  have f15 := (σ84o 15 (by decide)).trans f15
  have f16 := (σ84o 16 (by decide)).trans f16
  have f17 := (σ84o 17 (by decide)).trans f17
  have f18 := (σ84o 18 (by decide)).trans f18
  have f19 := (σ84o 19 (by decide)).trans f19
  have f20 := (σ84o 20 (by decide)).trans f20
  have f21 := (σ84o 21 (by decide)).trans f21
  have f22 := (σ84o 22 (by decide)).trans f22
  have f23 := (σ84o 23 (by decide)).trans f23
  have f24 := (σ84o 24 (by decide)).trans f24
  have f25 := (σ84o 25 (by decide)).trans f25
  have f26 := (σ84o 26 (by decide)).trans f26
  have f27 := (σ84o 27 (by decide)).trans f27
  have f28 := (σ84o 28 (by decide)).trans f28
  have f29 := (σ84o 29 (by decide)).trans f29
  have f30 := (σ84o 30 (by decide)).trans f30
  have f31 := (σ84o 31 (by decide)).trans f31
  have f32 := (σ84o 32 (by decide)).trans f32
  have f33 := σ84j
  have h_q1 := (h83o _ (by omega)).trans h_q1
  have h_q9 := (h83o _ (by omega)).trans h_q9
  have h_q13 := (h83o _ (by omega)).trans h_q13
  have h_q17 := (h83o _ (by omega)).trans h_q17
  have h_q21 := (h83o _ (by omega)).trans h_q21
  have h_q25 := (h83o _ (by omega)).trans h_q25
  have h_q29 := (h83o _ (by omega)).trans h_q29
  have h_q33 := (h83o _ (by omega)).trans h_q33
  have h_q37 := (h83o _ (by omega)).trans h_q37
  have h_q41 := (h83o _ (by omega)).trans h_q41
  have h_q45 := (h83o _ (by omega)).trans h_q45
  have h_q49 := (h83o _ (by omega)).trans h_q49
  have h_q53 := (h83o _ (by omega)).trans h_q53
  have h_q57 := (h83o _ (by omega)).trans h_q57
  have h_q61 := (h83o _ (by omega)).trans h_q61
  have h_q73 := (h83o _ (by omega)).trans h_q73
  have h_q77 := (h83o _ (by omega)).trans h_q77
  have h_q81 := (h83o _ (by omega)).trans h_q81
  have hq := h83a
  have fx := fx.step (by simp) h83o
  exact ev_return d_Mo_init_192 rfl (by decide) (by decide) (⟨rfl, σ84, q1, q9, q13, q17, q21, q25, q29, q33, q37, q41, q45, q49, q53, q57, q61, q73, q77, q81, lo_q1, o_q9, o_q13, o_q17, o_q21, o_q25, o_q29, o_q33, o_q37, o_q41, o_q45, o_q49, o_q53, o_q57, o_q61, o_q73, o_q77, o_q81, hq, f0, f1, f2, f3, f4, f5, f6, f7, f8, f9, f10, f11, f12, f13, f14, f15, f16, f17, f18, f19, f20, f21, f22, f23, f24, f25, f26, f27, f28, f29, f30, f31, f32, f33, h_q1, h_q9, h_q13, h_q17, h_q21, h_q25, h_q29, h_q33, h_q37, h_q41, h_q45, h_q49, h_q53, h_q57, h_q61, h_q73, h_q77, h_q81, fx⟩)
