theorem d_Mo_read_0 : decode M_Mo_read.2.1 0 = .ok (.iload_n 1, 1) := by decide +kernel
theorem d_Mo_read_1 : decode M_Mo_read.2.1 1 = .ok (.ifCond .lt 8, 3) := by decide +kernel
theorem d_Mo_read_4 : decode M_Mo_read.2.1 4 = .ok (.iload_n 1, 1) := by decide +kernel
theorem d_Mo_read_5 : decode M_Mo_read.2.1 5 = .ok (.iconst 2, 1) := by decide +kernel
theorem d_Mo_read_6 : decode M_Mo_read.2.1 6 = .ok (.if_icmp .le 6, 3) := by decide +kernel
theorem d_Mo_read_9 : decode M_Mo_read.2.1 9 = .ok (.bipush (-2), 2) := by decide +kernel
theorem d_Mo_read_11 : decode M_Mo_read.2.1 11 = .ok (.ireturn, 1) := by decide +kernel
theorem d_Mo_read_12 : decode M_Mo_read.2.1 12 = .ok (.aload_n 0, 1) := by decide +kernel
theorem d_Mo_read_13 : decode M_Mo_read.2.1 13 = .ok (.iconst 0, 1) := by decide +kernel
theorem d_Mo_read_14 : decode M_Mo_read.2.1 14 = .ok (.putfield 110, 3) := by decide +kernel
theorem d_Mo_read_17 : decode M_Mo_read.2.1 17 = .ok (.aload_n 0, 1) := by decide +kernel
theorem d_Mo_read_18 : decode M_Mo_read.2.1 18 = .ok (.iconst (-1), 1) := by decide +kernel
theorem d_Mo_read_19 : decode M_Mo_read.2.1 19 = .ok (.putfield 107, 3) := by decide +kernel
theorem d_Mo_read_22 : decode M_Mo_read.2.1 22 = .ok (.aload_n 0, 1) := by decide +kernel
theorem d_Mo_read_23 : decode M_Mo_read.2.1 23 = .ok (.iconst 0, 1) := by decide +kernel
theorem d_Mo_read_24 : decode M_Mo_read.2.1 24 = .ok (.putfield 140, 3) := by decide +kernel
theorem d_Mo_read_27 : decode M_Mo_read.2.1 27 = .ok (.aload_n 0, 1) := by decide +kernel
theorem d_Mo_read_28 : decode M_Mo_read.2.1 28 = .ok (.getfield 110, 3) := by decide +kernel
theorem d_Mo_read_31 : decode M_Mo_read.2.1 31 = .ok (.aload_n 0, 1) := by decide +kernel
theorem d_Mo_read_32 : decode M_Mo_read.2.1 32 = .ok (.getfield 95, 3) := by decide +kernel
theorem d_Mo_read_35 : decode M_Mo_read.2.1 35 = .ok (.if_icmp .ge 18, 3) := by decide +kernel
theorem d_Mo_read_38 : decode M_Mo_read.2.1 38 = .ok (.aload_n 0, 1) := by decide +kernel
theorem d_Mo_read_39 : decode M_Mo_read.2.1 39 = .ok (.getfield 107, 3) := by decide +kernel
theorem d_Mo_read_42 : decode M_Mo_read.2.1 42 = .ok (.ifCond .ge 11, 3) := by decide +kernel
theorem d_Mo_read_45 : decode M_Mo_read.2.1 45 = .ok (.aload_n 0, 1) := by decide +kernel
theorem d_Mo_read_46 : decode M_Mo_read.2.1 46 = .ok (.iload_n 1, 1) := by decide +kernel
theorem d_Mo_read_47 : decode M_Mo_read.2.1 47 = .ok (.invokevirtual 173, 3) := by decide +kernel
theorem d_Mo_read_50 : decode M_Mo_read.2.1 50 = .ok (.goto (-23), 3) := by decide +kernel
theorem d_Mo_read_53 : decode M_Mo_read.2.1 53 = .ok (.aload_n 0, 1) := by decide +kernel
theorem d_Mo_read_54 : decode M_Mo_read.2.1 54 = .ok (.getfield 107, 3) := by decide +kernel
theorem d_Mo_read_57 : decode M_Mo_read.2.1 57 = .ok (.ifCond .lt 11, 3) := by decide +kernel
theorem d_Mo_read_60 : decode M_Mo_read.2.1 60 = .ok (.bipush (-10), 2) := by decide +kernel
theorem d_Mo_read_62 : decode M_Mo_read.2.1 62 = .ok (.aload_n 0, 1) := by decide +kernel
theorem d_Mo_read_63 : decode M_Mo_read.2.1 63 = .ok (.getfield 107, 3) := by decide +kernel
theorem d_Mo_read_66 : decode M_Mo_read.2.1 66 = .ok (.isub, 1) := by decide +kernel
theorem d_Mo_read_67 : decode M_Mo_read.2.1 67 = .ok (.ireturn, 1) := by decide +kernel
theorem d_Mo_read_68 : decode M_Mo_read.2.1 68 = .ok (.aload_n 0, 1) := by decide +kernel
theorem d_Mo_read_69 : decode M_Mo_read.2.1 69 = .ok (.invokevirtual 176, 3) := by decide +kernel
theorem d_Mo_read_72 : decode M_Mo_read.2.1 72 = .ok (.aload_n 0, 1) := by decide +kernel
theorem d_Mo_read_73 : decode M_Mo_read.2.1 73 = .ok (.aload_n 0, 1) := by decide +kernel
theorem d_Mo_read_74 : decode M_Mo_read.2.1 74 = .ok (.getfield 140, 3) := by decide +kernel
theorem d_Mo_read_77 : decode M_Mo_read.2.1 77 = .ok (.putfield 92, 3) := by decide +kernel
theorem d_Mo_read_80 : decode M_Mo_read.2.1 80 = .ok (.iconst 0, 1) := by decide +kernel
theorem d_Mo_read_81 : decode M_Mo_read.2.1 81 = .ok (.istore_n 2, 1) := by decide +kernel
theorem d_Mo_read_82 : decode M_Mo_read.2.1 82 = .ok (.iload_n 2, 1) := by decide +kernel
theorem d_Mo_read_83 : decode M_Mo_read.2.1 83 = .ok (.aload_n 0, 1) := by decide +kernel
theorem d_Mo_read_84 : decode M_Mo_read.2.1 84 = .ok (.getfield 92, 3) := by decide +kernel
theorem d_Mo_read_87 : decode M_Mo_read.2.1 87 = .ok (.if_icmp .ge 85, 3) := by decide +kernel
theorem d_Mo_read_90 : decode M_Mo_read.2.1 90 = .ok (.aload_n 0, 1) := by decide +kernel
theorem d_Mo_read_91 : decode M_Mo_read.2.1 91 = .ok (.getfield 20, 3) := by decide +kernel
theorem d_Mo_read_94 : decode M_Mo_read.2.1 94 = .ok (.iload_n 2, 1) := by decide +kernel
theorem d_Mo_read_95 : decode M_Mo_read.2.1 95 = .ok (.aload_n 0, 1) := by decide +kernel
theorem d_Mo_read_96 : decode M_Mo_read.2.1 96 = .ok (.getfield 48, 3) := by decide +kernel
theorem d_Mo_read_99 : decode M_Mo_read.2.1 99 = .ok (.iload_n 2, 1) := by decide +kernel
theorem d_Mo_read_100 : decode M_Mo_read.2.1 100 = .ok (.laload, 1) := by decide +kernel
theorem d_Mo_read_101 : decode M_Mo_read.2.1 101 = .ok (.lastore, 1) := by decide +kernel
theorem d_Mo_read_102 : decode M_Mo_read.2.1 102 = .ok (.aload_n 0, 1) := by decide +kernel
theorem d_Mo_read_103 : decode M_Mo_read.2.1 103 = .ok (.getfield 24, 3) := by decide +kernel
theorem d_Mo_read_106 : decode M_Mo_read.2.1 106 = .ok (.iload_n 2, 1) := by decide +kernel
theorem d_Mo_read_107 : decode M_Mo_read.2.1 107 = .ok (.aload_n 0, 1) := by decide +kernel
theorem d_Mo_read_108 : decode M_Mo_read.2.1 108 = .ok (.getfield 51, 3) := by decide +kernel
theorem d_Mo_read_111 : decode M_Mo_read.2.1 111 = .ok (.iload_n 2, 1) := by decide +kernel
theorem d_Mo_read_112 : decode M_Mo_read.2.1 112 = .ok (.laload, 1) := by decide +kernel
theorem d_Mo_read_113 : decode M_Mo_read.2.1 113 = .ok (.lastore, 1) := by decide +kernel
theorem d_Mo_read_114 : decode M_Mo_read.2.1 114 = .ok (.aload_n 0, 1) := by decide +kernel
theorem d_Mo_read_115 : decode M_Mo_read.2.1 115 = .ok (.getfield 27, 3) := by decide +kernel
theorem d_Mo_read_118 : decode M_Mo_read.2.1 118 = .ok (.iload_n 2, 1) := by decide +kernel
theorem d_Mo_read_119 : decode M_Mo_read.2.1 119 = .ok (.aload_n 0, 1) := by decide +kernel
theorem d_Mo_read_120 : decode M_Mo_read.2.1 120 = .ok (.getfield 54, 3) := by decide +kernel
theorem d_Mo_read_123 : decode M_Mo_read.2.1 123 = .ok (.iload_n 2, 1) := by decide +kernel
theorem d_Mo_read_124 : decode M_Mo_read.2.1 124 = .ok (.iaload, 1) := by decide +kernel
theorem d_Mo_read_125 : decode M_Mo_read.2.1 125 = .ok (.iastore, 1) := by decide +kernel
theorem d_Mo_read_126 : decode M_Mo_read.2.1 126 = .ok (.iconst 0, 1) := by decide +kernel
theorem d_Mo_read_127 : decode M_Mo_read.2.1 127 = .ok (.istore_n 3, 1) := by decide +kernel
theorem d_Mo_read_128 : decode M_Mo_read.2.1 128 = .ok (.iload_n 3, 1) := by decide +kernel
theorem d_Mo_read_129 : decode M_Mo_read.2.1 129 = .ok (.aload_n 0, 1) := by decide +kernel
theorem d_Mo_read_130 : decode M_Mo_read.2.1 130 = .ok (.getfield 27, 3) := by decide +kernel
theorem d_Mo_read_133 : decode M_Mo_read.2.1 133 = .ok (.iload_n 2, 1) := by decide +kernel
theorem d_Mo_read_134 : decode M_Mo_read.2.1 134 = .ok (.iaload, 1) := by decide +kernel
theorem d_Mo_read_135 : decode M_Mo_read.2.1 135 = .ok (.if_icmp .ge 31, 3) := by decide +kernel
theorem d_Mo_read_138 : decode M_Mo_read.2.1 138 = .ok (.aload_n 0, 1) := by decide +kernel
theorem d_Mo_read_139 : decode M_Mo_read.2.1 139 = .ok (.getfield 30, 3) := by decide +kernel
theorem d_Mo_read_142 : decode M_Mo_read.2.1 142 = .ok (.bipush 64, 2) := by decide +kernel
theorem d_Mo_read_144 : decode M_Mo_read.2.1 144 = .ok (.iload_n 2, 1) := by decide +kernel
theorem d_Mo_read_145 : decode M_Mo_read.2.1 145 = .ok (.imul, 1) := by decide +kernel
theorem d_Mo_read_146 : decode M_Mo_read.2.1 146 = .ok (.iload_n 3, 1) := by decide +kernel
theorem d_Mo_read_147 : decode M_Mo_read.2.1 147 = .ok (.iadd, 1) := by decide +kernel
theorem d_Mo_read_148 : decode M_Mo_read.2.1 148 = .ok (.aload_n 0, 1) := by decide +kernel
theorem d_Mo_read_149 : decode M_Mo_read.2.1 149 = .ok (.getfield 57, 3) := by decide +kernel
theorem d_Mo_read_152 : decode M_Mo_read.2.1 152 = .ok (.bipush 64, 2) := by decide +kernel
theorem d_Mo_read_154 : decode M_Mo_read.2.1 154 = .ok (.iload_n 2, 1) := by decide +kernel
theorem d_Mo_read_155 : decode M_Mo_read.2.1 155 = .ok (.imul, 1) := by decide +kernel
theorem d_Mo_read_156 : decode M_Mo_read.2.1 156 = .ok (.iload_n 3, 1) := by decide +kernel
theorem d_Mo_read_157 : decode M_Mo_read.2.1 157 = .ok (.iadd, 1) := by decide +kernel
theorem d_Mo_read_158 : decode M_Mo_read.2.1 158 = .ok (.iaload, 1) := by decide +kernel
theorem d_Mo_read_159 : decode M_Mo_read.2.1 159 = .ok (.iastore, 1) := by decide +kernel
theorem d_Mo_read_160 : decode M_Mo_read.2.1 160 = .ok (.iinc 3 1, 3) := by decide +kernel
theorem d_Mo_read_163 : decode M_Mo_read.2.1 163 = .ok (.goto (-35), 3) := by decide +kernel
theorem d_Mo_read_166 : decode M_Mo_read.2.1 166 = .ok (.iinc 2 1, 3) := by decide +kernel
theorem d_Mo_read_169 : decode M_Mo_read.2.1 169 = .ok (.goto (-87), 3) := by decide +kernel
theorem d_Mo_read_172 : decode M_Mo_read.2.1 172 = .ok (.aload_n 0, 1) := by decide +kernel
theorem d_Mo_read_173 : decode M_Mo_read.2.1 173 = .ok (.getfield 92, 3) := by decide +kernel
theorem d_Mo_read_176 : decode M_Mo_read.2.1 176 = .ok (.ireturn, 1) := by decide +kernel
set_option maxHeartbeats 4000000 in
set_option maxRecDepth 100000 in
theorem lp_Mo_rd1 (G : GT) (Q : Option Value → HM → Prop) (h0 : HM) (f : Int) (i z : Nat) (hi : i < 16) (hz : z ≤ 64) (σ : Nat → Value) (m s3 s4 e4 : Nat) (Z3 N4 W : Nat → Int) (f7 : σ 7 = .ref s3) (f8 : σ 8 = .ref s4) (f22 : σ 22 = .ref e4) (n_4 : s4 ≠ e4) (hZ3 : Z3 i = (z : Int)) (kk : ∀ h (j : Nat), j = z → h m = some (.inr (11, fsN 34 σ)) → h s3 = some (.inl (G_i G, 16, .inl (iA Z3))) → h s4 = some (.inl (G_i G, 1024, .inl (iA (va_cpy N4 W (64 * i) (64 * i) j)))) → h e4 = some (.inl (G_i G, 1024, .inl (iA N4))) → Fm [s4] h0 h → Ev G M_Mo_read (rm 4 130) Q 166 [(0, .ref m), (1, .int (iZ f)), (2, .int (iZ (i : Int))), (3, .int (iZ (j : Int)))] [] h 0 0) : ∀ (d : Nat) (j : Nat) (h : HM), j + d = z → h m = some (.inr (11, fsN 34 σ)) → h s3 = some (.inl (G_i G, 16, .inl (iA Z3))) → h s4 = some (.inl (G_i G, 1024, .inl (iA (va_cpy N4 W (64 * i) (64 * i) j)))) → h e4 = some (.inl (G_i G, 1024, .inl (iA N4))) → Fm [s4] h0 h → Ev G M_Mo_read (rm 4 130) (Q) 128 [(0, .ref m), (1, .int (iZ f)), (2, .int (iZ (i : Int))), (3, .int (iZ (j : Int)))] [] h 0 0 := by
  intro d
  induction d using Nat.strongRecOn with
  | ind d ih =>
  intro j h hd hm hs3 hs4 he4 fm
  refine ev_iload_n d_Mo_read_128 rfl rfl ?_
  refine ev_aload_n d_Mo_read_129 rfl rfl ?_
  refine ev_getF d_Mo_read_130 fl_Mo_27 hm (by decide) f7 ?_
  refine ev_iload_n d_Mo_read_133 rfl rfl ?_
  refine ez_iaload i d_Mo_read_134 hs3 (by omega) (by omega) (by decide) ?_
  refine ez_icmp_ge (tgt := 166) (by omega) (by omega) d_Mo_read_135 rfl (fun c135 => ?_) (fun c135 => ?_)
  · exact kk h j (by omega) hm hs3 hs4 he4 fm
  · refine ev_aload_n d_Mo_read_138 rfl rfl ?_
    refine ev_getF d_Mo_read_139 fl_Mo_30 hm (by decide) f8 ?_
    refine ev_bipush (v := iZ 64) d_Mo_read_142 rfl ?_
    refine ev_iload_n d_Mo_read_144 rfl rfl ?_
    refine ez_imul d_Mo_read_145 ?_
    refine ev_iload_n d_Mo_read_146 rfl rfl ?_
    refine ez_iadd d_Mo_read_147 ?_
    refine ev_aload_n d_Mo_read_148 rfl rfl ?_
    refine ev_getF d_Mo_read_149 fl_Mo_57 hm (by decide) f22 ?_
    refine ev_bipush (v := iZ 64) d_Mo_read_152 rfl ?_
    refine ev_iload_n d_Mo_read_154 rfl rfl ?_
    refine ez_imul d_Mo_read_155 ?_
    refine ev_iload_n d_Mo_read_156 rfl rfl ?_
    refine ez_iadd d_Mo_read_157 ?_
    refine ez_iaload ((64 * i) + j) d_Mo_read_158 he4 (by omega) (by omega) (by decide) ?_
    refine ez_iastore (F' := zup (va_cpy N4 W (64 * i) (64 * i) j) ((64 * i) + j) (N4 ((64 * i) + j))) ((64 * i) + j) d_Mo_read_159 hs4 (by omega) (by omega) (by decide) rfl (fun h1 h1a h1o => ?_)
    have hm := (h1o _ (cne hm hs4 (by simp))).trans hm
    have hs3 := (h1o _ (cne hs3 hs4 (by simp))).trans hs3
    have he4 := (h1o _ (Ne.symm n_4)).trans he4
    have hs4 := h1a
    have fm := fm.step (by simp) h1o
    refine ez_iinc (L' := [(0, .ref m), (1, .int (iZ f)), (2, .int (iZ (i : Int))), (3, .int (iZ ((j + 1 : Nat) : Int)))]) d_Mo_read_160 rfl (by decide) rfl ?_
    refine ev_goto (tgt := 128) d_Mo_read_163 rfl ?_
    exact ih (d - 1) (by omega) (j + 1) h1 (by omega) hm hs3 (by rw [← cpy_up]; exact hs4) he4 fm
set_option maxHeartbeats 4000000 in
set_option maxRecDepth 100000 in
theorem lp_Mo_rd2 (G : GT) (Q : Option Value → HM → Prop) (h0 : HM) (f : Int) (nc : Nat) (hnc : nc ≤ 16) (σ : Nat → Value) (m s1 s2 s3 s4 e1 e2 e3 e4 : Nat) (S1 S2 S3 S4 N1 N2 N3 N4 : Nat → Int) (f4 : σ 4 = .int (iZ (nc : Int))) (f5 : σ 5 = .ref s1) (f6 : σ 6 = .ref s2) (f7 : σ 7 = .ref s3) (f8 : σ 8 = .ref s4) (f19 : σ 19 = .ref e1) (f20 : σ 20 = .ref e2) (f21 : σ 21 = .ref e3) (f22 : σ 22 = .ref e4) (n_s : s1 ≠ s2) (n_e : e1 ≠ e2) (n_11 : s1 ≠ e1) (n_12 : s1 ≠ e2) (n_21 : s2 ≠ e1) (n_22 : s2 ≠ e2) (n_3 : s3 ≠ e3) (n_4 : s4 ≠ e4) (hN3 : ∀ k, k < nc → 0 ≤ N3 k ∧ N3 k ≤ 64) (kk : ∀ h (i : Nat), i = nc → h m = some (.inr (11, fsN 34 σ)) → h s1 = some (.inl (G_j G, 16, .inr (.inl (lA (va_cpy N1 S1 0 0 i))))) → h s2 = some (.inl (G_j G, 16, .inr (.inl (lA (va_cpy N2 S2 0 0 i))))) → h s3 = some (.inl (G_i G, 16, .inl (iA (va_cpy N3 S3 0 0 i)))) → h s4 = some (.inl (G_i G, 1024, .inl (iA (WN N3 N4 S4 i)))) → h e1 = some (.inl (G_j G, 16, .inr (.inl (lA N1)))) → h e2 = some (.inl (G_j G, 16, .inr (.inl (lA N2)))) → h e3 = some (.inl (G_i G, 16, .inl (iA N3))) → h e4 = some (.inl (G_i G, 1024, .inl (iA N4))) → Fm [s1, s2, s3, s4] h0 h → Ev G M_Mo_read (rm 4 130) Q 172 [(0, .ref m), (1, .int (iZ f)), (2, .int (iZ (i : Int)))] [] h 0 0) : ∀ (d : Nat) (i : Nat) (h : HM), i + d = nc → h m = some (.inr (11, fsN 34 σ)) → h s1 = some (.inl (G_j G, 16, .inr (.inl (lA (va_cpy N1 S1 0 0 i))))) → h s2 = some (.inl (G_j G, 16, .inr (.inl (lA (va_cpy N2 S2 0 0 i))))) → h s3 = some (.inl (G_i G, 16, .inl (iA (va_cpy N3 S3 0 0 i)))) → h s4 = some (.inl (G_i G, 1024, .inl (iA (WN N3 N4 S4 i)))) → h e1 = some (.inl (G_j G, 16, .inr (.inl (lA N1)))) → h e2 = some (.inl (G_j G, 16, .inr (.inl (lA N2)))) → h e3 = some (.inl (G_i G, 16, .inl (iA N3))) → h e4 = some (.inl (G_i G, 1024, .inl (iA N4))) → Fm [s1, s2, s3, s4] h0 h → Ev G M_Mo_read (rm 4 130) (Q) 82 [(0, .ref m), (1, .int (iZ f)), (2, .int (iZ (i : Int)))] [] h 0 0 := by
  intro d
  induction d using Nat.strongRecOn with
  | ind d ih =>
  intro i h hd hm hs1 hs2 hs3 hs4 he1 he2 he3 he4 fm
  refine ev_iload_n d_Mo_read_82 rfl rfl ?_
  refine ev_aload_n d_Mo_read_83 rfl rfl ?_
  refine ev_getF d_Mo_read_84 fl_Mo_92 hm (by decide) f4 ?_
  refine ez_icmp_ge (tgt := 172) (by omega) (by omega) d_Mo_read_87 rfl (fun c87 => ?_) (fun c87 => ?_)
  · exact kk h i (by omega) hm hs1 hs2 hs3 hs4 he1 he2 he3 he4 fm
  · refine ev_aload_n d_Mo_read_90 rfl rfl ?_
    refine ev_getF d_Mo_read_91 fl_Mo_20 hm (by decide) f5 ?_
    refine ev_iload_n d_Mo_read_94 rfl rfl ?_
    refine ev_aload_n d_Mo_read_95 rfl rfl ?_
    refine ev_getF d_Mo_read_96 fl_Mo_48 hm (by decide) f19 ?_
    refine ev_iload_n d_Mo_read_99 rfl rfl ?_
    refine ez_laload i d_Mo_read_100 he1 (by omega) (by omega) (by decide) ?_
    refine ez_lastore (F' := zup (va_cpy N1 S1 0 0 i) i (N1 i)) i d_Mo_read_101 hs1 (by omega) (by omega) (by decide) rfl (fun h1 h1a h1o => ?_)
    have hm := (h1o _ (cne hm hs1 (by simp))).trans hm
    have hs2 := (h1o _ (Ne.symm n_s)).trans hs2
    have hs3 := (h1o _ (cne hs3 hs1 (by simp))).trans hs3
    have hs4 := (h1o _ (cne hs4 hs1 (by simp))).trans hs4
    have he1 := (h1o _ (Ne.symm n_11)).trans he1
    have he2 := (h1o _ (Ne.symm n_12)).trans he2
    have he3 := (h1o _ (cne he3 hs1 (by simp))).trans he3
    have he4 := (h1o _ (cne he4 hs1 (by simp))).trans he4
    have hs1 := h1a
    have fm := fm.step (by simp) h1o
    refine ev_aload_n d_Mo_read_102 rfl rfl ?_
    refine ev_getF d_Mo_read_103 fl_Mo_24 hm (by decide) f6 ?_
    refine ev_iload_n d_Mo_read_106 rfl rfl ?_
    refine ev_aload_n d_Mo_read_107 rfl rfl ?_
    refine ev_getF d_Mo_read_108 fl_Mo_51 hm (by decide) f20 ?_
    refine ev_iload_n d_Mo_read_111 rfl rfl ?_
    refine ez_laload i d_Mo_read_112 he2 (by omega) (by omega) (by decide) ?_
    refine ez_lastore (F' := zup (va_cpy N2 S2 0 0 i) i (N2 i)) i d_Mo_read_113 hs2 (by omega) (by omega) (by decide) rfl (fun h2 h2a h2o => ?_)
    have hm := (h2o _ (cne hm hs2 (by simp))).trans hm
    have hs1 := (h2o _ n_s).trans hs1
    have hs3 := (h2o _ (cne hs3 hs2 (by simp))).trans hs3
    have hs4 := (h2o _ (cne hs4 hs2 (by simp))).trans hs4
    have he1 := (h2o _ (Ne.symm n_21)).trans he1
    have he2 := (h2o _ (Ne.symm n_22)).trans he2
    have he3 := (h2o _ (cne he3 hs2 (by simp))).trans he3
    have he4 := (h2o _ (cne he4 hs2 (by simp))).trans he4
    have hs2 := h2a
    have fm := fm.step (by simp) h2o
    refine ev_aload_n d_Mo_read_114 rfl rfl ?_
    refine ev_getF d_Mo_read_115 fl_Mo_27 hm (by decide) f7 ?_
    refine ev_iload_n d_Mo_read_118 rfl rfl ?_
    refine ev_aload_n d_Mo_read_119 rfl rfl ?_
    refine ev_getF d_Mo_read_120 fl_Mo_54 hm (by decide) f21 ?_
    refine ev_iload_n d_Mo_read_123 rfl rfl ?_
    refine ez_iaload i d_Mo_read_124 he3 (by omega) (by omega) (by decide) ?_
    refine ez_iastore (F' := zup (va_cpy N3 S3 0 0 i) i (N3 i)) i d_Mo_read_125 hs3 (by omega) (by omega) (by decide) rfl (fun h3 h3a h3o => ?_)
    have hm := (h3o _ (cne hm hs3 (by simp))).trans hm
    have hs1 := (h3o _ (cne hs1 hs3 (by simp))).trans hs1
    have hs2 := (h3o _ (cne hs2 hs3 (by simp))).trans hs2
    have hs4 := (h3o _ (cne hs4 hs3 (by simp))).trans hs4
    have he1 := (h3o _ (cne he1 hs3 (by simp))).trans he1
    have he2 := (h3o _ (cne he2 hs3 (by simp))).trans he2
    have he3 := (h3o _ (Ne.symm n_3)).trans he3
    have he4 := (h3o _ (cne he4 hs3 (by simp))).trans he4
    have hs3 := h3a
    have fm := fm.step (by simp) h3o
    refine ev_iconst (v := iZ 0) d_Mo_read_126 rfl ?_
    refine ev_istore_n (L' := [(0, .ref m), (1, .int (iZ f)), (2, .int (iZ (i : Int))), (3, .int (iZ 0))]) d_Mo_read_127 rfl (by decide) rfl ?_
    have hi3 := hN3 i (by omega)
    refine lp_Mo_rd1 G _ h3 f i (N3 i).toNat (by omega) (by omega) σ m s3 s4 e4 (zup (va_cpy N3 S3 0 0 i) i (N3 i)) N4 (WN N3 N4 S4 i) f7 f8 f22 n_4 (by rw [zup_s]; omega) ?_ (N3 i).toNat 0 h3 (by omega) hm hs3 (by rw [cpy_z]; exact hs4) he4 Fm.rf
    have jm := hm
    have js1 := hs1
    have js2 := hs2
    have js3 := hs3
    have js4 := hs4
    have je1 := he1
    have je2 := he2
    have je3 := he3
    have je4 := he4
    rintro h9 j rfl hm hs3 hs4 he4 fm2
    have hs1 := (fm2 _ (ninc (cne js1 js4 (by simp)) nin0)).trans js1
    have hs2 := (fm2 _ (ninc (cne js2 js4 (by simp)) nin0)).trans js2
    have he1 := (fm2 _ (ninc (cne je1 js4 (by simp)) nin0)).trans je1
    have he2 := (fm2 _ (ninc (cne je2 js4 (by simp)) nin0)).trans je2
    have he3 := (fm2 _ (ninc (cne je3 js4 (by simp)) nin0)).trans je3
    have fm := fm.call (by simp) fm2
    refine ez_iinc (L' := [(0, .ref m), (1, .int (iZ f)), (2, .int (iZ ((i + 1 : Nat) : Int))), (3, .int (iZ ((N3 i).toNat : Int)))]) d_Mo_read_166 rfl (by decide) rfl ?_
    refine ev_goto (tgt := 82) d_Mo_read_169 rfl ?_
    refine ev_loc [(0, .ref m), (1, .int (iZ f)), (2, .int (iZ ((i + 1 : Nat) : Int)))] (by simp) ?_
    exact ih (d - 1) (by omega) (i + 1) h9 (by omega) hm (by rw [← cpy_00]; exact hs1) (by rw [← cpy_00]; exact hs2) (by rw [← cpy_00]; exact hs3) hs4 he1 he2 he3 he4 fm
set_option maxHeartbeats 4000000 in
set_option maxRecDepth 100000 in
theorem lp_Mo_rd3 (G : GT) (h0 : HM) (σ0 : Nat → Value) (m s1 s2 s3 s4 k0 k1 k2 k3 k4 e1 e2 e3 e4 n c bk n0 : Nat) (S1 S2 S3 S4 K0 K1 K2 K3 K4 F : Nat → Int) (f tk : Int) (hrg : rgs S1 S2 S3 S4) (hc : c ≤ 1000) (hbk : bk ≤ 10) (n_k : k1 ≠ k2) (n_s : s1 ≠ s2) (n_e : e1 ≠ e2) (n_11 : s1 ≠ e1) (n_12 : s1 ≠ e2) (n_21 : s2 ≠ e1) (n_22 : s2 ≠ e2) (n_3 : s3 ≠ e3) (n_4 : s4 ≠ e4) : ∀ (C : List Qe) (N1 N2 N3 N4 : Nat → Int) (h : HM) (σ : Nat → Value), rdL f tk F n0 17 0 [] = (-1, C) → rowL C N1 N2 N3 N4 → cuesR C → h m = some (.inr (11, fsN 34 σ)) → σ 4 = .int (iZ (n : Int)) → σ 5 = .ref s1 → σ 6 = .ref s2 → σ 7 = .ref s3 → σ 8 = .ref s4 → σ 9 = .int (iZ (c : Int)) → σ 10 = .int (iZ (bk : Int)) → σ 11 = .ref k0 → σ 12 = .ref k1 → σ 13 = .ref k2 → σ 14 = .ref k3 → σ 15 = .ref k4 → σ 18 = .int (iZ (C.length : Int)) → σ 19 = .ref e1 → σ 20 = .ref e2 → σ 21 = .ref e3 → σ 22 = .ref e4 → h s1 = some (.inl (G_j G, 16, .inr (.inl (lA S1)))) → h s2 = some (.inl (G_j G, 16, .inr (.inl (lA S2)))) → h s3 = some (.inl (G_i G, 16, .inl (iA S3))) → h s4 = some (.inl (G_i G, 1024, .inl (iA S4))) → h k0 = some (.inl (G_i G, 10, .inl (iA K0))) → h k1 = some (.inl (G_j G, 160, .inr (.inl (lA K1)))) → h k2 = some (.inl (G_j G, 160, .inr (.inl (lA K2)))) → h k3 = some (.inl (G_i G, 160, .inl (iA K3))) → h k4 = some (.inl (G_i G, 10240, .inl (iA K4))) → h e1 = some (.inl (G_j G, 16, .inr (.inl (lA N1)))) → h e2 = some (.inl (G_j G, 16, .inr (.inl (lA N2)))) → h e3 = some (.inl (G_i G, 16, .inl (iA N3))) → h e4 = some (.inl (G_i G, 1024, .inl (iA N4))) → Fm [m, s1, s2, s3, s4, k0, k1, k2, k3, k4, e1, e2, e3, e4] h0 h → Fs [4, 9, 10, 16, 17, 18] σ0 σ → Ev G M_Mo_read (rm 4 130) (fun r h' => ((rdL f tk F n0 17 0 []).1 ≠ -1 → r = some (.int (iZ (-10 - (rdL f tk F n0 17 0 []).1))) ∧ (∃ σ', h' m = some (.inr (11, fsN 34 σ')) ∧ Fs [16, 17, 18] σ0 σ') ∧ (∃ M1 M2 M3 M4 : Nat → Int, h' e1 = some (.inl (G_j G, 16, .inr (.inl (lA M1)))) ∧ h' e2 = some (.inl (G_j G, 16, .inr (.inl (lA M2)))) ∧ h' e3 = some (.inl (G_i G, 16, .inl (iA M3))) ∧ h' e4 = some (.inl (G_i G, 1024, .inl (iA M4)))) ∧ Fm [m, e1, e2, e3, e4] h0 h') ∧ ((rdL f tk F n0 17 0 []).1 = -1 → r = some (.int (iZ ((rdL f tk F n0 17 0 []).2.length : Int))) ∧ (∃ σ', h' m = some (.inr (11, fsN 34 σ')) ∧ σ' 4 = .int (iZ ((rdL f tk F n0 17 0 []).2.length : Int)) ∧ σ' 9 = .int (iZ ((c : Int) + 1)) ∧ σ' 10 = .int (iZ ((min (bk + 1) 10 : Nat) : Int)) ∧ Fs [4, 9, 10, 16, 17, 18] σ0 σ') ∧ (∃ M1 M2 M3 M4 : Nat → Int, h' e1 = some (.inl (G_j G, 16, .inr (.inl (lA M1)))) ∧ h' e2 = some (.inl (G_j G, 16, .inr (.inl (lA M2)))) ∧ h' e3 = some (.inl (G_i G, 16, .inl (iA M3))) ∧ h' e4 = some (.inl (G_i G, 1024, .inl (iA M4)))) ∧ (∃ L1 L2 L3 L4 : Nat → Int, h' s1 = some (.inl (G_j G, 16, .inr (.inl (lA L1)))) ∧ h' s2 = some (.inl (G_j G, 16, .inr (.inl (lA L2)))) ∧ h' s3 = some (.inl (G_i G, 16, .inl (iA L3))) ∧ h' s4 = some (.inl (G_i G, 1024, .inl (iA L4))) ∧ rowL (rdL f tk F n0 17 0 []).2 L1 L2 L3 L4 ∧ rgs L1 L2 L3 L4 ∧ cuesR (rdL f tk F n0 17 0 []).2) ∧ h' k0 = some (.inl (G_i G, 10, .inl (iA (zup K0 (c % 10) n)))) ∧ h' k1 = some (.inl (G_j G, 160, .inr (.inl (lA (va_cpy S1 K1 0 (16 * (c % 10)) 16))))) ∧ h' k2 = some (.inl (G_j G, 160, .inr (.inl (lA (va_cpy S2 K2 0 (16 * (c % 10)) 16))))) ∧ h' k3 = some (.inl (G_i G, 160, .inl (iA (va_cpy S3 K3 0 (16 * (c % 10)) 16)))) ∧ h' k4 = some (.inl (G_i G, 10240, .inl (iA (va_cpy S4 K4 0 (1024 * (c % 10)) 1024)))) ∧ Fm [m, s1, s2, s3, s4, k0, k1, k2, k3, k4, e1, e2, e3, e4] h0 h')) 68 [(0, .ref m), (1, .int (iZ f))] [] h 0 0 := by
  intro C N1 N2 N3 N4 h σ hRD hrl hcr hm f4 f5 f6 f7 f8 f9 f10 f11 f12 f13 f14 f15 f18 f19 f20 f21 f22 hs1 hs2 hs3 hs4 hk0 hk1 hk2 hk3 hk4 he1 he2 he3 he4 fm fs
  refine ev_aload_n d_Mo_read_68 rfl rfl ?_
  refine ev_callV M_Mo_keep (rm 0 0) _ (As := []) (c_Mo_keep G h σ m s1 s2 s3 s4 k0 k1 k2 k3 k4 n c bk S1 S2 S3 S4 K0 K1 K2 K3 K4 hm f4 f5 f6 f7 f8 f9 f10 f11 f12 f13 f14 f15 hs1 hs2 hs3 hs4 hk0 hk1 hk2 hk3 hk4 hc hbk n_s n_k) d_Mo_read_69 mk_Mo_keep ml_Mo_176 mv_Mo_keep hm rfl rfl rfl (Nat.le_of_ble_eq_true rfl) ⟨by decide, by decide⟩ ⟨by decide, by decide⟩ (fun r h8 hq => ?_)
  obtain ⟨rfl, ⟨σ9, gm, g9, g10, gs⟩, gk0, gk1, gk2, gk3, gk4, fmk⟩ := hq
  have hs1 := (fmk _ (ninc (cne hs1 hm (by simp)) (ninc (cne hs1 hk0 (by simp)) (ninc (cne hs1 hk1 (by simp)) (ninc (cne hs1 hk2 (by simp)) (ninc (cne hs1 hk3 (by simp)) (ninc (cne hs1 hk4 (by simp)) nin0))))))).trans hs1
  have hs2 := (fmk _ (ninc (cne hs2 hm (by simp)) (ninc (cne hs2 hk0 (by simp)) (ninc (cne hs2 hk1 (by simp)) (ninc (cne hs2 hk2 (by simp)) (ninc (cne hs2 hk3 (by simp)) (ninc (cne hs2 hk4 (by simp)) nin0))))))).trans hs2
  have hs3 := (fmk _ (ninc (cne hs3 hm (by simp)) (ninc (cne hs3 hk0 (by simp)) (ninc (cne hs3 hk1 (by simp)) (ninc (cne hs3 hk2 (by simp)) (ninc (cne hs3 hk3 (by simp)) (ninc (cne hs3 hk4 (by simp)) nin0))))))).trans hs3
  have hs4 := (fmk _ (ninc (cne hs4 hm (by simp)) (ninc (cne hs4 hk0 (by simp)) (ninc (cne hs4 hk1 (by simp)) (ninc (cne hs4 hk2 (by simp)) (ninc (cne hs4 hk3 (by simp)) (ninc (cne hs4 hk4 (by simp)) nin0))))))).trans hs4
  have he1 := (fmk _ (ninc (cne he1 hm (by simp)) (ninc (cne he1 hk0 (by simp)) (ninc (cne he1 hk1 (by simp)) (ninc (cne he1 hk2 (by simp)) (ninc (cne he1 hk3 (by simp)) (ninc (cne he1 hk4 (by simp)) nin0))))))).trans he1
  have he2 := (fmk _ (ninc (cne he2 hm (by simp)) (ninc (cne he2 hk0 (by simp)) (ninc (cne he2 hk1 (by simp)) (ninc (cne he2 hk2 (by simp)) (ninc (cne he2 hk3 (by simp)) (ninc (cne he2 hk4 (by simp)) nin0))))))).trans he2
  have he3 := (fmk _ (ninc (cne he3 hm (by simp)) (ninc (cne he3 hk0 (by simp)) (ninc (cne he3 hk1 (by simp)) (ninc (cne he3 hk2 (by simp)) (ninc (cne he3 hk3 (by simp)) (ninc (cne he3 hk4 (by simp)) nin0))))))).trans he3
  have he4 := (fmk _ (ninc (cne he4 hm (by simp)) (ninc (cne he4 hk0 (by simp)) (ninc (cne he4 hk1 (by simp)) (ninc (cne he4 hk2 (by simp)) (ninc (cne he4 hk3 (by simp)) (ninc (cne he4 hk4 (by simp)) nin0))))))).trans he4
  have hm := gm
  have hk0 := gk0
  have hk1 := gk1
  have hk2 := gk2
  have hk3 := gk3
  have hk4 := gk4
  have f4 := (gs 4 (by decide)).trans f4
  have f5 := (gs 5 (by decide)).trans f5
  have f6 := (gs 6 (by decide)).trans f6
  have f7 := (gs 7 (by decide)).trans f7
  have f8 := (gs 8 (by decide)).trans f8
  have f11 := (gs 11 (by decide)).trans f11
  have f12 := (gs 12 (by decide)).trans f12
  have f13 := (gs 13 (by decide)).trans f13
  have f14 := (gs 14 (by decide)).trans f14
  have f15 := (gs 15 (by decide)).trans f15
  have f18 := (gs 18 (by decide)).trans f18
  have f19 := (gs 19 (by decide)).trans f19
  have f20 := (gs 20 (by decide)).trans f20
  have f21 := (gs 21 (by decide)).trans f21
  have f22 := (gs 22 (by decide)).trans f22
  have f9 := g9
  have f10 := g10
  have fm := fm.call (by simp) fmk
  have fs := fs.call (by simp) gs
  refine ev_aload_n d_Mo_read_72 rfl rfl ?_
  refine ev_aload_n d_Mo_read_73 rfl rfl ?_
  refine ev_getF d_Mo_read_74 fl_Mo_140 hm (by decide) f18 ?_
  refine ev_putF2 d_Mo_read_77 fw_Mo_92 (Or.inr (fun _ _ _ q => by cases q; rfl)) hm (by decide) rfl rfl (fun h1 σ2 h1a σ2j σ2o h1o => ?_)
  have f5 := (σ2o 5 (by decide)).trans f5
  have f6 := (σ2o 6 (by decide)).trans f6
  have f7 := (σ2o 7 (by decide)).trans f7
  have f8 := (σ2o 8 (by decide)).trans f8
  have f9 := (σ2o 9 (by decide)).trans f9
  have f10 := (σ2o 10 (by decide)).trans f10
  have f11 := (σ2o 11 (by decide)).trans f11
  have f12 := (σ2o 12 (by decide)).trans f12
  have f13 := (σ2o 13 (by decide)).trans f13
  have f14 := (σ2o 14 (by decide)).trans f14
  have f15 := (σ2o 15 (by decide)).trans f15
  have f18 := (σ2o 18 (by decide)).trans f18
  have f19 := (σ2o 19 (by decide)).trans f19
  have f20 := (σ2o 20 (by decide)).trans f20
  have f21 := (σ2o 21 (by decide)).trans f21
  have f22 := (σ2o 22 (by decide)).trans f22
  have f4 := σ2j
  have fs := fs.step (by simp) σ2o
  have hs1 := (h1o _ (cne hs1 hm (by simp))).trans hs1
  have hs2 := (h1o _ (cne hs2 hm (by simp))).trans hs2
  have hs3 := (h1o _ (cne hs3 hm (by simp))).trans hs3
  have hs4 := (h1o _ (cne hs4 hm (by simp))).trans hs4
  have hk0 := (h1o _ (cne hk0 hm (by simp))).trans hk0
  have hk1 := (h1o _ (cne hk1 hm (by simp))).trans hk1
  have hk2 := (h1o _ (cne hk2 hm (by simp))).trans hk2
  have hk3 := (h1o _ (cne hk3 hm (by simp))).trans hk3
  have hk4 := (h1o _ (cne hk4 hm (by simp))).trans hk4
  have he1 := (h1o _ (cne he1 hm (by simp))).trans he1
  have he2 := (h1o _ (cne he2 hm (by simp))).trans he2
  have he3 := (h1o _ (cne he3 hm (by simp))).trans he3
  have he4 := (h1o _ (cne he4 hm (by simp))).trans he4
  have hm := h1a
  have fm := fm.step (by simp) h1o
  refine ev_iconst (v := iZ 0) d_Mo_read_80 rfl ?_
  refine ev_istore_n (L' := [(0, .ref m), (1, .int (iZ f)), (2, .int (iZ 0))]) d_Mo_read_81 rfl (by decide) rfl ?_
  refine lp_Mo_rd2 G _ h1 f C.length hcr.1 σ2 m s1 s2 s3 s4 e1 e2 e3 e4 S1 S2 S3 S4 N1 N2 N3 N4 f4 f5 f6 f7 f8 f19 f20 f21 f22 n_s n_e n_11 n_12 n_21 n_22 n_3 n_4 (fun k hk => by obtain ⟨R, _, _, _, _, e3_, e4_, _⟩ := rowL_in hrl hk; omega) ?_ C.length 0 h1 (by omega) hm (by rw [cpy_z]; exact hs1) (by rw [cpy_z]; exact hs2) (by rw [cpy_z]; exact hs3) hs4 he1 he2 he3 he4 Fm.rf
  have jm := hm
  have js1 := hs1
  have js2 := hs2
  have js3 := hs3
  have js4 := hs4
  have jk0 := hk0
  have jk1 := hk1
  have jk2 := hk2
  have jk3 := hk3
  have jk4 := hk4
  have je1 := he1
  have je2 := he2
  have je3 := he3
  have je4 := he4
  rintro h10 z rfl hm hs1 hs2 hs3 hs4 he1 he2 he3 he4 fm2
  have hk0 := (fm2 _ (ninc (cne jk0 js1 (by simp)) (ninc (cne jk0 js2 (by simp)) (ninc (cne jk0 js3 (by simp)) (ninc (cne jk0 js4 (by simp)) nin0))))).trans jk0
  have hk1 := (fm2 _ (ninc (cne jk1 js1 (by simp)) (ninc (cne jk1 js2 (by simp)) (ninc (cne jk1 js3 (by simp)) (ninc (cne jk1 js4 (by simp)) nin0))))).trans jk1
  have hk2 := (fm2 _ (ninc (cne jk2 js1 (by simp)) (ninc (cne jk2 js2 (by simp)) (ninc (cne jk2 js3 (by simp)) (ninc (cne jk2 js4 (by simp)) nin0))))).trans jk2
  have hk3 := (fm2 _ (ninc (cne jk3 js1 (by simp)) (ninc (cne jk3 js2 (by simp)) (ninc (cne jk3 js3 (by simp)) (ninc (cne jk3 js4 (by simp)) nin0))))).trans jk3
  have hk4 := (fm2 _ (ninc (cne jk4 js1 (by simp)) (ninc (cne jk4 js2 (by simp)) (ninc (cne jk4 js3 (by simp)) (ninc (cne jk4 js4 (by simp)) nin0))))).trans jk4
  have fm := fm.call (by simp) fm2
  refine ev_aload_n d_Mo_read_172 rfl rfl ?_
  refine ev_getF d_Mo_read_173 fl_Mo_92 hm (by decide) f4 ?_
  exact ev_ireturn d_Mo_read_176 rfl (by decide) (by decide) (⟨fun q => absurd (by rw [hRD]) q, fun _ => by rw [hRD]; exact ⟨rfl, ⟨σ2, hm, f4, f9, f10, fs⟩, ⟨_, _, _, _, he1, he2, he3, he4⟩, ⟨_, _, _, _, hs1, hs2, hs3, hs4, rowL_WN hrl, rgs_WN hrl hcr hrg, hcr⟩, hk0, hk1, hk2, hk3, hk4, fm⟩⟩)
set_option maxHeartbeats 4000000 in
set_option maxRecDepth 100000 in
theorem lp_Mo_rd4 (G : GT) (h0 : HM) (σ0 : Nat → Value) (m bu s1 s2 s3 s4 k0 k1 k2 k3 k4 e1 e2 e3 e4 n c bk n0 : Nat) (S1 S2 S3 S4 K0 K1 K2 K3 K4 F : Nat → Int) (f tk : Int) (hrg : rgs S1 S2 S3 S4) (hc : c ≤ 1000) (hbk : bk ≤ 10) (n_k : k1 ≠ k2) (n_s : s1 ≠ s2) (n_e : e1 ≠ e2) (n_11 : s1 ≠ e1) (n_12 : s1 ≠ e2) (n_21 : s2 ≠ e1) (n_22 : s2 ≠ e2) (n_3 : s3 ≠ e3) (n_4 : s4 ≠ e4) (num den : Int) (hn0 : n0 ≤ 1000) (hF : ∀ k, 0 ≤ F k ∧ F k ≤ 255) (hnum : 1 ≤ num ∧ num ≤ 120000) (hden : 1 ≤ den ∧ den ≤ 1001) (htk : tk = 705600000 * den / num) (htk2 : 0 ≤ tk ∧ tk ≤ 705600000) (hfr : f = 0 ∨ f = 1 ∨ f = 2) : ∀ (d : Nat) (p : Nat) (C : List Qe) (N1 N2 N3 N4 : Nat → Int) (h : HM) (σ : Nat → Value), rdL f tk F n0 17 0 [] = rdL f tk F n0 d p C → C.length + d = 17 → p ≤ n0 → rowL C N1 N2 N3 N4 → cuesR C → h m = some (.inr (11, fsN 34 σ)) → σ 0 = .int (iZ (n0 : Int)) → σ 1 = .ref bu → σ 2 = .int (iZ num) → σ 3 = .int (iZ den) → σ 4 = .int (iZ (n : Int)) → σ 5 = .ref s1 → σ 6 = .ref s2 → σ 7 = .ref s3 → σ 8 = .ref s4 → σ 9 = .int (iZ (c : Int)) → σ 10 = .int (iZ (bk : Int)) → σ 11 = .ref k0 → σ 12 = .ref k1 → σ 13 = .ref k2 → σ 14 = .ref k3 → σ 15 = .ref k4 → σ 16 = .int (iZ (p : Int)) → σ 17 = .int (iZ (-1)) → σ 18 = .int (iZ (C.length : Int)) → σ 19 = .ref e1 → σ 20 = .ref e2 → σ 21 = .ref e3 → σ 22 = .ref e4 → h s1 = some (.inl (G_j G, 16, .inr (.inl (lA S1)))) → h s2 = some (.inl (G_j G, 16, .inr (.inl (lA S2)))) → h s3 = some (.inl (G_i G, 16, .inl (iA S3))) → h s4 = some (.inl (G_i G, 1024, .inl (iA S4))) → h k0 = some (.inl (G_i G, 10, .inl (iA K0))) → h k1 = some (.inl (G_j G, 160, .inr (.inl (lA K1)))) → h k2 = some (.inl (G_j G, 160, .inr (.inl (lA K2)))) → h k3 = some (.inl (G_i G, 160, .inl (iA K3))) → h k4 = some (.inl (G_i G, 10240, .inl (iA K4))) → h bu = some (.inl (G_i G, 1000, .inl (iA F))) → h e1 = some (.inl (G_j G, 16, .inr (.inl (lA N1)))) → h e2 = some (.inl (G_j G, 16, .inr (.inl (lA N2)))) → h e3 = some (.inl (G_i G, 16, .inl (iA N3))) → h e4 = some (.inl (G_i G, 1024, .inl (iA N4))) → Fm [m, e1, e2, e3, e4] h0 h → Fs [16, 17, 18] σ0 σ → Ev G M_Mo_read (rm 4 130) (fun r h' => ((rdL f tk F n0 17 0 []).1 ≠ -1 → r = some (.int (iZ (-10 - (rdL f tk F n0 17 0 []).1))) ∧ (∃ σ', h' m = some (.inr (11, fsN 34 σ')) ∧ Fs [16, 17, 18] σ0 σ') ∧ (∃ M1 M2 M3 M4 : Nat → Int, h' e1 = some (.inl (G_j G, 16, .inr (.inl (lA M1)))) ∧ h' e2 = some (.inl (G_j G, 16, .inr (.inl (lA M2)))) ∧ h' e3 = some (.inl (G_i G, 16, .inl (iA M3))) ∧ h' e4 = some (.inl (G_i G, 1024, .inl (iA M4)))) ∧ Fm [m, e1, e2, e3, e4] h0 h') ∧ ((rdL f tk F n0 17 0 []).1 = -1 → r = some (.int (iZ ((rdL f tk F n0 17 0 []).2.length : Int))) ∧ (∃ σ', h' m = some (.inr (11, fsN 34 σ')) ∧ σ' 4 = .int (iZ ((rdL f tk F n0 17 0 []).2.length : Int)) ∧ σ' 9 = .int (iZ ((c : Int) + 1)) ∧ σ' 10 = .int (iZ ((min (bk + 1) 10 : Nat) : Int)) ∧ Fs [4, 9, 10, 16, 17, 18] σ0 σ') ∧ (∃ M1 M2 M3 M4 : Nat → Int, h' e1 = some (.inl (G_j G, 16, .inr (.inl (lA M1)))) ∧ h' e2 = some (.inl (G_j G, 16, .inr (.inl (lA M2)))) ∧ h' e3 = some (.inl (G_i G, 16, .inl (iA M3))) ∧ h' e4 = some (.inl (G_i G, 1024, .inl (iA M4)))) ∧ (∃ L1 L2 L3 L4 : Nat → Int, h' s1 = some (.inl (G_j G, 16, .inr (.inl (lA L1)))) ∧ h' s2 = some (.inl (G_j G, 16, .inr (.inl (lA L2)))) ∧ h' s3 = some (.inl (G_i G, 16, .inl (iA L3))) ∧ h' s4 = some (.inl (G_i G, 1024, .inl (iA L4))) ∧ rowL (rdL f tk F n0 17 0 []).2 L1 L2 L3 L4 ∧ rgs L1 L2 L3 L4 ∧ cuesR (rdL f tk F n0 17 0 []).2) ∧ h' k0 = some (.inl (G_i G, 10, .inl (iA (zup K0 (c % 10) n)))) ∧ h' k1 = some (.inl (G_j G, 160, .inr (.inl (lA (va_cpy S1 K1 0 (16 * (c % 10)) 16))))) ∧ h' k2 = some (.inl (G_j G, 160, .inr (.inl (lA (va_cpy S2 K2 0 (16 * (c % 10)) 16))))) ∧ h' k3 = some (.inl (G_i G, 160, .inl (iA (va_cpy S3 K3 0 (16 * (c % 10)) 16)))) ∧ h' k4 = some (.inl (G_i G, 10240, .inl (iA (va_cpy S4 K4 0 (1024 * (c % 10)) 1024)))) ∧ Fm [m, s1, s2, s3, s4, k0, k1, k2, k3, k4, e1, e2, e3, e4] h0 h')) 27 [(0, .ref m), (1, .int (iZ f))] [] h 0 0 := by
  intro d
  induction d using Nat.strongRecOn with
  | ind d ih =>
  intro p C N1 N2 N3 N4 h σ hRD hd hp hrl hcr hm f0 f1 f2 f3 f4 f5 f6 f7 f8 f9 f10 f11 f12 f13 f14 f15 f16 f17 f18 f19 f20 f21 f22 hs1 hs2 hs3 hs4 hk0 hk1 hk2 hk3 hk4 hbu he1 he2 he3 he4 fm fs
  have hc6 := hcr.1
  obtain ⟨g, rfl⟩ : ∃ g, d = g + 1 := ⟨d - 1, by omega⟩
  refine ev_aload_n d_Mo_read_27 rfl rfl ?_
  refine ev_getF d_Mo_read_28 fl_Mo_110 hm (by decide) f16 ?_
  refine ev_aload_n d_Mo_read_31 rfl rfl ?_
  refine ev_getF d_Mo_read_32 fl_Mo_95 hm (by decide) f0 ?_
  refine ez_icmp_ge (tgt := 53) (by omega) (by omega) d_Mo_read_35 rfl (fun c35 => ?_) (fun c35 => ?_)
  · refine ev_aload_n d_Mo_read_53 rfl rfl ?_
    refine ev_getF d_Mo_read_54 fl_Mo_107 hm (by decide) f17 ?_
    refine ez_if_lt (tgt := 68) (by decide) d_Mo_read_57 rfl (fun c57 => ?_) (fun c57 => absurd c57 (by omega))
    rw [rdL_e (f := f) (tk := tk) (F := F) (n := n0) (g := g) (p := p) (C := C) (by omega)] at hRD
    exact lp_Mo_rd3 G h0 σ0 m s1 s2 s3 s4 k0 k1 k2 k3 k4 e1 e2 e3 e4 n c bk n0 S1 S2 S3 S4 K0 K1 K2 K3 K4 F f tk hrg hc hbk n_k n_s n_e n_11 n_12 n_21 n_22 n_3 n_4 C N1 N2 N3 N4 h σ hRD hrl hcr hm f4 f5 f6 f7 f8 f9 f10 f11 f12 f13 f14 f15 f18 f19 f20 f21 f22 hs1 hs2 hs3 hs4 hk0 hk1 hk2 hk3 hk4 he1 he2 he3 he4 (Fm.rf.call (by simp) fm) (Fs.rf.call (by simp) fs)
  · refine ev_aload_n d_Mo_read_38 rfl rfl ?_
    refine ev_getF d_Mo_read_39 fl_Mo_107 hm (by decide) f17 ?_
    refine ez_if_ge (tgt := 53) (by decide) d_Mo_read_42 rfl (fun c42 => absurd c42 (by omega)) (fun c42 => ?_)
    refine ev_aload_n d_Mo_read_45 rfl rfl ?_
    refine ev_iload_n d_Mo_read_46 rfl rfl ?_
    refine ev_callV M_Mo_takeCue (rm 3 90) _ (As := [.int (iZ f)]) (c_Mo_takeCue G h σ m bu e1 e2 e3 e4 n0 p F C N1 N2 N3 N4 num den tk f hm f0 f1 f16 f17 f2 f3 f18 f19 f20 f21 f22 hbu he1 he2 he3 he4 n_e hn0 hp hF hnum hden htk htk2 hfr hrl hcr) d_Mo_read_47 mk_Mo_takeCue ml_Mo_173 mv_Mo_takeCue hm rfl rfl rfl (Nat.le_of_ble_eq_true rfl) ⟨by decide, by decide⟩ ⟨by decide, by decide⟩ (fun r h8 hq => ?_)
    obtain ⟨rfl, qy, qn, fmc⟩ := hq
    have cr := cuP_r (f := f) (tk := tk) hF hp htk2
    rcases hx : (cuP f tk F n0 p).2 with _ | S
    ·
      obtain ⟨⟨σ8, p2, c2, gm, g16, g17, g18, hp2, gs⟩, M1, M2, M3, M4, ge1, ge2, ge3, ge4⟩ := qn (fun S9 w9 => by rw [hx] at w9; cases w9)
      have hs1 := (fmc _ (ninc (cne hs1 hm (by simp)) (ninc n_11 (ninc n_12 (ninc (cne hs1 he3 (by simp)) (ninc (cne hs1 he4 (by simp)) nin0)))))).trans hs1
      have hs2 := (fmc _ (ninc (cne hs2 hm (by simp)) (ninc n_21 (ninc n_22 (ninc (cne hs2 he3 (by simp)) (ninc (cne hs2 he4 (by simp)) nin0)))))).trans hs2
      have hs3 := (fmc _ (ninc (cne hs3 hm (by simp)) (ninc (cne hs3 he1 (by simp)) (ninc (cne hs3 he2 (by simp)) (ninc n_3 (ninc (cne hs3 he4 (by simp)) nin0)))))).trans hs3
      have hs4 := (fmc _ (ninc (cne hs4 hm (by simp)) (ninc (cne hs4 he1 (by simp)) (ninc (cne hs4 he2 (by simp)) (ninc (cne hs4 he3 (by simp)) (ninc n_4 nin0)))))).trans hs4
      have hk0 := (fmc _ (ninc (cne hk0 hm (by simp)) (ninc (cne hk0 he1 (by simp)) (ninc (cne hk0 he2 (by simp)) (ninc (cne hk0 he3 (by simp)) (ninc (cne hk0 he4 (by simp)) nin0)))))).trans hk0
      have hk1 := (fmc _ (ninc (cne hk1 hm (by simp)) (ninc (cne hk1 he1 (by simp)) (ninc (cne hk1 he2 (by simp)) (ninc (cne hk1 he3 (by simp)) (ninc (cne hk1 he4 (by simp)) nin0)))))).trans hk1
      have hk2 := (fmc _ (ninc (cne hk2 hm (by simp)) (ninc (cne hk2 he1 (by simp)) (ninc (cne hk2 he2 (by simp)) (ninc (cne hk2 he3 (by simp)) (ninc (cne hk2 he4 (by simp)) nin0)))))).trans hk2
      have hk3 := (fmc _ (ninc (cne hk3 hm (by simp)) (ninc (cne hk3 he1 (by simp)) (ninc (cne hk3 he2 (by simp)) (ninc (cne hk3 he3 (by simp)) (ninc (cne hk3 he4 (by simp)) nin0)))))).trans hk3
      have hk4 := (fmc _ (ninc (cne hk4 hm (by simp)) (ninc (cne hk4 he1 (by simp)) (ninc (cne hk4 he2 (by simp)) (ninc (cne hk4 he3 (by simp)) (ninc (cne hk4 he4 (by simp)) nin0)))))).trans hk4
      have hbu := (fmc _ (ninc (cne hbu hm (by simp)) (ninc (cne hbu he1 (by simp)) (ninc (cne hbu he2 (by simp)) (ninc (cne hbu he3 (by simp)) (ninc (cne hbu he4 (by simp)) nin0)))))).trans hbu
      have f4 := (gs 4 (by decide)).trans f4
      have f5 := (gs 5 (by decide)).trans f5
      have f6 := (gs 6 (by decide)).trans f6
      have f7 := (gs 7 (by decide)).trans f7
      have f8 := (gs 8 (by decide)).trans f8
      have f9 := (gs 9 (by decide)).trans f9
      have f10 := (gs 10 (by decide)).trans f10
      have f11 := (gs 11 (by decide)).trans f11
      have f12 := (gs 12 (by decide)).trans f12
      have f13 := (gs 13 (by decide)).trans f13
      have f14 := (gs 14 (by decide)).trans f14
      have f15 := (gs 15 (by decide)).trans f15
      have f0 := (gs 0 (by decide)).trans f0
      have f1 := (gs 1 (by decide)).trans f1
      have f2 := (gs 2 (by decide)).trans f2
      have f3 := (gs 3 (by decide)).trans f3
      have f19 := (gs 19 (by decide)).trans f19
      have f20 := (gs 20 (by decide)).trans f20
      have f21 := (gs 21 (by decide)).trans f21
      have f22 := (gs 22 (by decide)).trans f22
      have f16 := g16
      have f17 := g17
      have f18 := g18
      have hm := gm
      have fm := fm.call (by simp) fmc
      have fs := fs.call (by simp) gs
      have he1 := ge1
      have he2 := ge2
      have he3 := ge3
      have he4 := ge4
      rw [show cuF (cuP f tk F n0 p) p = ((cuP f tk F n0 p).1 : Int) from by unfold cuF; rw [hx]] at f17
      rw [rdL_n (f := f) (tk := tk) (F := F) (n := n0) (g := g) (p := p) (C := C) (by omega) hx] at hRD
      refine ev_goto (tgt := 27) d_Mo_read_50 rfl ?_
      refine ev_aload_n d_Mo_read_27 rfl rfl ?_
      refine ev_getF d_Mo_read_28 fl_Mo_110 hm (by decide) f16 ?_
      refine ev_aload_n d_Mo_read_31 rfl rfl ?_
      refine ev_getF d_Mo_read_32 fl_Mo_95 hm (by decide) f0 ?_
      refine ez_icmp_ge (tgt := 53) (by omega) (by omega) d_Mo_read_35 rfl (fun c35 => ?_) (fun c35 => ?_)
      · refine ev_aload_n d_Mo_read_53 rfl rfl ?_
        refine ev_getF d_Mo_read_54 fl_Mo_107 hm (by decide) f17 ?_
        refine ez_if_lt (tgt := 68) (by omega) d_Mo_read_57 rfl (fun c57 => absurd c57 (by omega)) (fun c57 => ?_)
        refine ev_bipush (v := iZ (-10)) d_Mo_read_60 rfl ?_
        refine ev_aload_n d_Mo_read_62 rfl rfl ?_
        refine ev_getF d_Mo_read_63 fl_Mo_107 hm (by decide) f17 ?_
        refine ez_isub d_Mo_read_66 ?_
        exact ev_ireturn d_Mo_read_67 rfl (by decide) (by decide) (⟨fun _ => by rw [hRD]; exact ⟨rfl, ⟨σ8, hm, fs⟩, ⟨_, _, _, _, he1, he2, he3, he4⟩, fm⟩, fun q => absurd (show (((cuP f tk F n0 p).1 : Int) : Int) = -1 from (congrArg Prod.fst hRD).symm.trans q) (by omega)⟩)
      · refine ev_aload_n d_Mo_read_38 rfl rfl ?_
        refine ev_getF d_Mo_read_39 fl_Mo_107 hm (by decide) f17 ?_
        refine ez_if_ge (tgt := 53) (by omega) d_Mo_read_42 rfl (fun c42 => ?_) (fun c42 => absurd c42 (by omega))
        refine ev_aload_n d_Mo_read_53 rfl rfl ?_
        refine ev_getF d_Mo_read_54 fl_Mo_107 hm (by decide) f17 ?_
        refine ez_if_lt (tgt := 68) (by omega) d_Mo_read_57 rfl (fun c57 => absurd c57 (by omega)) (fun c57 => ?_)
        refine ev_bipush (v := iZ (-10)) d_Mo_read_60 rfl ?_
        refine ev_aload_n d_Mo_read_62 rfl rfl ?_
        refine ev_getF d_Mo_read_63 fl_Mo_107 hm (by decide) f17 ?_
        refine ez_isub d_Mo_read_66 ?_
        exact ev_ireturn d_Mo_read_67 rfl (by decide) (by decide) (⟨fun _ => by rw [hRD]; exact ⟨rfl, ⟨σ8, hm, fs⟩, ⟨_, _, _, _, he1, he2, he3, he4⟩, fm⟩, fun q => absurd (show (((cuP f tk F n0 p).1 : Int) : Int) = -1 from (congrArg Prod.fst hRD).symm.trans q) (by omega)⟩)
    ·
      by_cases ok : lOK C S
      ·
        obtain ⟨⟨σ8, gm, g16, g17, g18, gs⟩, ge1, ge2, ge3, ge4⟩ := qy S hx ok
        have cS := cr.2.2 S hx
        have hs1 := (fmc _ (ninc (cne hs1 hm (by simp)) (ninc n_11 (ninc n_12 (ninc (cne hs1 he3 (by simp)) (ninc (cne hs1 he4 (by simp)) nin0)))))).trans hs1
        have hs2 := (fmc _ (ninc (cne hs2 hm (by simp)) (ninc n_21 (ninc n_22 (ninc (cne hs2 he3 (by simp)) (ninc (cne hs2 he4 (by simp)) nin0)))))).trans hs2
        have hs3 := (fmc _ (ninc (cne hs3 hm (by simp)) (ninc (cne hs3 he1 (by simp)) (ninc (cne hs3 he2 (by simp)) (ninc n_3 (ninc (cne hs3 he4 (by simp)) nin0)))))).trans hs3
        have hs4 := (fmc _ (ninc (cne hs4 hm (by simp)) (ninc (cne hs4 he1 (by simp)) (ninc (cne hs4 he2 (by simp)) (ninc (cne hs4 he3 (by simp)) (ninc n_4 nin0)))))).trans hs4
        have hk0 := (fmc _ (ninc (cne hk0 hm (by simp)) (ninc (cne hk0 he1 (by simp)) (ninc (cne hk0 he2 (by simp)) (ninc (cne hk0 he3 (by simp)) (ninc (cne hk0 he4 (by simp)) nin0)))))).trans hk0
        have hk1 := (fmc _ (ninc (cne hk1 hm (by simp)) (ninc (cne hk1 he1 (by simp)) (ninc (cne hk1 he2 (by simp)) (ninc (cne hk1 he3 (by simp)) (ninc (cne hk1 he4 (by simp)) nin0)))))).trans hk1
        have hk2 := (fmc _ (ninc (cne hk2 hm (by simp)) (ninc (cne hk2 he1 (by simp)) (ninc (cne hk2 he2 (by simp)) (ninc (cne hk2 he3 (by simp)) (ninc (cne hk2 he4 (by simp)) nin0)))))).trans hk2
        have hk3 := (fmc _ (ninc (cne hk3 hm (by simp)) (ninc (cne hk3 he1 (by simp)) (ninc (cne hk3 he2 (by simp)) (ninc (cne hk3 he3 (by simp)) (ninc (cne hk3 he4 (by simp)) nin0)))))).trans hk3
        have hk4 := (fmc _ (ninc (cne hk4 hm (by simp)) (ninc (cne hk4 he1 (by simp)) (ninc (cne hk4 he2 (by simp)) (ninc (cne hk4 he3 (by simp)) (ninc (cne hk4 he4 (by simp)) nin0)))))).trans hk4
        have hbu := (fmc _ (ninc (cne hbu hm (by simp)) (ninc (cne hbu he1 (by simp)) (ninc (cne hbu he2 (by simp)) (ninc (cne hbu he3 (by simp)) (ninc (cne hbu he4 (by simp)) nin0)))))).trans hbu
        have f4 := (gs 4 (by decide)).trans f4
        have f5 := (gs 5 (by decide)).trans f5
        have f6 := (gs 6 (by decide)).trans f6
        have f7 := (gs 7 (by decide)).trans f7
        have f8 := (gs 8 (by decide)).trans f8
        have f9 := (gs 9 (by decide)).trans f9
        have f10 := (gs 10 (by decide)).trans f10
        have f11 := (gs 11 (by decide)).trans f11
        have f12 := (gs 12 (by decide)).trans f12
        have f13 := (gs 13 (by decide)).trans f13
        have f14 := (gs 14 (by decide)).trans f14
        have f15 := (gs 15 (by decide)).trans f15
        have f0 := (gs 0 (by decide)).trans f0
        have f1 := (gs 1 (by decide)).trans f1
        have f2 := (gs 2 (by decide)).trans f2
        have f3 := (gs 3 (by decide)).trans f3
        have f19 := (gs 19 (by decide)).trans f19
        have f20 := (gs 20 (by decide)).trans f20
        have f21 := (gs 21 (by decide)).trans f21
        have f22 := (gs 22 (by decide)).trans f22
        have f16 := g16
        have f17 := g17
        have f18 := g18
        have hm := gm
        have fm := fm.call (by simp) fmc
        have fs := fs.call (by simp) gs
        have he1 := ge1
        have he2 := ge2
        have he3 := ge3
        have he4 := ge4
        refine ev_goto (tgt := 27) d_Mo_read_50 rfl ?_
        rw [rdL_s (f := f) (tk := tk) (F := F) (n := n0) (g := g) (p := p) (C := C) (by omega) hx ok] at hRD
        exact ih g (by omega) (cuP f tk F n0 p).1 (C ++ [S]) _ _ _ _ h8 σ8 hRD (by rw [List.length_append]; show C.length + 1 + g = 17; omega) cr.2.1 (rowL_t hrl (by have := cS.2.2.1.1; exact this)) (cuesR_s hcr cS ok) hm f0 f1 f2 f3 f4 f5 f6 f7 f8 f9 f10 f11 f12 f13 f14 f15 f16 f17 (by rw [List.length_append]; exact f18) f19 f20 f21 f22 hs1 hs2 hs3 hs4 hk0 hk1 hk2 hk3 hk4 hbu he1 he2 he3 he4 fm fs
      ·
        obtain ⟨⟨σ8, p2, c2, gm, g16, g17, g18, hp2, gs⟩, M1, M2, M3, M4, ge1, ge2, ge3, ge4⟩ := qn (fun S9 w9 => by rw [hx] at w9; cases w9; exact ok)
        have hs1 := (fmc _ (ninc (cne hs1 hm (by simp)) (ninc n_11 (ninc n_12 (ninc (cne hs1 he3 (by simp)) (ninc (cne hs1 he4 (by simp)) nin0)))))).trans hs1
        have hs2 := (fmc _ (ninc (cne hs2 hm (by simp)) (ninc n_21 (ninc n_22 (ninc (cne hs2 he3 (by simp)) (ninc (cne hs2 he4 (by simp)) nin0)))))).trans hs2
        have hs3 := (fmc _ (ninc (cne hs3 hm (by simp)) (ninc (cne hs3 he1 (by simp)) (ninc (cne hs3 he2 (by simp)) (ninc n_3 (ninc (cne hs3 he4 (by simp)) nin0)))))).trans hs3
        have hs4 := (fmc _ (ninc (cne hs4 hm (by simp)) (ninc (cne hs4 he1 (by simp)) (ninc (cne hs4 he2 (by simp)) (ninc (cne hs4 he3 (by simp)) (ninc n_4 nin0)))))).trans hs4
        have hk0 := (fmc _ (ninc (cne hk0 hm (by simp)) (ninc (cne hk0 he1 (by simp)) (ninc (cne hk0 he2 (by simp)) (ninc (cne hk0 he3 (by simp)) (ninc (cne hk0 he4 (by simp)) nin0)))))).trans hk0
        have hk1 := (fmc _ (ninc (cne hk1 hm (by simp)) (ninc (cne hk1 he1 (by simp)) (ninc (cne hk1 he2 (by simp)) (ninc (cne hk1 he3 (by simp)) (ninc (cne hk1 he4 (by simp)) nin0)))))).trans hk1
        have hk2 := (fmc _ (ninc (cne hk2 hm (by simp)) (ninc (cne hk2 he1 (by simp)) (ninc (cne hk2 he2 (by simp)) (ninc (cne hk2 he3 (by simp)) (ninc (cne hk2 he4 (by simp)) nin0)))))).trans hk2
        have hk3 := (fmc _ (ninc (cne hk3 hm (by simp)) (ninc (cne hk3 he1 (by simp)) (ninc (cne hk3 he2 (by simp)) (ninc (cne hk3 he3 (by simp)) (ninc (cne hk3 he4 (by simp)) nin0)))))).trans hk3
        have hk4 := (fmc _ (ninc (cne hk4 hm (by simp)) (ninc (cne hk4 he1 (by simp)) (ninc (cne hk4 he2 (by simp)) (ninc (cne hk4 he3 (by simp)) (ninc (cne hk4 he4 (by simp)) nin0)))))).trans hk4
        have hbu := (fmc _ (ninc (cne hbu hm (by simp)) (ninc (cne hbu he1 (by simp)) (ninc (cne hbu he2 (by simp)) (ninc (cne hbu he3 (by simp)) (ninc (cne hbu he4 (by simp)) nin0)))))).trans hbu
        have f4 := (gs 4 (by decide)).trans f4
        have f5 := (gs 5 (by decide)).trans f5
        have f6 := (gs 6 (by decide)).trans f6
        have f7 := (gs 7 (by decide)).trans f7
        have f8 := (gs 8 (by decide)).trans f8
        have f9 := (gs 9 (by decide)).trans f9
        have f10 := (gs 10 (by decide)).trans f10
        have f11 := (gs 11 (by decide)).trans f11
        have f12 := (gs 12 (by decide)).trans f12
        have f13 := (gs 13 (by decide)).trans f13
        have f14 := (gs 14 (by decide)).trans f14
        have f15 := (gs 15 (by decide)).trans f15
        have f0 := (gs 0 (by decide)).trans f0
        have f1 := (gs 1 (by decide)).trans f1
        have f2 := (gs 2 (by decide)).trans f2
        have f3 := (gs 3 (by decide)).trans f3
        have f19 := (gs 19 (by decide)).trans f19
        have f20 := (gs 20 (by decide)).trans f20
        have f21 := (gs 21 (by decide)).trans f21
        have f22 := (gs 22 (by decide)).trans f22
        have f16 := g16
        have f17 := g17
        have f18 := g18
        have hm := gm
        have fm := fm.call (by simp) fmc
        have fs := fs.call (by simp) gs
        have he1 := ge1
        have he2 := ge2
        have he3 := ge3
        have he4 := ge4
        rw [show cuF (cuP f tk F n0 p) p = (p : Int) from by unfold cuF; rw [hx]] at f17
        rw [rdL_b (f := f) (tk := tk) (F := F) (n := n0) (g := g) (p := p) (C := C) (by omega) hx ok] at hRD
        refine ev_goto (tgt := 27) d_Mo_read_50 rfl ?_
        refine ev_aload_n d_Mo_read_27 rfl rfl ?_
        refine ev_getF d_Mo_read_28 fl_Mo_110 hm (by decide) f16 ?_
        refine ev_aload_n d_Mo_read_31 rfl rfl ?_
        refine ev_getF d_Mo_read_32 fl_Mo_95 hm (by decide) f0 ?_
        refine ez_icmp_ge (tgt := 53) (by omega) (by omega) d_Mo_read_35 rfl (fun c35 => ?_) (fun c35 => ?_)
        · refine ev_aload_n d_Mo_read_53 rfl rfl ?_
          refine ev_getF d_Mo_read_54 fl_Mo_107 hm (by decide) f17 ?_
          refine ez_if_lt (tgt := 68) (by omega) d_Mo_read_57 rfl (fun c57 => absurd c57 (by omega)) (fun c57 => ?_)
          refine ev_bipush (v := iZ (-10)) d_Mo_read_60 rfl ?_
          refine ev_aload_n d_Mo_read_62 rfl rfl ?_
          refine ev_getF d_Mo_read_63 fl_Mo_107 hm (by decide) f17 ?_
          refine ez_isub d_Mo_read_66 ?_
          exact ev_ireturn d_Mo_read_67 rfl (by decide) (by decide) (⟨fun _ => by rw [hRD]; exact ⟨rfl, ⟨σ8, hm, fs⟩, ⟨_, _, _, _, he1, he2, he3, he4⟩, fm⟩, fun q => absurd (show ((p : Int) : Int) = -1 from (congrArg Prod.fst hRD).symm.trans q) (by omega)⟩)
        · refine ev_aload_n d_Mo_read_38 rfl rfl ?_
          refine ev_getF d_Mo_read_39 fl_Mo_107 hm (by decide) f17 ?_
          refine ez_if_ge (tgt := 53) (by omega) d_Mo_read_42 rfl (fun c42 => ?_) (fun c42 => absurd c42 (by omega))
          refine ev_aload_n d_Mo_read_53 rfl rfl ?_
          refine ev_getF d_Mo_read_54 fl_Mo_107 hm (by decide) f17 ?_
          refine ez_if_lt (tgt := 68) (by omega) d_Mo_read_57 rfl (fun c57 => absurd c57 (by omega)) (fun c57 => ?_)
          refine ev_bipush (v := iZ (-10)) d_Mo_read_60 rfl ?_
          refine ev_aload_n d_Mo_read_62 rfl rfl ?_
          refine ev_getF d_Mo_read_63 fl_Mo_107 hm (by decide) f17 ?_
          refine ez_isub d_Mo_read_66 ?_
          exact ev_ireturn d_Mo_read_67 rfl (by decide) (by decide) (⟨fun _ => by rw [hRD]; exact ⟨rfl, ⟨σ8, hm, fs⟩, ⟨_, _, _, _, he1, he2, he3, he4⟩, fm⟩, fun q => absurd (show ((p : Int) : Int) = -1 from (congrArg Prod.fst hRD).symm.trans q) (by omega)⟩)
set_option maxHeartbeats 4000000 in
set_option maxRecDepth 100000 in
theorem c_Mo_readB (G : GT) (h : HM) (m : Nat) (f : Int) (hfi : iR f) (hfr : ¬ (f = 0 ∨ f = 1 ∨ f = 2)) : Rn G M_Mo_read (rm 1 40) [.ref m, .int (iZ f)] h (Pu (.int (iZ (-2))) h) := by
  refine rn_of (by decide) (Nat.le_of_ble_eq_true rfl) ?_
  show Ev G M_Mo_read _ _ 0 [(0, .ref m), (1, .int (iZ f))] [] _ 0 0
  refine ev_iload_n d_Mo_read_0 rfl rfl ?_
  refine ez_if_lt (tgt := 9) (by omega) d_Mo_read_1 rfl (fun c1 => ?_) (fun c1 => ?_)
  · refine ev_bipush (v := iZ (-2)) d_Mo_read_9 rfl ?_
    exact ev_ireturn d_Mo_read_11 rfl (by decide) (by decide) (⟨rfl, rfl⟩)
  · refine ev_iload_n d_Mo_read_4 rfl rfl ?_
    refine ev_iconst (v := iZ 2) d_Mo_read_5 rfl ?_
    refine ez_icmp_le (tgt := 12) (by omega) (by decide) d_Mo_read_6 rfl (fun c6 => absurd c6 (by omega)) (fun c6 => ?_)
    refine ev_bipush (v := iZ (-2)) d_Mo_read_9 rfl ?_
    exact ev_ireturn d_Mo_read_11 rfl (by decide) (by decide) (⟨rfl, rfl⟩)
set_option maxHeartbeats 4000000 in
set_option maxRecDepth 100000 in
theorem c_Mo_read (G : GT) (h : HM) (σ : Nat → Value) (m bu s1 s2 s3 s4 k0 k1 k2 k3 k4 e1 e2 e3 e4 n c bk n0 : Nat) (S1 S2 S3 S4 K0 K1 K2 K3 K4 F : Nat → Int) (f tk : Int) (num den : Int) (N1 N2 N3 N4 : Nat → Int) (hm : h m = some (.inr (11, fsN 34 σ))) (f4 : σ 4 = .int (iZ (n : Int))) (f5 : σ 5 = .ref s1) (f6 : σ 6 = .ref s2) (f7 : σ 7 = .ref s3) (f8 : σ 8 = .ref s4) (f9 : σ 9 = .int (iZ (c : Int))) (f10 : σ 10 = .int (iZ (bk : Int))) (f11 : σ 11 = .ref k0) (f12 : σ 12 = .ref k1) (f13 : σ 13 = .ref k2) (f14 : σ 14 = .ref k3) (f15 : σ 15 = .ref k4) (f0 : σ 0 = .int (iZ (n0 : Int))) (f1 : σ 1 = .ref bu) (f2 : σ 2 = .int (iZ num)) (f3 : σ 3 = .int (iZ den)) (f19 : σ 19 = .ref e1) (f20 : σ 20 = .ref e2) (f21 : σ 21 = .ref e3) (f22 : σ 22 = .ref e4) (hs1 : h s1 = some (.inl (G_j G, 16, .inr (.inl (lA S1))))) (hs2 : h s2 = some (.inl (G_j G, 16, .inr (.inl (lA S2))))) (hs3 : h s3 = some (.inl (G_i G, 16, .inl (iA S3)))) (hs4 : h s4 = some (.inl (G_i G, 1024, .inl (iA S4)))) (hk0 : h k0 = some (.inl (G_i G, 10, .inl (iA K0)))) (hk1 : h k1 = some (.inl (G_j G, 160, .inr (.inl (lA K1))))) (hk2 : h k2 = some (.inl (G_j G, 160, .inr (.inl (lA K2))))) (hk3 : h k3 = some (.inl (G_i G, 160, .inl (iA K3)))) (hk4 : h k4 = some (.inl (G_i G, 10240, .inl (iA K4)))) (hbu : h bu = some (.inl (G_i G, 1000, .inl (iA F)))) (he1 : h e1 = some (.inl (G_j G, 16, .inr (.inl (lA N1))))) (he2 : h e2 = some (.inl (G_j G, 16, .inr (.inl (lA N2))))) (he3 : h e3 = some (.inl (G_i G, 16, .inl (iA N3)))) (he4 : h e4 = some (.inl (G_i G, 1024, .inl (iA N4)))) (hrg : rgs S1 S2 S3 S4) (hc : c ≤ 1000) (hbk : bk ≤ 10) (n_k : k1 ≠ k2) (n_s : s1 ≠ s2) (n_e : e1 ≠ e2) (n_11 : s1 ≠ e1) (n_12 : s1 ≠ e2) (n_21 : s2 ≠ e1) (n_22 : s2 ≠ e2) (n_3 : s3 ≠ e3) (n_4 : s4 ≠ e4) (hn0 : n0 ≤ 1000) (hF : ∀ k, 0 ≤ F k ∧ F k ≤ 255) (hnum : 1 ≤ num ∧ num ≤ 120000) (hden : 1 ≤ den ∧ den ≤ 1001) (htk : tk = 705600000 * den / num) (htk2 : 0 ≤ tk ∧ tk ≤ 705600000) (hfr : f = 0 ∨ f = 1 ∨ f = 2) : Rn G M_Mo_read (rm 4 130) [.ref m, .int (iZ f)] h (fun r h' => ((rdL f tk F n0 17 0 []).1 ≠ -1 → r = some (.int (iZ (-10 - (rdL f tk F n0 17 0 []).1))) ∧ (∃ σ', h' m = some (.inr (11, fsN 34 σ')) ∧ Fs [16, 17, 18] σ σ') ∧ (∃ M1 M2 M3 M4 : Nat → Int, h' e1 = some (.inl (G_j G, 16, .inr (.inl (lA M1)))) ∧ h' e2 = some (.inl (G_j G, 16, .inr (.inl (lA M2)))) ∧ h' e3 = some (.inl (G_i G, 16, .inl (iA M3))) ∧ h' e4 = some (.inl (G_i G, 1024, .inl (iA M4)))) ∧ Fm [m, e1, e2, e3, e4] h h') ∧ ((rdL f tk F n0 17 0 []).1 = -1 → r = some (.int (iZ ((rdL f tk F n0 17 0 []).2.length : Int))) ∧ (∃ σ', h' m = some (.inr (11, fsN 34 σ')) ∧ σ' 4 = .int (iZ ((rdL f tk F n0 17 0 []).2.length : Int)) ∧ σ' 9 = .int (iZ ((c : Int) + 1)) ∧ σ' 10 = .int (iZ ((min (bk + 1) 10 : Nat) : Int)) ∧ Fs [4, 9, 10, 16, 17, 18] σ σ') ∧ (∃ M1 M2 M3 M4 : Nat → Int, h' e1 = some (.inl (G_j G, 16, .inr (.inl (lA M1)))) ∧ h' e2 = some (.inl (G_j G, 16, .inr (.inl (lA M2)))) ∧ h' e3 = some (.inl (G_i G, 16, .inl (iA M3))) ∧ h' e4 = some (.inl (G_i G, 1024, .inl (iA M4)))) ∧ (∃ L1 L2 L3 L4 : Nat → Int, h' s1 = some (.inl (G_j G, 16, .inr (.inl (lA L1)))) ∧ h' s2 = some (.inl (G_j G, 16, .inr (.inl (lA L2)))) ∧ h' s3 = some (.inl (G_i G, 16, .inl (iA L3))) ∧ h' s4 = some (.inl (G_i G, 1024, .inl (iA L4))) ∧ rowL (rdL f tk F n0 17 0 []).2 L1 L2 L3 L4 ∧ rgs L1 L2 L3 L4 ∧ cuesR (rdL f tk F n0 17 0 []).2) ∧ h' k0 = some (.inl (G_i G, 10, .inl (iA (zup K0 (c % 10) n)))) ∧ h' k1 = some (.inl (G_j G, 160, .inr (.inl (lA (va_cpy S1 K1 0 (16 * (c % 10)) 16))))) ∧ h' k2 = some (.inl (G_j G, 160, .inr (.inl (lA (va_cpy S2 K2 0 (16 * (c % 10)) 16))))) ∧ h' k3 = some (.inl (G_i G, 160, .inl (iA (va_cpy S3 K3 0 (16 * (c % 10)) 16)))) ∧ h' k4 = some (.inl (G_i G, 10240, .inl (iA (va_cpy S4 K4 0 (1024 * (c % 10)) 1024)))) ∧ Fm [m, s1, s2, s3, s4, k0, k1, k2, k3, k4, e1, e2, e3, e4] h h')) := by
  refine rn_of (by decide) (Nat.le_of_ble_eq_true rfl) ?_
  show Ev G M_Mo_read _ _ 0 [(0, .ref m), (1, .int (iZ f))] [] _ 0 0
  have fm : Fm [m, e1, e2, e3, e4] h h := Fm.rf
  have fs : Fs [16, 17, 18] σ σ := Fs.rf
  refine ev_iload_n d_Mo_read_0 rfl rfl ?_
  refine ez_if_lt (tgt := 9) (by omega) d_Mo_read_1 rfl (fun c1 => absurd c1 (by omega)) (fun c1 => ?_)
  refine ev_iload_n d_Mo_read_4 rfl rfl ?_
  refine ev_iconst (v := iZ 2) d_Mo_read_5 rfl ?_
  refine ez_icmp_le (tgt := 12) (by omega) (by decide) d_Mo_read_6 rfl (fun c6 => ?_) (fun c6 => absurd c6 (by omega))
  refine ev_aload_n d_Mo_read_12 rfl rfl ?_
  refine ev_iconst (v := iZ 0) d_Mo_read_13 rfl ?_
  refine ev_putF2 d_Mo_read_14 fw_Mo_110 (Or.inr (fun _ _ _ q => by cases q; rfl)) hm (by decide) rfl rfl (fun h1 σ2 h1a σ2j σ2o h1o => ?_)
  have f0 := (σ2o 0 (by decide)).trans f0
  have f1 := (σ2o 1 (by decide)).trans f1
  have f2 := (σ2o 2 (by decide)).trans f2
  have f3 := (σ2o 3 (by decide)).trans f3
  have f4 := (σ2o 4 (by decide)).trans f4
  have f5 := (σ2o 5 (by decide)).trans f5
  have f6 := (σ2o 6 (by decide)).trans f6
  have f7 := (σ2o 7 (by decide)).trans f7
  have f8 := (σ2o 8 (by decide)).trans f8
  have f9 := (σ2o 9 (by decide)).trans f9
  have f10 := (σ2o 10 (by decide)).trans f10
  have f11 := (σ2o 11 (by decide)).trans f11
  have f12 := (σ2o 12 (by decide)).trans f12
  have f13 := (σ2o 13 (by decide)).trans f13
  have f14 := (σ2o 14 (by decide)).trans f14
  have f15 := (σ2o 15 (by decide)).trans f15
  have f19 := (σ2o 19 (by decide)).trans f19
  have f20 := (σ2o 20 (by decide)).trans f20
  have f21 := (σ2o 21 (by decide)).trans f21
  have f22 := (σ2o 22 (by decide)).trans f22
  have f16 := σ2j
  have fs := fs.step (by simp) σ2o
  have hs1 := (h1o _ (cne hs1 hm (by simp))).trans hs1
  have hs2 := (h1o _ (cne hs2 hm (by simp))).trans hs2
  have hs3 := (h1o _ (cne hs3 hm (by simp))).trans hs3
  have hs4 := (h1o _ (cne hs4 hm (by simp))).trans hs4
  have hk0 := (h1o _ (cne hk0 hm (by simp))).trans hk0
  have hk1 := (h1o _ (cne hk1 hm (by simp))).trans hk1
  have hk2 := (h1o _ (cne hk2 hm (by simp))).trans hk2
  have hk3 := (h1o _ (cne hk3 hm (by simp))).trans hk3
  have hk4 := (h1o _ (cne hk4 hm (by simp))).trans hk4
  have hbu := (h1o _ (cne hbu hm (by simp))).trans hbu
  have he1 := (h1o _ (cne he1 hm (by simp))).trans he1
  have he2 := (h1o _ (cne he2 hm (by simp))).trans he2
  have he3 := (h1o _ (cne he3 hm (by simp))).trans he3
  have he4 := (h1o _ (cne he4 hm (by simp))).trans he4
  have hm := h1a
  have fm := fm.step (by simp) h1o
  refine ev_aload_n d_Mo_read_17 rfl rfl ?_
  refine ev_iconst (v := iZ (-1)) d_Mo_read_18 rfl ?_
  refine ev_putF2 d_Mo_read_19 fw_Mo_107 (Or.inr (fun _ _ _ q => by cases q; rfl)) hm (by decide) rfl rfl (fun h3 σ4 h3a σ4j σ4o h3o => ?_)
  have f0 := (σ4o 0 (by decide)).trans f0
  have f1 := (σ4o 1 (by decide)).trans f1
  have f2 := (σ4o 2 (by decide)).trans f2
  have f3 := (σ4o 3 (by decide)).trans f3
  have f4 := (σ4o 4 (by decide)).trans f4
  have f5 := (σ4o 5 (by decide)).trans f5
  have f6 := (σ4o 6 (by decide)).trans f6
  have f7 := (σ4o 7 (by decide)).trans f7
  have f8 := (σ4o 8 (by decide)).trans f8
  have f9 := (σ4o 9 (by decide)).trans f9
  have f10 := (σ4o 10 (by decide)).trans f10
  have f11 := (σ4o 11 (by decide)).trans f11
  have f12 := (σ4o 12 (by decide)).trans f12
  have f13 := (σ4o 13 (by decide)).trans f13
  have f14 := (σ4o 14 (by decide)).trans f14
  have f15 := (σ4o 15 (by decide)).trans f15
  have f16 := (σ4o 16 (by decide)).trans f16
  have f19 := (σ4o 19 (by decide)).trans f19
  have f20 := (σ4o 20 (by decide)).trans f20
  have f21 := (σ4o 21 (by decide)).trans f21
  have f22 := (σ4o 22 (by decide)).trans f22
  have f17 := σ4j
  have fs := fs.step (by simp) σ4o
  have hs1 := (h3o _ (cne hs1 hm (by simp))).trans hs1
  have hs2 := (h3o _ (cne hs2 hm (by simp))).trans hs2
  have hs3 := (h3o _ (cne hs3 hm (by simp))).trans hs3
  have hs4 := (h3o _ (cne hs4 hm (by simp))).trans hs4
  have hk0 := (h3o _ (cne hk0 hm (by simp))).trans hk0
  have hk1 := (h3o _ (cne hk1 hm (by simp))).trans hk1
  have hk2 := (h3o _ (cne hk2 hm (by simp))).trans hk2
  have hk3 := (h3o _ (cne hk3 hm (by simp))).trans hk3
  have hk4 := (h3o _ (cne hk4 hm (by simp))).trans hk4
  have hbu := (h3o _ (cne hbu hm (by simp))).trans hbu
  have he1 := (h3o _ (cne he1 hm (by simp))).trans he1
  have he2 := (h3o _ (cne he2 hm (by simp))).trans he2
  have he3 := (h3o _ (cne he3 hm (by simp))).trans he3
  have he4 := (h3o _ (cne he4 hm (by simp))).trans he4
  have hm := h3a
  have fm := fm.step (by simp) h3o
  refine ev_aload_n d_Mo_read_22 rfl rfl ?_
  refine ev_iconst (v := iZ 0) d_Mo_read_23 rfl ?_
  refine ev_putF2 d_Mo_read_24 fw_Mo_140 (Or.inr (fun _ _ _ q => by cases q; rfl)) hm (by decide) rfl rfl (fun h5 σ6 h5a σ6j σ6o h5o => ?_)
  have f0 := (σ6o 0 (by decide)).trans f0
  have f1 := (σ6o 1 (by decide)).trans f1
  have f2 := (σ6o 2 (by decide)).trans f2
  have f3 := (σ6o 3 (by decide)).trans f3
  have f4 := (σ6o 4 (by decide)).trans f4
  have f5 := (σ6o 5 (by decide)).trans f5
  have f6 := (σ6o 6 (by decide)).trans f6
  have f7 := (σ6o 7 (by decide)).trans f7
  have f8 := (σ6o 8 (by decide)).trans f8
  have f9 := (σ6o 9 (by decide)).trans f9
  have f10 := (σ6o 10 (by decide)).trans f10
  have f11 := (σ6o 11 (by decide)).trans f11
  have f12 := (σ6o 12 (by decide)).trans f12
  have f13 := (σ6o 13 (by decide)).trans f13
  have f14 := (σ6o 14 (by decide)).trans f14
  have f15 := (σ6o 15 (by decide)).trans f15
  have f16 := (σ6o 16 (by decide)).trans f16
  have f17 := (σ6o 17 (by decide)).trans f17
  have f19 := (σ6o 19 (by decide)).trans f19
  have f20 := (σ6o 20 (by decide)).trans f20
  have f21 := (σ6o 21 (by decide)).trans f21
  have f22 := (σ6o 22 (by decide)).trans f22
  have f18 := σ6j
  have fs := fs.step (by simp) σ6o
  have hs1 := (h5o _ (cne hs1 hm (by simp))).trans hs1
  have hs2 := (h5o _ (cne hs2 hm (by simp))).trans hs2
  have hs3 := (h5o _ (cne hs3 hm (by simp))).trans hs3
  have hs4 := (h5o _ (cne hs4 hm (by simp))).trans hs4
  have hk0 := (h5o _ (cne hk0 hm (by simp))).trans hk0
  have hk1 := (h5o _ (cne hk1 hm (by simp))).trans hk1
  have hk2 := (h5o _ (cne hk2 hm (by simp))).trans hk2
  have hk3 := (h5o _ (cne hk3 hm (by simp))).trans hk3
  have hk4 := (h5o _ (cne hk4 hm (by simp))).trans hk4
  have hbu := (h5o _ (cne hbu hm (by simp))).trans hbu
  have he1 := (h5o _ (cne he1 hm (by simp))).trans he1
  have he2 := (h5o _ (cne he2 hm (by simp))).trans he2
  have he3 := (h5o _ (cne he3 hm (by simp))).trans he3
  have he4 := (h5o _ (cne he4 hm (by simp))).trans he4
  have hm := h5a
  have fm := fm.step (by simp) h5o
  refine ev_mono ?_ (lp_Mo_rd4 G h σ m bu s1 s2 s3 s4 k0 k1 k2 k3 k4 e1 e2 e3 e4 n c bk n0 S1 S2 S3 S4 K0 K1 K2 K3 K4 F f tk hrg hc hbk n_k n_s n_e n_11 n_12 n_21 n_22 n_3 n_4 num den hn0 hF hnum hden htk htk2 hfr 17 0 [] N1 N2 N3 N4 h5 σ6 rfl (by decide) (by omega) rowL_nil cuesR_nil hm f0 f1 f2 f3 f4 f5 f6 f7 f8 f9 f10 f11 f12 f13 f14 f15 f16 f17 f18 f19 f20 f21 f22 hs1 hs2 hs3 hs4 hk0 hk1 hk2 hk3 hk4 hbu he1 he2 he3 he4 fm fs)
  exact fun r h' q => q
