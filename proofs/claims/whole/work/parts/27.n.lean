theorem d_Mo_undo_0 : decode M_Mo_undo.2.1 0 = .ok (.aload_n 0, 1) := by decide +kernel
theorem d_Mo_undo_1 : decode M_Mo_undo.2.1 1 = .ok (.getfield 104, 3) := by decide +kernel
theorem d_Mo_undo_4 : decode M_Mo_undo.2.1 4 = .ok (.ifCond .ne 5, 3) := by decide +kernel
theorem d_Mo_undo_7 : decode M_Mo_undo.2.1 7 = .ok (.iconst 0, 1) := by decide +kernel
theorem d_Mo_undo_8 : decode M_Mo_undo.2.1 8 = .ok (.ireturn, 1) := by decide +kernel
theorem d_Mo_undo_9 : decode M_Mo_undo.2.1 9 = .ok (.aload_n 0, 1) := by decide +kernel
theorem d_Mo_undo_10 : decode M_Mo_undo.2.1 10 = .ok (.dup, 1) := by decide +kernel
theorem d_Mo_undo_11 : decode M_Mo_undo.2.1 11 = .ok (.getfield 104, 3) := by decide +kernel
theorem d_Mo_undo_14 : decode M_Mo_undo.2.1 14 = .ok (.iconst 1, 1) := by decide +kernel
theorem d_Mo_undo_15 : decode M_Mo_undo.2.1 15 = .ok (.isub, 1) := by decide +kernel
theorem d_Mo_undo_16 : decode M_Mo_undo.2.1 16 = .ok (.putfield 104, 3) := by decide +kernel
theorem d_Mo_undo_19 : decode M_Mo_undo.2.1 19 = .ok (.aload_n 0, 1) := by decide +kernel
theorem d_Mo_undo_20 : decode M_Mo_undo.2.1 20 = .ok (.dup, 1) := by decide +kernel
theorem d_Mo_undo_21 : decode M_Mo_undo.2.1 21 = .ok (.getfield 101, 3) := by decide +kernel
theorem d_Mo_undo_24 : decode M_Mo_undo.2.1 24 = .ok (.iconst 1, 1) := by decide +kernel
theorem d_Mo_undo_25 : decode M_Mo_undo.2.1 25 = .ok (.isub, 1) := by decide +kernel
theorem d_Mo_undo_26 : decode M_Mo_undo.2.1 26 = .ok (.putfield 101, 3) := by decide +kernel
theorem d_Mo_undo_29 : decode M_Mo_undo.2.1 29 = .ok (.aload_n 0, 1) := by decide +kernel
theorem d_Mo_undo_30 : decode M_Mo_undo.2.1 30 = .ok (.getfield 101, 3) := by decide +kernel
theorem d_Mo_undo_33 : decode M_Mo_undo.2.1 33 = .ok (.bipush 10, 2) := by decide +kernel
theorem d_Mo_undo_35 : decode M_Mo_undo.2.1 35 = .ok (.irem, 1) := by decide +kernel
theorem d_Mo_undo_36 : decode M_Mo_undo.2.1 36 = .ok (.istore_n 1, 1) := by decide +kernel
theorem d_Mo_undo_37 : decode M_Mo_undo.2.1 37 = .ok (.aload_n 0, 1) := by decide +kernel
theorem d_Mo_undo_38 : decode M_Mo_undo.2.1 38 = .ok (.aload_n 0, 1) := by decide +kernel
theorem d_Mo_undo_39 : decode M_Mo_undo.2.1 39 = .ok (.getfield 33, 3) := by decide +kernel
theorem d_Mo_undo_42 : decode M_Mo_undo.2.1 42 = .ok (.iload_n 1, 1) := by decide +kernel
theorem d_Mo_undo_43 : decode M_Mo_undo.2.1 43 = .ok (.iaload, 1) := by decide +kernel
theorem d_Mo_undo_44 : decode M_Mo_undo.2.1 44 = .ok (.putfield 92, 3) := by decide +kernel
theorem d_Mo_undo_47 : decode M_Mo_undo.2.1 47 = .ok (.iconst 0, 1) := by decide +kernel
theorem d_Mo_undo_48 : decode M_Mo_undo.2.1 48 = .ok (.istore_n 2, 1) := by decide +kernel
theorem d_Mo_undo_49 : decode M_Mo_undo.2.1 49 = .ok (.iload_n 2, 1) := by decide +kernel
theorem d_Mo_undo_50 : decode M_Mo_undo.2.1 50 = .ok (.bipush 16, 2) := by decide +kernel
theorem d_Mo_undo_52 : decode M_Mo_undo.2.1 52 = .ok (.if_icmp .ge 60, 3) := by decide +kernel
theorem d_Mo_undo_55 : decode M_Mo_undo.2.1 55 = .ok (.aload_n 0, 1) := by decide +kernel
theorem d_Mo_undo_56 : decode M_Mo_undo.2.1 56 = .ok (.getfield 20, 3) := by decide +kernel
theorem d_Mo_undo_59 : decode M_Mo_undo.2.1 59 = .ok (.iload_n 2, 1) := by decide +kernel
theorem d_Mo_undo_60 : decode M_Mo_undo.2.1 60 = .ok (.aload_n 0, 1) := by decide +kernel
theorem d_Mo_undo_61 : decode M_Mo_undo.2.1 61 = .ok (.getfield 36, 3) := by decide +kernel
theorem d_Mo_undo_64 : decode M_Mo_undo.2.1 64 = .ok (.bipush 16, 2) := by decide +kernel
theorem d_Mo_undo_66 : decode M_Mo_undo.2.1 66 = .ok (.iload_n 1, 1) := by decide +kernel
theorem d_Mo_undo_67 : decode M_Mo_undo.2.1 67 = .ok (.imul, 1) := by decide +kernel
theorem d_Mo_undo_68 : decode M_Mo_undo.2.1 68 = .ok (.iload_n 2, 1) := by decide +kernel
theorem d_Mo_undo_69 : decode M_Mo_undo.2.1 69 = .ok (.iadd, 1) := by decide +kernel
theorem d_Mo_undo_70 : decode M_Mo_undo.2.1 70 = .ok (.laload, 1) := by decide +kernel
theorem d_Mo_undo_71 : decode M_Mo_undo.2.1 71 = .ok (.lastore, 1) := by decide +kernel
theorem d_Mo_undo_72 : decode M_Mo_undo.2.1 72 = .ok (.aload_n 0, 1) := by decide +kernel
theorem d_Mo_undo_73 : decode M_Mo_undo.2.1 73 = .ok (.getfield 24, 3) := by decide +kernel
theorem d_Mo_undo_76 : decode M_Mo_undo.2.1 76 = .ok (.iload_n 2, 1) := by decide +kernel
theorem d_Mo_undo_77 : decode M_Mo_undo.2.1 77 = .ok (.aload_n 0, 1) := by decide +kernel
theorem d_Mo_undo_78 : decode M_Mo_undo.2.1 78 = .ok (.getfield 39, 3) := by decide +kernel
theorem d_Mo_undo_81 : decode M_Mo_undo.2.1 81 = .ok (.bipush 16, 2) := by decide +kernel
theorem d_Mo_undo_83 : decode M_Mo_undo.2.1 83 = .ok (.iload_n 1, 1) := by decide +kernel
theorem d_Mo_undo_84 : decode M_Mo_undo.2.1 84 = .ok (.imul, 1) := by decide +kernel
theorem d_Mo_undo_85 : decode M_Mo_undo.2.1 85 = .ok (.iload_n 2, 1) := by decide +kernel
theorem d_Mo_undo_86 : decode M_Mo_undo.2.1 86 = .ok (.iadd, 1) := by decide +kernel
theorem d_Mo_undo_87 : decode M_Mo_undo.2.1 87 = .ok (.laload, 1) := by decide +kernel
theorem d_Mo_undo_88 : decode M_Mo_undo.2.1 88 = .ok (.lastore, 1) := by decide +kernel
theorem d_Mo_undo_89 : decode M_Mo_undo.2.1 89 = .ok (.aload_n 0, 1) := by decide +kernel
theorem d_Mo_undo_90 : decode M_Mo_undo.2.1 90 = .ok (.getfield 27, 3) := by decide +kernel
theorem d_Mo_undo_93 : decode M_Mo_undo.2.1 93 = .ok (.iload_n 2, 1) := by decide +kernel
theorem d_Mo_undo_94 : decode M_Mo_undo.2.1 94 = .ok (.aload_n 0, 1) := by decide +kernel
theorem d_Mo_undo_95 : decode M_Mo_undo.2.1 95 = .ok (.getfield 42, 3) := by decide +kernel
theorem d_Mo_undo_98 : decode M_Mo_undo.2.1 98 = .ok (.bipush 16, 2) := by decide +kernel
theorem d_Mo_undo_100 : decode M_Mo_undo.2.1 100 = .ok (.iload_n 1, 1) := by decide +kernel
theorem d_Mo_undo_101 : decode M_Mo_undo.2.1 101 = .ok (.imul, 1) := by decide +kernel
theorem d_Mo_undo_102 : decode M_Mo_undo.2.1 102 = .ok (.iload_n 2, 1) := by decide +kernel
theorem d_Mo_undo_103 : decode M_Mo_undo.2.1 103 = .ok (.iadd, 1) := by decide +kernel
theorem d_Mo_undo_104 : decode M_Mo_undo.2.1 104 = .ok (.iaload, 1) := by decide +kernel
theorem d_Mo_undo_105 : decode M_Mo_undo.2.1 105 = .ok (.iastore, 1) := by decide +kernel
theorem d_Mo_undo_106 : decode M_Mo_undo.2.1 106 = .ok (.iinc 2 1, 3) := by decide +kernel
theorem d_Mo_undo_109 : decode M_Mo_undo.2.1 109 = .ok (.goto (-60), 3) := by decide +kernel
theorem d_Mo_undo_112 : decode M_Mo_undo.2.1 112 = .ok (.iconst 0, 1) := by decide +kernel
theorem d_Mo_undo_113 : decode M_Mo_undo.2.1 113 = .ok (.istore_n 2, 1) := by decide +kernel
theorem d_Mo_undo_114 : decode M_Mo_undo.2.1 114 = .ok (.iload_n 2, 1) := by decide +kernel
theorem d_Mo_undo_115 : decode M_Mo_undo.2.1 115 = .ok (.sipush 1024, 3) := by decide +kernel
theorem d_Mo_undo_118 : decode M_Mo_undo.2.1 118 = .ok (.if_icmp .ge 27, 3) := by decide +kernel
theorem d_Mo_undo_121 : decode M_Mo_undo.2.1 121 = .ok (.aload_n 0, 1) := by decide +kernel
theorem d_Mo_undo_122 : decode M_Mo_undo.2.1 122 = .ok (.getfield 30, 3) := by decide +kernel
theorem d_Mo_undo_125 : decode M_Mo_undo.2.1 125 = .ok (.iload_n 2, 1) := by decide +kernel
theorem d_Mo_undo_126 : decode M_Mo_undo.2.1 126 = .ok (.aload_n 0, 1) := by decide +kernel
theorem d_Mo_undo_127 : decode M_Mo_undo.2.1 127 = .ok (.getfield 45, 3) := by decide +kernel
theorem d_Mo_undo_130 : decode M_Mo_undo.2.1 130 = .ok (.sipush 1024, 3) := by decide +kernel
theorem d_Mo_undo_133 : decode M_Mo_undo.2.1 133 = .ok (.iload_n 1, 1) := by decide +kernel
theorem d_Mo_undo_134 : decode M_Mo_undo.2.1 134 = .ok (.imul, 1) := by decide +kernel
theorem d_Mo_undo_135 : decode M_Mo_undo.2.1 135 = .ok (.iload_n 2, 1) := by decide +kernel
theorem d_Mo_undo_136 : decode M_Mo_undo.2.1 136 = .ok (.iadd, 1) := by decide +kernel
theorem d_Mo_undo_137 : decode M_Mo_undo.2.1 137 = .ok (.iaload, 1) := by decide +kernel
theorem d_Mo_undo_138 : decode M_Mo_undo.2.1 138 = .ok (.iastore, 1) := by decide +kernel
theorem d_Mo_undo_139 : decode M_Mo_undo.2.1 139 = .ok (.iinc 2 1, 3) := by decide +kernel
theorem d_Mo_undo_142 : decode M_Mo_undo.2.1 142 = .ok (.goto (-28), 3) := by decide +kernel
theorem d_Mo_undo_145 : decode M_Mo_undo.2.1 145 = .ok (.iconst 1, 1) := by decide +kernel
theorem d_Mo_undo_146 : decode M_Mo_undo.2.1 146 = .ok (.ireturn, 1) := by decide +kernel
set_option maxHeartbeats 4000000 in
set_option maxRecDepth 100000 in
theorem lp_Mo_undo1 (G : GT) (Q : Option Value → HM → Prop) (h0 : HM) (a : Nat) (ha : a < 10) (σ : Nat → Value) (m s1 s2 s3 s4 k0 k1 k2 k3 k4 : Nat) (S1 S2 S3 S4 K0 K1 K2 K3 K4 : Nat → Int) (f5 : σ 5 = .ref s1) (f6 : σ 6 = .ref s2) (f7 : σ 7 = .ref s3) (f8 : σ 8 = .ref s4) (f11 : σ 11 = .ref k0) (f12 : σ 12 = .ref k1) (f13 : σ 13 = .ref k2) (f14 : σ 14 = .ref k3) (f15 : σ 15 = .ref k4) (n_s : s1 ≠ s2) (n_k : k1 ≠ k2) (kk : ∀ h, h m = some (.inr (11, fsN 34 σ)) → h s1 = some (.inl (G_j G, 16, .inr (.inl (lA (va_cpy K1 S1 (16 * a) 0 16))))) → h s2 = some (.inl (G_j G, 16, .inr (.inl (lA (va_cpy K2 S2 (16 * a) 0 16))))) → h s3 = some (.inl (G_i G, 16, .inl (iA (va_cpy K3 S3 (16 * a) 0 16)))) → h s4 = some (.inl (G_i G, 1024, .inl (iA S4))) → h k0 = some (.inl (G_i G, 10, .inl (iA K0))) → h k1 = some (.inl (G_j G, 160, .inr (.inl (lA K1)))) → h k2 = some (.inl (G_j G, 160, .inr (.inl (lA K2)))) → h k3 = some (.inl (G_i G, 160, .inl (iA K3))) → h k4 = some (.inl (G_i G, 10240, .inl (iA K4))) → Fm [m, s1, s2, s3, s4] h0 h → Ev G M_Mo_undo (rm 0 0) Q 112 [(0, .ref m), (1, .int (iZ (a : Int))), (2, .int (iZ ((16 : Nat) : Int)))] [] h 0 0) : ∀ (d : Nat) (i : Nat) (h : HM), i + d = 16 → h m = some (.inr (11, fsN 34 σ)) → h s1 = some (.inl (G_j G, 16, .inr (.inl (lA (va_cpy K1 S1 (16 * a) 0 i))))) → h s2 = some (.inl (G_j G, 16, .inr (.inl (lA (va_cpy K2 S2 (16 * a) 0 i))))) → h s3 = some (.inl (G_i G, 16, .inl (iA (va_cpy K3 S3 (16 * a) 0 i)))) → h s4 = some (.inl (G_i G, 1024, .inl (iA S4))) → h k0 = some (.inl (G_i G, 10, .inl (iA K0))) → h k1 = some (.inl (G_j G, 160, .inr (.inl (lA K1)))) → h k2 = some (.inl (G_j G, 160, .inr (.inl (lA K2)))) → h k3 = some (.inl (G_i G, 160, .inl (iA K3))) → h k4 = some (.inl (G_i G, 10240, .inl (iA K4))) → Fm [m, s1, s2, s3, s4] h0 h → Ev G M_Mo_undo (rm 0 0) (Q) 49 [(0, .ref m), (1, .int (iZ (a : Int))), (2, .int (iZ (i : Int)))] [] h 0 0 := by
  intro d
  induction d using Nat.strongRecOn with
  | ind d ih =>
  intro i h hd hm hs1 hs2 hs3 hs4 hk0 hk1 hk2 hk3 hk4 fm
  refine ev_iload_n d_Mo_undo_49 rfl rfl ?_
  refine ev_bipush (v := iZ 16) d_Mo_undo_50 rfl ?_
  refine ez_icmp_ge (tgt := 112) (by omega) (by decide) d_Mo_undo_52 rfl (fun c52 => ?_) (fun c52 => ?_)
  · obtain rfl : i = 16 := by omega
    exact kk h hm hs1 hs2 hs3 hs4 hk0 hk1 hk2 hk3 hk4 fm
  · refine ev_aload_n d_Mo_undo_55 rfl rfl ?_
    refine ev_getF d_Mo_undo_56 fl_Mo_20 hm (by decide) f5 ?_
    refine ev_iload_n d_Mo_undo_59 rfl rfl ?_
    refine ev_aload_n d_Mo_undo_60 rfl rfl ?_
    refine ev_getF d_Mo_undo_61 fl_Mo_36 hm (by decide) f12 ?_
    refine ev_bipush (v := iZ 16) d_Mo_undo_64 rfl ?_
    refine ev_iload_n d_Mo_undo_66 rfl rfl ?_
    refine ez_imul d_Mo_undo_67 ?_
    refine ev_iload_n d_Mo_undo_68 rfl rfl ?_
    refine ez_iadd d_Mo_undo_69 ?_
    refine ez_laload ((16 * a) + i) d_Mo_undo_70 hk1 (by omega) (by omega) (by decide) ?_
    refine ez_lastore (F' := zup (va_cpy K1 S1 (16 * a) 0 i) i (K1 ((16 * a) + i))) i d_Mo_undo_71 hs1 (by omega) (by omega) (by decide) rfl (fun h1 h1a h1o => ?_)
    have hm := (h1o _ (cne hm hs1 (by simp))).trans hm
    have hs2 := (h1o _ (Ne.symm n_s)).trans hs2
    have hs3 := (h1o _ (cne hs3 hs1 (by simp))).trans hs3
    have hs4 := (h1o _ (cne hs4 hs1 (by simp))).trans hs4
    have hk0 := (h1o _ (cne hk0 hs1 (by simp))).trans hk0
    have hk1 := (h1o _ (cne hk1 hs1 (by simp))).trans hk1
    have hk2 := (h1o _ (cne hk2 hs1 (by simp))).trans hk2
    have hk3 := (h1o _ (cne hk3 hs1 (by simp))).trans hk3
    have hk4 := (h1o _ (cne hk4 hs1 (by simp))).trans hk4
    have hs1 := h1a
    have fm := fm.step (by simp) h1o
    refine ev_aload_n d_Mo_undo_72 rfl rfl ?_
    refine ev_getF d_Mo_undo_73 fl_Mo_24 hm (by decide) f6 ?_
    refine ev_iload_n d_Mo_undo_76 rfl rfl ?_
    refine ev_aload_n d_Mo_undo_77 rfl rfl ?_
    refine ev_getF d_Mo_undo_78 fl_Mo_39 hm (by decide) f13 ?_
    refine ev_bipush (v := iZ 16) d_Mo_undo_81 rfl ?_
    refine ev_iload_n d_Mo_undo_83 rfl rfl ?_
    refine ez_imul d_Mo_undo_84 ?_
    refine ev_iload_n d_Mo_undo_85 rfl rfl ?_
    refine ez_iadd d_Mo_undo_86 ?_
    refine ez_laload ((16 * a) + i) d_Mo_undo_87 hk2 (by omega) (by omega) (by decide) ?_
    refine ez_lastore (F' := zup (va_cpy K2 S2 (16 * a) 0 i) i (K2 ((16 * a) + i))) i d_Mo_undo_88 hs2 (by omega) (by omega) (by decide) rfl (fun h2 h2a h2o => ?_)
    have hm := (h2o _ (cne hm hs2 (by simp))).trans hm
    have hs1 := (h2o _ n_s).trans hs1
    have hs3 := (h2o _ (cne hs3 hs2 (by simp))).trans hs3
    have hs4 := (h2o _ (cne hs4 hs2 (by simp))).trans hs4
    have hk0 := (h2o _ (cne hk0 hs2 (by simp))).trans hk0
    have hk1 := (h2o _ (cne hk1 hs2 (by simp))).trans hk1
    have hk2 := (h2o _ (cne hk2 hs2 (by simp))).trans hk2
    have hk3 := (h2o _ (cne hk3 hs2 (by simp))).trans hk3
    have hk4 := (h2o _ (cne hk4 hs2 (by simp))).trans hk4
    have hs2 := h2a
    have fm := fm.step (by simp) h2o
    refine ev_aload_n d_Mo_undo_89 rfl rfl ?_
    refine ev_getF d_Mo_undo_90 fl_Mo_27 hm (by decide) f7 ?_
    refine ev_iload_n d_Mo_undo_93 rfl rfl ?_
    refine ev_aload_n d_Mo_undo_94 rfl rfl ?_
    refine ev_getF d_Mo_undo_95 fl_Mo_42 hm (by decide) f14 ?_
    refine ev_bipush (v := iZ 16) d_Mo_undo_98 rfl ?_
    refine ev_iload_n d_Mo_undo_100 rfl rfl ?_
    refine ez_imul d_Mo_undo_101 ?_
    refine ev_iload_n d_Mo_undo_102 rfl rfl ?_
    refine ez_iadd d_Mo_undo_103 ?_
    refine ez_iaload ((16 * a) + i) d_Mo_undo_104 hk3 (by omega) (by omega) (by decide) ?_
    refine ez_iastore (F' := zup (va_cpy K3 S3 (16 * a) 0 i) i (K3 ((16 * a) + i))) i d_Mo_undo_105 hs3 (by omega) (by omega) (by decide) rfl (fun h3 h3a h3o => ?_)
    have hm := (h3o _ (cne hm hs3 (by simp))).trans hm
    have hs1 := (h3o _ (cne hs1 hs3 (by simp))).trans hs1
    have hs2 := (h3o _ (cne hs2 hs3 (by simp))).trans hs2
    have hs4 := (h3o _ (cne hs4 hs3 (by simp))).trans hs4
    have hk0 := (h3o _ (cne hk0 hs3 (by simp))).trans hk0
    have hk1 := (h3o _ (cne hk1 hs3 (by simp))).trans hk1
    have hk2 := (h3o _ (cne hk2 hs3 (by simp))).trans hk2
    have hk3 := (h3o _ (cne hk3 hs3 (by simp))).trans hk3
    have hk4 := (h3o _ (cne hk4 hs3 (by simp))).trans hk4
    have hs3 := h3a
    have fm := fm.step (by simp) h3o
    refine ez_iinc (L' := [(0, .ref m), (1, .int (iZ (a : Int))), (2, .int (iZ ((i + 1 : Nat) : Int)))]) d_Mo_undo_106 rfl (by decide) rfl ?_
    refine ev_goto (tgt := 49) d_Mo_undo_109 rfl ?_
    exact ih (d - 1) (by omega) (i + 1) h3 (by omega) hm (by rw [← cpy_up1]; exact hs1) (by rw [← cpy_up1]; exact hs2) (by rw [← cpy_up1]; exact hs3) hs4 hk0 hk1 hk2 hk3 hk4 fm
set_option maxHeartbeats 4000000 in
set_option maxRecDepth 100000 in
theorem lp_Mo_undo2 (G : GT) (Q : Option Value → HM → Prop) (h0 : HM) (a : Nat) (ha : a < 10) (σ : Nat → Value) (m s1 s2 s3 s4 k0 k1 k2 k3 k4 : Nat) (L1 L2 L3 S4 K0 K1 K2 K3 K4 : Nat → Int) (f5 : σ 5 = .ref s1) (f6 : σ 6 = .ref s2) (f7 : σ 7 = .ref s3) (f8 : σ 8 = .ref s4) (f11 : σ 11 = .ref k0) (f12 : σ 12 = .ref k1) (f13 : σ 13 = .ref k2) (f14 : σ 14 = .ref k3) (f15 : σ 15 = .ref k4) (n_s : s1 ≠ s2) (n_k : k1 ≠ k2) (kk : ∀ h, h m = some (.inr (11, fsN 34 σ)) → h s1 = some (.inl (G_j G, 16, .inr (.inl (lA L1)))) → h s2 = some (.inl (G_j G, 16, .inr (.inl (lA L2)))) → h s3 = some (.inl (G_i G, 16, .inl (iA L3))) → h s4 = some (.inl (G_i G, 1024, .inl (iA (va_cpy K4 S4 (1024 * a) 0 1024)))) → h k0 = some (.inl (G_i G, 10, .inl (iA K0))) → h k1 = some (.inl (G_j G, 160, .inr (.inl (lA K1)))) → h k2 = some (.inl (G_j G, 160, .inr (.inl (lA K2)))) → h k3 = some (.inl (G_i G, 160, .inl (iA K3))) → h k4 = some (.inl (G_i G, 10240, .inl (iA K4))) → Fm [m, s1, s2, s3, s4] h0 h → Ev G M_Mo_undo (rm 0 0) Q 145 [(0, .ref m), (1, .int (iZ (a : Int))), (2, .int (iZ ((1024 : Nat) : Int)))] [] h 0 0) : ∀ (d : Nat) (i : Nat) (h : HM), i + d = 1024 → h m = some (.inr (11, fsN 34 σ)) → h s1 = some (.inl (G_j G, 16, .inr (.inl (lA L1)))) → h s2 = some (.inl (G_j G, 16, .inr (.inl (lA L2)))) → h s3 = some (.inl (G_i G, 16, .inl (iA L3))) → h s4 = some (.inl (G_i G, 1024, .inl (iA (va_cpy K4 S4 (1024 * a) 0 i)))) → h k0 = some (.inl (G_i G, 10, .inl (iA K0))) → h k1 = some (.inl (G_j G, 160, .inr (.inl (lA K1)))) → h k2 = some (.inl (G_j G, 160, .inr (.inl (lA K2)))) → h k3 = some (.inl (G_i G, 160, .inl (iA K3))) → h k4 = some (.inl (G_i G, 10240, .inl (iA K4))) → Fm [m, s1, s2, s3, s4] h0 h → Ev G M_Mo_undo (rm 0 0) (Q) 114 [(0, .ref m), (1, .int (iZ (a : Int))), (2, .int (iZ (i : Int)))] [] h 0 0 := by
  intro d
  induction d using Nat.strongRecOn with
  | ind d ih =>
  intro i h hd hm hs1 hs2 hs3 hs4 hk0 hk1 hk2 hk3 hk4 fm
  refine ev_iload_n d_Mo_undo_114 rfl rfl ?_
  refine ev_sipush (v := iZ 1024) d_Mo_undo_115 rfl ?_
  refine ez_icmp_ge (tgt := 145) (by omega) (by decide) d_Mo_undo_118 rfl (fun c118 => ?_) (fun c118 => ?_)
  · obtain rfl : i = 1024 := by omega
    exact kk h hm hs1 hs2 hs3 hs4 hk0 hk1 hk2 hk3 hk4 fm
  · refine ev_aload_n d_Mo_undo_121 rfl rfl ?_
    refine ev_getF d_Mo_undo_122 fl_Mo_30 hm (by decide) f8 ?_
    refine ev_iload_n d_Mo_undo_125 rfl rfl ?_
    refine ev_aload_n d_Mo_undo_126 rfl rfl ?_
    refine ev_getF d_Mo_undo_127 fl_Mo_45 hm (by decide) f15 ?_
    refine ev_sipush (v := iZ 1024) d_Mo_undo_130 rfl ?_
    refine ev_iload_n d_Mo_undo_133 rfl rfl ?_
    refine ez_imul d_Mo_undo_134 ?_
    refine ev_iload_n d_Mo_undo_135 rfl rfl ?_
    refine ez_iadd d_Mo_undo_136 ?_
    refine ez_iaload ((1024 * a) + i) d_Mo_undo_137 hk4 (by omega) (by omega) (by decide) ?_
    refine ez_iastore (F' := zup (va_cpy K4 S4 (1024 * a) 0 i) i (K4 ((1024 * a) + i))) i d_Mo_undo_138 hs4 (by omega) (by omega) (by decide) rfl (fun h1 h1a h1o => ?_)
    have hm := (h1o _ (cne hm hs4 (by simp))).trans hm
    have hs1 := (h1o _ (cne hs1 hs4 (by simp))).trans hs1
    have hs2 := (h1o _ (cne hs2 hs4 (by simp))).trans hs2
    have hs3 := (h1o _ (cne hs3 hs4 (by simp))).trans hs3
    have hk0 := (h1o _ (cne hk0 hs4 (by simp))).trans hk0
    have hk1 := (h1o _ (cne hk1 hs4 (by simp))).trans hk1
    have hk2 := (h1o _ (cne hk2 hs4 (by simp))).trans hk2
    have hk3 := (h1o _ (cne hk3 hs4 (by simp))).trans hk3
    have hk4 := (h1o _ (cne hk4 hs4 (by simp))).trans hk4
    have hs4 := h1a
    have fm := fm.step (by simp) h1o
    refine ez_iinc (L' := [(0, .ref m), (1, .int (iZ (a : Int))), (2, .int (iZ ((i + 1 : Nat) : Int)))]) d_Mo_undo_139 rfl (by decide) rfl ?_
    refine ev_goto (tgt := 114) d_Mo_undo_142 rfl ?_
    exact ih (d - 1) (by omega) (i + 1) h1 (by omega) hm hs1 hs2 hs3 (by rw [← cpy_up1]; exact hs4) hk0 hk1 hk2 hk3 hk4 fm
set_option maxHeartbeats 4000000 in
set_option maxRecDepth 100000 in
theorem c_Mo_undo (G : GT) (h : HM) (σ : Nat → Value) (m s1 s2 s3 s4 k0 k1 k2 k3 k4 : Nat) (S1 S2 S3 S4 K0 K1 K2 K3 K4 : Nat → Int) (n : Int) (c bk : Nat) (hm : h m = some (.inr (11, fsN 34 σ))) (f4 : σ 4 = .int (iZ n)) (f5 : σ 5 = .ref s1) (f6 : σ 6 = .ref s2) (f7 : σ 7 = .ref s3) (f8 : σ 8 = .ref s4) (f11 : σ 11 = .ref k0) (f12 : σ 12 = .ref k1) (f13 : σ 13 = .ref k2) (f14 : σ 14 = .ref k3) (f15 : σ 15 = .ref k4) (f9 : σ 9 = .int (iZ ((c + 1 : Nat) : Int))) (f10 : σ 10 = .int (iZ ((bk + 1 : Nat) : Int))) (hs1 : h s1 = some (.inl (G_j G, 16, .inr (.inl (lA S1))))) (hs2 : h s2 = some (.inl (G_j G, 16, .inr (.inl (lA S2))))) (hs3 : h s3 = some (.inl (G_i G, 16, .inl (iA S3)))) (hs4 : h s4 = some (.inl (G_i G, 1024, .inl (iA S4)))) (hk0 : h k0 = some (.inl (G_i G, 10, .inl (iA K0)))) (hk1 : h k1 = some (.inl (G_j G, 160, .inr (.inl (lA K1))))) (hk2 : h k2 = some (.inl (G_j G, 160, .inr (.inl (lA K2))))) (hk3 : h k3 = some (.inl (G_i G, 160, .inl (iA K3)))) (hk4 : h k4 = some (.inl (G_i G, 10240, .inl (iA K4)))) (hc : c ≤ 1000) (hbk : bk ≤ 10) (n_s : s1 ≠ s2) (n_k : k1 ≠ k2) : Rn G M_Mo_undo (rm 0 0) [.ref m] h (fun r h' => r = some (.int (iZ 1)) ∧ (∃ σ', h' m = some (.inr (11, fsN 34 σ')) ∧ σ' 4 = .int (iZ (K0 (c % 10))) ∧ σ' 9 = .int (iZ (c : Int)) ∧ σ' 10 = .int (iZ (bk : Int)) ∧ Fs [4, 9, 10] σ σ') ∧ h' s1 = some (.inl (G_j G, 16, .inr (.inl (lA (va_cpy K1 S1 (16 * (c % 10)) 0 16))))) ∧ h' s2 = some (.inl (G_j G, 16, .inr (.inl (lA (va_cpy K2 S2 (16 * (c % 10)) 0 16))))) ∧ h' s3 = some (.inl (G_i G, 16, .inl (iA (va_cpy K3 S3 (16 * (c % 10)) 0 16)))) ∧ h' s4 = some (.inl (G_i G, 1024, .inl (iA (va_cpy K4 S4 (1024 * (c % 10)) 0 1024)))) ∧ Fm [m, s1, s2, s3, s4] h h') := by
  refine rn_of (by decide) (Nat.le_of_ble_eq_true rfl) ?_
  show Ev G M_Mo_undo _ _ 0 [(0, .ref m)] [] _ 0 0
  have fm : Fm [m, s1, s2, s3, s4] h h := Fm.rf
  have fs : Fs [4, 9, 10] σ σ := Fs.rf
  refine ev_aload_n d_Mo_undo_0 rfl rfl ?_
  refine ev_getF d_Mo_undo_1 fl_Mo_104 hm (by decide) f10 ?_
  refine ez_if_ne (tgt := 9) (by omega) d_Mo_undo_4 rfl (fun c4 => ?_) (fun c4 => absurd c4 (by omega))
  refine ev_aload_n d_Mo_undo_9 rfl rfl ?_
  refine ev_dup d_Mo_undo_10 rfl ?_
  refine ev_getF d_Mo_undo_11 fl_Mo_104 hm (by decide) f10 ?_
  refine ev_iconst (v := iZ 1) d_Mo_undo_14 rfl ?_
  refine ez_isub d_Mo_undo_15 ?_
  rw [show (((bk + 1 : Nat) : Int) - 1 : Int) = (bk : Int) from by omega]
  refine ev_putF2 d_Mo_undo_16 fw_Mo_104 (Or.inr (fun _ _ _ q => by cases q; rfl)) hm (by decide) rfl rfl (fun h1 σ2 h1a σ2j σ2o h1o => ?_)
  have f4 := (σ2o 4 (by decide)).trans f4
  have f5 := (σ2o 5 (by decide)).trans f5
  have f6 := (σ2o 6 (by decide)).trans f6
  have f7 := (σ2o 7 (by decide)).trans f7
  have f8 := (σ2o 8 (by decide)).trans f8
  have f9 := (σ2o 9 (by decide)).trans f9
  have f11 := (σ2o 11 (by decide)).trans f11
  have f12 := (σ2o 12 (by decide)).trans f12
  have f13 := (σ2o 13 (by decide)).trans f13
  have f14 := (σ2o 14 (by decide)).trans f14
  have f15 := (σ2o 15 (by decide)).trans f15
  have f10 := σ2j
  have fs := fs.step (by simp) σ2o
  have hs1 := (h1o _ (cne hs1 hm (by simp))).trans hs1
  have hs2 := (h1o _ (cne hs2 hm (by simp))).trans hs2
  have hs3 := (h1o _ (cne hs3 hm (by simp))).trans hs3
  have hs4 := (h1o _ (cne hs4 hm (by simp))).trans hs4
  have hk0 := (h1o _ (cne hk0 hm (by simp))).trans hk0
  have hk1 := (h1o _ (cne hk1 hm (by simp))).trans hk1
  have hk2 := (h1o _ (cne hk2 hm (by simp))).trans hk2
  have hk3 := (h1o _ (cne hk3 hm (by simp))).trans hk3
  have hk4 := (h1o _ (cne hk4 hm (by simp))).trans hk4
  have hm := h1a
  have fm := fm.step (by simp) h1o
  refine ev_aload_n d_Mo_undo_19 rfl rfl ?_
  refine ev_dup d_Mo_undo_20 rfl ?_
  refine ev_getF d_Mo_undo_21 fl_Mo_101 hm (by decide) f9 ?_
  refine ev_iconst (v := iZ 1) d_Mo_undo_24 rfl ?_
  refine ez_isub d_Mo_undo_25 ?_
  rw [show (((c + 1 : Nat) : Int) - 1 : Int) = (c : Int) from by omega]
  refine ev_putF2 d_Mo_undo_26 fw_Mo_101 (Or.inr (fun _ _ _ q => by cases q; rfl)) hm (by decide) rfl rfl (fun h3 σ4 h3a σ4j σ4o h3o => ?_)
  have f4 := (σ4o 4 (by decide)).trans f4
  have f5 := (σ4o 5 (by decide)).trans f5
  have f6 := (σ4o 6 (by decide)).trans f6
  have f7 := (σ4o 7 (by decide)).trans f7
  have f8 := (σ4o 8 (by decide)).trans f8
  have f10 := (σ4o 10 (by decide)).trans f10
  have f11 := (σ4o 11 (by decide)).trans f11
  have f12 := (σ4o 12 (by decide)).trans f12
  have f13 := (σ4o 13 (by decide)).trans f13
  have f14 := (σ4o 14 (by decide)).trans f14
  have f15 := (σ4o 15 (by decide)).trans f15
  have f9 := σ4j
  have fs := fs.step (by simp) σ4o
  have hs1 := (h3o _ (cne hs1 hm (by simp))).trans hs1
  have hs2 := (h3o _ (cne hs2 hm (by simp))).trans hs2
  have hs3 := (h3o _ (cne hs3 hm (by simp))).trans hs3
  have hs4 := (h3o _ (cne hs4 hm (by simp))).trans hs4
  have hk0 := (h3o _ (cne hk0 hm (by simp))).trans hk0
  have hk1 := (h3o _ (cne hk1 hm (by simp))).trans hk1
  have hk2 := (h3o _ (cne hk2 hm (by simp))).trans hk2
  have hk3 := (h3o _ (cne hk3 hm (by simp))).trans hk3
  have hk4 := (h3o _ (cne hk4 hm (by simp))).trans hk4
  have hm := h3a
  have fm := fm.step (by simp) h3o
  refine ev_aload_n d_Mo_undo_29 rfl rfl ?_
  refine ev_getF d_Mo_undo_30 fl_Mo_101 hm (by decide) f9 ?_
  refine ev_bipush (v := iZ 10) d_Mo_undo_33 rfl ?_
  refine ez_irem (by omega) (by omega) (by omega) (by omega) d_Mo_undo_35 ?_
  rw [show ((c : Int) % 10 : Int) = ((c % 10 : Nat) : Int) from by omega]
  refine ev_istore_n (L' := [(0, .ref m), (1, .int (iZ ((c % 10 : Nat) : Int)))]) d_Mo_undo_36 rfl (by decide) rfl ?_
  refine ev_aload_n d_Mo_undo_37 rfl rfl ?_
  refine ev_aload_n d_Mo_undo_38 rfl rfl ?_
  refine ev_getF d_Mo_undo_39 fl_Mo_33 hm (by decide) f11 ?_
  refine ev_iload_n d_Mo_undo_42 rfl rfl ?_
  refine ez_iaload (c % 10) d_Mo_undo_43 hk0 (by omega) (by omega) (by decide) ?_
  refine ev_putF2 d_Mo_undo_44 fw_Mo_92 (Or.inr (fun _ _ _ q => by cases q; rfl)) hm (by decide) rfl rfl (fun h5 σ6 h5a σ6j σ6o h5o => ?_)
  have f5 := (σ6o 5 (by decide)).trans f5
  have f6 := (σ6o 6 (by decide)).trans f6
  have f7 := (σ6o 7 (by decide)).trans f7
  have f8 := (σ6o 8 (by decide)).trans f8
  have f9 := (σ6o 9 (by decide)).trans f9
  have f10 := (σ6o 10 (by decide)).trans f10
  have f11 := (σ6o 11 (by decide)).trans f11
  have f12 := (σ6o 12 (by decide)).trans f12
  have f13 := (σ6o 13 (by decide)).trans f13
  have f14 := (σ6o 14 (by decide)).trans f14
  have f15 := (σ6o 15 (by decide)).trans f15
  have f4 := σ6j
  have fs := fs.step (by simp) σ6o
  have hs1 := (h5o _ (cne hs1 hm (by simp))).trans hs1
  have hs2 := (h5o _ (cne hs2 hm (by simp))).trans hs2
  have hs3 := (h5o _ (cne hs3 hm (by simp))).trans hs3
  have hs4 := (h5o _ (cne hs4 hm (by simp))).trans hs4
  have hk0 := (h5o _ (cne hk0 hm (by simp))).trans hk0
  have hk1 := (h5o _ (cne hk1 hm (by simp))).trans hk1
  have hk2 := (h5o _ (cne hk2 hm (by simp))).trans hk2
  have hk3 := (h5o _ (cne hk3 hm (by simp))).trans hk3
  have hk4 := (h5o _ (cne hk4 hm (by simp))).trans hk4
  have hm := h5a
  have fm := fm.step (by simp) h5o
  refine ev_iconst (v := iZ 0) d_Mo_undo_47 rfl ?_
  refine ev_istore_n (L' := [(0, .ref m), (1, .int (iZ ((c % 10 : Nat) : Int))), (2, .int (iZ 0))]) d_Mo_undo_48 rfl (by decide) rfl ?_
  refine lp_Mo_undo1 G _ h (c % 10) (by omega) σ6 m s1 s2 s3 s4 k0 k1 k2 k3 k4 S1 S2 S3 S4 K0 K1 K2 K3 K4 f5 f6 f7 f8 f11 f12 f13 f14 f15 n_s n_k ?_ 16 0 h5 (by omega) hm (by rw [cpy_z]; exact hs1) (by rw [cpy_z]; exact hs2) (by rw [cpy_z]; exact hs3) hs4 hk0 hk1 hk2 hk3 hk4 fm
  intro h5 hm hs1 hs2 hs3 hs4 hk0 hk1 hk2 hk3 hk4 fm
  refine ev_iconst (v := iZ 0) d_Mo_undo_112 rfl ?_
  refine ev_istore_n (L' := [(0, .ref m), (1, .int (iZ ((c % 10 : Nat) : Int))), (2, .int (iZ 0))]) d_Mo_undo_113 rfl (by decide) rfl ?_
  refine lp_Mo_undo2 G _ h (c % 10) (by omega) σ6 m s1 s2 s3 s4 k0 k1 k2 k3 k4 _ _ _ S4 K0 K1 K2 K3 K4 f5 f6 f7 f8 f11 f12 f13 f14 f15 n_s n_k ?_ 1024 0 h5 (by omega) hm hs1 hs2 hs3 (by rw [cpy_z]; exact hs4) hk0 hk1 hk2 hk3 hk4 fm
  intro h6 hm hs1 hs2 hs3 hs4 hk0 hk1 hk2 hk3 hk4 fm
  refine ev_iconst (v := iZ 1) d_Mo_undo_145 rfl ?_
  exact ev_zreturn d_Mo_undo_146 rfl (Or.inr rfl) (by decide) (by decide) ⟨rfl, ⟨σ6, hm, f4, f9, f10, fs⟩, hs1, hs2, hs3, hs4, fm⟩
set_option maxHeartbeats 4000000 in
set_option maxRecDepth 100000 in
theorem c_Mo_undo0 (G : GT) (h : HM) (σ : Nat → Value) (m : Nat) (hm : h m = some (.inr (11, fsN 34 σ))) (f10 : σ 10 = .int (iZ 0)) : Rn G M_Mo_undo (rm 0 0) [.ref m] h (Pu (.int (iZ 0)) h) := by
  refine rn_of (by decide) (Nat.le_of_ble_eq_true rfl) ?_
  show Ev G M_Mo_undo _ _ 0 [(0, .ref m)] [] _ 0 0
  refine ev_aload_n d_Mo_undo_0 rfl rfl ?_
  refine ev_getF d_Mo_undo_1 fl_Mo_104 hm (by decide) f10 ?_
  refine ez_if_ne (tgt := 9) (by decide) d_Mo_undo_4 rfl (fun c4 => absurd c4 (by omega)) (fun c4 => ?_)
  refine ev_iconst (v := iZ 0) d_Mo_undo_7 rfl ?_
  exact ev_zreturn d_Mo_undo_8 rfl (Or.inl rfl) (by decide) (by decide) (⟨rfl, rfl⟩)
set_option maxHeartbeats 4000000 in
set_option maxRecDepth 100000 in
theorem c_CB_undo (G : GT) (h : HM) (x b xf xu xo xp xe xw xl xr : Nat) (pk q q1 q2 q3 q4 o1 o2 o3 o4 : Nat) (Kp : Nat → Option Nat) (n0 : Int) (nx ct n : Nat) (F1 F2 F3 F4 K1 K2 K3 K4 : Nat → Int) (hx : h x = some (.inr (0, [.ref b, .ref xf, .ref xu, .ref xo, .ref xp, .ref xe, .ref xw, .ref xl, .ref xr]))) (hp : h xp = some (.inr (7, [.ref pk, .int (iZ (nx : Int)), .int (iZ (ct : Int))]))) (hpk : h pk = some (.inl (G_q G, 10, .inr (.inr (.inr (.inr Kp)))))) (ho1 : h o1 = some (.inl (G_j G, 16, .inr (.inl (lA F1))))) (ho2 : h o2 = some (.inl (G_j G, 16, .inr (.inl (lA F2))))) (ho3 : h o3 = some (.inl (G_i G, 16, .inl (iA F3)))) (ho4 : h o4 = some (.inl (G_i G, 1024, .inl (iA F4)))) (ho : h xo = some (.inr (2, [.ref o1, .ref o2, .ref o3, .ref o4, .int (iZ n0)]))) (hq : h q = some (.inr (2, [.ref q1, .ref q2, .ref q3, .ref q4, .int (iZ (n : Int))]))) (hq1 : h q1 = some (.inl (G_j G, 16, .inr (.inl (lA K1))))) (hq2 : h q2 = some (.inl (G_j G, 16, .inr (.inl (lA K2))))) (hq3 : h q3 = some (.inl (G_i G, 16, .inl (iA K3)))) (hq4 : h q4 = some (.inl (G_i G, 1024, .inl (iA K4)))) (hnx : nx < 10) (hct : 1 ≤ ct ∧ ct ≤ 10) (hn : n ≤ 16) (hK0 : Kp ((nx + 9) % 10) = some q) (n_o_q : xo ≠ q) (n_o1_o2 : o1 ≠ o2) (n_o1_q1 : o1 ≠ q1) (n_o1_q2 : o1 ≠ q2) (n_o2_q1 : o2 ≠ q1) (n_o2_q2 : o2 ≠ q2) (n_o3_q3 : o3 ≠ q3) (n_o4_q4 : o4 ≠ q4) (n_q1_q2 : q1 ≠ q2) : Rn G M_CB_undo (rm 3 90) [.ref x] h (fun r h' => r = some (.int (iZ 1)) ∧ h' xp = some (.inr (7, [.ref pk, .int (iZ (((nx + 9) % 10 : Nat) : Int)), .int (iZ ((ct - 1 : Nat) : Int))])) ∧ h' xo = some (.inr (2, [.ref o1, .ref o2, .ref o3, .ref o4, .int (iZ (n : Int))])) ∧ h' o1 = some (.inl (G_j G, 16, .inr (.inl (lA (va_cpy K1 F1 0 0 n))))) ∧ h' o2 = some (.inl (G_j G, 16, .inr (.inl (lA (va_cpy K2 F2 0 0 n))))) ∧ h' o3 = some (.inl (G_i G, 16, .inl (iA (va_cpy K3 F3 0 0 n)))) ∧ h' o4 = some (.inl (G_i G, 1024, .inl (iA (va_cpy K4 F4 0 0 (n * 64))))) ∧ Fm [xp, xo, o1, o2, o3, o4] h h') := by
  refine rn_of (by decide) (Nat.le_of_ble_eq_true rfl) ?_
  show Ev G M_CB_undo _ _ 0 [(0, .ref x)] [] _ 0 0
  refine ev_aload_n d_CB_undo_0 rfl rfl ?_
  refine ev_get d_CB_undo_1 fl_CB_40 hx rfl ?_
  refine ev_aload_n d_CB_undo_4 rfl rfl ?_
  refine ev_get d_CB_undo_5 fl_CB_33 hx rfl ?_
  refine ev_callV M_Pa_takeBack (rm 2 61) _ (As := [.ref xo]) (c_Pa_takeBack G h xp pk q q1 q2 q3 q4 xo o1 o2 o3 o4 Kp n0 nx ct n F1 F2 F3 F4 K1 K2 K3 K4 hp hpk ho ho1 ho2 ho3 ho4 hq hq1 hq2 hq3 hq4 hnx hct hn hK0 n_o_q n_o1_o2 n_o1_q1 n_o1_q2 n_o2_q1 n_o2_q2 n_o3_q3 n_o4_q4 n_q1_q2) d_CB_undo_8 mk_Pa_takeBack ml_CB_209 mv_Pa_takeBack hp rfl rfl rfl (Nat.le_of_ble_eq_true rfl) ⟨by decide, by decide⟩ ⟨by decide, by decide⟩ (fun r h2 hz => ?_)
  obtain ⟨rfl, hz⟩ := hz
  exact ev_zreturn d_CB_undo_11 rfl (Or.inr rfl) (by decide) (by decide) (⟨rfl, hz⟩)
