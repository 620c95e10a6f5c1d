theorem d_Mo_shift_0 : decode M_Mo_shift.2.1 0 = .ok (.lload_n 1, 1) := by decide +kernel
theorem d_Mo_shift_1 : decode M_Mo_shift.2.1 1 = .ok (.ldc2_w 273, 3) := by decide +kernel
theorem d_Mo_shift_4 : decode M_Mo_shift.2.1 4 = .ok (.lcmp, 1) := by decide +kernel
theorem d_Mo_shift_5 : decode M_Mo_shift.2.1 5 = .ok (.ifCond .lt 15, 3) := by decide +kernel
theorem d_Mo_shift_8 : decode M_Mo_shift.2.1 8 = .ok (.lload_n 1, 1) := by decide +kernel
theorem d_Mo_shift_9 : decode M_Mo_shift.2.1 9 = .ok (.ldc2_w 171, 3) := by decide +kernel
theorem d_Mo_shift_12 : decode M_Mo_shift.2.1 12 = .ok (.lcmp, 1) := by decide +kernel
theorem d_Mo_shift_13 : decode M_Mo_shift.2.1 13 = .ok (.ifCond .gt 7, 3) := by decide +kernel
theorem d_Mo_shift_16 : decode M_Mo_shift.2.1 16 = .ok (.iconst 1, 1) := by decide +kernel
theorem d_Mo_shift_17 : decode M_Mo_shift.2.1 17 = .ok (.goto 4, 3) := by decide +kernel
theorem d_Mo_shift_20 : decode M_Mo_shift.2.1 20 = .ok (.iconst 0, 1) := by decide +kernel
theorem d_Mo_shift_21 : decode M_Mo_shift.2.1 21 = .ok (.istore_n 3, 1) := by decide +kernel
theorem d_Mo_shift_22 : decode M_Mo_shift.2.1 22 = .ok (.iconst 0, 1) := by decide +kernel
theorem d_Mo_shift_23 : decode M_Mo_shift.2.1 23 = .ok (.istore 4, 2) := by decide +kernel
theorem d_Mo_shift_25 : decode M_Mo_shift.2.1 25 = .ok (.iload 4, 2) := by decide +kernel
theorem d_Mo_shift_27 : decode M_Mo_shift.2.1 27 = .ok (.aload_n 0, 1) := by decide +kernel
theorem d_Mo_shift_28 : decode M_Mo_shift.2.1 28 = .ok (.getfield 92, 3) := by decide +kernel
theorem d_Mo_shift_31 : decode M_Mo_shift.2.1 31 = .ok (.if_icmp .ge 51, 3) := by decide +kernel
theorem d_Mo_shift_34 : decode M_Mo_shift.2.1 34 = .ok (.iload_n 3, 1) := by decide +kernel
theorem d_Mo_shift_35 : decode M_Mo_shift.2.1 35 = .ok (.ifCond .eq 47, 3) := by decide +kernel
theorem d_Mo_shift_38 : decode M_Mo_shift.2.1 38 = .ok (.aload_n 0, 1) := by decide +kernel
theorem d_Mo_shift_39 : decode M_Mo_shift.2.1 39 = .ok (.aload_n 0, 1) := by decide +kernel
theorem d_Mo_shift_40 : decode M_Mo_shift.2.1 40 = .ok (.getfield 20, 3) := by decide +kernel
theorem d_Mo_shift_43 : decode M_Mo_shift.2.1 43 = .ok (.iload 4, 2) := by decide +kernel
theorem d_Mo_shift_45 : decode M_Mo_shift.2.1 45 = .ok (.laload, 1) := by decide +kernel
theorem d_Mo_shift_46 : decode M_Mo_shift.2.1 46 = .ok (.lload_n 1, 1) := by decide +kernel
theorem d_Mo_shift_47 : decode M_Mo_shift.2.1 47 = .ok (.ladd, 1) := by decide +kernel
theorem d_Mo_shift_48 : decode M_Mo_shift.2.1 48 = .ok (.invokevirtual 266, 3) := by decide +kernel
theorem d_Mo_shift_51 : decode M_Mo_shift.2.1 51 = .ok (.ifCond .eq 23, 3) := by decide +kernel
theorem d_Mo_shift_54 : decode M_Mo_shift.2.1 54 = .ok (.aload_n 0, 1) := by decide +kernel
theorem d_Mo_shift_55 : decode M_Mo_shift.2.1 55 = .ok (.aload_n 0, 1) := by decide +kernel
theorem d_Mo_shift_56 : decode M_Mo_shift.2.1 56 = .ok (.getfield 24, 3) := by decide +kernel
theorem d_Mo_shift_59 : decode M_Mo_shift.2.1 59 = .ok (.iload 4, 2) := by decide +kernel
theorem d_Mo_shift_61 : decode M_Mo_shift.2.1 61 = .ok (.laload, 1) := by decide +kernel
theorem d_Mo_shift_62 : decode M_Mo_shift.2.1 62 = .ok (.lload_n 1, 1) := by decide +kernel
theorem d_Mo_shift_63 : decode M_Mo_shift.2.1 63 = .ok (.ladd, 1) := by decide +kernel
theorem d_Mo_shift_64 : decode M_Mo_shift.2.1 64 = .ok (.invokevirtual 266, 3) := by decide +kernel
theorem d_Mo_shift_67 : decode M_Mo_shift.2.1 67 = .ok (.ifCond .eq 7, 3) := by decide +kernel
theorem d_Mo_shift_70 : decode M_Mo_shift.2.1 70 = .ok (.iconst 1, 1) := by decide +kernel
theorem d_Mo_shift_71 : decode M_Mo_shift.2.1 71 = .ok (.goto 4, 3) := by decide +kernel
theorem d_Mo_shift_74 : decode M_Mo_shift.2.1 74 = .ok (.iconst 0, 1) := by decide +kernel
theorem d_Mo_shift_75 : decode M_Mo_shift.2.1 75 = .ok (.istore_n 3, 1) := by decide +kernel
theorem d_Mo_shift_76 : decode M_Mo_shift.2.1 76 = .ok (.iinc 4 1, 3) := by decide +kernel
theorem d_Mo_shift_79 : decode M_Mo_shift.2.1 79 = .ok (.goto (-54), 3) := by decide +kernel
theorem d_Mo_shift_82 : decode M_Mo_shift.2.1 82 = .ok (.iload_n 3, 1) := by decide +kernel
theorem d_Mo_shift_83 : decode M_Mo_shift.2.1 83 = .ok (.ifCond .ne 5, 3) := by decide +kernel
theorem d_Mo_shift_86 : decode M_Mo_shift.2.1 86 = .ok (.iconst 0, 1) := by decide +kernel
theorem d_Mo_shift_87 : decode M_Mo_shift.2.1 87 = .ok (.ireturn, 1) := by decide +kernel
theorem d_Mo_shift_88 : decode M_Mo_shift.2.1 88 = .ok (.aload_n 0, 1) := by decide +kernel
theorem d_Mo_shift_89 : decode M_Mo_shift.2.1 89 = .ok (.invokevirtual 176, 3) := by decide +kernel
theorem d_Mo_shift_92 : decode M_Mo_shift.2.1 92 = .ok (.iconst 0, 1) := by decide +kernel
theorem d_Mo_shift_93 : decode M_Mo_shift.2.1 93 = .ok (.istore 4, 2) := by decide +kernel
theorem d_Mo_shift_95 : decode M_Mo_shift.2.1 95 = .ok (.iload 4, 2) := by decide +kernel
theorem d_Mo_shift_97 : decode M_Mo_shift.2.1 97 = .ok (.aload_n 0, 1) := by decide +kernel
theorem d_Mo_shift_98 : decode M_Mo_shift.2.1 98 = .ok (.getfield 92, 3) := by decide +kernel
theorem d_Mo_shift_101 : decode M_Mo_shift.2.1 101 = .ok (.if_icmp .ge 41, 3) := by decide +kernel
theorem d_Mo_shift_104 : decode M_Mo_shift.2.1 104 = .ok (.aload_n 0, 1) := by decide +kernel
theorem d_Mo_shift_105 : decode M_Mo_shift.2.1 105 = .ok (.getfield 20, 3) := by decide +kernel
theorem d_Mo_shift_108 : decode M_Mo_shift.2.1 108 = .ok (.iload 4, 2) := by decide +kernel
theorem d_Mo_shift_110 : decode M_Mo_shift.2.1 110 = .ok (.aload_n 0, 1) := by decide +kernel
theorem d_Mo_shift_111 : decode M_Mo_shift.2.1 111 = .ok (.getfield 20, 3) := by decide +kernel
theorem d_Mo_shift_114 : decode M_Mo_shift.2.1 114 = .ok (.iload 4, 2) := by decide +kernel
theorem d_Mo_shift_116 : decode M_Mo_shift.2.1 116 = .ok (.laload, 1) := by decide +kernel
theorem d_Mo_shift_117 : decode M_Mo_shift.2.1 117 = .ok (.lload_n 1, 1) := by decide +kernel
theorem d_Mo_shift_118 : decode M_Mo_shift.2.1 118 = .ok (.ladd, 1) := by decide +kernel
theorem d_Mo_shift_119 : decode M_Mo_shift.2.1 119 = .ok (.lastore, 1) := by decide +kernel
theorem d_Mo_shift_120 : decode M_Mo_shift.2.1 120 = .ok (.aload_n 0, 1) := by decide +kernel
theorem d_Mo_shift_121 : decode M_Mo_shift.2.1 121 = .ok (.getfield 24, 3) := by decide +kernel
theorem d_Mo_shift_124 : decode M_Mo_shift.2.1 124 = .ok (.iload 4, 2) := by decide +kernel
theorem d_Mo_shift_126 : decode M_Mo_shift.2.1 126 = .ok (.aload_n 0, 1) := by decide +kernel
theorem d_Mo_shift_127 : decode M_Mo_shift.2.1 127 = .ok (.getfield 24, 3) := by decide +kernel
theorem d_Mo_shift_130 : decode M_Mo_shift.2.1 130 = .ok (.iload 4, 2) := by decide +kernel
theorem d_Mo_shift_132 : decode M_Mo_shift.2.1 132 = .ok (.laload, 1) := by decide +kernel
theorem d_Mo_shift_133 : decode M_Mo_shift.2.1 133 = .ok (.lload_n 1, 1) := by decide +kernel
theorem d_Mo_shift_134 : decode M_Mo_shift.2.1 134 = .ok (.ladd, 1) := by decide +kernel
theorem d_Mo_shift_135 : decode M_Mo_shift.2.1 135 = .ok (.lastore, 1) := by decide +kernel
theorem d_Mo_shift_136 : decode M_Mo_shift.2.1 136 = .ok (.iinc 4 1, 3) := by decide +kernel
theorem d_Mo_shift_139 : decode M_Mo_shift.2.1 139 = .ok (.goto (-44), 3) := by decide +kernel
theorem d_Mo_shift_142 : decode M_Mo_shift.2.1 142 = .ok (.iconst 1, 1) := by decide +kernel
theorem d_Mo_shift_143 : decode M_Mo_shift.2.1 143 = .ok (.ireturn, 1) := by decide +kernel
theorem d_CB_undo_0 : decode M_CB_undo.2.1 0 = .ok (.aload_n 0, 1) := by decide +kernel
theorem d_CB_undo_1 : decode M_CB_undo.2.1 1 = .ok (.getfield 40, 3) := by decide +kernel
theorem d_CB_undo_4 : decode M_CB_undo.2.1 4 = .ok (.aload_n 0, 1) := by decide +kernel
theorem d_CB_undo_5 : decode M_CB_undo.2.1 5 = .ok (.getfield 33, 3) := by decide +kernel
theorem d_CB_undo_8 : decode M_CB_undo.2.1 8 = .ok (.invokevirtual 209, 3) := by decide +kernel
theorem d_CB_undo_11 : decode M_CB_undo.2.1 11 = .ok (.ireturn, 1) := by decide +kernel
theorem timeZ_0 {t : Int} (h : timeZ t = 0) : t < 0 ∨ 2540160000000 < t := by
  unfold timeZ at h
  split at h <;> omega
theorem timeZ_1 {t : Int} (h : timeZ t ≠ 0) : 0 ≤ t ∧ t ≤ 2540160000000 := by
  unfold timeZ at h
  split at h <;> omega
theorem timeZ_r (t : Int) : timeZ t = 0 ∨ timeZ t = 1 := by
  unfold timeZ
  split <;> omega
set_option maxHeartbeats 4000000 in
set_option maxRecDepth 100000 in
theorem lp_Mo_shift1 (G : GT) (Q : Option Value → HM → Prop) (h : HM) (σ : Nat → Value) (m s1 s2 n : Nat) (S1 S2 : Nat → Int) (t : Int) (hm : h m = some (.inr (11, fsN 34 σ))) (f4 : σ 4 = .int (iZ (n : Int))) (f5 : σ 5 = .ref s1) (f6 : σ 6 = .ref s2) (hs1 : h s1 = some (.inl (G_j G, 16, .inr (.inl (lA S1))))) (hs2 : h s2 = some (.inl (G_j G, 16, .inr (.inl (lA S2))))) (hT : ∀ k, 0 ≤ S1 k ∧ S1 k ≤ 2540160000000) (hE : ∀ k, 0 ≤ S2 k ∧ S2 k ≤ 2540160000000) (hn : n ≤ 16) (htl : lR t) (k0_ : ∀ i : Nat, ¬ shOM S1 S2 n t → Ev G M_Mo_shift (rm 1 30) Q 82 [(0, .ref m), (1, .long (lZ t)), (3, .int (iZ 0)), (4, .int (iZ (i : Int)))] [] h 0 0) (kk : ∀ i : Nat, shOM S1 S2 n t → Ev G M_Mo_shift (rm 1 30) Q 82 [(0, .ref m), (1, .long (lZ t)), (3, .int (iZ 1)), (4, .int (iZ (i : Int)))] [] h 0 0) : ∀ (d : Nat) (i : Nat) (g : Int), i + d = n → ((g = 1 ∧ (-2540160000000 ≤ t ∧ t ≤ 2540160000000) ∧ ∀ j, j < i → (0 ≤ S1 j + t ∧ S1 j + t ≤ 2540160000000) ∧ (0 ≤ S2 j + t ∧ S2 j + t ≤ 2540160000000)) ∨ (g = 0 ∧ ¬ shOM S1 S2 n t)) → Ev G M_Mo_shift (rm 1 30) (Q) 25 [(0, .ref m), (1, .long (lZ t)), (3, .int (iZ g)), (4, .int (iZ (i : Int)))] [] h 0 0 := by
  intro d
  induction d using Nat.strongRecOn with
  | ind d ih =>
  intro i g hd hg
  have rb : g = 0 ∨ g = 1 := by rcases hg with q | q; exact Or.inr q.1; exact Or.inl q.1
  have rtt : g = 1 → (-2540160000000 ≤ t ∧ t ≤ 2540160000000) := fun q => by rcases hg with w | w; exact w.2.1; omega
  refine ev_iload d_Mo_shift_25 rfl ?_
  refine ev_aload_n d_Mo_shift_27 rfl rfl ?_
  refine ev_getF d_Mo_shift_28 fl_Mo_92 hm (by decide) f4 ?_
  refine ez_icmp_ge (tgt := 82) (by omega) (by omega) d_Mo_shift_31 rfl (fun c31 => ?_) (fun c31 => ?_)
  · rcases hg with ⟨rfl, h1, h2⟩ | ⟨rfl, h1⟩
    · exact kk i ⟨h1, fun j hj => h2 j (by omega)⟩
    · exact k0_ i h1
  · refine ev_iload_n d_Mo_shift_34 rfl rfl ?_
    refine ez_if_eq (tgt := 82) (by omega) d_Mo_shift_35 rfl (fun c35 => ?_) (fun c35 => ?_)
    · rcases hg with ⟨rfl, h1, h2⟩ | ⟨rfl, h1⟩
      · exact kk i ⟨h1, fun j hj => h2 j (by omega)⟩
      · exact k0_ i h1
    · refine ev_aload_n d_Mo_shift_38 rfl rfl ?_
      refine ev_aload_n d_Mo_shift_39 rfl rfl ?_
      refine ev_getF d_Mo_shift_40 fl_Mo_20 hm (by decide) f5 ?_
      refine ev_iload d_Mo_shift_43 rfl ?_
      refine ez_laload i d_Mo_shift_45 hs1 (by omega) (by omega) (by decide) ?_
      have rt := hT i
      refine ev_lload_n d_Mo_shift_46 rfl rfl ?_
      refine ez_ladd d_Mo_shift_47 ?_
      have tr48 := timeZ_r ((S1 i) + t)
      refine ev_pV M_Mo_isTime 0 0 (As := [.long (lZ ((S1 i) + t))]) (c_Mo_isTime G h m ((S1 i) + t) (by omega)) d_Mo_shift_48 mk_Mo_isTime ml_Mo_266 mv_Mo_isTime hm rfl rfl rfl (Nat.le_of_ble_eq_true rfl) ⟨by decide, by decide⟩ ⟨by decide, by decide⟩ ?_
      refine ez_if_eq (tgt := 74) (by omega) d_Mo_shift_51 rfl (fun c51 => ?_) (fun c51 => ?_)
      · have z51 := timeZ_0 c51
        refine ev_iconst (v := iZ 0) d_Mo_shift_74 rfl ?_
        refine ev_istore_n (L' := [(0, .ref m), (1, .long (lZ t)), (3, .int (iZ 0)), (4, .int (iZ (i : Int)))]) d_Mo_shift_75 rfl (by decide) rfl ?_
        refine ez_iinc (L' := [(0, .ref m), (1, .long (lZ t)), (3, .int (iZ 0)), (4, .int (iZ ((i + 1 : Nat) : Int)))]) d_Mo_shift_76 rfl (by decide) rfl ?_
        refine ev_goto (tgt := 25) d_Mo_shift_79 rfl ?_
        exact ih (d - 1) (by omega) (i + 1) 0 (by omega) (Or.inr ⟨rfl, fun q => absurd (q.2 i (by omega)) (by omega)⟩)
      · have z51 := timeZ_1 c51
        refine ev_aload_n d_Mo_shift_54 rfl rfl ?_
        refine ev_aload_n d_Mo_shift_55 rfl rfl ?_
        refine ev_getF d_Mo_shift_56 fl_Mo_24 hm (by decide) f6 ?_
        refine ev_iload d_Mo_shift_59 rfl ?_
        refine ez_laload i d_Mo_shift_61 hs2 (by omega) (by omega) (by decide) ?_
        have re := hE i
        refine ev_lload_n d_Mo_shift_62 rfl rfl ?_
        refine ez_ladd d_Mo_shift_63 ?_
        have tr64 := timeZ_r ((S2 i) + t)
        refine ev_pV M_Mo_isTime 0 0 (As := [.long (lZ ((S2 i) + t))]) (c_Mo_isTime G h m ((S2 i) + t) (by omega)) d_Mo_shift_64 mk_Mo_isTime ml_Mo_266 mv_Mo_isTime hm rfl rfl rfl (Nat.le_of_ble_eq_true rfl) ⟨by decide, by decide⟩ ⟨by decide, by decide⟩ ?_
        refine ez_if_eq (tgt := 74) (by omega) d_Mo_shift_67 rfl (fun c67 => ?_) (fun c67 => ?_)
        · have z67 := timeZ_0 c67
          refine ev_iconst (v := iZ 0) d_Mo_shift_74 rfl ?_
          refine ev_istore_n (L' := [(0, .ref m), (1, .long (lZ t)), (3, .int (iZ 0)), (4, .int (iZ (i : Int)))]) d_Mo_shift_75 rfl (by decide) rfl ?_
          refine ez_iinc (L' := [(0, .ref m), (1, .long (lZ t)), (3, .int (iZ 0)), (4, .int (iZ ((i + 1 : Nat) : Int)))]) d_Mo_shift_76 rfl (by decide) rfl ?_
          refine ev_goto (tgt := 25) d_Mo_shift_79 rfl ?_
          exact ih (d - 1) (by omega) (i + 1) 0 (by omega) (Or.inr ⟨rfl, fun q => absurd (q.2 i (by omega)) (by omega)⟩)
        · have z67 := timeZ_1 c67
          refine ev_iconst (v := iZ 1) d_Mo_shift_70 rfl ?_
          refine ev_goto (tgt := 75) d_Mo_shift_71 rfl ?_
          refine ev_istore_n (L' := [(0, .ref m), (1, .long (lZ t)), (3, .int (iZ 1)), (4, .int (iZ (i : Int)))]) d_Mo_shift_75 rfl (by decide) rfl ?_
          refine ez_iinc (L' := [(0, .ref m), (1, .long (lZ t)), (3, .int (iZ 1)), (4, .int (iZ ((i + 1 : Nat) : Int)))]) d_Mo_shift_76 rfl (by decide) rfl ?_
          refine ev_goto (tgt := 25) d_Mo_shift_79 rfl ?_
          exact ih (d - 1) (by omega) (i + 1) 1 (by omega) (Or.inl ⟨rfl, by rcases hg with q | q; exact q.2.1; omega, fun j hj => by rcases Nat.lt_succ_iff_lt_or_eq.mp hj with q | rfl; (rcases hg with w | w; exact w.2.2 j q; omega); exact ⟨z51, z67⟩⟩)
set_option maxHeartbeats 4000000 in
set_option maxRecDepth 100000 in
theorem lp_Mo_shift2 (G : GT) (Q : Option Value → HM → Prop) (h0 : HM) (σ : Nat → Value) (m s1 s2 n : Nat) (S1 S2 : Nat → Int) (t : Int) (f4 : σ 4 = .int (iZ (n : Int))) (f5 : σ 5 = .ref s1) (f6 : σ 6 = .ref s2) (n_s : s1 ≠ s2) (hn : n ≤ 16) (kk : ∀ h, h m = some (.inr (11, fsN 34 σ)) → h s1 = some (.inl (G_j G, 16, .inr (.inl (lA (addU S1 t n))))) → h s2 = some (.inl (G_j G, 16, .inr (.inl (lA (addU S2 t n))))) → Fm [s1, s2] h0 h → Ev G M_Mo_shift (rm 1 30) Q 142 [(0, .ref m), (1, .long (lZ t)), (3, .int (iZ 1)), (4, .int (iZ (n : Int)))] [] h 0 0) : ∀ (d : Nat) (i : Nat) (h : HM), i + d = n → h m = some (.inr (11, fsN 34 σ)) → h s1 = some (.inl (G_j G, 16, .inr (.inl (lA (addU S1 t i))))) → h s2 = some (.inl (G_j G, 16, .inr (.inl (lA (addU S2 t i))))) → Fm [s1, s2] h0 h → Ev G M_Mo_shift (rm 1 30) (Q) 95 [(0, .ref m), (1, .long (lZ t)), (3, .int (iZ 1)), (4, .int (iZ (i : Int)))] [] h 0 0 := by
  intro d
  induction d using Nat.strongRecOn with
  | ind d ih =>
  intro i h hd hm hs1 hs2 fm
  refine ev_iload d_Mo_shift_95 rfl ?_
  refine ev_aload_n d_Mo_shift_97 rfl rfl ?_
  refine ev_getF d_Mo_shift_98 fl_Mo_92 hm (by decide) f4 ?_
  refine ez_icmp_ge (tgt := 142) (by omega) (by omega) d_Mo_shift_101 rfl (fun c101 => ?_) (fun c101 => ?_)
  · obtain rfl : i = n := by omega
    exact kk h hm hs1 hs2 fm
  · refine ev_aload_n d_Mo_shift_104 rfl rfl ?_
    refine ev_getF d_Mo_shift_105 fl_Mo_20 hm (by decide) f5 ?_
    refine ev_iload d_Mo_shift_108 rfl ?_
    refine ev_aload_n d_Mo_shift_110 rfl rfl ?_
    refine ev_getF d_Mo_shift_111 fl_Mo_20 hm (by decide) f5 ?_
    refine ev_iload d_Mo_shift_114 rfl ?_
    refine ez_laload i d_Mo_shift_116 hs1 (by omega) (by omega) (by decide) ?_
    refine ev_lload_n d_Mo_shift_117 rfl rfl ?_
    refine ez_ladd d_Mo_shift_118 ?_
    refine ez_lastore (F' := zup (addU S1 t i) i (((addU S1 t i) i) + t)) i d_Mo_shift_119 hs1 (by omega) (by omega) (by decide) rfl (fun h1 h1a h1o => ?_)
    have hm := (h1o _ (cne hm hs1 (by simp))).trans hm
    have hs2 := (h1o _ (Ne.symm n_s)).trans hs2
    have hs1 := h1a
    have fm := fm.step (by simp) h1o
    refine ev_aload_n d_Mo_shift_120 rfl rfl ?_
    refine ev_getF d_Mo_shift_121 fl_Mo_24 hm (by decide) f6 ?_
    refine ev_iload d_Mo_shift_124 rfl ?_
    refine ev_aload_n d_Mo_shift_126 rfl rfl ?_
    refine ev_getF d_Mo_shift_127 fl_Mo_24 hm (by decide) f6 ?_
    refine ev_iload d_Mo_shift_130 rfl ?_
    refine ez_laload i d_Mo_shift_132 hs2 (by omega) (by omega) (by decide) ?_
    refine ev_lload_n d_Mo_shift_133 rfl rfl ?_
    refine ez_ladd d_Mo_shift_134 ?_
    refine ez_lastore (F' := zup (addU S2 t i) i (((addU S2 t i) i) + t)) i d_Mo_shift_135 hs2 (by omega) (by omega) (by decide) rfl (fun h2 h2a h2o => ?_)
    have hm := (h2o _ (cne hm hs2 (by simp))).trans hm
    have hs1 := (h2o _ n_s).trans hs1
    have hs2 := h2a
    have fm := fm.step (by simp) h2o
    refine ez_iinc (L' := [(0, .ref m), (1, .long (lZ t)), (3, .int (iZ 1)), (4, .int (iZ ((i + 1 : Nat) : Int)))]) d_Mo_shift_136 rfl (by decide) rfl ?_
    refine ev_goto (tgt := 95) d_Mo_shift_139 rfl ?_
    exact ih (d - 1) (by omega) (i + 1) h2 (by omega) hm (by rw [← addU_s]; exact hs1) (by rw [← addU_s]; exact hs2) fm
set_option maxHeartbeats 4000000 in
set_option maxRecDepth 100000 in
theorem c_Mo_shift (G : GT) (h : HM) (σ : Nat → Value) (m s1 s2 s3 s4 k0 k1 k2 k3 k4 : Nat) (n c bk : Nat) (S1 S2 S3 S4 K0 K1 K2 K3 K4 : Nat → Int) (t : Int) (hm : h m = some (.inr (11, fsN 34 σ))) (f4 : σ 4 = .int (iZ (n : Int))) (f5 : σ 5 = .ref s1) (f6 : σ 6 = .ref s2) (f7 : σ 7 = .ref s3) (f8 : σ 8 = .ref s4) (f9 : σ 9 = .int (iZ (c : Int))) (f10 : σ 10 = .int (iZ (bk : Int))) (f11 : σ 11 = .ref k0) (f12 : σ 12 = .ref k1) (f13 : σ 13 = .ref k2) (f14 : σ 14 = .ref k3) (f15 : σ 15 = .ref k4) (hs1 : h s1 = some (.inl (G_j G, 16, .inr (.inl (lA S1))))) (hs2 : h s2 = some (.inl (G_j G, 16, .inr (.inl (lA S2))))) (hs3 : h s3 = some (.inl (G_i G, 16, .inl (iA S3)))) (hs4 : h s4 = some (.inl (G_i G, 1024, .inl (iA S4)))) (hk0 : h k0 = some (.inl (G_i G, 10, .inl (iA K0)))) (hk1 : h k1 = some (.inl (G_j G, 160, .inr (.inl (lA K1))))) (hk2 : h k2 = some (.inl (G_j G, 160, .inr (.inl (lA K2))))) (hk3 : h k3 = some (.inl (G_i G, 160, .inl (iA K3)))) (hk4 : h k4 = some (.inl (G_i G, 10240, .inl (iA K4)))) (hT : ∀ k, 0 ≤ S1 k ∧ S1 k ≤ 2540160000000) (hE : ∀ k, 0 ≤ S2 k ∧ S2 k ≤ 2540160000000) (hn : n ≤ 16) (hc : c ≤ 1000) (hbk : bk ≤ 10) (n_s : s1 ≠ s2) (n_k : k1 ≠ k2) (ht : lR t) : Rn G M_Mo_shift (rm 1 30) [.ref m, .long (lZ t)] h (fun r h' => (¬ shOM S1 S2 n t → r = some (.int (iZ 0)) ∧ h' = h) ∧ (shOM S1 S2 n t → r = some (.int (iZ 1)) ∧ (∃ σ', h' m = some (.inr (11, fsN 34 σ')) ∧ σ' 9 = .int (iZ ((c : Int) + 1)) ∧ σ' 10 = .int (iZ ((min (bk + 1) 10 : Nat) : Int)) ∧ Fs [9, 10] σ σ') ∧ h' s1 = some (.inl (G_j G, 16, .inr (.inl (lA (addU S1 t n))))) ∧ h' s2 = some (.inl (G_j G, 16, .inr (.inl (lA (addU S2 t n))))) ∧ h' k0 = some (.inl (G_i G, 10, .inl (iA (zup K0 (c % 10) n)))) ∧ h' k1 = some (.inl (G_j G, 160, .inr (.inl (lA (va_cpy S1 K1 0 (16 * (c % 10)) 16))))) ∧ h' k2 = some (.inl (G_j G, 160, .inr (.inl (lA (va_cpy S2 K2 0 (16 * (c % 10)) 16))))) ∧ h' k3 = some (.inl (G_i G, 160, .inl (iA (va_cpy S3 K3 0 (16 * (c % 10)) 16)))) ∧ h' k4 = some (.inl (G_i G, 10240, .inl (iA (va_cpy S4 K4 0 (1024 * (c % 10)) 1024)))) ∧ Fm [m, s1, s2, k0, k1, k2, k3, k4] h h')) := by
  refine rn_of (by decide) (Nat.le_of_ble_eq_true rfl) ?_
  show Ev G M_Mo_shift _ _ 0 [(0, .ref m), (1, .long (lZ t))] [] _ 0 0
  refine ev_lload_n d_Mo_shift_0 rfl rfl ?_
  refine ev_ldc2 (v := lZ (-2540160000000)) d_Mo_shift_1 kc_Mo_273 ?_
  refine ev_lcmp d_Mo_shift_4 ?_
  refine ez_lif_lt (tgt := 20) (by omega) (by decide) d_Mo_shift_5 rfl (fun c5 => ?_) (fun c5 => ?_)
  · refine ev_iconst (v := iZ 0) d_Mo_shift_20 rfl ?_
    refine ev_istore_n (L' := [(0, .ref m), (1, .long (lZ t)), (3, .int (iZ 0))]) d_Mo_shift_21 rfl (by decide) rfl ?_
    refine ev_iconst (v := iZ 0) d_Mo_shift_22 rfl ?_
    refine ev_istore (L' := [(0, .ref m), (1, .long (lZ t)), (3, .int (iZ 0)), (4, .int (iZ 0))]) d_Mo_shift_23 (by decide) rfl ?_
    refine lp_Mo_shift1 G _ h σ m s1 s2 n S1 S2 t hm f4 f5 f6 hs1 hs2 hT hE hn ht (fun i hno => ?_) (fun i hok => ?_) n 0 0 (by omega) (Or.inr ⟨rfl, fun q => absurd q.1 (by omega)⟩)
    · refine ev_iload_n d_Mo_shift_82 rfl rfl ?_
      refine ez_if_ne (tgt := 88) (by decide) d_Mo_shift_83 rfl (fun c => absurd rfl c) (fun _ => ?_)
      refine ev_iconst (v := iZ 0) d_Mo_shift_86 rfl ?_
      exact ev_zreturn d_Mo_shift_87 rfl (Or.inl rfl) (by decide) (by decide) ⟨fun _ => ⟨rfl, rfl⟩, fun q => absurd q hno⟩
    · refine ev_iload_n d_Mo_shift_82 rfl rfl ?_
      refine ez_if_ne (tgt := 88) (by decide) d_Mo_shift_83 rfl (fun _ => ?_) (fun c => absurd c (by decide))
      refine ev_aload_n d_Mo_shift_88 rfl rfl ?_
      refine ev_callV M_Mo_keep (rm 0 0) _ (As := []) (c_Mo_keep G h σ m s1 s2 s3 s4 k0 k1 k2 k3 k4 n c bk S1 S2 S3 S4 K0 K1 K2 K3 K4 hm f4 f5 f6 f7 f8 f9 f10 f11 f12 f13 f14 f15 hs1 hs2 hs3 hs4 hk0 hk1 hk2 hk3 hk4 hc hbk n_s n_k) d_Mo_shift_89 mk_Mo_keep ml_Mo_176 mv_Mo_keep hm rfl rfl rfl (Nat.le_of_ble_eq_true rfl) ⟨by decide, by decide⟩ ⟨by decide, by decide⟩ (fun r h1 hq => ?_)
      obtain ⟨rfl, ⟨σ', hm', g9, g10, gs⟩, gk0, gk1, gk2, gk3, gk4, fmk⟩ := hq
      have gs1 := (fmk _ (ninc (cne hs1 hm (by simp)) (ninc (cne hs1 hk0 (by simp)) (ninc (cne hs1 hk1 (by simp)) (ninc (cne hs1 hk2 (by simp)) (ninc (cne hs1 hk3 (by simp)) (ninc (cne hs1 hk4 (by simp)) nin0))))))).trans hs1
      have gs2 := (fmk _ (ninc (cne hs2 hm (by simp)) (ninc (cne hs2 hk0 (by simp)) (ninc (cne hs2 hk1 (by simp)) (ninc (cne hs2 hk2 (by simp)) (ninc (cne hs2 hk3 (by simp)) (ninc (cne hs2 hk4 (by simp)) nin0))))))).trans hs2
      refine ev_iconst (v := iZ 0) d_Mo_shift_92 rfl ?_
      refine ev_istore (L' := [(0, .ref m), (1, .long (lZ t)), (3, .int (iZ 1)), (4, .int (iZ 0))]) d_Mo_shift_93 (by decide) rfl ?_
      refine lp_Mo_shift2 G _ h1 σ' m s1 s2 n S1 S2 t ((gs 4 (by decide)).trans f4) ((gs 5 (by decide)).trans f5) ((gs 6 (by decide)).trans f6) n_s hn ?_ n 0 h1 (by omega) hm' (by rw [addU_0]; exact gs1) (by rw [addU_0]; exact gs2) Fm.rf
      intro h2 jm js1 js2 fm
      have jk0 := (fm _ (ninc (cne gk0 gs1 (by simp)) (ninc (cne gk0 gs2 (by simp)) nin0))).trans gk0
      have jk1 := (fm _ (ninc (cne gk1 gs1 (by simp)) (ninc (cne gk1 gs2 (by simp)) nin0))).trans gk1
      have jk2 := (fm _ (ninc (cne gk2 gs1 (by simp)) (ninc (cne gk2 gs2 (by simp)) nin0))).trans gk2
      have jk3 := (fm _ (ninc (cne gk3 gs1 (by simp)) (ninc (cne gk3 gs2 (by simp)) nin0))).trans gk3
      have jk4 := (fm _ (ninc (cne gk4 gs1 (by simp)) (ninc (cne gk4 gs2 (by simp)) nin0))).trans gk4
      refine ev_iconst (v := iZ 1) d_Mo_shift_142 rfl ?_
      exact ev_zreturn d_Mo_shift_143 rfl (Or.inr rfl) (by decide) (by decide) ⟨fun q => absurd hok q, fun _ => ⟨rfl, ⟨σ', jm, g9, g10, gs⟩, js1, js2, jk0, jk1, jk2, jk3, jk4, (Fm.rf.call (by simp) fmk).call (by simp) fm⟩⟩
  · refine ev_lload_n d_Mo_shift_8 rfl rfl ?_
    refine ev_ldc2 (v := lZ 2540160000000) d_Mo_shift_9 kc_Mo_171 ?_
    refine ev_lcmp d_Mo_shift_12 ?_
    refine ez_lif_gt (tgt := 20) (by omega) (by decide) d_Mo_shift_13 rfl (fun c13 => ?_) (fun c13 => ?_)
    · refine ev_iconst (v := iZ 0) d_Mo_shift_20 rfl ?_
      refine ev_istore_n (L' := [(0, .ref m), (1, .long (lZ t)), (3, .int (iZ 0))]) d_Mo_shift_21 rfl (by decide) rfl ?_
      refine ev_iconst (v := iZ 0) d_Mo_shift_22 rfl ?_
      refine ev_istore (L' := [(0, .ref m), (1, .long (lZ t)), (3, .int (iZ 0)), (4, .int (iZ 0))]) d_Mo_shift_23 (by decide) rfl ?_
      refine lp_Mo_shift1 G _ h σ m s1 s2 n S1 S2 t hm f4 f5 f6 hs1 hs2 hT hE hn ht (fun i hno => ?_) (fun i hok => ?_) n 0 0 (by omega) (Or.inr ⟨rfl, fun q => absurd q.1 (by omega)⟩)
      · refine ev_iload_n d_Mo_shift_82 rfl rfl ?_
        refine ez_if_ne (tgt := 88) (by decide) d_Mo_shift_83 rfl (fun c => absurd rfl c) (fun _ => ?_)
        refine ev_iconst (v := iZ 0) d_Mo_shift_86 rfl ?_
        exact ev_zreturn d_Mo_shift_87 rfl (Or.inl rfl) (by decide) (by decide) ⟨fun _ => ⟨rfl, rfl⟩, fun q => absurd q hno⟩
      · refine ev_iload_n d_Mo_shift_82 rfl rfl ?_
        refine ez_if_ne (tgt := 88) (by decide) d_Mo_shift_83 rfl (fun _ => ?_) (fun c => absurd c (by decide))
        refine ev_aload_n d_Mo_shift_88 rfl rfl ?_
        refine ev_callV M_Mo_keep (rm 0 0) _ (As := []) (c_Mo_keep G h σ m s1 s2 s3 s4 k0 k1 k2 k3 k4 n c bk S1 S2 S3 S4 K0 K1 K2 K3 K4 hm f4 f5 f6 f7 f8 f9 f10 f11 f12 f13 f14 f15 hs1 hs2 hs3 hs4 hk0 hk1 hk2 hk3 hk4 hc hbk n_s n_k) d_Mo_shift_89 mk_Mo_keep ml_Mo_176 mv_Mo_keep hm rfl rfl rfl (Nat.le_of_ble_eq_true rfl) ⟨by decide, by decide⟩ ⟨by decide, by decide⟩ (fun r h1 hq => ?_)
        obtain ⟨rfl, ⟨σ', hm', g9, g10, gs⟩, gk0, gk1, gk2, gk3, gk4, fmk⟩ := hq
        have gs1 := (fmk _ (ninc (cne hs1 hm (by simp)) (ninc (cne hs1 hk0 (by simp)) (ninc (cne hs1 hk1 (by simp)) (ninc (cne hs1 hk2 (by simp)) (ninc (cne hs1 hk3 (by simp)) (ninc (cne hs1 hk4 (by simp)) nin0))))))).trans hs1
        have gs2 := (fmk _ (ninc (cne hs2 hm (by simp)) (ninc (cne hs2 hk0 (by simp)) (ninc (cne hs2 hk1 (by simp)) (ninc (cne hs2 hk2 (by simp)) (ninc (cne hs2 hk3 (by simp)) (ninc (cne hs2 hk4 (by simp)) nin0))))))).trans hs2
        refine ev_iconst (v := iZ 0) d_Mo_shift_92 rfl ?_
        refine ev_istore (L' := [(0, .ref m), (1, .long (lZ t)), (3, .int (iZ 1)), (4, .int (iZ 0))]) d_Mo_shift_93 (by decide) rfl ?_
        refine lp_Mo_shift2 G _ h1 σ' m s1 s2 n S1 S2 t ((gs 4 (by decide)).trans f4) ((gs 5 (by decide)).trans f5) ((gs 6 (by decide)).trans f6) n_s hn ?_ n 0 h1 (by omega) hm' (by rw [addU_0]; exact gs1) (by rw [addU_0]; exact gs2) Fm.rf
        intro h2 jm js1 js2 fm
        have jk0 := (fm _ (ninc (cne gk0 gs1 (by simp)) (ninc (cne gk0 gs2 (by simp)) nin0))).trans gk0
        have jk1 := (fm _ (ninc (cne gk1 gs1 (by simp)) (ninc (cne gk1 gs2 (by simp)) nin0))).trans gk1
        have jk2 := (fm _ (ninc (cne gk2 gs1 (by simp)) (ninc (cne gk2 gs2 (by simp)) nin0))).trans gk2
        have jk3 := (fm _ (ninc (cne gk3 gs1 (by simp)) (ninc (cne gk3 gs2 (by simp)) nin0))).trans gk3
        have jk4 := (fm _ (ninc (cne gk4 gs1 (by simp)) (ninc (cne gk4 gs2 (by simp)) nin0))).trans gk4
        refine ev_iconst (v := iZ 1) d_Mo_shift_142 rfl ?_
        exact ev_zreturn d_Mo_shift_143 rfl (Or.inr rfl) (by decide) (by decide) ⟨fun q => absurd hok q, fun _ => ⟨rfl, ⟨σ', jm, g9, g10, gs⟩, js1, js2, jk0, jk1, jk2, jk3, jk4, (Fm.rf.call (by simp) fmk).call (by simp) fm⟩⟩
    · refine ev_iconst (v := iZ 1) d_Mo_shift_16 rfl ?_
      refine ev_goto (tgt := 21) d_Mo_shift_17 rfl ?_
      refine ev_istore_n (L' := [(0, .ref m), (1, .long (lZ t)), (3, .int (iZ 1))]) d_Mo_shift_21 rfl (by decide) rfl ?_
      refine ev_iconst (v := iZ 0) d_Mo_shift_22 rfl ?_
      refine ev_istore (L' := [(0, .ref m), (1, .long (lZ t)), (3, .int (iZ 1)), (4, .int (iZ 0))]) d_Mo_shift_23 (by decide) rfl ?_
      refine lp_Mo_shift1 G _ h σ m s1 s2 n S1 S2 t hm f4 f5 f6 hs1 hs2 hT hE hn ht (fun i hno => ?_) (fun i hok => ?_) n 0 1 (by omega) (Or.inl ⟨rfl, by omega, fun j hj => absurd hj (by omega)⟩)
      · refine ev_iload_n d_Mo_shift_82 rfl rfl ?_
        refine ez_if_ne (tgt := 88) (by decide) d_Mo_shift_83 rfl (fun c => absurd rfl c) (fun _ => ?_)
        refine ev_iconst (v := iZ 0) d_Mo_shift_86 rfl ?_
        exact ev_zreturn d_Mo_shift_87 rfl (Or.inl rfl) (by decide) (by decide) ⟨fun _ => ⟨rfl, rfl⟩, fun q => absurd q hno⟩
      · refine ev_iload_n d_Mo_shift_82 rfl rfl ?_
        refine ez_if_ne (tgt := 88) (by decide) d_Mo_shift_83 rfl (fun _ => ?_) (fun c => absurd c (by decide))
        refine ev_aload_n d_Mo_shift_88 rfl rfl ?_
        refine ev_callV M_Mo_keep (rm 0 0) _ (As := []) (c_Mo_keep G h σ m s1 s2 s3 s4 k0 k1 k2 k3 k4 n c bk S1 S2 S3 S4 K0 K1 K2 K3 K4 hm f4 f5 f6 f7 f8 f9 f10 f11 f12 f13 f14 f15 hs1 hs2 hs3 hs4 hk0 hk1 hk2 hk3 hk4 hc hbk n_s n_k) d_Mo_shift_89 mk_Mo_keep ml_Mo_176 mv_Mo_keep hm rfl rfl rfl (Nat.le_of_ble_eq_true rfl) ⟨by decide, by decide⟩ ⟨by decide, by decide⟩ (fun r h1 hq => ?_)
        obtain ⟨rfl, ⟨σ', hm', g9, g10, gs⟩, gk0, gk1, gk2, gk3, gk4, fmk⟩ := hq
        have gs1 := (fmk _ (ninc (cne hs1 hm (by simp)) (ninc (cne hs1 hk0 (by simp)) (ninc (cne hs1 hk1 (by simp)) (ninc (cne hs1 hk2 (by simp)) (ninc (cne hs1 hk3 (by simp)) (ninc (cne hs1 hk4 (by simp)) nin0))))))).trans hs1
        have gs2 := (fmk _ (ninc (cne hs2 hm (by simp)) (ninc (cne hs2 hk0 (by simp)) (ninc (cne hs2 hk1 (by simp)) (ninc (cne hs2 hk2 (by simp)) (ninc (cne hs2 hk3 (by simp)) (ninc (cne hs2 hk4 (by simp)) nin0))))))).trans hs2
        refine ev_iconst (v := iZ 0) d_Mo_shift_92 rfl ?_
        refine ev_istore (L' := [(0, .ref m), (1, .long (lZ t)), (3, .int (iZ 1)), (4, .int (iZ 0))]) d_Mo_shift_93 (by decide) rfl ?_
        refine lp_Mo_shift2 G _ h1 σ' m s1 s2 n S1 S2 t ((gs 4 (by decide)).trans f4) ((gs 5 (by decide)).trans f5) ((gs 6 (by decide)).trans f6) n_s hn ?_ n 0 h1 (by omega) hm' (by rw [addU_0]; exact gs1) (by rw [addU_0]; exact gs2) Fm.rf
        intro h2 jm js1 js2 fm
        have jk0 := (fm _ (ninc (cne gk0 gs1 (by simp)) (ninc (cne gk0 gs2 (by simp)) nin0))).trans gk0
        have jk1 := (fm _ (ninc (cne gk1 gs1 (by simp)) (ninc (cne gk1 gs2 (by simp)) nin0))).trans gk1
        have jk2 := (fm _ (ninc (cne gk2 gs1 (by simp)) (ninc (cne gk2 gs2 (by simp)) nin0))).trans gk2
        have jk3 := (fm _ (ninc (cne gk3 gs1 (by simp)) (ninc (cne gk3 gs2 (by simp)) nin0))).trans gk3
        have jk4 := (fm _ (ninc (cne gk4 gs1 (by simp)) (ninc (cne gk4 gs2 (by simp)) nin0))).trans gk4
        refine ev_iconst (v := iZ 1) d_Mo_shift_142 rfl ?_
        exact ev_zreturn d_Mo_shift_143 rfl (Or.inr rfl) (by decide) (by decide) ⟨fun q => absurd hok q, fun _ => ⟨rfl, ⟨σ', jm, g9, g10, gs⟩, js1, js2, jk0, jk1, jk2, jk3, jk4, (Fm.rf.call (by simp) fmk).call (by simp) fm⟩⟩
set_option maxHeartbeats 4000000 in
set_option maxRecDepth 100000 in
theorem c_CB_undo0 (G : GT) (h : HM) (x b xf xu xo xp xe xw xl xr : Nat) (pk : Nat) (Kp : Nat → Option Nat) (nx : Nat) (hx : h x = some (.inr (0, [.ref b, .ref xf, .ref xu, .ref xo, .ref xp, .ref xe, .ref xw, .ref xl, .ref xr]))) (hp : h xp = some (.inr (7, [.ref pk, .int (iZ (nx : Int)), .int (iZ 0)]))) (hpk : h pk = some (.inl (G_q G, 10, .inr (.inr (.inr (.inr Kp)))))) (hnx : nx < 10) : Rn G M_CB_undo (rm 1 40) [.ref x] h (Pu (.int (iZ 0)) h) := by
  refine rn_of (by decide) (Nat.le_of_ble_eq_true rfl) ?_
  show Ev G M_CB_undo _ _ 0 [(0, .ref x)] [] _ 0 0
  refine ev_aload_n d_CB_undo_0 rfl rfl ?_
  refine ev_get d_CB_undo_1 fl_CB_40 hx rfl ?_
  refine ev_aload_n d_CB_undo_4 rfl rfl ?_
  refine ev_get d_CB_undo_5 fl_CB_33 hx rfl ?_
  refine ev_pV M_Pa_takeBack 0 0 (As := [.ref xo]) (c_Pa_takeBack0 G h xp pk xo Kp nx hp hpk hnx) d_CB_undo_8 mk_Pa_takeBack ml_CB_209 mv_Pa_takeBack hp rfl rfl rfl (Nat.le_of_ble_eq_true rfl) ⟨by decide, by decide⟩ ⟨by decide, by decide⟩ ?_
  exact ev_zreturn d_CB_undo_11 rfl (Or.inl rfl) (by decide) (by decide) (⟨rfl, rfl⟩)
