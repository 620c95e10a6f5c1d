theorem d_CB_shift_0 : decode M_CB_shift.2.1 0 = .ok (.lload_n 1, 1) := by decide +kernel
theorem d_CB_shift_1 : decode M_CB_shift.2.1 1 = .ok (.ldc2_w 196, 3) := by decide +kernel
theorem d_CB_shift_4 : decode M_CB_shift.2.1 4 = .ok (.lcmp, 1) := by decide +kernel
theorem d_CB_shift_5 : decode M_CB_shift.2.1 5 = .ok (.ifCond .lt 11, 3) := by decide +kernel
theorem d_CB_shift_8 : decode M_CB_shift.2.1 8 = .ok (.lload_n 1, 1) := by decide +kernel
theorem d_CB_shift_9 : decode M_CB_shift.2.1 9 = .ok (.ldc2_w 194, 3) := by decide +kernel
theorem d_CB_shift_12 : decode M_CB_shift.2.1 12 = .ok (.lcmp, 1) := by decide +kernel
theorem d_CB_shift_13 : decode M_CB_shift.2.1 13 = .ok (.ifCond .le 5, 3) := by decide +kernel
theorem d_CB_shift_16 : decode M_CB_shift.2.1 16 = .ok (.iconst 0, 1) := by decide +kernel
theorem d_CB_shift_17 : decode M_CB_shift.2.1 17 = .ok (.ireturn, 1) := by decide +kernel
theorem d_CB_shift_18 : decode M_CB_shift.2.1 18 = .ok (.iconst 0, 1) := by decide +kernel
theorem d_CB_shift_19 : decode M_CB_shift.2.1 19 = .ok (.istore_n 3, 1) := by decide +kernel
theorem d_CB_shift_20 : decode M_CB_shift.2.1 20 = .ok (.iload_n 3, 1) := by decide +kernel
theorem d_CB_shift_21 : decode M_CB_shift.2.1 21 = .ok (.aload_n 0, 1) := by decide +kernel
theorem d_CB_shift_22 : decode M_CB_shift.2.1 22 = .ok (.getfield 33, 3) := by decide +kernel
theorem d_CB_shift_25 : decode M_CB_shift.2.1 25 = .ok (.getfield 112, 3) := by decide +kernel
theorem d_CB_shift_28 : decode M_CB_shift.2.1 28 = .ok (.if_icmp .ge 45, 3) := by decide +kernel
theorem d_CB_shift_31 : decode M_CB_shift.2.1 31 = .ok (.aload_n 0, 1) := by decide +kernel
theorem d_CB_shift_32 : decode M_CB_shift.2.1 32 = .ok (.getfield 33, 3) := by decide +kernel
theorem d_CB_shift_35 : decode M_CB_shift.2.1 35 = .ok (.getfield 126, 3) := by decide +kernel
theorem d_CB_shift_38 : decode M_CB_shift.2.1 38 = .ok (.iload_n 3, 1) := by decide +kernel
theorem d_CB_shift_39 : decode M_CB_shift.2.1 39 = .ok (.laload, 1) := by decide +kernel
theorem d_CB_shift_40 : decode M_CB_shift.2.1 40 = .ok (.lload_n 1, 1) := by decide +kernel
theorem d_CB_shift_41 : decode M_CB_shift.2.1 41 = .ok (.ladd, 1) := by decide +kernel
theorem d_CB_shift_42 : decode M_CB_shift.2.1 42 = .ok (.lconst 0, 1) := by decide +kernel
theorem d_CB_shift_43 : decode M_CB_shift.2.1 43 = .ok (.lcmp, 1) := by decide +kernel
theorem d_CB_shift_44 : decode M_CB_shift.2.1 44 = .ok (.ifCond .lt 21, 3) := by decide +kernel
theorem d_CB_shift_47 : decode M_CB_shift.2.1 47 = .ok (.aload_n 0, 1) := by decide +kernel
theorem d_CB_shift_48 : decode M_CB_shift.2.1 48 = .ok (.getfield 33, 3) := by decide +kernel
theorem d_CB_shift_51 : decode M_CB_shift.2.1 51 = .ok (.getfield 130, 3) := by decide +kernel
theorem d_CB_shift_54 : decode M_CB_shift.2.1 54 = .ok (.iload_n 3, 1) := by decide +kernel
theorem d_CB_shift_55 : decode M_CB_shift.2.1 55 = .ok (.laload, 1) := by decide +kernel
theorem d_CB_shift_56 : decode M_CB_shift.2.1 56 = .ok (.lload_n 1, 1) := by decide +kernel
theorem d_CB_shift_57 : decode M_CB_shift.2.1 57 = .ok (.ladd, 1) := by decide +kernel
theorem d_CB_shift_58 : decode M_CB_shift.2.1 58 = .ok (.ldc2_w 194, 3) := by decide +kernel
theorem d_CB_shift_61 : decode M_CB_shift.2.1 61 = .ok (.lcmp, 1) := by decide +kernel
theorem d_CB_shift_62 : decode M_CB_shift.2.1 62 = .ok (.ifCond .le 5, 3) := by decide +kernel
theorem d_CB_shift_65 : decode M_CB_shift.2.1 65 = .ok (.iconst 0, 1) := by decide +kernel
theorem d_CB_shift_66 : decode M_CB_shift.2.1 66 = .ok (.ireturn, 1) := by decide +kernel
theorem d_CB_shift_67 : decode M_CB_shift.2.1 67 = .ok (.iinc 3 1, 3) := by decide +kernel
theorem d_CB_shift_70 : decode M_CB_shift.2.1 70 = .ok (.goto (-50), 3) := by decide +kernel
theorem d_CB_shift_73 : decode M_CB_shift.2.1 73 = .ok (.aload_n 0, 1) := by decide +kernel
theorem d_CB_shift_74 : decode M_CB_shift.2.1 74 = .ok (.getfield 40, 3) := by decide +kernel
theorem d_CB_shift_77 : decode M_CB_shift.2.1 77 = .ok (.aload_n 0, 1) := by decide +kernel
theorem d_CB_shift_78 : decode M_CB_shift.2.1 78 = .ok (.getfield 33, 3) := by decide +kernel
theorem d_CB_shift_81 : decode M_CB_shift.2.1 81 = .ok (.invokevirtual 103, 3) := by decide +kernel
theorem d_CB_shift_84 : decode M_CB_shift.2.1 84 = .ok (.iconst 0, 1) := by decide +kernel
theorem d_CB_shift_85 : decode M_CB_shift.2.1 85 = .ok (.istore_n 3, 1) := by decide +kernel
theorem d_CB_shift_86 : decode M_CB_shift.2.1 86 = .ok (.iload_n 3, 1) := by decide +kernel
theorem d_CB_shift_87 : decode M_CB_shift.2.1 87 = .ok (.aload_n 0, 1) := by decide +kernel
theorem d_CB_shift_88 : decode M_CB_shift.2.1 88 = .ok (.getfield 33, 3) := by decide +kernel
theorem d_CB_shift_91 : decode M_CB_shift.2.1 91 = .ok (.getfield 112, 3) := by decide +kernel
theorem d_CB_shift_94 : decode M_CB_shift.2.1 94 = .ok (.if_icmp .ge 35, 3) := by decide +kernel
theorem d_CB_shift_97 : decode M_CB_shift.2.1 97 = .ok (.aload_n 0, 1) := by decide +kernel
theorem d_CB_shift_98 : decode M_CB_shift.2.1 98 = .ok (.getfield 33, 3) := by decide +kernel
theorem d_CB_shift_101 : decode M_CB_shift.2.1 101 = .ok (.getfield 126, 3) := by decide +kernel
theorem d_CB_shift_104 : decode M_CB_shift.2.1 104 = .ok (.iload_n 3, 1) := by decide +kernel
theorem d_CB_shift_105 : decode M_CB_shift.2.1 105 = .ok (.dup2, 1) := by decide +kernel
theorem d_CB_shift_106 : decode M_CB_shift.2.1 106 = .ok (.laload, 1) := by decide +kernel
theorem d_CB_shift_107 : decode M_CB_shift.2.1 107 = .ok (.lload_n 1, 1) := by decide +kernel
theorem d_CB_shift_108 : decode M_CB_shift.2.1 108 = .ok (.ladd, 1) := by decide +kernel
theorem d_CB_shift_109 : decode M_CB_shift.2.1 109 = .ok (.lastore, 1) := by decide +kernel
theorem d_CB_shift_110 : decode M_CB_shift.2.1 110 = .ok (.aload_n 0, 1) := by decide +kernel
theorem d_CB_shift_111 : decode M_CB_shift.2.1 111 = .ok (.getfield 33, 3) := by decide +kernel
theorem d_CB_shift_114 : decode M_CB_shift.2.1 114 = .ok (.getfield 130, 3) := by decide +kernel
theorem d_CB_shift_117 : decode M_CB_shift.2.1 117 = .ok (.iload_n 3, 1) := by decide +kernel
theorem d_CB_shift_118 : decode M_CB_shift.2.1 118 = .ok (.dup2, 1) := by decide +kernel
theorem d_CB_shift_119 : decode M_CB_shift.2.1 119 = .ok (.laload, 1) := by decide +kernel
theorem d_CB_shift_120 : decode M_CB_shift.2.1 120 = .ok (.lload_n 1, 1) := by decide +kernel
theorem d_CB_shift_121 : decode M_CB_shift.2.1 121 = .ok (.ladd, 1) := by decide +kernel
theorem d_CB_shift_122 : decode M_CB_shift.2.1 122 = .ok (.lastore, 1) := by decide +kernel
theorem d_CB_shift_123 : decode M_CB_shift.2.1 123 = .ok (.iinc 3 1, 3) := by decide +kernel
theorem d_CB_shift_126 : decode M_CB_shift.2.1 126 = .ok (.goto (-40), 3) := by decide +kernel
theorem d_CB_shift_129 : decode M_CB_shift.2.1 129 = .ok (.iconst 1, 1) := by decide +kernel
theorem d_CB_shift_130 : decode M_CB_shift.2.1 130 = .ok (.ireturn, 1) := by decide +kernel
def addU (K : Nat → Int) (t : Int) (i : Nat) : Nat → Int := fun k => if k < i then K k + t else K k
theorem addU_0 {K : Nat → Int} {t : Int} : addU K t 0 = K := by
  funext k
  exact if_neg (by omega)
theorem addU_i {K : Nat → Int} {t : Int} {i : Nat} : addU K t i i = K i := if_neg (by omega)
theorem addU_s {K : Nat → Int} {t : Int} {i : Nat} : zup (addU K t i) i (addU K t i i + t) = addU K t (i + 1) := by
  funext k
  show (if k = i then addU K t i i + t else if k < i then K k + t else K k) = if k < i + 1 then K k + t else K k
  rw [addU_i]
  by_cases q : k = i
  · subst q; rw [if_pos rfl, if_pos (by omega)]
  · rw [if_neg q]
    by_cases q2 : k < i
    · rw [if_pos q2, if_pos (by omega)]
    · rw [if_neg q2, if_neg (by omega)]
theorem PaW.mv {G : GT} {h h' : HM} {top p pk nx ct : Nat} {Kp : Nat → Option Nat} {Ke : Nat → Nat} {C : Nat → Cu} (w : PaW G h top p pk nx ct Kp Ke C) (hk : ∀ b e, h b = some e → (top < b ∨ b = p ∨ b = pk) → h' b = some e) : PaW G h' top p pk nx ct Kp Ke C := by
  obtain ⟨w1, w2, w3, w4, w5, w6⟩ := w
  refine ⟨w1, w2, hk _ _ w3 (by simp), hk _ _ w4 (by simp), fun j hj q hq => ?_, w6⟩
  obtain ⟨a, b⟩ := w5 j hj q hq
  exact ⟨a, b.keep (fun b' x hb c1 c2 => hk b' x hb (Or.inl (by omega)))⟩
def shOK (K1 K2 : Nat → Int) (n : Nat) (t : Int) : Prop := (-2540160000000 ≤ t ∧ t ≤ 2540160000000) ∧ ∀ i, i < n → 0 ≤ K1 i + t ∧ K2 i + t ≤ 2540160000000
def shOM (K1 K2 : Nat → Int) (n : Nat) (t : Int) : Prop := (-2540160000000 ≤ t ∧ t ≤ 2540160000000) ∧ ∀ i, i < n → (0 ≤ K1 i + t ∧ K1 i + t ≤ 2540160000000) ∧ (0 ≤ K2 i + t ∧ K2 i + t ≤ 2540160000000)
set_option maxHeartbeats 4000000 in
set_option maxRecDepth 100000 in
theorem lp_CB_shift2 (G : GT) (Q : Option Value → HM → Prop) (h0 : HM) (x b xf xu xo xp xe xw xl xr : Nat) (o1 o2 o3 o4 : Nat) (n : Nat) (K1 K2 : Nat → Int) (t : Int) (n_o : o1 ≠ o2) (hn : n ≤ 16) (kk : ∀ h, h x = some (.inr (0, [.ref b, .ref xf, .ref xu, .ref xo, .ref xp, .ref xe, .ref xw, .ref xl, .ref xr])) → h xo = some (.inr (2, [.ref o1, .ref o2, .ref o3, .ref o4, .int (iZ (n : Int))])) → h o1 = some (.inl (G_j G, 16, .inr (.inl (lA (addU K1 t n))))) → h o2 = some (.inl (G_j G, 16, .inr (.inl (lA (addU K2 t n))))) → Fm [o1, o2] h0 h → Ev G M_CB_shift ({ frames := 3, cells := 5, slots := 1077, locals := 82 }) Q 129 [(0, .ref x), (1, .long (lZ t)), (3, .int (iZ (n : Int)))] [] h 5 1077) : ∀ (d : Nat) (i : Nat) (h : HM), i + d = n → h x = some (.inr (0, [.ref b, .ref xf, .ref xu, .ref xo, .ref xp, .ref xe, .ref xw, .ref xl, .ref xr])) → h xo = some (.inr (2, [.ref o1, .ref o2, .ref o3, .ref o4, .int (iZ (n : Int))])) → h o1 = some (.inl (G_j G, 16, .inr (.inl (lA (addU K1 t i))))) → h o2 = some (.inl (G_j G, 16, .inr (.inl (lA (addU K2 t i))))) → Fm [o1, o2] h0 h → Ev G M_CB_shift ({ frames := 3, cells := 5, slots := 1077, locals := 82 }) (Q) 86 [(0, .ref x), (1, .long (lZ t)), (3, .int (iZ (i : Int)))] [] h 5 1077 := by
  intro d
  induction d using Nat.strongRecOn with
  | ind d ih =>
  intro i h hd hx ho ho1 ho2 fm
  refine ev_iload_n d_CB_shift_86 rfl rfl ?_
  refine ev_aload_n d_CB_shift_87 rfl rfl ?_
  refine ev_get d_CB_shift_88 fl_CB_33 hx rfl ?_
  refine ev_get d_CB_shift_91 fl_CB_112 ho rfl ?_
  refine ez_icmp_ge (tgt := 129) (by omega) (by omega) d_CB_shift_94 rfl (fun c94 => ?_) (fun c94 => ?_)
  · obtain rfl : i = n := by omega
    exact kk h hx ho ho1 ho2 fm
  · refine ev_aload_n d_CB_shift_97 rfl rfl ?_
    refine ev_get d_CB_shift_98 fl_CB_33 hx rfl ?_
    refine ev_get d_CB_shift_101 fl_CB_126 ho rfl ?_
    refine ev_iload_n d_CB_shift_104 rfl rfl ?_
    refine ev_dup2_11 d_CB_shift_105 rfl rfl ?_
    refine ez_laload i d_CB_shift_106 ho1 (by omega) (by omega) (by decide) ?_
    refine ev_lload_n d_CB_shift_107 rfl rfl ?_
    refine ez_ladd d_CB_shift_108 ?_
    refine ez_lastore (F' := zup (addU K1 t i) i (((addU K1 t i) i) + t)) i d_CB_shift_109 ho1 (by omega) (by omega) (by decide) rfl (fun h1 h1a h1o => ?_)
    have hx := (h1o _ (cne hx ho1 (by simp))).trans hx
    have ho := (h1o _ (cne ho ho1 (by simp))).trans ho
    have ho2 := (h1o _ (Ne.symm n_o)).trans ho2
    have ho1 := h1a
    have fm := fm.step (by simp) h1o
    refine ev_aload_n d_CB_shift_110 rfl rfl ?_
    refine ev_get d_CB_shift_111 fl_CB_33 hx rfl ?_
    refine ev_get d_CB_shift_114 fl_CB_130 ho rfl ?_
    refine ev_iload_n d_CB_shift_117 rfl rfl ?_
    refine ev_dup2_11 d_CB_shift_118 rfl rfl ?_
    refine ez_laload i d_CB_shift_119 ho2 (by omega) (by omega) (by decide) ?_
    refine ev_lload_n d_CB_shift_120 rfl rfl ?_
    refine ez_ladd d_CB_shift_121 ?_
    refine ez_lastore (F' := zup (addU K2 t i) i (((addU K2 t i) i) + t)) i d_CB_shift_122 ho2 (by omega) (by omega) (by decide) rfl (fun h2 h2a h2o => ?_)
    have hx := (h2o _ (cne hx ho2 (by simp))).trans hx
    have ho := (h2o _ (cne ho ho2 (by simp))).trans ho
    have ho1 := (h2o _ n_o).trans ho1
    have ho2 := h2a
    have fm := fm.step (by simp) h2o
    refine ez_iinc (L' := [(0, .ref x), (1, .long (lZ t)), (3, .int (iZ ((i + 1 : Nat) : Int)))]) d_CB_shift_123 rfl (by decide) rfl ?_
    refine ev_goto (tgt := 86) d_CB_shift_126 rfl ?_
    exact ih (d - 1) (by omega) (i + 1) h2 (by omega) hx ho (by rw [← addU_s]; exact ho1) (by rw [← addU_s]; exact ho2) fm
set_option maxHeartbeats 4000000 in
set_option maxRecDepth 100000 in
theorem lp_CB_shift1 (G : GT) (Q : Option Value → HM → Prop) (h : HM) (x b xf xu xo xp xe xw xl xr : Nat) (o1 o2 o3 o4 : Nat) (n : Nat) (K1 K2 : Nat → Int) (t : Int) (hx : h x = some (.inr (0, [.ref b, .ref xf, .ref xu, .ref xo, .ref xp, .ref xe, .ref xw, .ref xl, .ref xr]))) (ho : h xo = some (.inr (2, [.ref o1, .ref o2, .ref o3, .ref o4, .int (iZ (n : Int))]))) (ho1 : h o1 = some (.inl (G_j G, 16, .inr (.inl (lA K1))))) (ho2 : h o2 = some (.inl (G_j G, 16, .inr (.inl (lA K2))))) (hT : ∀ k, 0 ≤ K1 k ∧ K1 k ≤ 2540160000000) (hE : ∀ k, 0 ≤ K2 k ∧ K2 k ≤ 2540160000000) (hn : n ≤ 16) (htt : -2540160000000 ≤ t ∧ t ≤ 2540160000000) (kf : ¬ shOK K1 K2 n t → Q (some (.int (iZ 0))) h) (kk : shOK K1 K2 n t → Ev G M_CB_shift ({ frames := 3, cells := 5, slots := 1077, locals := 82 }) Q 73 [(0, .ref x), (1, .long (lZ t)), (3, .int (iZ (n : Int)))] [] h 0 0) : ∀ (d : Nat) (i : Nat), i + d = n → (∀ j, j < i → 0 ≤ K1 j + t ∧ K2 j + t ≤ 2540160000000) → Ev G M_CB_shift ({ frames := 3, cells := 5, slots := 1077, locals := 82 }) (Q) 20 [(0, .ref x), (1, .long (lZ t)), (3, .int (iZ (i : Int)))] [] h 0 0 := by
  intro d
  induction d using Nat.strongRecOn with
  | ind d ih =>
  intro i hd hg
  refine ev_iload_n d_CB_shift_20 rfl rfl ?_
  refine ev_aload_n d_CB_shift_21 rfl rfl ?_
  refine ev_get d_CB_shift_22 fl_CB_33 hx rfl ?_
  refine ev_get d_CB_shift_25 fl_CB_112 ho rfl ?_
  refine ez_icmp_ge (tgt := 73) (by omega) (by omega) d_CB_shift_28 rfl (fun c28 => ?_) (fun c28 => ?_)
  · obtain rfl : i = n := by omega
    exact kk ⟨htt, hg⟩
  · refine ev_aload_n d_CB_shift_31 rfl rfl ?_
    refine ev_get d_CB_shift_32 fl_CB_33 hx rfl ?_
    refine ev_get d_CB_shift_35 fl_CB_126 ho rfl ?_
    refine ev_iload_n d_CB_shift_38 rfl rfl ?_
    refine ez_laload i d_CB_shift_39 ho1 (by omega) (by omega) (by decide) ?_
    have rt := hT i
    refine ev_lload_n d_CB_shift_40 rfl rfl ?_
    refine ez_ladd d_CB_shift_41 ?_
    refine ev_lconst (v := lZ 0) d_CB_shift_42 rfl ?_
    refine ev_lcmp d_CB_shift_43 ?_
    refine ez_lif_lt (tgt := 65) (by omega) (by decide) d_CB_shift_44 rfl (fun c44 => ?_) (fun c44 => ?_)
    · refine ev_iconst (v := iZ 0) d_CB_shift_65 rfl ?_
      exact ev_zreturn d_CB_shift_66 rfl (Or.inl rfl) (by decide) (by decide) (kf (fun q => absurd (q.2 i (by omega)) (by omega)))
    · refine ev_aload_n d_CB_shift_47 rfl rfl ?_
      refine ev_get d_CB_shift_48 fl_CB_33 hx rfl ?_
      refine ev_get d_CB_shift_51 fl_CB_130 ho rfl ?_
      refine ev_iload_n d_CB_shift_54 rfl rfl ?_
      refine ez_laload i d_CB_shift_55 ho2 (by omega) (by omega) (by decide) ?_
      have re := hE i
      refine ev_lload_n d_CB_shift_56 rfl rfl ?_
      refine ez_ladd d_CB_shift_57 ?_
      refine ev_ldc2 (v := lZ 2540160000000) d_CB_shift_58 kc_CB_194 ?_
      refine ev_lcmp d_CB_shift_61 ?_
      refine ez_lif_le (tgt := 67) (by omega) (by decide) d_CB_shift_62 rfl (fun c62 => ?_) (fun c62 => ?_)
      · refine ez_iinc (L' := [(0, .ref x), (1, .long (lZ t)), (3, .int (iZ ((i + 1 : Nat) : Int)))]) d_CB_shift_67 rfl (by decide) rfl ?_
        refine ev_goto (tgt := 20) d_CB_shift_70 rfl ?_
        exact ih (d - 1) (by omega) (i + 1) (by omega) (fun j hj => by rcases Nat.lt_succ_iff_lt_or_eq.mp hj with q | rfl; exact hg j q; exact ⟨by omega, by omega⟩)
      · refine ev_iconst (v := iZ 0) d_CB_shift_65 rfl ?_
        exact ev_zreturn d_CB_shift_66 rfl (Or.inl rfl) (by decide) (by decide) (kf (fun q => absurd (q.2 i (by omega)) (by omega)))
set_option maxHeartbeats 4000000 in
set_option maxRecDepth 100000 in
theorem c_CB_shift (G : GT) (h : HM) (x b xf xu xo xp xe xw xl xr : Nat) (o1 o2 o3 o4 pk top nx ct n : Nat) (Kp : Nat → Option Nat) (Ke : Nat → Nat) (C : Nat → Cu) (K1 K2 K3 K4 : Nat → Int) (t : Int) (hx : h x = some (.inr (0, [.ref b, .ref xf, .ref xu, .ref xo, .ref xp, .ref xe, .ref xw, .ref xl, .ref xr]))) (ho : h xo = some (.inr (2, [.ref o1, .ref o2, .ref o3, .ref o4, .int (iZ (n : Int))]))) (ho1 : h o1 = some (.inl (G_j G, 16, .inr (.inl (lA K1))))) (ho2 : h o2 = some (.inl (G_j G, 16, .inr (.inl (lA K2))))) (ho3 : h o3 = some (.inl (G_i G, 16, .inl (iA K3)))) (ho4 : h o4 = some (.inl (G_i G, 1024, .inl (iA K4)))) (hW : PaW G h top xp pk nx ct Kp Ke C) (hT : ∀ k, 0 ≤ K1 k ∧ K1 k ≤ 2540160000000) (hE : ∀ k, 0 ≤ K2 k ∧ K2 k ≤ 2540160000000) (hn : n ≤ 16) (hxt : x ≤ top) (hle : xp ≤ top ∧ pk ≤ top ∧ xo ≤ top ∧ o1 ≤ top ∧ o2 ≤ top ∧ o3 ≤ top ∧ o4 ≤ top) (htop : ∃ e, h top = some e) (n_o : o1 ≠ o2) (ht : lR t) : Rn G M_CB_shift ({ frames := 3, cells := 5, slots := 1077, locals := 82 }) [.ref x, .long (lZ t)] h (fun r h' => (¬ shOK K1 K2 n t → r = some (.int (iZ 0)) ∧ h' = h) ∧ (shOK K1 K2 n t → r = some (.int (iZ 1)) ∧ h' o1 = some (.inl (G_j G, 16, .inr (.inl (lA (addU K1 t n))))) ∧ h' o2 = some (.inl (G_j G, 16, .inr (.inl (lA (addU K2 t n))))) ∧ (∃ Kp' Ke', PaW G h' top xp pk ((nx + 1) % 10) (min (ct + 1) 10) Kp' Ke' (fun j => if j = nx then (n, K1, K2, K3, K4) else C j) ∧ (∃ q, Kp' nx = some q) ∧ ∀ j, j ≠ nx → Kp' j = Kp j) ∧ Fb top [o1, o2, xp, pk] h h')) := by
  refine rn_of (by decide) (Nat.le_of_ble_eq_true rfl) ?_
  show Ev G M_CB_shift _ _ 0 [(0, .ref x), (1, .long (lZ t))] [] _ 0 0
  refine ev_lload_n d_CB_shift_0 rfl rfl ?_
  refine ev_ldc2 (v := lZ (-2540160000000)) d_CB_shift_1 kc_CB_196 ?_
  refine ev_lcmp d_CB_shift_4 ?_
  refine ez_lif_lt (tgt := 16) (by omega) (by decide) d_CB_shift_5 rfl (fun c5 => ?_) (fun c5 => ?_)
  · refine ev_iconst (v := iZ 0) d_CB_shift_16 rfl ?_
    exact ev_zreturn d_CB_shift_17 rfl (Or.inl rfl) (by decide) (by decide) (⟨fun _ => ⟨rfl, rfl⟩, fun q => absurd q.1 (by omega)⟩)
  · refine ev_lload_n d_CB_shift_8 rfl rfl ?_
    refine ev_ldc2 (v := lZ 2540160000000) d_CB_shift_9 kc_CB_194 ?_
    refine ev_lcmp d_CB_shift_12 ?_
    refine ez_lif_le (tgt := 18) (by omega) (by decide) d_CB_shift_13 rfl (fun c13 => ?_) (fun c13 => ?_)
    · refine ev_iconst (v := iZ 0) d_CB_shift_18 rfl ?_
      refine ev_istore_n (L' := [(0, .ref x), (1, .long (lZ t)), (3, .int (iZ 0))]) d_CB_shift_19 rfl (by decide) rfl ?_
      refine lp_CB_shift1 G _ h x b xf xu xo xp xe xw xl xr o1 o2 o3 o4 n K1 K2 t hx ho ho1 ho2 hT hE hn (by omega) (fun q => ⟨fun _ => ⟨rfl, rfl⟩, fun w => absurd w q⟩) (fun hok => ?_) n 0 (by omega) (fun j hj => absurd hj (by omega))
      refine ev_aload_n d_CB_shift_73 rfl rfl ?_
      refine ev_get d_CB_shift_74 fl_CB_40 hx rfl ?_
      refine ev_aload_n d_CB_shift_77 rfl rfl ?_
      refine ev_get d_CB_shift_78 fl_CB_33 hx rfl ?_
      refine ev_callV M_Pa_keep ({ frames := 2, cells := 5, slots := 1077, locals := 61 }) _ (As := [.ref xo]) (c_Pa_keep G h top xp pk xo o1 o2 o3 o4 nx ct n Kp Ke C K1 K2 K3 K4 hW ho ho1 ho2 ho3 ho4 hn htop hle n_o) d_CB_shift_81 mk_Pa_keep ml_CB_103 mv_Pa_keep hW.2.2.1 rfl rfl rfl (Nat.le_of_ble_eq_true rfl) ⟨by decide, by decide⟩ ⟨by decide, by decide⟩ (fun r h1 hq => ?_)
      obtain ⟨rfl, ⟨Kp', Ke', hW1, hKs, hKo⟩, fb⟩ := hq
      have hx1 := fb _ _ hx (by omega) (ninc (cne hx hW.2.2.1 (by simp)) (ninc (cne hx hW.2.2.2.1 (by simp)) nin0))
      have ho_1 := fb _ _ ho (by omega) (ninc (cne ho hW.2.2.1 (by simp)) (ninc (cne ho hW.2.2.2.1 (by simp)) nin0))
      have ho11 := fb _ _ ho1 (by omega) (ninc (cne ho1 hW.2.2.1 (by simp)) (ninc (cne ho1 hW.2.2.2.1 (by simp)) nin0))
      have ho21 := fb _ _ ho2 (by omega) (ninc (cne ho2 hW.2.2.1 (by simp)) (ninc (cne ho2 hW.2.2.2.1 (by simp)) nin0))
      have ho31 := fb _ _ ho3 (by omega) (ninc (cne ho3 hW.2.2.1 (by simp)) (ninc (cne ho3 hW.2.2.2.1 (by simp)) nin0))
      have ho41 := fb _ _ ho4 (by omega) (ninc (cne ho4 hW.2.2.1 (by simp)) (ninc (cne ho4 hW.2.2.2.1 (by simp)) nin0))
      refine ev_iconst (v := iZ 0) d_CB_shift_84 rfl ?_
      refine ev_istore_n (L' := [(0, .ref x), (1, .long (lZ t)), (3, .int (iZ 0))]) d_CB_shift_85 rfl (by decide) rfl ?_
      refine lp_CB_shift2 G _ h1 x b xf xu xo xp xe xw xl xr o1 o2 o3 o4 n K1 K2 t n_o hn ?_ n 0 h1 (by omega) hx1 ho_1 (by rw [addU_0]; exact ho11) (by rw [addU_0]; exact ho21) Fm.rf
      intro h2 hx ho ho1 ho2 fm
      refine ev_iconst (v := iZ 1) d_CB_shift_129 rfl ?_
      exact ev_zreturn d_CB_shift_130 rfl (Or.inr rfl) (by decide) (by decide) ⟨fun q => absurd hok q, fun _ => ⟨rfl, ho1, ho2, ⟨Kp', Ke', hW1.mv (fun b e hb hc => (fm b (ninc (by have := hW.2.2.1; rcases hc with q | q | q; omega; rw [q]; exact cne hW1.2.2.1 ho11 (by simp); rw [q]; exact cne hW1.2.2.2.1 ho11 (by simp)) (ninc (by rcases hc with q | q | q; omega; rw [q]; exact cne hW1.2.2.1 ho21 (by simp); rw [q]; exact cne hW1.2.2.2.1 ho21 (by simp)) nin0))).trans hb), hKs, hKo⟩, fun b e hb ht hs => (fm b (fun q => hs (by simp at q ⊢; rcases q with q | q <;> simp [q]))).trans (fb b e hb ht (fun q => hs (by simp at q ⊢; rcases q with q | q <;> simp [q])))⟩⟩
    · refine ev_iconst (v := iZ 0) d_CB_shift_16 rfl ?_
      exact ev_zreturn d_CB_shift_17 rfl (Or.inl rfl) (by decide) (by decide) (⟨fun _ => ⟨rfl, rfl⟩, fun q => absurd q.1 (by omega)⟩)
