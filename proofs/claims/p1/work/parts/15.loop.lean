theorem d_Law_law_0 : decode M_Law_law.2.1 0 = .ok (.new 7, 3) := by decide +kernel
theorem d_Law_law_3 : decode M_Law_law.2.1 3 = .ok (.dup, 1) := by decide +kernel
theorem d_Law_law_4 : decode M_Law_law.2.1 4 = .ok (.invokespecial 9, 3) := by decide +kernel
theorem d_Law_law_7 : decode M_Law_law.2.1 7 = .ok (.astore_n 1, 1) := by decide +kernel
theorem d_Law_law_8 : decode M_Law_law.2.1 8 = .ok (.new 10, 3) := by decide +kernel
theorem d_Law_law_11 : decode M_Law_law.2.1 11 = .ok (.dup, 1) := by decide +kernel
theorem d_Law_law_12 : decode M_Law_law.2.1 12 = .ok (.invokespecial 12, 3) := by decide +kernel
theorem d_Law_law_15 : decode M_Law_law.2.1 15 = .ok (.astore_n 2, 1) := by decide +kernel
theorem d_Law_law_16 : decode M_Law_law.2.1 16 = .ok (.iconst 0, 1) := by decide +kernel
theorem d_Law_law_17 : decode M_Law_law.2.1 17 = .ok (.istore_n 3, 1) := by decide +kernel
theorem d_Law_law_18 : decode M_Law_law.2.1 18 = .ok (.iload_n 3, 1) := by decide +kernel
theorem d_Law_law_19 : decode M_Law_law.2.1 19 = .ok (.aload_n 0, 1) := by decide +kernel
theorem d_Law_law_20 : decode M_Law_law.2.1 20 = .ok (.arraylength, 1) := by decide +kernel
theorem d_Law_law_21 : decode M_Law_law.2.1 21 = .ok (.iconst 5, 1) := by decide +kernel
theorem d_Law_law_22 : decode M_Law_law.2.1 22 = .ok (.isub, 1) := by decide +kernel
theorem d_Law_law_23 : decode M_Law_law.2.1 23 = .ok (.if_icmp .gt 665, 3) := by decide +kernel
theorem d_Law_law_26 : decode M_Law_law.2.1 26 = .ok (.aload_n 0, 1) := by decide +kernel
theorem d_Law_law_27 : decode M_Law_law.2.1 27 = .ok (.iload_n 3, 1) := by decide +kernel
theorem d_Law_law_28 : decode M_Law_law.2.1 28 = .ok (.iaload, 1) := by decide +kernel
theorem d_Law_law_29 : decode M_Law_law.2.1 29 = .ok (.bipush 31, 2) := by decide +kernel
theorem d_Law_law_31 : decode M_Law_law.2.1 31 = .ok (.iand, 1) := by decide +kernel
theorem d_Law_law_32 : decode M_Law_law.2.1 32 = .ok (.tableswitch 650 0 18 #[92, 155, 168, 191, 224, 247, 270, 283, 317, 350, 373, 426, 439, 462, 515, 568, 591, 624, 637], 92) := by decide +kernel
theorem d_Law_law_682 : decode M_Law_law.2.1 682 = .ok (.iinc 3 5, 3) := by decide +kernel
theorem d_Law_law_685 : decode M_Law_law.2.1 685 = .ok (.goto (-667), 3) := by decide +kernel
theorem d_Law_law_688 : decode M_Law_law.2.1 688 = .ok (.iconst 1, 1) := by decide +kernel
theorem d_Law_law_689 : decode M_Law_law.2.1 689 = .ok (.ireturn, 1) := by decide +kernel
set_option maxHeartbeats 4000000 in
set_option maxRecDepth 100000 in
theorem law_loop (G : GT) (x m : Nat) (I : Nat → HM → Prop) (hn : G_n G ≤ 2560) (H0 : ∀ i h, 5 * i + 5 ≤ G_n G → I i h → I (i + 1) h) (H : ∀ i h, 5 * i + 5 ≤ G_n G → I i h → Duos G x m h (I (i + 1))) : ∀ (d i : Nat) (h : HM), i + d = 512 → I i h → Ev G M_Law_law room_1 (fun r _ => r = some (.int 1)) 18 [(0, .ref (G_b G)), (1, .ref x), (2, .ref m), (3, .int (iZ ((5 * i : Nat) : Int)))] [] h (49 + 12 * i) (21933 + 2164 * i) := by
  intro d
  induction d using Nat.strongRecOn with
  | ind d ih =>
  intro i h hd hI
  refine ev_iload_n d_Law_law_18 rfl rfl ?_
  refine ev_aload_n d_Law_law_19 rfl rfl ?_
  refine ez_slen d_Law_law_20 ?_
  refine ev_iconst (v := iZ 5) d_Law_law_21 rfl ?_
  refine ez_isub d_Law_law_22 ?_
  refine ez_icmp_gt (tgt := 688) (by omega) (by omega) d_Law_law_23 rfl (fun c23 => ?_) (fun c23 => ?_)
  · refine ev_iconst (v := iZ 1) d_Law_law_688 rfl ?_
    exact ev_zreturn d_Law_law_689 rfl (Or.inr rfl) (by show _ ≤ 600000; omega) (by show _ ≤ 7302250; omega) rfl
  · have hi : 5 * i + 5 ≤ G_n G := by omega
    obtain ⟨d0, d1, d2, d3, d4, d5, d6, d7, d8, d9, d10, d11, d12, d13, d14, d15, d16, d17, d18⟩ := H i h hi hI
    have hk : ∀ h2, I (i + 1) h2 → Ev G M_Law_law room_1 (fun r _ => r = some (.int 1)) 682 [(0, .ref (G_b G)), (1, .ref x), (2, .ref m), (3, .int (iZ ((5 * i : Nat) : Int)))] [] h2 (49 + 12 * i + 12) (21933 + 2164 * i + 2164) := by
      intro h2 h2I
      refine ez_iinc (L' := [(0, .ref (G_b G)), (1, .ref x), (2, .ref m), (3, .int (iZ (((5 * i : Nat) : Int) + 5)))]) d_Law_law_682 rfl (by decide) rfl ?_
      refine ev_goto (tgt := 18) d_Law_law_685 rfl ?_
      have q := ih (d - 1) (by omega) (i + 1) h2 (by omega) h2I
      rw [show ((5 * (i + 1) : Nat) : Int) = ((5 * i : Nat) : Int) + 5 by omega, show 49 + 12 * (i + 1) = 49 + 12 * i + 12 by omega, show 21933 + 2164 * (i + 1) = 21933 + 2164 * i + 2164 by omega] at q
      exact q
    refine ev_aload_n d_Law_law_26 rfl rfl ?_
    refine ev_iload_n d_Law_law_27 rfl rfl ?_
    refine ez_sld (5 * i) d_Law_law_28 rfl (by omega) hn ?_
    refine ev_bipush (v := iZ 31) d_Law_law_29 rfl ?_
    refine ez_iand31 (xs_r G _) d_Law_law_31 ?_
    have hr : 0 ≤ xs G (5 * i) % 32 ∧ xs G (5 * i) % 32 < 32 := by omega
    generalize xs G (5 * i) % 32 = t at hr ⊢
    rcases (show t = 0 ∨ t = 1 ∨ t = 2 ∨ t = 3 ∨ t = 4 ∨ t = 5 ∨ t = 6 ∨ t = 7 ∨ t = 8 ∨ t = 9 ∨ t = 10 ∨ t = 11 ∨ t = 12 ∨ t = 13 ∨ t = 14 ∨ t = 15 ∨ t = 16 ∨ t = 17 ∨ t = 18 ∨ 18 < t by omega) with rfl | rfl | rfl | rfl | rfl | rfl | rfl | rfl | rfl | rfl | rfl | rfl | rfl | rfl | rfl | rfl | rfl | rfl | rfl | ht
    · exact ez_tabIn (tgt := 124) d_Law_law_32 (by decide) (by decide) (by decide) rfl rfl (tu_put G x m i _ _ h _ hn hi (by omega) (by omega) d0 hk)
    · exact ez_tabIn (tgt := 187) d_Law_law_32 (by decide) (by decide) (by decide) rfl rfl (tu_wipe G x m i _ _ h _ hn hi (by omega) (by omega) d1 hk)
    · exact ez_tabIn (tgt := 200) d_Law_law_32 (by decide) (by decide) (by decide) rfl rfl (tu_at G x m i _ _ h _ hn hi (by omega) (by omega) d2 hk)
    · exact ez_tabIn (tgt := 223) d_Law_law_32 (by decide) (by decide) (by decide) rfl rfl (tu_rate G x m i _ _ h _ hn hi (by omega) (by omega) d3 hk)
    · exact ez_tabIn (tgt := 256) d_Law_law_32 (by decide) (by decide) (by decide) rfl rfl (tu_read G x m i _ _ h _ hn hi (by omega) (by omega) d4 hk)
    · exact ez_tabIn (tgt := 279) d_Law_law_32 (by decide) (by decide) (by decide) rfl rfl (tu_write G x m i _ _ h _ hn hi (by omega) (by omega) d5 hk)
    · exact ez_tabIn (tgt := 302) d_Law_law_32 (by decide) (by decide) (by decide) rfl rfl (tu_cues G x m i _ _ h _ hn hi (by omega) (by omega) d6 hk)
    · exact ez_tabIn (tgt := 315) d_Law_law_32 (by decide) (by decide) (by decide) rfl rfl (tu_cue G x m i _ _ h _ hn hi (by omega) (by omega) d7 hk)
    · exact ez_tabIn (tgt := 349) d_Law_law_32 (by decide) (by decide) (by decide) rfl rfl (tu_text G x m i _ _ h _ hn hi (by omega) (by omega) d8 hk)
    · exact ez_tabIn (tgt := 382) d_Law_law_32 (by decide) (by decide) (by decide) rfl rfl (tu_shot G x m i _ _ h _ hn hi (by omega) (by omega) d9 hk)
    · exact ez_tabIn (tgt := 405) d_Law_law_32 (by decide) (by decide) (by decide) rfl rfl (tu_rules G x m i _ _ h _ hn hi (by omega) (by omega) d10 hk)
    · exact ez_tabIn (tgt := 458) d_Law_law_32 (by decide) (by decide) (by decide) rfl rfl (tu_repair G x m i _ _ h _ hn hi (by omega) (by omega) d11 hk)
    · exact ez_tabIn (tgt := 471) d_Law_law_32 (by decide) (by decide) (by decide) rfl rfl (tu_breakLines G x m i _ _ h _ hn hi (by omega) (by omega) d12 hk)
    · exact ez_tabIn (tgt := 494) d_Law_law_32 (by decide) (by decide) (by decide) rfl rfl (tu_twoPoint G x m i _ _ h _ hn hi (by omega) (by omega) d13 hk)
    · exact ez_tabIn (tgt := 547) d_Law_law_32 (by decide) (by decide) (by decide) rfl rfl (tu_shift G x m i _ _ h _ hn hi (by omega) (by omega) d14 hk)
    · exact ez_tabIn (tgt := 600) d_Law_law_32 (by decide) (by decide) (by decide) rfl rfl (tu_merge G x m i _ _ h _ hn hi (by omega) (by omega) d15 hk)
    · exact ez_tabIn (tgt := 623) d_Law_law_32 (by decide) (by decide) (by decide) rfl rfl (tu_split G x m i _ _ h _ hn hi (by omega) (by omega) d16 hk)
    · exact ez_tabIn (tgt := 656) d_Law_law_32 (by decide) (by decide) (by decide) rfl rfl (tu_clash G x m i _ _ h _ hn hi (by omega) (by omega) d17 hk)
    · exact ez_tabIn (tgt := 669) d_Law_law_32 (by decide) (by decide) (by decide) rfl rfl (tu_undo G x m i _ _ h _ hn hi (by omega) (by omega) d18 hk)
    · refine ez_tabOut (tgt := 682) d_Law_law_32 (by omega) (Or.inr ht) rfl ?_
      refine ev_widen (49 + 12 * i + 12) (21933 + 2164 * i + 2164) (by omega) (by omega) ?_
      exact hk h (H0 i h hi hI)
def E0 (G : GT) (A : Nat → Nat) (σ : Nat → Value) : Nat → va_E := fun i => match i with
  | 0 => .inr (0, [.ref (A 1), .ref (A 3), .ref (A 4), .ref (A 6), .ref (A 11), .ref (A 13), .ref (A 20), .ref (A 21), .ref (A 22)])
  | 1 => .inr (1, [.ref (A 2), .int (iZ 0)])
  | 2 => .inl (G_i G, 1000, .inl (iA (fun _ => 0)))
  | 3 => .inr (5, [.int (iZ 25), .int (iZ 1), .long (lZ 28224000)])
  | 4 => .inr (10, [.int (iZ 2), .int (iZ 20), .int (iZ 168), .int (iZ 17), .ref (A 5), .int (iZ 0)])
  | 5 => .inl (G_i G, 20, .inl (iA (fun _ => 0)))
  | 6 => .inr (2, [.ref (A 7), .ref (A 8), .ref (A 9), .ref (A 10), .int (iZ 0)])
  | 7 => .inl (G_j G, 16, .inr (.inl (lA (fun _ => 0))))
  | 8 => .inl (G_j G, 16, .inr (.inl (lA (fun _ => 0))))
  | 9 => .inl (G_i G, 16, .inl (iA (fun _ => 0)))
  | 10 => .inl (G_i G, 1024, .inl (iA (fun _ => 0)))
  | 11 => .inr (7, [.ref (A 12), .int (iZ 0), .int (iZ 0)])
  | 12 => .inl (G_q G, 10, .inr (.inr (.inr (.inr (fun _ => none)))))
  | 13 => .inr (3, [.ref (A 1), .ref (A 3), .ref (A 14), .ref (A 19), .int (iZ 0), .int (iZ 0), .int (iZ 0), .long (lZ 0), .long (lZ 0), .long (lZ 0)])
  | 14 => .inr (2, [.ref (A 15), .ref (A 16), .ref (A 17), .ref (A 18), .int (iZ 0)])
  | 15 => .inl (G_j G, 16, .inr (.inl (lA (fun _ => 0))))
  | 16 => .inl (G_j G, 16, .inr (.inl (lA (fun _ => 0))))
  | 17 => .inl (G_i G, 16, .inl (iA (fun _ => 0)))
  | 18 => .inl (G_i G, 1024, .inl (iA (fun _ => 0)))
  | 19 => .inl (G_i G, 64, .inl (iA (fun _ => 0)))
  | 20 => .inr (4, [.ref (A 1), .ref (A 3), .ref (A 6)])
  | 21 => .inr (6, [.ref (A 6), .int (iZ 0), .int (iZ 0)])
  | 22 => .inr (9, [.ref (A 6), .ref (A 3), .ref (A 4), .ref (A 23), .ref (A 24), .ref (A 25), .ref (A 26), .ref (A 27), .ref (A 28), .ref (A 29)])
  | 23 => .inl (G_i G, 16, .inl (iA (fun _ => 0)))
  | 24 => .inl (G_i G, 16, .inl (iA (fun _ => 0)))
  | 25 => .inl (G_i G, 16, .inl (iA (fun _ => 0)))
  | 26 => .inl (G_i G, 97, .inl (iA (fun _ => 0)))
  | 27 => .inl (G_i G, 400, .inl (iA (fun _ => 0)))
  | 28 => .inl (G_i G, 400, .inl (iA (fun _ => 0)))
  | 29 => .inl (G_i G, 400, .inl (iA (fun _ => 0)))
  | 30 => .inr (11, fsN 34 σ)
  | 31 => .inl (G_i G, 1000, .inl (iA (fun _ => 0)))
  | 32 => .inl (G_j G, 16, .inr (.inl (lA (fun _ => 0))))
  | 33 => .inl (G_j G, 16, .inr (.inl (lA (fun _ => 0))))
  | 34 => .inl (G_i G, 16, .inl (iA (fun _ => 0)))
  | 35 => .inl (G_i G, 1024, .inl (iA (fun _ => 0)))
  | 36 => .inl (G_i G, 10, .inl (iA (fun _ => 0)))
  | 37 => .inl (G_j G, 160, .inr (.inl (lA (fun _ => 0))))
  | 38 => .inl (G_j G, 160, .inr (.inl (lA (fun _ => 0))))
  | 39 => .inl (G_i G, 160, .inl (iA (fun _ => 0)))
  | 40 => .inl (G_i G, 10240, .inl (iA (fun _ => 0)))
  | 41 => .inl (G_j G, 16, .inr (.inl (lA (fun _ => 0))))
  | 42 => .inl (G_j G, 16, .inr (.inl (lA (fun _ => 0))))
  | 43 => .inl (G_i G, 16, .inl (iA (fun _ => 0)))
  | 44 => .inl (G_i G, 1024, .inl (iA (fun _ => 0)))
  | 45 => .inl (G_i G, 20, .inl (iA (fun _ => 0)))
  | 46 => .inl (G_i G, 194, .inl (iA (fun _ => 0)))
  | 47 => .inl (G_i G, 3104, .inl (iA (fun _ => 0)))
  | _ => .inl (G_i G, 65, .inl (iA (fun _ => 0)))
/-- the reference object's fields at the start -/
def Sg0 (A : Nat → Nat) (σ : Nat → Value) : Prop :=
  σ 0 = .int (iZ 0) ∧ σ 1 = .ref (A 31) ∧ σ 2 = .int (iZ 25) ∧ σ 3 = .int (iZ 1) ∧ σ 4 = .int (iZ 0) ∧ σ 5 = .ref (A 32) ∧ σ 6 = .ref (A 33) ∧ σ 7 = .ref (A 34) ∧ σ 8 = .ref (A 35) ∧ σ 9 = .int (iZ 0) ∧ σ 10 = .int (iZ 0) ∧ σ 11 = .ref (A 36) ∧ σ 12 = .ref (A 37) ∧ σ 13 = .ref (A 38) ∧ σ 14 = .ref (A 39) ∧ σ 15 = .ref (A 40) ∧ σ 16 = .int (iZ 0) ∧ σ 17 = .int (iZ 0) ∧ σ 18 = .int (iZ 0) ∧ σ 19 = .ref (A 41) ∧ σ 20 = .ref (A 42) ∧ σ 21 = .ref (A 43) ∧ σ 22 = .ref (A 44) ∧ σ 23 = .int (iZ 0) ∧ σ 24 = .int (iZ 0) ∧ σ 25 = .int (iZ 0) ∧ σ 26 = .ref (A 45) ∧ σ 27 = .int (iZ 2) ∧ σ 28 = .int (iZ 20) ∧ σ 29 = .int (iZ 168) ∧ σ 30 = .int (iZ 17) ∧ σ 31 = .ref (A 46) ∧ σ 32 = .ref (A 47) ∧ σ 33 = .ref (A 48)
/-- the cells at A 0, A 1 .. are E 0, E 1 .. -/
def WC (A : Nat → Nat) (E : Nat → va_E) (h : HM) : Prop := ∀ i, i < 49 → h (A i) = some (E i)
def Mo (A : Nat → Nat) : Prop := ∀ i j, i < j → j < 49 → A i < A j
def Fresh (G : GT) (A : Nat → Nat) (h : HM) : Prop := Mo A ∧ ∃ σ, Sg0 A σ ∧ WC A (E0 G A σ) h
theorem mo_of {A : Nat → Nat} {N : Nat} (h : ∀ i, i + 1 < N → A i < A (i + 1)) : ∀ i j, i < j → j < N → A i < A j := by
  intro i j hij
  induction j with
  | zero => omega
  | succ j ih =>
    intro hj
    by_cases q : i = j
    · subst q; exact h i hj
    · exact Nat.lt_trans (ih (by omega) (by omega)) (h j hj)
theorem Mo.ne {A : Nat → Nat} (h : Mo A) {i j : Nat} (hij : i ≠ j) (hi : i < 49) (hj : j < 49) : A i ≠ A j := by
  rcases Nat.lt_or_gt_of_ne hij with q | q
  · exact Nat.ne_of_lt (h i j q hj)
  · exact Nat.ne_of_gt (h j i q hi)
set_option maxHeartbeats 4000000 in
set_option maxRecDepth 100000 in
theorem law_begin (G : GT) (kk : ∀ (A : Nat → Nat) (h : HM), Fresh G A h → Ev G M_Law_law room_1 (fun r _ => r = some (.int 1)) 18 [(0, .ref (G_b G)), (1, .ref (A 0)), (2, .ref (A 30)), (3, .int (iZ 0))] [] h 49 21933) : Ev G M_Law_law room_1 (fun r _ => r = some (.int 1)) 0 [(0, .ref (G_b G))] [] (fun _ => none) 0 0 := by
  refine ez_new 9 d_Law_law_0 nc_Law_7 rfl (by decide) (by decide) (fun q h1 _ hq0 _ => ?_)
  refine ev_dup d_Law_law_3 rfl ?_
  refine ev_callI M_CB_init ({ frames := 3, cells := 29, slots := 4633, locals := 54 }) _ (As := []) (c_CB_init G h1 q hq0) d_Law_law_4 mk_CB_init ml_Law_9 ⟨rfl, rfl⟩ mi_CB_init rfl rfl (Nat.le_of_ble_eq_true rfl) ⟨by decide, by decide⟩ ⟨by decide, by decide⟩ (fun r h2 hq => ?_)
  obtain ⟨rfl, q1, q1_q1, q4, q7, q7_q5, q10, q10_q1, q10_q4, q10_q7, q10_q10, q13, q13_q1, q16, q16_q1, q16_q1_q1, q16_q1_q4, q16_q1_q7, q16_q1_q10, q16_q4, q19, q22, q25, q25_q1, q25_q4, q25_q7, q25_q10, q25_q13, q25_q16, q25_q19, lo, o_q1_q1, o_q4, o_q7, o_q7_q5, o_q10, o_q10_q1, o_q10_q4, o_q10_q7, o_q10_q10, o_q13, o_q13_q1, o_q16, o_q16_q1, o_q16_q1_q1, o_q16_q1_q4, o_q16_q1_q7, o_q16_q1_q10, o_q16_q4, o_q19, o_q22, o_q25, o_q25_q1, o_q25_q4, o_q25_q7, o_q25_q10, o_q25_q13, o_q25_q16, o_q25_q19, h_q, h_q1, h_q1_q1, h_q4, h_q7, h_q7_q5, h_q10, h_q10_q1, h_q10_q4, h_q10_q7, h_q10_q10, h_q13, h_q13_q1, h_q16, h_q16_q1, h_q16_q1_q1, h_q16_q1_q4, h_q16_q1_q7, h_q16_q1_q10, h_q16_q4, h_q19, h_q22, h_q25, h_q25_q1, h_q25_q4, h_q25_q7, h_q25_q10, h_q25_q13, h_q25_q16, h_q25_q19, _⟩ := hq
  refine ev_astore_n (L' := [(0, .ref (G_b G)), (1, .ref q)]) d_Law_law_7 rfl (by decide) rfl ?_
  refine ez_new 34 d_Law_law_8 nc_Law_10 rfl (by decide) (by decide) (fun m h3 lt3 hm0 h3o => ?_)
  have o_q1 := lo _ _ hq0
  have o_m := lt3 _ _ h_q25_q19
  have h_q := (h3o _ (Nat.ne_of_lt (lt3 _ _ h_q))).trans h_q
  have h_q1 := (h3o _ (Nat.ne_of_lt (lt3 _ _ h_q1))).trans h_q1
  have h_q1_q1 := (h3o _ (Nat.ne_of_lt (lt3 _ _ h_q1_q1))).trans h_q1_q1
  have h_q4 := (h3o _ (Nat.ne_of_lt (lt3 _ _ h_q4))).trans h_q4
  have h_q7 := (h3o _ (Nat.ne_of_lt (lt3 _ _ h_q7))).trans h_q7
  have h_q7_q5 := (h3o _ (Nat.ne_of_lt (lt3 _ _ h_q7_q5))).trans h_q7_q5
  have h_q10 := (h3o _ (Nat.ne_of_lt (lt3 _ _ h_q10))).trans h_q10
  have h_q10_q1 := (h3o _ (Nat.ne_of_lt (lt3 _ _ h_q10_q1))).trans h_q10_q1
  have h_q10_q4 := (h3o _ (Nat.ne_of_lt (lt3 _ _ h_q10_q4))).trans h_q10_q4
  have h_q10_q7 := (h3o _ (Nat.ne_of_lt (lt3 _ _ h_q10_q7))).trans h_q10_q7
  have h_q10_q10 := (h3o _ (Nat.ne_of_lt (lt3 _ _ h_q10_q10))).trans h_q10_q10
  have h_q13 := (h3o _ (Nat.ne_of_lt (lt3 _ _ h_q13))).trans h_q13
  have h_q13_q1 := (h3o _ (Nat.ne_of_lt (lt3 _ _ h_q13_q1))).trans h_q13_q1
  have h_q16 := (h3o _ (Nat.ne_of_lt (lt3 _ _ h_q16))).trans h_q16
  have h_q16_q1 := (h3o _ (Nat.ne_of_lt (lt3 _ _ h_q16_q1))).trans h_q16_q1
  have h_q16_q1_q1 := (h3o _ (Nat.ne_of_lt (lt3 _ _ h_q16_q1_q1))).trans h_q16_q1_q1
  have h_q16_q1_q4 := (h3o _ (Nat.ne_of_lt (lt3 _ _ h_q16_q1_q4))).trans h_q16_q1_q4
  have h_q16_q1_q7 := (h3o _ (Nat.ne_of_lt (lt3 _ _ h_q16_q1_q7))).trans h_q16_q1_q7
  have h_q16_q1_q10 := (h3o _ (Nat.ne_of_lt (lt3 _ _ h_q16_q1_q10))).trans h_q16_q1_q10
  have h_q16_q4 := (h3o _ (Nat.ne_of_lt (lt3 _ _ h_q16_q4))).trans h_q16_q4
  have h_q19 := (h3o _ (Nat.ne_of_lt (lt3 _ _ h_q19))).trans h_q19
  have h_q22 := (h3o _ (Nat.ne_of_lt (lt3 _ _ h_q22))).trans h_q22
  have h_q25 := (h3o _ (Nat.ne_of_lt (lt3 _ _ h_q25))).trans h_q25
  have h_q25_q1 := (h3o _ (Nat.ne_of_lt (lt3 _ _ h_q25_q1))).trans h_q25_q1
  have h_q25_q4 := (h3o _ (Nat.ne_of_lt (lt3 _ _ h_q25_q4))).trans h_q25_q4
  have h_q25_q7 := (h3o _ (Nat.ne_of_lt (lt3 _ _ h_q25_q7))).trans h_q25_q7
  have h_q25_q10 := (h3o _ (Nat.ne_of_lt (lt3 _ _ h_q25_q10))).trans h_q25_q10
  have h_q25_q13 := (h3o _ (Nat.ne_of_lt (lt3 _ _ h_q25_q13))).trans h_q25_q13
  have h_q25_q16 := (h3o _ (Nat.ne_of_lt (lt3 _ _ h_q25_q16))).trans h_q25_q16
  have h_q25_q19 := (h3o _ (Nat.ne_of_lt (lt3 _ _ h_q25_q19))).trans h_q25_q19
  refine ev_dup d_Law_law_11 rfl ?_
  refine ev_callI M_Mo_init ({ frames := 1, cells := 18, slots := 17257, locals := 12 }) _ (As := []) (c_Mo_init G h3 m hm0) d_Law_law_12 mk_Mo_init ml_Law_12 ⟨rfl, rfl⟩ mi_Mo_init rfl rfl (Nat.le_of_ble_eq_true rfl) ⟨by decide, by decide⟩ ⟨by decide, by decide⟩ (fun r h4 hq => ?_)
  obtain ⟨rfl, σ, m_q1, m_q9, m_q13, m_q17, m_q21, m_q25, m_q29, m_q33, m_q37, m_q41, m_q45, m_q49, m_q53, m_q57, m_q61, m_q73, m_q77, m_q81, lom, om_q9, om_q13, om_q17, om_q21, om_q25, om_q29, om_q33, om_q37, om_q41, om_q45, om_q49, om_q53, om_q57, om_q61, om_q73, om_q77, om_q81, hm, f0, f1, f2, f3, f4, f5, f6, f7, f8, f9, f10, f11, f12, f13, f14, f15, f16, f17, f18, f19, f20, f21, f22, f23, f24, f25, f26, f27, f28, f29, f30, f31, f32, f33, hm_q1, hm_q9, hm_q13, hm_q17, hm_q21, hm_q25, hm_q29, hm_q33, hm_q37, hm_q41, hm_q45, hm_q49, hm_q53, hm_q57, hm_q61, hm_q73, hm_q77, hm_q81, fx⟩ := hq
  have om_q1 := lom _ _ hm0
  have h_q := fx _ _ h_q (ninc (by omega) nin0)
  have h_q1 := fx _ _ h_q1 (ninc (by omega) nin0)
  have h_q1_q1 := fx _ _ h_q1_q1 (ninc (by omega) nin0)
  have h_q4 := fx _ _ h_q4 (ninc (by omega) nin0)
  have h_q7 := fx _ _ h_q7 (ninc (by omega) nin0)
  have h_q7_q5 := fx _ _ h_q7_q5 (ninc (by omega) nin0)
  have h_q10 := fx _ _ h_q10 (ninc (by omega) nin0)
  have h_q10_q1 := fx _ _ h_q10_q1 (ninc (by omega) nin0)
  have h_q10_q4 := fx _ _ h_q10_q4 (ninc (by omega) nin0)
  have h_q10_q7 := fx _ _ h_q10_q7 (ninc (by omega) nin0)
  have h_q10_q10 := fx _ _ h_q10_q10 (ninc (by omega) nin0)
  have h_q13 := fx _ _ h_q13 (ninc (by omega) nin0)
  have h_q13_q1 := fx _ _ h_q13_q1 (ninc (by omega) nin0)
  have h_q16 := fx _ _ h_q16 (ninc (by omega) nin0)
  have h_q16_q1 := fx _ _ h_q16_q1 (ninc (by omega) nin0)
  have h_q16_q1_q1 := fx _ _ h_q16_q1_q1 (ninc (by omega) nin0)
  have h_q16_q1_q4 := fx _ _ h_q16_q1_q4 (ninc (by omega) nin0)
  have h_q16_q1_q7 := fx _ _ h_q16_q1_q7 (ninc (by omega) nin0)
  have h_q16_q1_q10 := fx _ _ h_q16_q1_q10 (ninc (by omega) nin0)
  have h_q16_q4 := fx _ _ h_q16_q4 (ninc (by omega) nin0)
  have h_q19 := fx _ _ h_q19 (ninc (by omega) nin0)
  have h_q22 := fx _ _ h_q22 (ninc (by omega) nin0)
  have h_q25 := fx _ _ h_q25 (ninc (by omega) nin0)
  have h_q25_q1 := fx _ _ h_q25_q1 (ninc (by omega) nin0)
  have h_q25_q4 := fx _ _ h_q25_q4 (ninc (by omega) nin0)
  have h_q25_q7 := fx _ _ h_q25_q7 (ninc (by omega) nin0)
  have h_q25_q10 := fx _ _ h_q25_q10 (ninc (by omega) nin0)
  have h_q25_q13 := fx _ _ h_q25_q13 (ninc (by omega) nin0)
  have h_q25_q16 := fx _ _ h_q25_q16 (ninc (by omega) nin0)
  have h_q25_q19 := fx _ _ h_q25_q19 (ninc (by omega) nin0)
  refine ev_astore_n (L' := [(0, .ref (G_b G)), (1, .ref q), (2, .ref m)]) d_Law_law_15 rfl (by decide) rfl ?_
  refine ev_iconst (v := iZ 0) d_Law_law_16 rfl ?_
  refine ev_istore_n (L' := [(0, .ref (G_b G)), (1, .ref q), (2, .ref m), (3, .int (iZ 0))]) d_Law_law_17 rfl (by decide) rfl ?_
  refine ev_widen 49 21933 (by decide) (by decide) ?_
  refine kk (fun i => ([q, q1, q1_q1, q4, q7, q7_q5, q10, q10_q1, q10_q4, q10_q7, q10_q10, q13, q13_q1, q16, q16_q1, q16_q1_q1, q16_q1_q4, q16_q1_q7, q16_q1_q10, q16_q4, q19, q22, q25, q25_q1, q25_q4, q25_q7, q25_q10, q25_q13, q25_q16, q25_q19, m, m_q1, m_q9, m_q13, m_q17, m_q21, m_q25, m_q29, m_q33, m_q37, m_q41, m_q45, m_q49, m_q53, m_q57, m_q61, m_q73, m_q77, m_q81] : List Nat).getD i 0) h4 ⟨mo_of (fun i hi => ?_), σ, ⟨f0, f1, f2, f3, f4, f5, f6, f7, f8, f9, f10, f11, f12, f13, f14, f15, f16, f17, f18, f19, f20, f21, f22, f23, f24, f25, f26, f27, f28, f29, f30, f31, f32, f33⟩, fun i hi => ?_⟩
  · rcases (show i = 0 ∨ i = 1 ∨ i = 2 ∨ i = 3 ∨ i = 4 ∨ i = 5 ∨ i = 6 ∨ i = 7 ∨ i = 8 ∨ i = 9 ∨ i = 10 ∨ i = 11 ∨ i = 12 ∨ i = 13 ∨ i = 14 ∨ i = 15 ∨ i = 16 ∨ i = 17 ∨ i = 18 ∨ i = 19 ∨ i = 20 ∨ i = 21 ∨ i = 22 ∨ i = 23 ∨ i = 24 ∨ i = 25 ∨ i = 26 ∨ i = 27 ∨ i = 28 ∨ i = 29 ∨ i = 30 ∨ i = 31 ∨ i = 32 ∨ i = 33 ∨ i = 34 ∨ i = 35 ∨ i = 36 ∨ i = 37 ∨ i = 38 ∨ i = 39 ∨ i = 40 ∨ i = 41 ∨ i = 42 ∨ i = 43 ∨ i = 44 ∨ i = 45 ∨ i = 46 ∨ i = 47 by omega) with rfl | rfl | rfl | rfl | rfl | rfl | rfl | rfl | rfl | rfl | rfl | rfl | rfl | rfl | rfl | rfl | rfl | rfl | rfl | rfl | rfl | rfl | rfl | rfl | rfl | rfl | rfl | rfl | rfl | rfl | rfl | rfl | rfl | rfl | rfl | rfl | rfl | rfl | rfl | rfl | rfl | rfl | rfl | rfl | rfl | rfl | rfl | rfl
    · exact o_q1
    · exact o_q1_q1
    · exact o_q4
    · exact o_q7
    · exact o_q7_q5
    · exact o_q10
    · exact o_q10_q1
    · exact o_q10_q4
    · exact o_q10_q7
    · exact o_q10_q10
    · exact o_q13
    · exact o_q13_q1
    · exact o_q16
    · exact o_q16_q1
    · exact o_q16_q1_q1
    · exact o_q16_q1_q4
    · exact o_q16_q1_q7
    · exact o_q16_q1_q10
    · exact o_q16_q4
    · exact o_q19
    · exact o_q22
    · exact o_q25
    · exact o_q25_q1
    · exact o_q25_q4
    · exact o_q25_q7
    · exact o_q25_q10
    · exact o_q25_q13
    · exact o_q25_q16
    · exact o_q25_q19
    · exact o_m
    · exact om_q1
    · exact om_q9
    · exact om_q13
    · exact om_q17
    · exact om_q21
    · exact om_q25
    · exact om_q29
    · exact om_q33
    · exact om_q37
    · exact om_q41
    · exact om_q45
    · exact om_q49
    · exact om_q53
    · exact om_q57
    · exact om_q61
    · exact om_q73
    · exact om_q77
    · exact om_q81
  · rcases (show i = 0 ∨ i = 1 ∨ i = 2 ∨ i = 3 ∨ i = 4 ∨ i = 5 ∨ i = 6 ∨ i = 7 ∨ i = 8 ∨ i = 9 ∨ i = 10 ∨ i = 11 ∨ i = 12 ∨ i = 13 ∨ i = 14 ∨ i = 15 ∨ i = 16 ∨ i = 17 ∨ i = 18 ∨ i = 19 ∨ i = 20 ∨ i = 21 ∨ i = 22 ∨ i = 23 ∨ i = 24 ∨ i = 25 ∨ i = 26 ∨ i = 27 ∨ i = 28 ∨ i = 29 ∨ i = 30 ∨ i = 31 ∨ i = 32 ∨ i = 33 ∨ i = 34 ∨ i = 35 ∨ i = 36 ∨ i = 37 ∨ i = 38 ∨ i = 39 ∨ i = 40 ∨ i = 41 ∨ i = 42 ∨ i = 43 ∨ i = 44 ∨ i = 45 ∨ i = 46 ∨ i = 47 ∨ i = 48 by omega) with rfl | rfl | rfl | rfl | rfl | rfl | rfl | rfl | rfl | rfl | rfl | rfl | rfl | rfl | rfl | rfl | rfl | rfl | rfl | rfl | rfl | rfl | rfl | rfl | rfl | rfl | rfl | rfl | rfl | rfl | rfl | rfl | rfl | rfl | rfl | rfl | rfl | rfl | rfl | rfl | rfl | rfl | rfl | rfl | rfl | rfl | rfl | rfl | rfl
    · exact h_q
    · exact h_q1
    · exact h_q1_q1
    · exact h_q4
    · exact h_q7
    · exact h_q7_q5
    · exact h_q10
    · exact h_q10_q1
    · exact h_q10_q4
    · exact h_q10_q7
    · exact h_q10_q10
    · exact h_q13
    · exact h_q13_q1
    · exact h_q16
    · exact h_q16_q1
    · exact h_q16_q1_q1
    · exact h_q16_q1_q4
    · exact h_q16_q1_q7
    · exact h_q16_q1_q10
    · exact h_q16_q4
    · exact h_q19
    · exact h_q22
    · exact h_q25
    · exact h_q25_q1
    · exact h_q25_q4
    · exact h_q25_q7
    · exact h_q25_q10
    · exact h_q25_q13
    · exact h_q25_q16
    · exact h_q25_q19
    · exact hm
    · exact hm_q1
    · exact hm_q9
    · exact hm_q13
    · exact hm_q17
    · exact hm_q21
    · exact hm_q25
    · exact hm_q29
    · exact hm_q33
    · exact hm_q37
    · exact hm_q41
    · exact hm_q45
    · exact hm_q49
    · exact hm_q53
    · exact hm_q57
    · exact hm_q61
    · exact hm_q73
    · exact hm_q77
    · exact hm_q81
set_option maxHeartbeats 4000000 in
set_option maxRecDepth 100000 in
/-- the law, out of an invariant -/
theorem law_ev (G : GT) (I : (Nat → Nat) → Nat → HM → Prop) (hn : G_n G ≤ 2560) (hI : ∀ A h, Fresh G A h → I A 0 h) (H0 : ∀ A i h, 5 * i + 5 ≤ G_n G → I A i h → I A (i + 1) h) (H : ∀ A i h, 5 * i + 5 ≤ G_n G → I A i h → Duos G (A 0) (A 30) h (I A (i + 1))) : Ev G M_Law_law room_1 (fun r _ => r = some (.int 1)) 0 [(0, .ref (G_b G))] [] (fun _ => none) 0 0 :=
  law_begin G (fun A h hF => law_loop G (A 0) (A 30) (I A) hn (H0 A) (H A) 512 0 h rfl (hI A h hF))
