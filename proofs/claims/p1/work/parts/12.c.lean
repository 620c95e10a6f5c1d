theorem d_Bu_init_0 : decode M_Bu_init.2.1 0 = .ok (.aload_n 0, 1) := by decide +kernel
theorem d_Bu_init_1 : decode M_Bu_init.2.1 1 = .ok (.invokespecial 3, 3) := by decide +kernel
theorem d_Bu_init_4 : decode M_Bu_init.2.1 4 = .ok (.aload_n 0, 1) := by decide +kernel
theorem d_Bu_init_5 : decode M_Bu_init.2.1 5 = .ok (.sipush 1000, 3) := by decide +kernel
theorem d_Bu_init_8 : decode M_Bu_init.2.1 8 = .ok (.newarray .int, 2) := by decide +kernel
theorem d_Bu_init_10 : decode M_Bu_init.2.1 10 = .ok (.putfield 9, 3) := by decide +kernel
theorem d_Bu_init_13 : decode M_Bu_init.2.1 13 = .ok (.return_, 1) := by decide +kernel
theorem d_Fr_init_0 : decode M_Fr_init.2.1 0 = .ok (.aload_n 0, 1) := by decide +kernel
theorem d_Fr_init_1 : decode M_Fr_init.2.1 1 = .ok (.invokespecial 3, 3) := by decide +kernel
theorem d_Fr_init_4 : decode M_Fr_init.2.1 4 = .ok (.aload_n 0, 1) := by decide +kernel
theorem d_Fr_init_5 : decode M_Fr_init.2.1 5 = .ok (.bipush 25, 2) := by decide +kernel
theorem d_Fr_init_7 : decode M_Fr_init.2.1 7 = .ok (.putfield 9, 3) := by decide +kernel
theorem d_Fr_init_10 : decode M_Fr_init.2.1 10 = .ok (.aload_n 0, 1) := by decide +kernel
theorem d_Fr_init_11 : decode M_Fr_init.2.1 11 = .ok (.iconst 1, 1) := by decide +kernel
theorem d_Fr_init_12 : decode M_Fr_init.2.1 12 = .ok (.putfield 15, 3) := by decide +kernel
theorem d_Fr_init_15 : decode M_Fr_init.2.1 15 = .ok (.aload_n 0, 1) := by decide +kernel
theorem d_Fr_init_16 : decode M_Fr_init.2.1 16 = .ok (.ldc2_w 18, 3) := by decide +kernel
theorem d_Fr_init_19 : decode M_Fr_init.2.1 19 = .ok (.putfield 20, 3) := by decide +kernel
theorem d_Fr_init_22 : decode M_Fr_init.2.1 22 = .ok (.return_, 1) := by decide +kernel
theorem d_Ru_init_0 : decode M_Ru_init.2.1 0 = .ok (.aload_n 0, 1) := by decide +kernel
theorem d_Ru_init_1 : decode M_Ru_init.2.1 1 = .ok (.invokespecial 3, 3) := by decide +kernel
theorem d_Ru_init_4 : decode M_Ru_init.2.1 4 = .ok (.aload_n 0, 1) := by decide +kernel
theorem d_Ru_init_5 : decode M_Ru_init.2.1 5 = .ok (.iconst 2, 1) := by decide +kernel
theorem d_Ru_init_6 : decode M_Ru_init.2.1 6 = .ok (.putfield 9, 3) := by decide +kernel
theorem d_Ru_init_9 : decode M_Ru_init.2.1 9 = .ok (.aload_n 0, 1) := by decide +kernel
theorem d_Ru_init_10 : decode M_Ru_init.2.1 10 = .ok (.bipush 20, 2) := by decide +kernel
theorem d_Ru_init_12 : decode M_Ru_init.2.1 12 = .ok (.putfield 15, 3) := by decide +kernel
theorem d_Ru_init_15 : decode M_Ru_init.2.1 15 = .ok (.aload_n 0, 1) := by decide +kernel
theorem d_Ru_init_16 : decode M_Ru_init.2.1 16 = .ok (.sipush 168, 3) := by decide +kernel
theorem d_Ru_init_19 : decode M_Ru_init.2.1 19 = .ok (.putfield 18, 3) := by decide +kernel
theorem d_Ru_init_22 : decode M_Ru_init.2.1 22 = .ok (.aload_n 0, 1) := by decide +kernel
theorem d_Ru_init_23 : decode M_Ru_init.2.1 23 = .ok (.bipush 17, 2) := by decide +kernel
theorem d_Ru_init_25 : decode M_Ru_init.2.1 25 = .ok (.putfield 21, 3) := by decide +kernel
theorem d_Ru_init_28 : decode M_Ru_init.2.1 28 = .ok (.aload_n 0, 1) := by decide +kernel
theorem d_Ru_init_29 : decode M_Ru_init.2.1 29 = .ok (.bipush 20, 2) := by decide +kernel
theorem d_Ru_init_31 : decode M_Ru_init.2.1 31 = .ok (.newarray .int, 2) := by decide +kernel
theorem d_Ru_init_33 : decode M_Ru_init.2.1 33 = .ok (.putfield 24, 3) := by decide +kernel
theorem d_Ru_init_36 : decode M_Ru_init.2.1 36 = .ok (.return_, 1) := by decide +kernel
theorem d_Ro_init_0 : decode M_Ro_init.2.1 0 = .ok (.aload_n 0, 1) := by decide +kernel
theorem d_Ro_init_1 : decode M_Ro_init.2.1 1 = .ok (.invokespecial 3, 3) := by decide +kernel
theorem d_Ro_init_4 : decode M_Ro_init.2.1 4 = .ok (.aload_n 0, 1) := by decide +kernel
theorem d_Ro_init_5 : decode M_Ro_init.2.1 5 = .ok (.bipush 16, 2) := by decide +kernel
theorem d_Ro_init_7 : decode M_Ro_init.2.1 7 = .ok (.newarray .long, 2) := by decide +kernel
theorem d_Ro_init_9 : decode M_Ro_init.2.1 9 = .ok (.putfield 9, 3) := by decide +kernel
theorem d_Ro_init_12 : decode M_Ro_init.2.1 12 = .ok (.aload_n 0, 1) := by decide +kernel
theorem d_Ro_init_13 : decode M_Ro_init.2.1 13 = .ok (.bipush 16, 2) := by decide +kernel
theorem d_Ro_init_15 : decode M_Ro_init.2.1 15 = .ok (.newarray .long, 2) := by decide +kernel
theorem d_Ro_init_17 : decode M_Ro_init.2.1 17 = .ok (.putfield 15, 3) := by decide +kernel
theorem d_Ro_init_20 : decode M_Ro_init.2.1 20 = .ok (.aload_n 0, 1) := by decide +kernel
theorem d_Ro_init_21 : decode M_Ro_init.2.1 21 = .ok (.bipush 16, 2) := by decide +kernel
theorem d_Ro_init_23 : decode M_Ro_init.2.1 23 = .ok (.newarray .int, 2) := by decide +kernel
theorem d_Ro_init_25 : decode M_Ro_init.2.1 25 = .ok (.putfield 18, 3) := by decide +kernel
theorem d_Ro_init_28 : decode M_Ro_init.2.1 28 = .ok (.aload_n 0, 1) := by decide +kernel
theorem d_Ro_init_29 : decode M_Ro_init.2.1 29 = .ok (.sipush 1024, 3) := by decide +kernel
theorem d_Ro_init_32 : decode M_Ro_init.2.1 32 = .ok (.newarray .int, 2) := by decide +kernel
theorem d_Ro_init_34 : decode M_Ro_init.2.1 34 = .ok (.putfield 22, 3) := by decide +kernel
theorem d_Ro_init_37 : decode M_Ro_init.2.1 37 = .ok (.return_, 1) := by decide +kernel
theorem d_Pa_init_0 : decode M_Pa_init.2.1 0 = .ok (.aload_n 0, 1) := by decide +kernel
theorem d_Pa_init_1 : decode M_Pa_init.2.1 1 = .ok (.invokespecial 1, 3) := by decide +kernel
theorem d_Pa_init_4 : decode M_Pa_init.2.1 4 = .ok (.aload_n 0, 1) := by decide +kernel
theorem d_Pa_init_5 : decode M_Pa_init.2.1 5 = .ok (.bipush 10, 2) := by decide +kernel
theorem d_Pa_init_7 : decode M_Pa_init.2.1 7 = .ok (.anewarray 9, 3) := by decide +kernel
theorem d_Pa_init_10 : decode M_Pa_init.2.1 10 = .ok (.putfield 11, 3) := by decide +kernel
theorem d_Pa_init_13 : decode M_Pa_init.2.1 13 = .ok (.return_, 1) := by decide +kernel
theorem d_Re_init_0 : decode M_Re_init.2.1 0 = .ok (.aload_n 0, 1) := by decide +kernel
theorem d_Re_init_1 : decode M_Re_init.2.1 1 = .ok (.invokespecial 3, 3) := by decide +kernel
theorem d_Re_init_4 : decode M_Re_init.2.1 4 = .ok (.aload_n 0, 1) := by decide +kernel
theorem d_Re_init_5 : decode M_Re_init.2.1 5 = .ok (.new 9, 3) := by decide +kernel
theorem d_Re_init_8 : decode M_Re_init.2.1 8 = .ok (.dup, 1) := by decide +kernel
theorem d_Re_init_9 : decode M_Re_init.2.1 9 = .ok (.invokespecial 11, 3) := by decide +kernel
theorem d_Re_init_12 : decode M_Re_init.2.1 12 = .ok (.putfield 12, 3) := by decide +kernel
theorem d_Re_init_15 : decode M_Re_init.2.1 15 = .ok (.aload_n 0, 1) := by decide +kernel
theorem d_Re_init_16 : decode M_Re_init.2.1 16 = .ok (.bipush 64, 2) := by decide +kernel
theorem d_Re_init_18 : decode M_Re_init.2.1 18 = .ok (.newarray .int, 2) := by decide +kernel
theorem d_Re_init_20 : decode M_Re_init.2.1 20 = .ok (.putfield 18, 3) := by decide +kernel
theorem d_Re_init_23 : decode M_Re_init.2.1 23 = .ok (.aload_n 0, 1) := by decide +kernel
theorem d_Re_init_24 : decode M_Re_init.2.1 24 = .ok (.aload_n 1, 1) := by decide +kernel
theorem d_Re_init_25 : decode M_Re_init.2.1 25 = .ok (.putfield 22, 3) := by decide +kernel
theorem d_Re_init_28 : decode M_Re_init.2.1 28 = .ok (.aload_n 0, 1) := by decide +kernel
theorem d_Re_init_29 : decode M_Re_init.2.1 29 = .ok (.aload_n 2, 1) := by decide +kernel
theorem d_Re_init_30 : decode M_Re_init.2.1 30 = .ok (.putfield 26, 3) := by decide +kernel
theorem d_Re_init_33 : decode M_Re_init.2.1 33 = .ok (.return_, 1) := by decide +kernel
theorem d_Wr_init_0 : decode M_Wr_init.2.1 0 = .ok (.aload_n 0, 1) := by decide +kernel
theorem d_Wr_init_1 : decode M_Wr_init.2.1 1 = .ok (.invokespecial 3, 3) := by decide +kernel
theorem d_Wr_init_4 : decode M_Wr_init.2.1 4 = .ok (.aload_n 0, 1) := by decide +kernel
theorem d_Wr_init_5 : decode M_Wr_init.2.1 5 = .ok (.aload_n 1, 1) := by decide +kernel
theorem d_Wr_init_6 : decode M_Wr_init.2.1 6 = .ok (.putfield 9, 3) := by decide +kernel
theorem d_Wr_init_9 : decode M_Wr_init.2.1 9 = .ok (.aload_n 0, 1) := by decide +kernel
theorem d_Wr_init_10 : decode M_Wr_init.2.1 10 = .ok (.aload_n 2, 1) := by decide +kernel
theorem d_Wr_init_11 : decode M_Wr_init.2.1 11 = .ok (.putfield 15, 3) := by decide +kernel
theorem d_Wr_init_14 : decode M_Wr_init.2.1 14 = .ok (.aload_n 0, 1) := by decide +kernel
theorem d_Wr_init_15 : decode M_Wr_init.2.1 15 = .ok (.aload_n 3, 1) := by decide +kernel
theorem d_Wr_init_16 : decode M_Wr_init.2.1 16 = .ok (.putfield 19, 3) := by decide +kernel
theorem d_Wr_init_19 : decode M_Wr_init.2.1 19 = .ok (.return_, 1) := by decide +kernel
theorem d_Li_init_0 : decode M_Li_init.2.1 0 = .ok (.aload_n 0, 1) := by decide +kernel
theorem d_Li_init_1 : decode M_Li_init.2.1 1 = .ok (.invokespecial 3, 3) := by decide +kernel
theorem d_Li_init_4 : decode M_Li_init.2.1 4 = .ok (.aload_n 0, 1) := by decide +kernel
theorem d_Li_init_5 : decode M_Li_init.2.1 5 = .ok (.aload_n 1, 1) := by decide +kernel
theorem d_Li_init_6 : decode M_Li_init.2.1 6 = .ok (.putfield 9, 3) := by decide +kernel
theorem d_Li_init_9 : decode M_Li_init.2.1 9 = .ok (.return_, 1) := by decide +kernel
theorem d_Rp_init_0 : decode M_Rp_init.2.1 0 = .ok (.aload_n 0, 1) := by decide +kernel
theorem d_Rp_init_1 : decode M_Rp_init.2.1 1 = .ok (.invokespecial 3, 3) := by decide +kernel
theorem d_Rp_init_4 : decode M_Rp_init.2.1 4 = .ok (.aload_n 0, 1) := by decide +kernel
theorem d_Rp_init_5 : decode M_Rp_init.2.1 5 = .ok (.bipush 16, 2) := by decide +kernel
theorem d_Rp_init_7 : decode M_Rp_init.2.1 7 = .ok (.newarray .int, 2) := by decide +kernel
theorem d_Rp_init_9 : decode M_Rp_init.2.1 9 = .ok (.putfield 9, 3) := by decide +kernel
theorem d_Rp_init_12 : decode M_Rp_init.2.1 12 = .ok (.aload_n 0, 1) := by decide +kernel
theorem d_Rp_init_13 : decode M_Rp_init.2.1 13 = .ok (.bipush 16, 2) := by decide +kernel
theorem d_Rp_init_15 : decode M_Rp_init.2.1 15 = .ok (.newarray .int, 2) := by decide +kernel
theorem d_Rp_init_17 : decode M_Rp_init.2.1 17 = .ok (.putfield 15, 3) := by decide +kernel
theorem d_Rp_init_20 : decode M_Rp_init.2.1 20 = .ok (.aload_n 0, 1) := by decide +kernel
theorem d_Rp_init_21 : decode M_Rp_init.2.1 21 = .ok (.bipush 16, 2) := by decide +kernel
theorem d_Rp_init_23 : decode M_Rp_init.2.1 23 = .ok (.newarray .int, 2) := by decide +kernel
theorem d_Rp_init_25 : decode M_Rp_init.2.1 25 = .ok (.putfield 18, 3) := by decide +kernel
theorem d_Rp_init_28 : decode M_Rp_init.2.1 28 = .ok (.aload_n 0, 1) := by decide +kernel
theorem d_Rp_init_29 : decode M_Rp_init.2.1 29 = .ok (.bipush 97, 2) := by decide +kernel
theorem d_Rp_init_31 : decode M_Rp_init.2.1 31 = .ok (.newarray .int, 2) := by decide +kernel
theorem d_Rp_init_33 : decode M_Rp_init.2.1 33 = .ok (.putfield 21, 3) := by decide +kernel
theorem d_Rp_init_36 : decode M_Rp_init.2.1 36 = .ok (.aload_n 0, 1) := by decide +kernel
theorem d_Rp_init_37 : decode M_Rp_init.2.1 37 = .ok (.sipush 400, 3) := by decide +kernel
theorem d_Rp_init_40 : decode M_Rp_init.2.1 40 = .ok (.newarray .int, 2) := by decide +kernel
theorem d_Rp_init_42 : decode M_Rp_init.2.1 42 = .ok (.putfield 24, 3) := by decide +kernel
theorem d_Rp_init_45 : decode M_Rp_init.2.1 45 = .ok (.aload_n 0, 1) := by decide +kernel
theorem d_Rp_init_46 : decode M_Rp_init.2.1 46 = .ok (.sipush 400, 3) := by decide +kernel
theorem d_Rp_init_49 : decode M_Rp_init.2.1 49 = .ok (.newarray .int, 2) := by decide +kernel
theorem d_Rp_init_51 : decode M_Rp_init.2.1 51 = .ok (.putfield 27, 3) := by decide +kernel
theorem d_Rp_init_54 : decode M_Rp_init.2.1 54 = .ok (.aload_n 0, 1) := by decide +kernel
theorem d_Rp_init_55 : decode M_Rp_init.2.1 55 = .ok (.sipush 400, 3) := by decide +kernel
theorem d_Rp_init_58 : decode M_Rp_init.2.1 58 = .ok (.newarray .int, 2) := by decide +kernel
theorem d_Rp_init_60 : decode M_Rp_init.2.1 60 = .ok (.putfield 30, 3) := by decide +kernel
theorem d_Rp_init_63 : decode M_Rp_init.2.1 63 = .ok (.aload_n 0, 1) := by decide +kernel
theorem d_Rp_init_64 : decode M_Rp_init.2.1 64 = .ok (.aload_n 1, 1) := by decide +kernel
theorem d_Rp_init_65 : decode M_Rp_init.2.1 65 = .ok (.putfield 33, 3) := by decide +kernel
theorem d_Rp_init_68 : decode M_Rp_init.2.1 68 = .ok (.aload_n 0, 1) := by decide +kernel
theorem d_Rp_init_69 : decode M_Rp_init.2.1 69 = .ok (.aload_n 2, 1) := by decide +kernel
theorem d_Rp_init_70 : decode M_Rp_init.2.1 70 = .ok (.putfield 37, 3) := by decide +kernel
theorem d_Rp_init_73 : decode M_Rp_init.2.1 73 = .ok (.aload_n 0, 1) := by decide +kernel
theorem d_Rp_init_74 : decode M_Rp_init.2.1 74 = .ok (.aload_n 3, 1) := by decide +kernel
theorem d_Rp_init_75 : decode M_Rp_init.2.1 75 = .ok (.putfield 41, 3) := by decide +kernel
theorem d_Rp_init_78 : decode M_Rp_init.2.1 78 = .ok (.return_, 1) := by decide +kernel
set_option maxHeartbeats 4000000 in
set_option maxRecDepth 100000 in
theorem c_Bu_init (G : GT) (h : HM) (q : Nat) (hq : h q = some (.inr (1, [.null, .int (iZ 0)]))) : Rn G M_Bu_init ({ frames := 1, cells := 1, slots := 1000, locals := 12 }) [.ref q] h (fun r h' => r = none ∧ ∃ q1 : Nat, (∀ b e, h b = some e → b < q1) ∧ h' q = some (.inr (1, [.ref q1, .int (iZ 0)])) ∧ h' q1 = some (.inl (G_i G, 1000, .inl (iA (fun _ => 0)))) ∧ Fx [q] h h') := by
  refine rn_of (by decide) (Nat.le_of_ble_eq_true rfl) ?_
  show Ev G M_Bu_init _ _ 0 [(0, .ref q)] [] _ 0 0
  have fx : Fx [q] h h := Fx.rf
  refine ev_aload_n d_Bu_init_0 rfl rfl ?_
  refine ev_objInit d_Bu_init_1 ml_Bu_3 oi_1 oi_2 (by decide) (by decide) ?_
  refine ev_aload_n d_Bu_init_4 rfl rfl ?_
  refine ev_sipush (v := iZ 1000) d_Bu_init_5 rfl ?_
  refine ez_newi 1000 d_Bu_init_8 ac_i (by decide) (by decide) (by decide) (by decide) (fun q1 h2 lt_q1 h2a h2o => ?_)
  have o_q1 := lt_q1 _ _ hq
  have lo_q1 : ∀ b e, h b = some e → b < q1 := by
    intro b e hb9
    by_cases w9 : b = q
    · subst w9; omega
    · exact lt_q1 b e (fx b e hb9 (ninc w9 nin0))
  have fx := fx.new lt_q1 h2o
  have hq := (h2o _ (Nat.ne_of_lt (lt_q1 _ _ hq))).trans hq
  have h_q1 := h2a
  refine ev_put2 (fs' := [.ref q1, .int (iZ 0)]) d_Bu_init_10 fw_Bu_9 (Or.inl rfl) hq (Nat.le_of_ble_eq_true rfl) rfl rfl rfl (fun h3 h3a h3o => ?_)
  have h_q1 := (h3o _ (by omega)).trans h_q1
  have hq := h3a
  have fx := fx.step (by simp) h3o
  exact ev_return d_Bu_init_13 rfl (by decide) (by decide) (⟨rfl, q1, lo_q1, hq, h_q1, fx⟩)
set_option maxHeartbeats 4000000 in
set_option maxRecDepth 100000 in
theorem c_Fr_init (G : GT) (h : HM) (q : Nat) (hq : h q = some (.inr (5, [.int (iZ 0), .int (iZ 0), .long (lZ 0)]))) : Rn G M_Fr_init ({ frames := 1, cells := 0, slots := 0, locals := 12 }) [.ref q] h (fun r h' => r = none ∧ h' q = some (.inr (5, [.int (iZ 25), .int (iZ 1), .long (lZ 28224000)])) ∧ Fx [q] h h') := by
  refine rn_of (by decide) (Nat.le_of_ble_eq_true rfl) ?_
  show Ev G M_Fr_init _ _ 0 [(0, .ref q)] [] _ 0 0
  have fx : Fx [q] h h := Fx.rf
  refine ev_aload_n d_Fr_init_0 rfl rfl ?_
  refine ev_objInit d_Fr_init_1 ml_Fr_3 oi_1 oi_2 (by decide) (by decide) ?_
  refine ev_aload_n d_Fr_init_4 rfl rfl ?_
  refine ev_bipush (v := iZ 25) d_Fr_init_5 rfl ?_
  refine ev_put2 (fs' := [.int (iZ 25), .int (iZ 0), .long (lZ 0)]) d_Fr_init_7 fw_Fr_9 (Or.inr (fun _ _ _ q => by cases q; rfl)) hq (Nat.le_of_ble_eq_true rfl) rfl rfl rfl (fun h1 h1a h1o => ?_)
  have hq := h1a
  have fx := fx.step (by simp) h1o
  refine ev_aload_n d_Fr_init_10 rfl rfl ?_
  refine ev_iconst (v := iZ 1) d_Fr_init_11 rfl ?_
  refine ev_put2 (fs' := [.int (iZ 25), .int (iZ 1), .long (lZ 0)]) d_Fr_init_12 fw_Fr_15 (Or.inr (fun _ _ _ q => by cases q; rfl)) hq (Nat.le_of_ble_eq_true rfl) rfl rfl rfl (fun h2 h2a h2o => ?_)
  have hq := h2a
  have fx := fx.step (by simp) h2o
  refine ev_aload_n d_Fr_init_15 rfl rfl ?_
  refine ev_ldc2 (v := lZ 28224000) d_Fr_init_16 kc_Fr_18 ?_
  refine ev_put2 (fs' := [.int (iZ 25), .int (iZ 1), .long (lZ 28224000)]) d_Fr_init_19 fw_Fr_20 (Or.inr (fun _ _ _ q => by cases q; rfl)) hq (Nat.le_of_ble_eq_true rfl) rfl rfl rfl (fun h3 h3a h3o => ?_)
  have hq := h3a
  have fx := fx.step (by simp) h3o
  exact ev_return d_Fr_init_22 rfl (by decide) (by decide) (⟨rfl, hq, fx⟩)
set_option maxHeartbeats 4000000 in
set_option maxRecDepth 100000 in
theorem c_Ru_init (G : GT) (h : HM) (q : Nat) (hq : h q = some (.inr (10, [.int (iZ 0), .int (iZ 0), .int (iZ 0), .int (iZ 0), .null, .int (iZ 0)]))) : Rn G M_Ru_init ({ frames := 1, cells := 1, slots := 20, locals := 12 }) [.ref q] h (fun r h' => r = none ∧ ∃ q5 : Nat, (∀ b e, h b = some e → b < q5) ∧ h' q = some (.inr (10, [.int (iZ 2), .int (iZ 20), .int (iZ 168), .int (iZ 17), .ref q5, .int (iZ 0)])) ∧ h' q5 = some (.inl (G_i G, 20, .inl (iA (fun _ => 0)))) ∧ Fx [q] h h') := by
  refine rn_of (by decide) (Nat.le_of_ble_eq_true rfl) ?_
  show Ev G M_Ru_init _ _ 0 [(0, .ref q)] [] _ 0 0
  have fx : Fx [q] h h := Fx.rf
  refine ev_aload_n d_Ru_init_0 rfl rfl ?_
  refine ev_objInit d_Ru_init_1 ml_Ru_3 oi_1 oi_2 (by decide) (by decide) ?_
  refine ev_aload_n d_Ru_init_4 rfl rfl ?_
  refine ev_iconst (v := iZ 2) d_Ru_init_5 rfl ?_
  refine ev_put2 (fs' := [.int (iZ 2), .int (iZ 0), .int (iZ 0), .int (iZ 0), .null, .int (iZ 0)]) d_Ru_init_6 fw_Ru_9 (Or.inr (fun _ _ _ q => by cases q; rfl)) hq (Nat.le_of_ble_eq_true rfl) rfl rfl rfl (fun h1 h1a h1o => ?_)
  have hq := h1a
  have fx := fx.step (by simp) h1o
  refine ev_aload_n d_Ru_init_9 rfl rfl ?_
  refine ev_bipush (v := iZ 20) d_Ru_init_10 rfl ?_
  refine ev_put2 (fs' := [.int (iZ 2), .int (iZ 20), .int (iZ 0), .int (iZ 0), .null, .int (iZ 0)]) d_Ru_init_12 fw_Ru_15 (Or.inr (fun _ _ _ q => by cases q; rfl)) hq (Nat.le_of_ble_eq_true rfl) rfl rfl rfl (fun h2 h2a h2o => ?_)
  have hq := h2a
  have fx := fx.step (by simp) h2o
  refine ev_aload_n d_Ru_init_15 rfl rfl ?_
  refine ev_sipush (v := iZ 168) d_Ru_init_16 rfl ?_
  refine ev_put2 (fs' := [.int (iZ 2), .int (iZ 20), .int (iZ 168), .int (iZ 0), .null, .int (iZ 0)]) d_Ru_init_19 fw_Ru_18 (Or.inr (fun _ _ _ q => by cases q; rfl)) hq (Nat.le_of_ble_eq_true rfl) rfl rfl rfl (fun h3 h3a h3o => ?_)
  have hq := h3a
  have fx := fx.step (by simp) h3o
  refine ev_aload_n d_Ru_init_22 rfl rfl ?_
  refine ev_bipush (v := iZ 17) d_Ru_init_23 rfl ?_
  refine ev_put2 (fs' := [.int (iZ 2), .int (iZ 20), .int (iZ 168), .int (iZ 17), .null, .int (iZ 0)]) d_Ru_init_25 fw_Ru_21 (Or.inr (fun _ _ _ q => by cases q; rfl)) hq (Nat.le_of_ble_eq_true rfl) rfl rfl rfl (fun h4 h4a h4o => ?_)
  have hq := h4a
  have fx := fx.step (by simp) h4o
  refine ev_aload_n d_Ru_init_28 rfl rfl ?_
  refine ev_bipush (v := iZ 20) d_Ru_init_29 rfl ?_
  refine ez_newi 20 d_Ru_init_31 ac_i (by decide) (by decide) (by decide) (by decide) (fun q5 h6 lt_q5 h6a h6o => ?_)
  have o_q5 := lt_q5 _ _ hq
  have lo_q5 : ∀ b e, h b = some e → b < q5 := by
    intro b e hb9
    by_cases w9 : b = q
    · subst w9; omega
    · exact lt_q5 b e (fx b e hb9 (ninc w9 nin0))
  have fx := fx.new lt_q5 h6o
  have hq := (h6o _ (Nat.ne_of_lt (lt_q5 _ _ hq))).trans hq
  have h_q5 := h6a
  refine ev_put2 (fs' := [.int (iZ 2), .int (iZ 20), .int (iZ 168), .int (iZ 17), .ref q5, .int (iZ 0)]) d_Ru_init_33 fw_Ru_24 (Or.inl rfl) hq (Nat.le_of_ble_eq_true rfl) rfl rfl rfl (fun h7 h7a h7o => ?_)
  have h_q5 := (h7o _ (by omega)).trans h_q5
  have hq := h7a
  have fx := fx.step (by simp) h7o
  exact ev_return d_Ru_init_36 rfl (by decide) (by decide) (⟨rfl, q5, lo_q5, hq, h_q5, fx⟩)
set_option maxHeartbeats 4000000 in
set_option maxRecDepth 100000 in
theorem c_Ro_init (G : GT) (h : HM) (q : Nat) (hq : h q = some (.inr (2, [.null, .null, .null, .null, .int (iZ 0)]))) : Rn G M_Ro_init ({ frames := 1, cells := 4, slots := 1072, locals := 12 }) [.ref q] h (fun r h' => r = none ∧ ∃ q1 q4 q7 q10 : Nat, (∀ b e, h b = some e → b < q1) ∧ q1 < q4 ∧ q4 < q7 ∧ q7 < q10 ∧ h' q = some (.inr (2, [.ref q1, .ref q4, .ref q7, .ref q10, .int (iZ 0)])) ∧ h' q1 = some (.inl (G_j G, 16, .inr (.inl (lA (fun _ => 0))))) ∧ h' q4 = some (.inl (G_j G, 16, .inr (.inl (lA (fun _ => 0))))) ∧ h' q7 = some (.inl (G_i G, 16, .inl (iA (fun _ => 0)))) ∧ h' q10 = some (.inl (G_i G, 1024, .inl (iA (fun _ => 0)))) ∧ Fx [q] h h') := by
  refine rn_of (by decide) (Nat.le_of_ble_eq_true rfl) ?_
  show Ev G M_Ro_init _ _ 0 [(0, .ref q)] [] _ 0 0
  have fx : Fx [q] h h := Fx.rf
  refine ev_aload_n d_Ro_init_0 rfl rfl ?_
  refine ev_objInit d_Ro_init_1 ml_Ro_3 oi_1 oi_2 (by decide) (by decide) ?_
  refine ev_aload_n d_Ro_init_4 rfl rfl ?_
  refine ev_bipush (v := iZ 16) d_Ro_init_5 rfl ?_
  refine ez_newl 16 d_Ro_init_7 ac_l (by decide) (by decide) (by decide) (by decide) (fun q1 h2 lt_q1 h2a h2o => ?_)
  have o_q1 := lt_q1 _ _ hq
  have lo_q1 : ∀ b e, h b = some e → b < q1 := by
    intro b e hb9
    by_cases w9 : b = q
    · subst w9; omega
    · exact lt_q1 b e (fx b e hb9 (ninc w9 nin0))
  have fx := fx.new lt_q1 h2o
  have hq := (h2o _ (Nat.ne_of_lt (lt_q1 _ _ hq))).trans hq
  have h_q1 := h2a
  refine ev_put2 (fs' := [.ref q1, .null, .null, .null, .int (iZ 0)]) d_Ro_init_9 fw_Ro_9 (Or.inl rfl) hq (Nat.le_of_ble_eq_true rfl) rfl rfl rfl (fun h3 h3a h3o => ?_)
  have h_q1 := (h3o _ (by omega)).trans h_q1
  have hq := h3a
  have fx := fx.step (by simp) h3o
  refine ev_aload_n d_Ro_init_12 rfl rfl ?_
  refine ev_bipush (v := iZ 16) d_Ro_init_13 rfl ?_
  refine ez_newl 16 d_Ro_init_15 ac_l (by decide) (by decide) (by decide) (by decide) (fun q4 h5 lt_q4 h5a h5o => ?_)
  have o_q4 := lt_q4 _ _ h_q1
  have lo_q4 : ∀ b e, h b = some e → b < q4 := by
    intro b e hb9
    by_cases w9 : b = q
    · subst w9; omega
    · exact lt_q4 b e (fx b e hb9 (ninc w9 nin0))
  have fx := fx.new lt_q4 h5o
  have hq := (h5o _ (Nat.ne_of_lt (lt_q4 _ _ hq))).trans hq
  have h_q1 := (h5o _ (Nat.ne_of_lt (lt_q4 _ _ h_q1))).trans h_q1
  have h_q4 := h5a
  refine ev_put2 (fs' := [.ref q1, .ref q4, .null, .null, .int (iZ 0)]) d_Ro_init_17 fw_Ro_15 (Or.inl rfl) hq (Nat.le_of_ble_eq_true rfl) rfl rfl rfl (fun h6 h6a h6o => ?_)
  have h_q1 := (h6o _ (by omega)).trans h_q1
  have h_q4 := (h6o _ (by omega)).trans h_q4
  have hq := h6a
  have fx := fx.step (by simp) h6o
  refine ev_aload_n d_Ro_init_20 rfl rfl ?_
  refine ev_bipush (v := iZ 16) d_Ro_init_21 rfl ?_
  refine ez_newi 16 d_Ro_init_23 ac_i (by decide) (by decide) (by decide) (by decide) (fun q7 h8 lt_q7 h8a h8o => ?_)
  have o_q7 := lt_q7 _ _ h_q4
  have lo_q7 : ∀ b e, h b = some e → b < q7 := by
    intro b e hb9
    by_cases w9 : b = q
    · subst w9; omega
    · exact lt_q7 b e (fx b e hb9 (ninc w9 nin0))
  have fx := fx.new lt_q7 h8o
  have hq := (h8o _ (Nat.ne_of_lt (lt_q7 _ _ hq))).trans hq
  have h_q1 := (h8o _ (Nat.ne_of_lt (lt_q7 _ _ h_q1))).trans h_q1
  have h_q4 := (h8o _ (Nat.ne_of_lt (lt_q7 _ _ h_q4))).trans h_q4
  have h_q7 := h8a
  refine ev_put2 (fs' := [.ref q1, .ref q4, .ref q7, .null, .int (iZ 0)]) d_Ro_init_25 fw_Ro_18 (Or.inl rfl) hq (Nat.le_of_ble_eq_true rfl) rfl rfl rfl (fun h9 h9a h9o => ?_)
  have h_q1 := (h9o _ (by omega)).trans h_q1
  have h_q4 := (h9o _ (by omega)).trans h_q4
  have h_q7 := (h9o _ (by omega)).trans h_q7
  have hq := h9a
  have fx := fx.step (by simp) h9o
  refine ev_aload_n d_Ro_init_28 rfl rfl ?_
  refine ev_sipush (v := iZ 1024) d_Ro_init_29 rfl ?_
  refine ez_newi 1024 d_Ro_init_32 ac_i (by decide) (by decide) (by decide) (by decide) (fun q10 h11 lt_q10 h11a h11o => ?_)
  have o_q10 := lt_q10 _ _ h_q7
  have lo_q10 : ∀ b e, h b = some e → b < q10 := by
    intro b e hb9
    by_cases w9 : b = q
    · subst w9; omega
    · exact lt_q10 b e (fx b e hb9 (ninc w9 nin0))
  have fx := fx.new lt_q10 h11o
  have hq := (h11o _ (Nat.ne_of_lt (lt_q10 _ _ hq))).trans hq
  have h_q1 := (h11o _ (Nat.ne_of_lt (lt_q10 _ _ h_q1))).trans h_q1
  have h_q4 := (h11o _ (Nat.ne_of_lt (lt_q10 _ _ h_q4))).trans h_q4
  have h_q7 := (h11o _ (Nat.ne_of_lt (lt_q10 _ _ h_q7))).trans h_q7
  have h_q10 := h11a
  refine ev_put2 (fs' := [.ref q1, .ref q4, .ref q7, .ref q10, .int (iZ 0)]) d_Ro_init_34 fw_Ro_22 (Or.inl rfl) hq (Nat.le_of_ble_eq_true rfl) rfl rfl rfl (fun h12 h12a h12o => ?_)
  have h_q1 := (h12o _ (by omega)).trans h_q1
  have h_q4 := (h12o _ (by omega)).trans h_q4
  have h_q7 := (h12o _ (by omega)).trans h_q7
  have h_q10 := (h12o _ (by omega)).trans h_q10
  have hq := h12a
  have fx := fx.step (by simp) h12o
  exact ev_return d_Ro_init_37 rfl (by decide) (by decide) (⟨rfl, q1, q4, q7, q10, lo_q1, o_q4, o_q7, o_q10, hq, h_q1, h_q4, h_q7, h_q10, fx⟩)
set_option maxHeartbeats 4000000 in
set_option maxRecDepth 100000 in
theorem c_Pa_init (G : GT) (h : HM) (q : Nat) (hq : h q = some (.inr (7, [.null, .int (iZ 0), .int (iZ 0)]))) : Rn G M_Pa_init ({ frames := 1, cells := 1, slots := 10, locals := 12 }) [.ref q] h (fun r h' => r = none ∧ ∃ q1 : Nat, (∀ b e, h b = some e → b < q1) ∧ h' q = some (.inr (7, [.ref q1, .int (iZ 0), .int (iZ 0)])) ∧ h' q1 = some (.inl (G_q G, 10, .inr (.inr (.inr (.inr (fun _ => none)))))) ∧ Fx [q] h h') := by
  refine rn_of (by decide) (Nat.le_of_ble_eq_true rfl) ?_
  show Ev G M_Pa_init _ _ 0 [(0, .ref q)] [] _ 0 0
  have fx : Fx [q] h h := Fx.rf
  refine ev_aload_n d_Pa_init_0 rfl rfl ?_
  refine ev_objInit d_Pa_init_1 ml_Pa_1 oi_1 oi_2 (by decide) (by decide) ?_
  refine ev_aload_n d_Pa_init_4 rfl rfl ?_
  refine ev_bipush (v := iZ 10) d_Pa_init_5 rfl ?_
  refine ez_newq 10 d_Pa_init_7 aq_Pa_9 (by decide) (by decide) (by decide) (by decide) (fun q1 h2 lt_q1 h2a h2o => ?_)
  have o_q1 := lt_q1 _ _ hq
  have lo_q1 : ∀ b e, h b = some e → b < q1 := by
    intro b e hb9
    by_cases w9 : b = q
    · subst w9; omega
    · exact lt_q1 b e (fx b e hb9 (ninc w9 nin0))
  have fx := fx.new lt_q1 h2o
  have hq := (h2o _ (Nat.ne_of_lt (lt_q1 _ _ hq))).trans hq
  have h_q1 := h2a
  refine ev_put2 (fs' := [.ref q1, .int (iZ 0), .int (iZ 0)]) d_Pa_init_10 fw_Pa_11 (Or.inl rfl) hq (Nat.le_of_ble_eq_true rfl) rfl rfl rfl (fun h3 h3a h3o => ?_)
  have h_q1 := (h3o _ (by omega)).trans h_q1
  have hq := h3a
  have fx := fx.step (by simp) h3o
  exact ev_return d_Pa_init_13 rfl (by decide) (by decide) (⟨rfl, q1, lo_q1, hq, h_q1, fx⟩)
set_option maxHeartbeats 4000000 in
set_option maxRecDepth 100000 in
theorem c_Re_init (G : GT) (h : HM) (q : Nat) (a1 : Nat) (a2 : Nat) (hq : h q = some (.inr (3, [.null, .null, .null, .null, .int (iZ 0), .int (iZ 0), .int (iZ 0), .long (lZ 0), .long (lZ 0), .long (lZ 0)]))) : Rn G M_Re_init ({ frames := 2, cells := 6, slots := 1141, locals := 32 }) [.ref q, .ref a1, .ref a2] h (fun r h' => r = none ∧ ∃ q1 q1_q1 q1_q4 q1_q7 q1_q10 q4 : Nat, (∀ b e, h b = some e → b < q1) ∧ q1 < q1_q1 ∧ q1_q1 < q1_q4 ∧ q1_q4 < q1_q7 ∧ q1_q7 < q1_q10 ∧ q1_q10 < q4 ∧ h' q = some (.inr (3, [.ref a1, .ref a2, .ref q1, .ref q4, .int (iZ 0), .int (iZ 0), .int (iZ 0), .long (lZ 0), .long (lZ 0), .long (lZ 0)])) ∧ h' q1 = some (.inr (2, [.ref q1_q1, .ref q1_q4, .ref q1_q7, .ref q1_q10, .int (iZ 0)])) ∧ h' q1_q1 = some (.inl (G_j G, 16, .inr (.inl (lA (fun _ => 0))))) ∧ h' q1_q4 = some (.inl (G_j G, 16, .inr (.inl (lA (fun _ => 0))))) ∧ h' q1_q7 = some (.inl (G_i G, 16, .inl (iA (fun _ => 0)))) ∧ h' q1_q10 = some (.inl (G_i G, 1024, .inl (iA (fun _ => 0)))) ∧ h' q4 = some (.inl (G_i G, 64, .inl (iA (fun _ => 0)))) ∧ Fx [q] h h') := by
  refine rn_of (by decide) (Nat.le_of_ble_eq_true rfl) ?_
  show Ev G M_Re_init _ _ 0 [(0, .ref q), (1, .ref a1), (2, .ref a2)] [] _ 0 0
  have fx : Fx [q] h h := Fx.rf
  refine ev_aload_n d_Re_init_0 rfl rfl ?_
  refine ev_objInit d_Re_init_1 ml_Re_3 oi_1 oi_2 (by decide) (by decide) ?_
  refine ev_aload_n d_Re_init_4 rfl rfl ?_
  refine ez_new 5 d_Re_init_5 nc_Re_9 rfl (by decide) (by decide) (fun q1 h2 lt_q1 h2a h2o => ?_)
  have o_q1 := lt_q1 _ _ hq
  have lo_q1 : ∀ b e, h b = some e → b < q1 := by
    intro b e hb9
    by_cases w9 : b = q
    · subst w9; omega
    · exact lt_q1 b e (fx b e hb9 (ninc w9 nin0))
  have fx := fx.new lt_q1 h2o
  have hq := (h2o _ (Nat.ne_of_lt (lt_q1 _ _ hq))).trans hq
  have h_q1 := h2a
  refine ev_dup d_Re_init_8 rfl ?_
  refine ev_callI M_Ro_init ({ frames := 1, cells := 4, slots := 1072, locals := 12 }) _ (As := []) (c_Ro_init G h2 q1 h_q1) d_Re_init_9 mk_Ro_init ml_Re_11 ⟨rfl, rfl⟩ mi_Ro_init rfl rfl (Nat.le_of_ble_eq_true rfl) ⟨by decide, by decide⟩ ⟨by decide, by decide⟩ (fun r h2 hq => ?_)
  obtain ⟨rfl, q1_q1, q1_q4, q1_q7, q1_q10, lt, o_q1_q4, o_q1_q7, o_q1_q10, hb9, h_q1_q1, h_q1_q4, h_q1_q7, h_q1_q10, fxc⟩ := hq
  have o_q1_q1 := lt _ _ h_q1
  have hq := fxc _ _ hq (ninc (by omega) nin0)
  have h_q1 := hb9
  have fx := fx.call fxc (by intro x hx9; rcases List.mem_cons.mp hx9 with rfl | hx9; exact Or.inr (fun b e hb9 => Nat.ne_of_lt (lo_q1 b e hb9)); exact absurd hx9 nin0)
  refine ev_put2 (fs' := [.null, .null, .ref q1, .null, .int (iZ 0), .int (iZ 0), .int (iZ 0), .long (lZ 0), .long (lZ 0), .long (lZ 0)]) d_Re_init_12 fw_Re_12 (Or.inl rfl) hq (Nat.le_of_ble_eq_true rfl) rfl rfl rfl (fun h3 h3a h3o => ?_)
  have h_q1 := (h3o _ (by omega)).trans h_q1
  have h_q1_q1 := (h3o _ (by omega)).trans h_q1_q1
  have h_q1_q4 := (h3o _ (by omega)).trans h_q1_q4
  have h_q1_q7 := (h3o _ (by omega)).trans h_q1_q7
  have h_q1_q10 := (h3o _ (by omega)).trans h_q1_q10
  have hq := h3a
  have fx := fx.step (by simp) h3o
  refine ev_aload_n d_Re_init_15 rfl rfl ?_
  refine ev_bipush (v := iZ 64) d_Re_init_16 rfl ?_
  refine ez_newi 64 d_Re_init_18 ac_i (by decide) (by decide) (by decide) (by decide) (fun q4 h5 lt_q4 h5a h5o => ?_)
  have o_q4 := lt_q4 _ _ h_q1_q10
  have lo_q4 : ∀ b e, h b = some e → b < q4 := by
    intro b e hb9
    by_cases w9 : b = q
    · subst w9; omega
    · exact lt_q4 b e (fx b e hb9 (ninc w9 nin0))
  have fx := fx.new lt_q4 h5o
  have hq := (h5o _ (Nat.ne_of_lt (lt_q4 _ _ hq))).trans hq
  have h_q1 := (h5o _ (Nat.ne_of_lt (lt_q4 _ _ h_q1))).trans h_q1
  have h_q1_q1 := (h5o _ (Nat.ne_of_lt (lt_q4 _ _ h_q1_q1))).trans h_q1_q1
  have h_q1_q4 := (h5o _ (Nat.ne_of_lt (lt_q4 _ _ h_q1_q4))).trans h_q1_q4
  have h_q1_q7 := (h5o _ (Nat.ne_of_lt (lt_q4 _ _ h_q1_q7))).trans h_q1_q7
  have h_q1_q10 := (h5o _ (Nat.ne_of_lt (lt_q4 _ _ h_q1_q10))).trans h_q1_q10
  have h_q4 := h5a
  refine ev_put2 (fs' := [.null, .null, .ref q1, .ref q4, .int (iZ 0), .int (iZ 0), .int (iZ 0), .long (lZ 0), .long (lZ 0), .long (lZ 0)]) d_Re_init_20 fw_Re_18 (Or.inl rfl) hq (Nat.le_of_ble_eq_true rfl) rfl rfl rfl (fun h6 h6a h6o => ?_)
  have h_q1 := (h6o _ (by omega)).trans h_q1
  have h_q1_q1 := (h6o _ (by omega)).trans h_q1_q1
  have h_q1_q4 := (h6o _ (by omega)).trans h_q1_q4
  have h_q1_q7 := (h6o _ (by omega)).trans h_q1_q7
  have h_q1_q10 := (h6o _ (by omega)).trans h_q1_q10
  have h_q4 := (h6o _ (by omega)).trans h_q4
  have hq := h6a
  have fx := fx.step (by simp) h6o
  refine ev_aload_n d_Re_init_23 rfl rfl ?_
  refine ev_aload_n d_Re_init_24 rfl rfl ?_
  refine ev_put2 (fs' := [.ref a1, .null, .ref q1, .ref q4, .int (iZ 0), .int (iZ 0), .int (iZ 0), .long (lZ 0), .long (lZ 0), .long (lZ 0)]) d_Re_init_25 fw_Re_22 (Or.inl rfl) hq (Nat.le_of_ble_eq_true rfl) rfl rfl rfl (fun h7 h7a h7o => ?_)
  have h_q1 := (h7o _ (by omega)).trans h_q1
  have h_q1_q1 := (h7o _ (by omega)).trans h_q1_q1
  have h_q1_q4 := (h7o _ (by omega)).trans h_q1_q4
  have h_q1_q7 := (h7o _ (by omega)).trans h_q1_q7
  have h_q1_q10 := (h7o _ (by omega)).trans h_q1_q10
  have h_q4 := (h7o _ (by omega)).trans h_q4
  have hq := h7a
  have fx := fx.step (by simp) h7o
  refine ev_aload_n d_Re_init_28 rfl rfl ?_
  refine ev_aload_n d_Re_init_29 rfl rfl ?_
  refine ev_put2 (fs' := [.ref a1, .ref a2, .ref q1, .ref q4, .int (iZ 0), .int (iZ 0), .int (iZ 0), .long (lZ 0), .long (lZ 0), .long (lZ 0)]) d_Re_init_30 fw_Re_26 (Or.inl rfl) hq (Nat.le_of_ble_eq_true rfl) rfl rfl rfl (fun h8 h8a h8o => ?_)
  have h_q1 := (h8o _ (by omega)).trans h_q1
  have h_q1_q1 := (h8o _ (by omega)).trans h_q1_q1
  have h_q1_q4 := (h8o _ (by omega)).trans h_q1_q4
  have h_q1_q7 := (h8o _ (by omega)).trans h_q1_q7
  have h_q1_q10 := (h8o _ (by omega)).trans h_q1_q10
  have h_q4 := (h8o _ (by omega)).trans h_q4
  have hq := h8a
  have fx := fx.step (by simp) h8o
  exact ev_return d_Re_init_33 rfl (by decide) (by decide) (⟨rfl, q1, q1_q1, q1_q4, q1_q7, q1_q10, q4, lo_q1, o_q1_q1, o_q1_q4, o_q1_q7, o_q1_q10, o_q4, hq, h_q1, h_q1_q1, h_q1_q4, h_q1_q7, h_q1_q10, h_q4, fx⟩)
set_option maxHeartbeats 4000000 in
set_option maxRecDepth 100000 in
theorem c_Wr_init (G : GT) (h : HM) (q : Nat) (a1 : Nat) (a2 : Nat) (a3 : Nat) (hq : h q = some (.inr (4, [.null, .null, .null]))) : Rn G M_Wr_init ({ frames := 1, cells := 0, slots := 0, locals := 12 }) [.ref q, .ref a1, .ref a2, .ref a3] h (fun r h' => r = none ∧ h' q = some (.inr (4, [.ref a1, .ref a2, .ref a3])) ∧ Fx [q] h h') := by
  refine rn_of (by decide) (Nat.le_of_ble_eq_true rfl) ?_
  show Ev G M_Wr_init _ _ 0 [(0, .ref q), (1, .ref a1), (2, .ref a2), (3, .ref a3)] [] _ 0 0
  have fx : Fx [q] h h := Fx.rf
  refine ev_aload_n d_Wr_init_0 rfl rfl ?_
  refine ev_objInit d_Wr_init_1 ml_Wr_3 oi_1 oi_2 (by decide) (by decide) ?_
  refine ev_aload_n d_Wr_init_4 rfl rfl ?_
  refine ev_aload_n d_Wr_init_5 rfl rfl ?_
  refine ev_put2 (fs' := [.ref a1, .null, .null]) d_Wr_init_6 fw_Wr_9 (Or.inl rfl) hq (Nat.le_of_ble_eq_true rfl) rfl rfl rfl (fun h1 h1a h1o => ?_)
  have hq := h1a
  have fx := fx.step (by simp) h1o
  refine ev_aload_n d_Wr_init_9 rfl rfl ?_
  refine ev_aload_n d_Wr_init_10 rfl rfl ?_
  refine ev_put2 (fs' := [.ref a1, .ref a2, .null]) d_Wr_init_11 fw_Wr_15 (Or.inl rfl) hq (Nat.le_of_ble_eq_true rfl) rfl rfl rfl (fun h2 h2a h2o => ?_)
  have hq := h2a
  have fx := fx.step (by simp) h2o
  refine ev_aload_n d_Wr_init_14 rfl rfl ?_
  refine ev_aload_n d_Wr_init_15 rfl rfl ?_
  refine ev_put2 (fs' := [.ref a1, .ref a2, .ref a3]) d_Wr_init_16 fw_Wr_19 (Or.inl rfl) hq (Nat.le_of_ble_eq_true rfl) rfl rfl rfl (fun h3 h3a h3o => ?_)
  have hq := h3a
  have fx := fx.step (by simp) h3o
  exact ev_return d_Wr_init_19 rfl (by decide) (by decide) (⟨rfl, hq, fx⟩)
set_option maxHeartbeats 4000000 in
set_option maxRecDepth 100000 in
theorem c_Li_init (G : GT) (h : HM) (q : Nat) (a1 : Nat) (hq : h q = some (.inr (6, [.null, .int (iZ 0), .int (iZ 0)]))) : Rn G M_Li_init ({ frames := 1, cells := 0, slots := 0, locals := 12 }) [.ref q, .ref a1] h (fun r h' => r = none ∧ h' q = some (.inr (6, [.ref a1, .int (iZ 0), .int (iZ 0)])) ∧ Fx [q] h h') := by
  refine rn_of (by decide) (Nat.le_of_ble_eq_true rfl) ?_
  show Ev G M_Li_init _ _ 0 [(0, .ref q), (1, .ref a1)] [] _ 0 0
  have fx : Fx [q] h h := Fx.rf
  refine ev_aload_n d_Li_init_0 rfl rfl ?_
  refine ev_objInit d_Li_init_1 ml_Li_3 oi_1 oi_2 (by decide) (by decide) ?_
  refine ev_aload_n d_Li_init_4 rfl rfl ?_
  refine ev_aload_n d_Li_init_5 rfl rfl ?_
  refine ev_put2 (fs' := [.ref a1, .int (iZ 0), .int (iZ 0)]) d_Li_init_6 fw_Li_9 (Or.inl rfl) hq (Nat.le_of_ble_eq_true rfl) rfl rfl rfl (fun h1 h1a h1o => ?_)
  have hq := h1a
  have fx := fx.step (by simp) h1o
  exact ev_return d_Li_init_9 rfl (by decide) (by decide) (⟨rfl, hq, fx⟩)
set_option maxHeartbeats 4000000 in
set_option maxRecDepth 100000 in
theorem c_Rp_init (G : GT) (h : HM) (q : Nat) (a1 : Nat) (a2 : Nat) (a3 : Nat) (hq : h q = some (.inr (9, [.null, .null, .null, .null, .null, .null, .null, .null, .null, .null]))) : Rn G M_Rp_init ({ frames := 1, cells := 7, slots := 1345, locals := 12 }) [.ref q, .ref a1, .ref a2, .ref a3] h (fun r h' => r = none ∧ ∃ q1 q4 q7 q10 q13 q16 q19 : Nat, (∀ b e, h b = some e → b < q1) ∧ q1 < q4 ∧ q4 < q7 ∧ q7 < q10 ∧ q10 < q13 ∧ q13 < q16 ∧ q16 < q19 ∧ h' q = some (.inr (9, [.ref a1, .ref a2, .ref a3, .ref q1, .ref q4, .ref q7, .ref q10, .ref q13, .ref q16, .ref q19])) ∧ h' q1 = some (.inl (G_i G, 16, .inl (iA (fun _ => 0)))) ∧ h' q4 = some (.inl (G_i G, 16, .inl (iA (fun _ => 0)))) ∧ h' q7 = some (.inl (G_i G, 16, .inl (iA (fun _ => 0)))) ∧ h' q10 = some (.inl (G_i G, 97, .inl (iA (fun _ => 0)))) ∧ h' q13 = some (.inl (G_i G, 400, .inl (iA (fun _ => 0)))) ∧ h' q16 = some (.inl (G_i G, 400, .inl (iA (fun _ => 0)))) ∧ h' q19 = some (.inl (G_i G, 400, .inl (iA (fun _ => 0)))) ∧ Fx [q] h h') := by
  refine rn_of (by decide) (Nat.le_of_ble_eq_true rfl) ?_
  show Ev G M_Rp_init _ _ 0 [(0, .ref q), (1, .ref a1), (2, .ref a2), (3, .ref a3)] [] _ 0 0
  have fx : Fx [q] h h := Fx.rf
  refine ev_aload_n d_Rp_init_0 rfl rfl ?_
  refine ev_objInit d_Rp_init_1 ml_Rp_3 oi_1 oi_2 (by decide) (by decide) ?_
  refine ev_aload_n d_Rp_init_4 rfl rfl ?_
  refine ev_bipush (v := iZ 16) d_Rp_init_5 rfl ?_
  refine ez_newi 16 d_Rp_init_7 ac_i (by decide) (by decide) (by decide) (by decide) (fun q1 h2 lt_q1 h2a h2o => ?_)
  have o_q1 := lt_q1 _ _ hq
  have lo_q1 : ∀ b e, h b = some e → b < q1 := by
    intro b e hb9
    by_cases w9 : b = q
    · subst w9; omega
    · exact lt_q1 b e (fx b e hb9 (ninc w9 nin0))
  have fx := fx.new lt_q1 h2o
  have hq := (h2o _ (Nat.ne_of_lt (lt_q1 _ _ hq))).trans hq
  have h_q1 := h2a
  refine ev_put2 (fs' := [.null, .null, .null, .ref q1, .null, .null, .null, .null, .null, .null]) d_Rp_init_9 fw_Rp_9 (Or.inl rfl) hq (Nat.le_of_ble_eq_true rfl) rfl rfl rfl (fun h3 h3a h3o => ?_)
  have h_q1 := (h3o _ (by omega)).trans h_q1
  have hq := h3a
  have fx := fx.step (by simp) h3o
  refine ev_aload_n d_Rp_init_12 rfl rfl ?_
  refine ev_bipush (v := iZ 16) d_Rp_init_13 rfl ?_
  refine ez_newi 16 d_Rp_init_15 ac_i (by decide) (by decide) (by decide) (by decide) (fun q4 h5 lt_q4 h5a h5o => ?_)
  have o_q4 := lt_q4 _ _ h_q1
  have lo_q4 : ∀ b e, h b = some e → b < q4 := by
    intro b e hb9
    by_cases w9 : b = q
    · subst w9; omega
    · exact lt_q4 b e (fx b e hb9 (ninc w9 nin0))
  have fx := fx.new lt_q4 h5o
  have hq := (h5o _ (Nat.ne_of_lt (lt_q4 _ _ hq))).trans hq
  have h_q1 := (h5o _ (Nat.ne_of_lt (lt_q4 _ _ h_q1))).trans h_q1
  have h_q4 := h5a
  refine ev_put2 (fs' := [.null, .null, .null, .ref q1, .ref q4, .null, .null, .null, .null, .null]) d_Rp_init_17 fw_Rp_15 (Or.inl rfl) hq (Nat.le_of_ble_eq_true rfl) rfl rfl rfl (fun h6 h6a h6o => ?_)
  have h_q1 := (h6o _ (by omega)).trans h_q1
  have h_q4 := (h6o _ (by omega)).trans h_q4
  have hq := h6a
  have fx := fx.step (by simp) h6o
  refine ev_aload_n d_Rp_init_20 rfl rfl ?_
  refine ev_bipush (v := iZ 16) d_Rp_init_21 rfl ?_
  refine ez_newi 16 d_Rp_init_23 ac_i (by decide) (by decide) (by decide) (by decide) (fun q7 h8 lt_q7 h8a h8o => ?_)
  have o_q7 := lt_q7 _ _ h_q4
  have lo_q7 : ∀ b e, h b = some e → b < q7 := by
    intro b e hb9
    by_cases w9 : b = q
    · subst w9; omega
    · exact lt_q7 b e (fx b e hb9 (ninc w9 nin0))
  have fx := fx.new lt_q7 h8o
  have hq := (h8o _ (Nat.ne_of_lt (lt_q7 _ _ hq))).trans hq
  have h_q1 := (h8o _ (Nat.ne_of_lt (lt_q7 _ _ h_q1))).trans h_q1
  have h_q4 := (h8o _ (Nat.ne_of_lt (lt_q7 _ _ h_q4))).trans h_q4
  have h_q7 := h8a
  refine ev_put2 (fs' := [.null, .null, .null, .ref q1, .ref q4, .ref q7, .null, .null, .null, .null]) d_Rp_init_25 fw_Rp_18 (Or.inl rfl) hq (Nat.le_of_ble_eq_true rfl) rfl rfl rfl (fun h9 h9a h9o => ?_)
  have h_q1 := (h9o _ (by omega)).trans h_q1
  have h_q4 := (h9o _ (by omega)).trans h_q4
  have h_q7 := (h9o _ (by omega)).trans h_q7
  have hq := h9a
  have fx := fx.step (by simp) h9o
  refine ev_aload_n d_Rp_init_28 rfl rfl ?_
  refine ev_bipush (v := iZ 97) d_Rp_init_29 rfl ?_
  refine ez_newi 97 d_Rp_init_31 ac_i (by decide) (by decide) (by decide) (by decide) (fun q10 h11 lt_q10 h11a h11o => ?_)
  have o_q10 := lt_q10 _ _ h_q7
  have lo_q10 : ∀ b e, h b = some e → b < q10 := by
    intro b e hb9
    by_cases w9 : b = q
    · subst w9; omega
    · exact lt_q10 b e (fx b e hb9 (ninc w9 nin0))
  have fx := fx.new lt_q10 h11o
  have hq := (h11o _ (Nat.ne_of_lt (lt_q10 _ _ hq))).trans hq
  have h_q1 := (h11o _ (Nat.ne_of_lt (lt_q10 _ _ h_q1))).trans h_q1
  have h_q4 := (h11o _ (Nat.ne_of_lt (lt_q10 _ _ h_q4))).trans h_q4
  have h_q7 := (h11o _ (Nat.ne_of_lt (lt_q10 _ _ h_q7))).trans h_q7
  have h_q10 := h11a
  refine ev_put2 (fs' := [.null, .null, .null, .ref q1, .ref q4, .ref q7, .ref q10, .null, .null, .null]) d_Rp_init_33 fw_Rp_21 (Or.inl rfl) hq (Nat.le_of_ble_eq_true rfl) rfl rfl rfl (fun h12 h12a h12o => ?_)
  have h_q1 := (h12o _ (by omega)).trans h_q1
  have h_q4 := (h12o _ (by omega)).trans h_q4
  have h_q7 := (h12o _ (by omega)).trans h_q7
  have h_q10 := (h12o _ (by omega)).trans h_q10
  have hq := h12a
  have fx := fx.step (by simp) h12o
  refine ev_aload_n d_Rp_init_36 rfl rfl ?_
  refine ev_sipush (v := iZ 400) d_Rp_init_37 rfl ?_
  refine ez_newi 400 d_Rp_init_40 ac_i (by decide) (by decide) (by decide) (by decide) (fun q13 h14 lt_q13 h14a h14o => ?_)
  have o_q13 := lt_q13 _ _ h_q10
  have lo_q13 : ∀ b e, h b = some e → b < q13 := by
    intro b e hb9
    by_cases w9 : b = q
    · subst w9; omega
    · exact lt_q13 b e (fx b e hb9 (ninc w9 nin0))
  have fx := fx.new lt_q13 h14o
  have hq := (h14o _ (Nat.ne_of_lt (lt_q13 _ _ hq))).trans hq
  have h_q1 := (h14o _ (Nat.ne_of_lt (lt_q13 _ _ h_q1))).trans h_q1
  have h_q4 := (h14o _ (Nat.ne_of_lt (lt_q13 _ _ h_q4))).trans h_q4
  have h_q7 := (h14o _ (Nat.ne_of_lt (lt_q13 _ _ h_q7))).trans h_q7
  have h_q10 := (h14o _ (Nat.ne_of_lt (lt_q13 _ _ h_q10))).trans h_q10
  have h_q13 := h14a
  refine ev_put2 (fs' := [.null, .null, .null, .ref q1, .ref q4, .ref q7, .ref q10, .ref q13, .null, .null]) d_Rp_init_42 fw_Rp_24 (Or.inl rfl) hq (Nat.le_of_ble_eq_true rfl) rfl rfl rfl (fun h15 h15a h15o => ?_)
  have h_q1 := (h15o _ (by omega)).trans h_q1
  have h_q4 := (h15o _ (by omega)).trans h_q4
  have h_q7 := (h15o _ (by omega)).trans h_q7
  have h_q10 := (h15o _ (by omega)).trans h_q10
  have h_q13 := (h15o _ (by omega)).trans h_q13
  have hq := h15a
  have fx := fx.step (by simp) h15o
  refine ev_aload_n d_Rp_init_45 rfl rfl ?_
  refine ev_sipush (v := iZ 400) d_Rp_init_46 rfl ?_
  refine ez_newi 400 d_Rp_init_49 ac_i (by decide) (by decide) (by decide) (by decide) (fun q16 h17 lt_q16 h17a h17o => ?_)
  have o_q16 := lt_q16 _ _ h_q13
  have lo_q16 : ∀ b e, h b = some e → b < q16 := by
    intro b e hb9
    by_cases w9 : b = q
    · subst w9; omega
    · exact lt_q16 b e (fx b e hb9 (ninc w9 nin0))
  have fx := fx.new lt_q16 h17o
  have hq := (h17o _ (Nat.ne_of_lt (lt_q16 _ _ hq))).trans hq
  have h_q1 := (h17o _ (Nat.ne_of_lt (lt_q16 _ _ h_q1))).trans h_q1
  have h_q4 := (h17o _ (Nat.ne_of_lt (lt_q16 _ _ h_q4))).trans h_q4
  have h_q7 := (h17o _ (Nat.ne_of_lt (lt_q16 _ _ h_q7))).trans h_q7
  have h_q10 := (h17o _ (Nat.ne_of_lt (lt_q16 _ _ h_q10))).trans h_q10
  have h_q13 := (h17o _ (Nat.ne_of_lt (lt_q16 _ _ h_q13))).trans h_q13
  have h_q16 := h17a
  refine ev_put2 (fs' := [.null, .null, .null, .ref q1, .ref q4, .ref q7, .ref q10, .ref q13, .ref q16, .null]) d_Rp_init_51 fw_Rp_27 (Or.inl rfl) hq (Nat.le_of_ble_eq_true rfl) rfl rfl rfl (fun h18 h18a h18o => ?_)
  have h_q1 := (h18o _ (by omega)).trans h_q1
  have h_q4 := (h18o _ (by omega)).trans h_q4
  have h_q7 := (h18o _ (by omega)).trans h_q7
  have h_q10 := (h18o _ (by omega)).trans h_q10
  have h_q13 := (h18o _ (by omega)).trans h_q13
  have h_q16 := (h18o _ (by omega)).trans h_q16
  have hq := h18a
  have fx := fx.step (by simp) h18o
  refine ev_aload_n d_Rp_init_54 rfl rfl ?_
  refine ev_sipush (v := iZ 400) d_Rp_init_55 rfl ?_
  refine ez_newi 400 d_Rp_init_58 ac_i (by decide) (by decide) (by decide) (by decide) (fun q19 h20 lt_q19 h20a h20o => ?_)
  have o_q19 := lt_q19 _ _ h_q16
  have lo_q19 : ∀ b e, h b = some e → b < q19 := by
    intro b e hb9
    by_cases w9 : b = q
    · subst w9; omega
    · exact lt_q19 b e (fx b e hb9 (ninc w9 nin0))
  have fx := fx.new lt_q19 h20o
  have hq := (h20o _ (Nat.ne_of_lt (lt_q19 _ _ hq))).trans hq
  have h_q1 := (h20o _ (Nat.ne_of_lt (lt_q19 _ _ h_q1))).trans h_q1
  have h_q4 := (h20o _ (Nat.ne_of_lt (lt_q19 _ _ h_q4))).trans h_q4
  have h_q7 := (h20o _ (Nat.ne_of_lt (lt_q19 _ _ h_q7))).trans h_q7
  have h_q10 := (h20o _ (Nat.ne_of_lt (lt_q19 _ _ h_q10))).trans h_q10
  have h_q13 := (h20o _ (Nat.ne_of_lt (lt_q19 _ _ h_q13))).trans h_q13
  have h_q16 := (h20o _ (Nat.ne_of_lt (lt_q19 _ _ h_q16))).trans h_q16
  have h_q19 := h20a
  refine ev_put2 (fs' := [.null, .null, .null, .ref q1, .ref q4, .ref q7, .ref q10, .ref q13, .ref q16, .ref q19]) d_Rp_init_60 fw_Rp_30 (Or.inl rfl) hq (Nat.le_of_ble_eq_true rfl) rfl rfl rfl (fun h21 h21a h21o => ?_)
  have h_q1 := (h21o _ (by omega)).trans h_q1
  have h_q4 := (h21o _ (by omega)).trans h_q4
  have h_q7 := (h21o _ (by omega)).trans h_q7
  have h_q10 := (h21o _ (by omega)).trans h_q10
  have h_q13 := (h21o _ (by omega)).trans h_q13
  have h_q16 := (h21o _ (by omega)).trans h_q16
  have h_q19 := (h21o _ (by omega)).trans h_q19
  have hq := h21a
  have fx := fx.step (by simp) h21o
  refine ev_aload_n d_Rp_init_63 rfl rfl ?_
  refine ev_aload_n d_Rp_init_64 rfl rfl ?_
  refine ev_put2 (fs' := [.ref a1, .null, .null, .ref q1, .ref q4, .ref q7, .ref q10, .ref q13, .ref q16, .ref q19]) d_Rp_init_65 fw_Rp_33 (Or.inl rfl) hq (Nat.le_of_ble_eq_true rfl) rfl rfl rfl (fun h22 h22a h22o => ?_)
  have h_q1 := (h22o _ (by omega)).trans h_q1
  have h_q4 := (h22o _ (by omega)).trans h_q4
  have h_q7 := (h22o _ (by omega)).trans h_q7
  have h_q10 := (h22o _ (by omega)).trans h_q10
  have h_q13 := (h22o _ (by omega)).trans h_q13
  have h_q16 := (h22o _ (by omega)).trans h_q16
  have h_q19 := (h22o _ (by omega)).trans h_q19
  have hq := h22a
  have fx := fx.step (by simp) h22o
  refine ev_aload_n d_Rp_init_68 rfl rfl ?_
  refine ev_aload_n d_Rp_init_69 rfl rfl ?_
  refine ev_put2 (fs' := [.ref a1, .ref a2, .null, .ref q1, .ref q4, .ref q7, .ref q10, .ref q13, .ref q16, .ref q19]) d_Rp_init_70 fw_Rp_37 (Or.inl rfl) hq (Nat.le_of_ble_eq_true rfl) rfl rfl rfl (fun h23 h23a h23o => ?_)
  have h_q1 := (h23o _ (by omega)).trans h_q1
  have h_q4 := (h23o _ (by omega)).trans h_q4
  have h_q7 := (h23o _ (by omega)).trans h_q7
  have h_q10 := (h23o _ (by omega)).trans h_q10
  have h_q13 := (h23o _ (by omega)).trans h_q13
  have h_q16 := (h23o _ (by omega)).trans h_q16
  have h_q19 := (h23o _ (by omega)).trans h_q19
  have hq := h23a
  have fx := fx.step (by simp) h23o
  refine ev_aload_n d_Rp_init_73 rfl rfl ?_
  refine ev_aload_n d_Rp_init_74 rfl rfl ?_
  refine ev_put2 (fs' := [.ref a1, .ref a2, .ref a3, .ref q1, .ref q4, .ref q7, .ref q10, .ref q13, .ref q16, .ref q19]) d_Rp_init_75 fw_Rp_41 (Or.inl rfl) hq (Nat.le_of_ble_eq_true rfl) rfl rfl rfl (fun h24 h24a h24o => ?_)
  have h_q1 := (h24o _ (by omega)).trans h_q1
  have h_q4 := (h24o _ (by omega)).trans h_q4
  have h_q7 := (h24o _ (by omega)).trans h_q7
  have h_q10 := (h24o _ (by omega)).trans h_q10
  have h_q13 := (h24o _ (by omega)).trans h_q13
  have h_q16 := (h24o _ (by omega)).trans h_q16
  have h_q19 := (h24o _ (by omega)).trans h_q19
  have hq := h24a
  have fx := fx.step (by simp) h24o
  exact ev_return d_Rp_init_78 rfl (by decide) (by decide) (⟨rfl, q1, q4, q7, q10, q13, q16, q19, lo_q1, o_q4, o_q7, o_q10, o_q13, o_q16, o_q19, hq, h_q1, h_q4, h_q7, h_q10, h_q13, h_q16, h_q19, fx⟩)
