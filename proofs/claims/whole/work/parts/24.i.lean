theorem d_Pa_takeBack_0 : decode M_Pa_takeBack.2.1 0 = .ok (.aload_n 0, 1) := by decide +kernel
theorem d_Pa_takeBack_1 : decode M_Pa_takeBack.2.1 1 = .ok (.getfield 15, 3) := by decide +kernel
theorem d_Pa_takeBack_4 : decode M_Pa_takeBack.2.1 4 = .ok (.bipush 10, 2) := by decide +kernel
theorem d_Pa_takeBack_6 : decode M_Pa_takeBack.2.1 6 = .ok (.iadd, 1) := by decide +kernel
theorem d_Pa_takeBack_7 : decode M_Pa_takeBack.2.1 7 = .ok (.iconst 1, 1) := by decide +kernel
theorem d_Pa_takeBack_8 : decode M_Pa_takeBack.2.1 8 = .ok (.isub, 1) := by decide +kernel
theorem d_Pa_takeBack_9 : decode M_Pa_takeBack.2.1 9 = .ok (.bipush 10, 2) := by decide +kernel
theorem d_Pa_takeBack_11 : decode M_Pa_takeBack.2.1 11 = .ok (.irem, 1) := by decide +kernel
theorem d_Pa_takeBack_12 : decode M_Pa_takeBack.2.1 12 = .ok (.istore_n 2, 1) := by decide +kernel
theorem d_Pa_takeBack_13 : decode M_Pa_takeBack.2.1 13 = .ok (.aload_n 0, 1) := by decide +kernel
theorem d_Pa_takeBack_14 : decode M_Pa_takeBack.2.1 14 = .ok (.getfield 24, 3) := by decide +kernel
theorem d_Pa_takeBack_17 : decode M_Pa_takeBack.2.1 17 = .ok (.ifCond .eq 12, 3) := by decide +kernel
theorem d_Pa_takeBack_20 : decode M_Pa_takeBack.2.1 20 = .ok (.aload_n 0, 1) := by decide +kernel
theorem d_Pa_takeBack_21 : decode M_Pa_takeBack.2.1 21 = .ok (.getfield 11, 3) := by decide +kernel
theorem d_Pa_takeBack_24 : decode M_Pa_takeBack.2.1 24 = .ok (.iload_n 2, 1) := by decide +kernel
theorem d_Pa_takeBack_25 : decode M_Pa_takeBack.2.1 25 = .ok (.aaload, 1) := by decide +kernel
theorem d_Pa_takeBack_26 : decode M_Pa_takeBack.2.1 26 = .ok (.ifnonnull 5, 3) := by decide +kernel
theorem d_Pa_takeBack_29 : decode M_Pa_takeBack.2.1 29 = .ok (.iconst 0, 1) := by decide +kernel
theorem d_Pa_takeBack_30 : decode M_Pa_takeBack.2.1 30 = .ok (.ireturn, 1) := by decide +kernel
theorem d_Pa_takeBack_31 : decode M_Pa_takeBack.2.1 31 = .ok (.aload_n 1, 1) := by decide +kernel
theorem d_Pa_takeBack_32 : decode M_Pa_takeBack.2.1 32 = .ok (.aload_n 0, 1) := by decide +kernel
theorem d_Pa_takeBack_33 : decode M_Pa_takeBack.2.1 33 = .ok (.getfield 11, 3) := by decide +kernel
theorem d_Pa_takeBack_36 : decode M_Pa_takeBack.2.1 36 = .ok (.iload_n 2, 1) := by decide +kernel
theorem d_Pa_takeBack_37 : decode M_Pa_takeBack.2.1 37 = .ok (.aaload, 1) := by decide +kernel
theorem d_Pa_takeBack_38 : decode M_Pa_takeBack.2.1 38 = .ok (.invokevirtual 20, 3) := by decide +kernel
theorem d_Pa_takeBack_41 : decode M_Pa_takeBack.2.1 41 = .ok (.aload_n 0, 1) := by decide +kernel
theorem d_Pa_takeBack_42 : decode M_Pa_takeBack.2.1 42 = .ok (.iload_n 2, 1) := by decide +kernel
theorem d_Pa_takeBack_43 : decode M_Pa_takeBack.2.1 43 = .ok (.putfield 15, 3) := by decide +kernel
theorem d_Pa_takeBack_46 : decode M_Pa_takeBack.2.1 46 = .ok (.aload_n 0, 1) := by decide +kernel
theorem d_Pa_takeBack_47 : decode M_Pa_takeBack.2.1 47 = .ok (.dup, 1) := by decide +kernel
theorem d_Pa_takeBack_48 : decode M_Pa_takeBack.2.1 48 = .ok (.getfield 24, 3) := by decide +kernel
theorem d_Pa_takeBack_51 : decode M_Pa_takeBack.2.1 51 = .ok (.iconst 1, 1) := by decide +kernel
theorem d_Pa_takeBack_52 : decode M_Pa_takeBack.2.1 52 = .ok (.isub, 1) := by decide +kernel
theorem d_Pa_takeBack_53 : decode M_Pa_takeBack.2.1 53 = .ok (.putfield 24, 3) := by decide +kernel
theorem d_Pa_takeBack_56 : decode M_Pa_takeBack.2.1 56 = .ok (.iconst 1, 1) := by decide +kernel
theorem d_Pa_takeBack_57 : decode M_Pa_takeBack.2.1 57 = .ok (.ireturn, 1) := by decide +kernel
set_option maxHeartbeats 4000000 in
set_option maxRecDepth 100000 in
theorem c_Pa_keepR (G : GT) (h : HM) (p pk q q1 q2 q3 q4 o o1 o2 o3 o4 : Nat) (Kp : Nat → Option Nat) (n0 : Int) (nx ct n : Nat) (F1 F2 F3 F4 K1 K2 K3 K4 : Nat → Int) (hp : h p = some (.inr (7, [.ref pk, .int (iZ (nx : Int)), .int (iZ (ct : Int))]))) (hpk : h pk = some (.inl (G_q G, 10, .inr (.inr (.inr (.inr Kp)))))) (hq : h q = some (.inr (2, [.ref q1, .ref q2, .ref q3, .ref q4, .int (iZ n0)]))) (hq1 : h q1 = some (.inl (G_j G, 16, .inr (.inl (lA F1))))) (hq2 : h q2 = some (.inl (G_j G, 16, .inr (.inl (lA F2))))) (hq3 : h q3 = some (.inl (G_i G, 16, .inl (iA F3)))) (hq4 : h q4 = some (.inl (G_i G, 1024, .inl (iA F4)))) (ho : h o = some (.inr (2, [.ref o1, .ref o2, .ref o3, .ref o4, .int (iZ (n : Int))]))) (ho1 : h o1 = some (.inl (G_j G, 16, .inr (.inl (lA K1))))) (ho2 : h o2 = some (.inl (G_j G, 16, .inr (.inl (lA K2))))) (ho3 : h o3 = some (.inl (G_i G, 16, .inl (iA K3)))) (ho4 : h o4 = some (.inl (G_i G, 1024, .inl (iA K4)))) (hnx : nx < 10) (hct : ct ≤ 10) (hn : n ≤ 16) (hK0 : Kp nx = some q) (n_q_o : q ≠ o) (n_q1_q2 : q1 ≠ q2) (n_q1_o1 : q1 ≠ o1) (n_q1_o2 : q1 ≠ o2) (n_q2_o1 : q2 ≠ o1) (n_q2_o2 : q2 ≠ o2) (n_q3_o3 : q3 ≠ o3) (n_q4_o4 : q4 ≠ o4) (n_o1_o2 : o1 ≠ o2) : Rn G M_Pa_keep ({ frames := 2, cells := 5, slots := 1077, locals := 61 }) [.ref p, .ref o] h (fun r h' => r = none ∧ h' p = some (.inr (7, [.ref pk, .int (iZ (((nx + 1) % 10 : Nat) : Int)), .int (iZ ((min (ct + 1) 10 : Nat) : Int))])) ∧ h' pk = some (.inl (G_q G, 10, .inr (.inr (.inr (.inr Kp))))) ∧ h' q = some (.inr (2, [.ref q1, .ref q2, .ref q3, .ref q4, .int (iZ (n : Int))])) ∧ h' q1 = some (.inl (G_j G, 16, .inr (.inl (lA (va_cpy K1 F1 0 0 n))))) ∧ h' q2 = some (.inl (G_j G, 16, .inr (.inl (lA (va_cpy K2 F2 0 0 n))))) ∧ h' q3 = some (.inl (G_i G, 16, .inl (iA (va_cpy K3 F3 0 0 n)))) ∧ h' q4 = some (.inl (G_i G, 1024, .inl (iA (va_cpy K4 F4 0 0 (n * 64))))) ∧ Fm [p, q, q1, q2, q3, q4] h h') := by
  refine rn_of (by decide) (Nat.le_of_ble_eq_true rfl) ?_
  show Ev G M_Pa_keep _ _ 0 [(0, .ref p), (1, .ref o)] [] _ 0 0
  have fm : Fm [p, q, q1, q2, q3, q4] h h := Fm.rf
  refine ev_aload_n d_Pa_keep_0 rfl rfl ?_
  refine ev_get d_Pa_keep_1 fl_Pa_11 hp rfl ?_
  refine ev_aload_n d_Pa_keep_4 rfl rfl ?_
  refine ev_get d_Pa_keep_5 fl_Pa_15 hp rfl ?_
  refine ev_aaload d_Pa_keep_8 hpk (iZ_in (j := nx) rfl (by omega) (by decide)) ?_
  rw [iZ_cl (j := nx) rfl (by omega), hK0]
  refine ev_ifnonnull (tgt := 28) d_Pa_keep_9 rfl ?_
  refine ev_aload_n d_Pa_keep_28 rfl rfl ?_
  refine ev_get d_Pa_keep_29 fl_Pa_11 hp rfl ?_
  refine ev_aload_n d_Pa_keep_32 rfl rfl ?_
  refine ev_get d_Pa_keep_33 fl_Pa_15 hp rfl ?_
  refine ev_aaload d_Pa_keep_36 hpk (iZ_in (j := nx) rfl (by omega) (by decide)) ?_
  rw [iZ_cl (j := nx) rfl (by omega), hK0]
  refine ev_aload_n d_Pa_keep_37 rfl rfl ?_
  refine ev_callV M_Ro_copyFrom (rm 1 40) _ (As := [.ref o]) (c_Ro_copyFrom G h q q1 q2 q3 q4 o o1 o2 o3 o4 n0 n F1 F2 F3 F4 K1 K2 K3 K4 hq hq1 hq2 hq3 hq4 ho ho1 ho2 ho3 ho4 hn n_q_o n_q1_q2 n_q1_o1 n_q1_o2 n_q2_o1 n_q2_o2 n_q3_o3 n_q4_o4 n_o1_o2) d_Pa_keep_38 mk_Ro_copyFrom ml_Pa_20 mv_Ro_copyFrom hq rfl rfl rfl (Nat.le_of_ble_eq_true rfl) ⟨by decide, by decide⟩ ⟨by decide, by decide⟩ (fun r h4 hr => ?_)
  obtain ⟨rfl, c0, c1, c2, c3, c4, fm4⟩ := hr
  have hp := (fm4 _ (ninc (cne hp hq (by simp)) (ninc (cne hp hq1 (by simp)) (ninc (cne hp hq2 (by simp)) (ninc (cne hp hq3 (by simp)) (ninc (cne hp hq4 (by simp)) nin0)))))).trans hp
  have hpk := (fm4 _ (ninc (cne hpk hq (by simp)) (ninc (cne hpk hq1 (by simp)) (ninc (cne hpk hq2 (by simp)) (ninc (cne hpk hq3 (by simp)) (ninc (cne hpk hq4 (by simp)) nin0)))))).trans hpk
  have ho := (fm4 _ (ninc (Ne.symm n_q_o) (ninc (cne ho hq1 (by simp)) (ninc (cne ho hq2 (by simp)) (ninc (cne ho hq3 (by simp)) (ninc (cne ho hq4 (by simp)) nin0)))))).trans ho
  have ho1 := (fm4 _ (ninc (cne ho1 hq (by simp)) (ninc (Ne.symm n_q1_o1) (ninc (Ne.symm n_q2_o1) (ninc (cne ho1 hq3 (by simp)) (ninc (cne ho1 hq4 (by simp)) nin0)))))).trans ho1
  have ho2 := (fm4 _ (ninc (cne ho2 hq (by simp)) (ninc (Ne.symm n_q1_o2) (ninc (Ne.symm n_q2_o2) (ninc (cne ho2 hq3 (by simp)) (ninc (cne ho2 hq4 (by simp)) nin0)))))).trans ho2
  have ho3 := (fm4 _ (ninc (cne ho3 hq (by simp)) (ninc (cne ho3 hq1 (by simp)) (ninc (cne ho3 hq2 (by simp)) (ninc (Ne.symm n_q3_o3) (ninc (cne ho3 hq4 (by simp)) nin0)))))).trans ho3
  have ho4 := (fm4 _ (ninc (cne ho4 hq (by simp)) (ninc (cne ho4 hq1 (by simp)) (ninc (cne ho4 hq2 (by simp)) (ninc (cne ho4 hq3 (by simp)) (ninc (Ne.symm n_q4_o4) nin0)))))).trans ho4
  have hq := c0
  have hq1 := c1
  have hq2 := c2
  have hq3 := c3
  have hq4 := c4
  have fm := fm.call (by simp) fm4
  refine ev_aload_n d_Pa_keep_41 rfl rfl ?_
  refine ev_aload_n d_Pa_keep_42 rfl rfl ?_
  refine ev_get d_Pa_keep_43 fl_Pa_15 hp rfl ?_
  refine ev_iconst (v := iZ 1) d_Pa_keep_46 rfl ?_
  refine ez_iadd d_Pa_keep_47 ?_
  refine ev_bipush (v := iZ 10) d_Pa_keep_48 rfl ?_
  refine ez_irem (by omega) (by omega) (by omega) (by omega) d_Pa_keep_50 ?_
  rw [show (((nx : Int) + 1) % 10 : Int) = (((nx + 1) % 10 : Nat) : Int) from by omega]
  refine ev_put2 (fs' := [.ref pk, .int (iZ (((nx + 1) % 10 : Nat) : Int)), .int (iZ (ct : Int))]) d_Pa_keep_51 fw_Pa_15 (Or.inr (fun _ _ _ q => by cases q; rfl)) hp (Nat.le_of_ble_eq_true rfl) rfl rfl rfl (fun h1 h1a h1o => ?_)
  have hpk := (h1o _ (cne hpk hp (by simp))).trans hpk
  have hq := (h1o _ (cne hq hp (by simp))).trans hq
  have hq1 := (h1o _ (cne hq1 hp (by simp))).trans hq1
  have hq2 := (h1o _ (cne hq2 hp (by simp))).trans hq2
  have hq3 := (h1o _ (cne hq3 hp (by simp))).trans hq3
  have hq4 := (h1o _ (cne hq4 hp (by simp))).trans hq4
  have ho := (h1o _ (cne ho hp (by simp))).trans ho
  have ho1 := (h1o _ (cne ho1 hp (by simp))).trans ho1
  have ho2 := (h1o _ (cne ho2 hp (by simp))).trans ho2
  have ho3 := (h1o _ (cne ho3 hp (by simp))).trans ho3
  have ho4 := (h1o _ (cne ho4 hp (by simp))).trans ho4
  have hp := h1a
  have fm := fm.step (by simp) h1o
  refine ev_aload_n d_Pa_keep_54 rfl rfl ?_
  refine ev_get d_Pa_keep_55 fl_Pa_24 hp rfl ?_
  refine ev_bipush (v := iZ 10) d_Pa_keep_58 rfl ?_
  refine ez_icmp_ge (tgt := 73) (by omega) (by decide) d_Pa_keep_60 rfl (fun c60 => ?_) (fun c60 => ?_)
  · exact ev_return d_Pa_keep_73 rfl (by decide) (by decide) (⟨rfl, by rw [show (min (ct + 1) 10 : Nat) = ct by omega]; exact hp, hpk, hq, hq1, hq2, hq3, hq4, fm⟩)
  · refine ev_aload_n d_Pa_keep_63 rfl rfl ?_
    refine ev_dup d_Pa_keep_64 rfl ?_
    refine ev_get d_Pa_keep_65 fl_Pa_24 hp rfl ?_
    refine ev_iconst (v := iZ 1) d_Pa_keep_68 rfl ?_
    refine ez_iadd d_Pa_keep_69 ?_
    refine ev_put2 (fs' := [.ref pk, .int (iZ (((nx + 1) % 10 : Nat) : Int)), .int (iZ ((ct : Int) + 1))]) d_Pa_keep_70 fw_Pa_24 (Or.inr (fun _ _ _ q => by cases q; rfl)) hp (Nat.le_of_ble_eq_true rfl) rfl rfl rfl (fun h2 h2a h2o => ?_)
    have hpk := (h2o _ (cne hpk hp (by simp))).trans hpk
    have hq := (h2o _ (cne hq hp (by simp))).trans hq
    have hq1 := (h2o _ (cne hq1 hp (by simp))).trans hq1
    have hq2 := (h2o _ (cne hq2 hp (by simp))).trans hq2
    have hq3 := (h2o _ (cne hq3 hp (by simp))).trans hq3
    have hq4 := (h2o _ (cne hq4 hp (by simp))).trans hq4
    have ho := (h2o _ (cne ho hp (by simp))).trans ho
    have ho1 := (h2o _ (cne ho1 hp (by simp))).trans ho1
    have ho2 := (h2o _ (cne ho2 hp (by simp))).trans ho2
    have ho3 := (h2o _ (cne ho3 hp (by simp))).trans ho3
    have ho4 := (h2o _ (cne ho4 hp (by simp))).trans ho4
    have hp := h2a
    have fm := fm.step (by simp) h2o
    exact ev_return d_Pa_keep_73 rfl (by decide) (by decide) (⟨rfl, by rw [show ((min (ct + 1) 10 : Nat) : Int) = (ct : Int) + 1 by omega]; exact hp, hpk, hq, hq1, hq2, hq3, hq4, fm⟩)
set_option maxHeartbeats 4000000 in
set_option maxRecDepth 100000 in
theorem c_Pa_takeBack0 (G : GT) (h : HM) (p pk o : Nat) (Kp : Nat → Option Nat) (nx : Nat) (hp : h p = some (.inr (7, [.ref pk, .int (iZ (nx : Int)), .int (iZ 0)]))) (hpk : h pk = some (.inl (G_q G, 10, .inr (.inr (.inr (.inr Kp)))))) (hnx : nx < 10) : Rn G M_Pa_takeBack (rm 0 0) [.ref p, .ref o] h (Pu (.int (iZ 0)) h) := by
  refine rn_of (by decide) (Nat.le_of_ble_eq_true rfl) ?_
  show Ev G M_Pa_takeBack _ _ 0 [(0, .ref p), (1, .ref o)] [] _ 0 0
  refine ev_aload_n d_Pa_takeBack_0 rfl rfl ?_
  refine ev_get d_Pa_takeBack_1 fl_Pa_15 hp rfl ?_
  refine ev_bipush (v := iZ 10) d_Pa_takeBack_4 rfl ?_
  refine ez_iadd d_Pa_takeBack_6 ?_
  refine ev_iconst (v := iZ 1) d_Pa_takeBack_7 rfl ?_
  refine ez_isub d_Pa_takeBack_8 ?_
  refine ev_bipush (v := iZ 10) d_Pa_takeBack_9 rfl ?_
  refine ez_irem (by omega) (by omega) (by omega) (by omega) d_Pa_takeBack_11 ?_
  refine ev_istore_n (L' := [(0, .ref p), (1, .ref o), (2, .int (iZ ((((nx : Int) + 10) - 1) % 10)))]) d_Pa_takeBack_12 rfl (by decide) rfl ?_
  refine ev_aload_n d_Pa_takeBack_13 rfl rfl ?_
  refine ev_get d_Pa_takeBack_14 fl_Pa_24 hp rfl ?_
  refine ez_if_eq (tgt := 29) (by decide) d_Pa_takeBack_17 rfl (fun c17 => ?_) (fun c17 => absurd c17 (by omega))
  refine ev_iconst (v := iZ 0) d_Pa_takeBack_29 rfl ?_
  exact ev_zreturn d_Pa_takeBack_30 rfl (Or.inl rfl) (by decide) (by decide) (⟨rfl, rfl⟩)
set_option maxHeartbeats 4000000 in
set_option maxRecDepth 100000 in
theorem c_Pa_takeBack (G : GT) (h : HM) (p pk q q1 q2 q3 q4 o o1 o2 o3 o4 : Nat) (Kp : Nat → Option Nat) (n0 : Int) (nx ct n : Nat) (F1 F2 F3 F4 K1 K2 K3 K4 : Nat → Int) (hp : h p = some (.inr (7, [.ref pk, .int (iZ (nx : Int)), .int (iZ (ct : Int))]))) (hpk : h pk = some (.inl (G_q G, 10, .inr (.inr (.inr (.inr Kp)))))) (ho : h o = some (.inr (2, [.ref o1, .ref o2, .ref o3, .ref o4, .int (iZ n0)]))) (ho1 : h o1 = some (.inl (G_j G, 16, .inr (.inl (lA F1))))) (ho2 : h o2 = some (.inl (G_j G, 16, .inr (.inl (lA F2))))) (ho3 : h o3 = some (.inl (G_i G, 16, .inl (iA F3)))) (ho4 : h o4 = some (.inl (G_i G, 1024, .inl (iA F4)))) (hq : h q = some (.inr (2, [.ref q1, .ref q2, .ref q3, .ref q4, .int (iZ (n : Int))]))) (hq1 : h q1 = some (.inl (G_j G, 16, .inr (.inl (lA K1))))) (hq2 : h q2 = some (.inl (G_j G, 16, .inr (.inl (lA K2))))) (hq3 : h q3 = some (.inl (G_i G, 16, .inl (iA K3)))) (hq4 : h q4 = some (.inl (G_i G, 1024, .inl (iA K4)))) (hnx : nx < 10) (hct : 1 ≤ ct ∧ ct ≤ 10) (hn : n ≤ 16) (hK0 : Kp ((nx + 9) % 10) = some q) (n_o_q : o ≠ q) (n_o1_o2 : o1 ≠ o2) (n_o1_q1 : o1 ≠ q1) (n_o1_q2 : o1 ≠ q2) (n_o2_q1 : o2 ≠ q1) (n_o2_q2 : o2 ≠ q2) (n_o3_q3 : o3 ≠ q3) (n_o4_q4 : o4 ≠ q4) (n_q1_q2 : q1 ≠ q2) : Rn G M_Pa_takeBack (rm 2 61) [.ref p, .ref o] h (fun r h' => r = some (.int (iZ 1)) ∧ h' p = some (.inr (7, [.ref pk, .int (iZ (((nx + 9) % 10 : Nat) : Int)), .int (iZ ((ct - 1 : Nat) : Int))])) ∧ h' o = some (.inr (2, [.ref o1, .ref o2, .ref o3, .ref o4, .int (iZ (n : Int))])) ∧ h' o1 = some (.inl (G_j G, 16, .inr (.inl (lA (va_cpy K1 F1 0 0 n))))) ∧ h' o2 = some (.inl (G_j G, 16, .inr (.inl (lA (va_cpy K2 F2 0 0 n))))) ∧ h' o3 = some (.inl (G_i G, 16, .inl (iA (va_cpy K3 F3 0 0 n)))) ∧ h' o4 = some (.inl (G_i G, 1024, .inl (iA (va_cpy K4 F4 0 0 (n * 64))))) ∧ Fm [p, o, o1, o2, o3, o4] h h') := by
  refine rn_of (by decide) (Nat.le_of_ble_eq_true rfl) ?_
  show Ev G M_Pa_takeBack _ _ 0 [(0, .ref p), (1, .ref o)] [] _ 0 0
  have fm : Fm [p, o, o1, o2, o3, o4] h h := Fm.rf
  refine ev_aload_n d_Pa_takeBack_0 rfl rfl ?_
  refine ev_get d_Pa_takeBack_1 fl_Pa_15 hp rfl ?_
  refine ev_bipush (v := iZ 10) d_Pa_takeBack_4 rfl ?_
  refine ez_iadd d_Pa_takeBack_6 ?_
  refine ev_iconst (v := iZ 1) d_Pa_takeBack_7 rfl ?_
  refine ez_isub d_Pa_takeBack_8 ?_
  refine ev_bipush (v := iZ 10) d_Pa_takeBack_9 rfl ?_
  refine ez_irem (by omega) (by omega) (by omega) (by omega) d_Pa_takeBack_11 ?_
  rw [show ((((nx : Int) + 10) - 1) % 10 : Int) = (((nx + 9) % 10 : Nat) : Int) from by omega]
  refine ev_istore_n (L' := [(0, .ref p), (1, .ref o), (2, .int (iZ (((nx + 9) % 10 : Nat) : Int)))]) d_Pa_takeBack_12 rfl (by decide) rfl ?_
  refine ev_aload_n d_Pa_takeBack_13 rfl rfl ?_
  refine ev_get d_Pa_takeBack_14 fl_Pa_24 hp rfl ?_
  refine ez_if_eq (tgt := 29) (by omega) d_Pa_takeBack_17 rfl (fun c17 => absurd c17 (by omega)) (fun c17 => ?_)
  refine ev_aload_n d_Pa_takeBack_20 rfl rfl ?_
  refine ev_get d_Pa_takeBack_21 fl_Pa_11 hp rfl ?_
  refine ev_iload_n d_Pa_takeBack_24 rfl rfl ?_
  refine ev_aaload d_Pa_takeBack_25 hpk (iZ_in (j := ((nx + 9) % 10)) rfl (by omega) (by decide)) ?_
  rw [iZ_cl (j := ((nx + 9) % 10)) rfl (by omega), hK0]
  refine ev_ifnonnull (tgt := 31) d_Pa_takeBack_26 rfl ?_
  refine ev_aload_n d_Pa_takeBack_31 rfl rfl ?_
  refine ev_aload_n d_Pa_takeBack_32 rfl rfl ?_
  refine ev_get d_Pa_takeBack_33 fl_Pa_11 hp rfl ?_
  refine ev_iload_n d_Pa_takeBack_36 rfl rfl ?_
  refine ev_aaload d_Pa_takeBack_37 hpk (iZ_in (j := ((nx + 9) % 10)) rfl (by omega) (by decide)) ?_
  rw [iZ_cl (j := ((nx + 9) % 10)) rfl (by omega), hK0]
  refine ev_callV M_Ro_copyFrom (rm 1 40) _ (As := [.ref q]) (c_Ro_copyFrom G h o o1 o2 o3 o4 q q1 q2 q3 q4 n0 n F1 F2 F3 F4 K1 K2 K3 K4 ho ho1 ho2 ho3 ho4 hq hq1 hq2 hq3 hq4 hn n_o_q n_o1_o2 n_o1_q1 n_o1_q2 n_o2_q1 n_o2_q2 n_o3_q3 n_o4_q4 n_q1_q2) d_Pa_takeBack_38 mk_Ro_copyFrom ml_Pa_20 mv_Ro_copyFrom ho rfl rfl rfl (Nat.le_of_ble_eq_true rfl) ⟨by decide, by decide⟩ ⟨by decide, by decide⟩ (fun r h4 hr => ?_)
  obtain ⟨rfl, c0, c1, c2, c3, c4, fm4⟩ := hr
  have hp := (fm4 _ (ninc (cne hp ho (by simp)) (ninc (cne hp ho1 (by simp)) (ninc (cne hp ho2 (by simp)) (ninc (cne hp ho3 (by simp)) (ninc (cne hp ho4 (by simp)) nin0)))))).trans hp
  have hpk := (fm4 _ (ninc (cne hpk ho (by simp)) (ninc (cne hpk ho1 (by simp)) (ninc (cne hpk ho2 (by simp)) (ninc (cne hpk ho3 (by simp)) (ninc (cne hpk ho4 (by simp)) nin0)))))).trans hpk
  have hq := (fm4 _ (ninc (Ne.symm n_o_q) (ninc (cne hq ho1 (by simp)) (ninc (cne hq ho2 (by simp)) (ninc (cne hq ho3 (by simp)) (ninc (cne hq ho4 (by simp)) nin0)))))).trans hq
  have hq1 := (fm4 _ (ninc (cne hq1 ho (by simp)) (ninc (Ne.symm n_o1_q1) (ninc (Ne.symm n_o2_q1) (ninc (cne hq1 ho3 (by simp)) (ninc (cne hq1 ho4 (by simp)) nin0)))))).trans hq1
  have hq2 := (fm4 _ (ninc (cne hq2 ho (by simp)) (ninc (Ne.symm n_o1_q2) (ninc (Ne.symm n_o2_q2) (ninc (cne hq2 ho3 (by simp)) (ninc (cne hq2 ho4 (by simp)) nin0)))))).trans hq2
  have hq3 := (fm4 _ (ninc (cne hq3 ho (by simp)) (ninc (cne hq3 ho1 (by simp)) (ninc (cne hq3 ho2 (by simp)) (ninc (Ne.symm n_o3_q3) (ninc (cne hq3 ho4 (by simp)) nin0)))))).trans hq3
  have hq4 := (fm4 _ (ninc (cne hq4 ho (by simp)) (ninc (cne hq4 ho1 (by simp)) (ninc (cne hq4 ho2 (by simp)) (ninc (cne hq4 ho3 (by simp)) (ninc (Ne.symm n_o4_q4) nin0)))))).trans hq4
  have ho := c0
  have ho1 := c1
  have ho2 := c2
  have ho3 := c3
  have ho4 := c4
  have fm := fm.call (by simp) fm4
  refine ev_aload_n d_Pa_takeBack_41 rfl rfl ?_
  refine ev_iload_n d_Pa_takeBack_42 rfl rfl ?_
  refine ev_put2 (fs' := [.ref pk, .int (iZ (((nx + 9) % 10 : Nat) : Int)), .int (iZ (ct : Int))]) d_Pa_takeBack_43 fw_Pa_15 (Or.inr (fun _ _ _ q => by cases q; rfl)) hp (Nat.le_of_ble_eq_true rfl) rfl rfl rfl (fun h1 h1a h1o => ?_)
  have hpk := (h1o _ (cne hpk hp (by simp))).trans hpk
  have ho := (h1o _ (cne ho hp (by simp))).trans ho
  have ho1 := (h1o _ (cne ho1 hp (by simp))).trans ho1
  have ho2 := (h1o _ (cne ho2 hp (by simp))).trans ho2
  have ho3 := (h1o _ (cne ho3 hp (by simp))).trans ho3
  have ho4 := (h1o _ (cne ho4 hp (by simp))).trans ho4
  have hq := (h1o _ (cne hq hp (by simp))).trans hq
  have hq1 := (h1o _ (cne hq1 hp (by simp))).trans hq1
  have hq2 := (h1o _ (cne hq2 hp (by simp))).trans hq2
  have hq3 := (h1o _ (cne hq3 hp (by simp))).trans hq3
  have hq4 := (h1o _ (cne hq4 hp (by simp))).trans hq4
  have hp := h1a
  have fm := fm.step (by simp) h1o
  refine ev_aload_n d_Pa_takeBack_46 rfl rfl ?_
  refine ev_dup d_Pa_takeBack_47 rfl ?_
  refine ev_get d_Pa_takeBack_48 fl_Pa_24 hp rfl ?_
  refine ev_iconst (v := iZ 1) d_Pa_takeBack_51 rfl ?_
  refine ez_isub d_Pa_takeBack_52 ?_
  refine ev_put2 (fs' := [.ref pk, .int (iZ (((nx + 9) % 10 : Nat) : Int)), .int (iZ ((ct : Int) - 1))]) d_Pa_takeBack_53 fw_Pa_24 (Or.inr (fun _ _ _ q => by cases q; rfl)) hp (Nat.le_of_ble_eq_true rfl) rfl rfl rfl (fun h2 h2a h2o => ?_)
  have hpk := (h2o _ (cne hpk hp (by simp))).trans hpk
  have ho := (h2o _ (cne ho hp (by simp))).trans ho
  have ho1 := (h2o _ (cne ho1 hp (by simp))).trans ho1
  have ho2 := (h2o _ (cne ho2 hp (by simp))).trans ho2
  have ho3 := (h2o _ (cne ho3 hp (by simp))).trans ho3
  have ho4 := (h2o _ (cne ho4 hp (by simp))).trans ho4
  have hq := (h2o _ (cne hq hp (by simp))).trans hq
  have hq1 := (h2o _ (cne hq1 hp (by simp))).trans hq1
  have hq2 := (h2o _ (cne hq2 hp (by simp))).trans hq2
  have hq3 := (h2o _ (cne hq3 hp (by simp))).trans hq3
  have hq4 := (h2o _ (cne hq4 hp (by simp))).trans hq4
  have hp := h2a
  have fm := fm.step (by simp) h2o
  refine ev_iconst (v := iZ 1) d_Pa_takeBack_56 rfl ?_
  exact ev_zreturn d_Pa_takeBack_57 rfl (Or.inr rfl) (by decide) (by decide) (⟨rfl, by rw [show ((ct - 1 : Nat) : Int) = (ct : Int) - 1 by omega]; exact hp, ho, ho1, ho2, ho3, ho4, fm⟩)
/-- a snapshot of cues: how many, starts, ends, sizes, bytes -/
abbrev Cu : Type := Nat × (Nat → Int) × (Nat → Int) × (Nat → Int) × (Nat → Int)
def CuE (a b : Cu) : Prop := a.1 = b.1 ∧ (∀ i, i < a.1 → a.2.1 i = b.2.1 i ∧ a.2.2.1 i = b.2.2.1 i ∧ a.2.2.2.1 i = b.2.2.2.1 i) ∧ ∀ k, k < a.1 * 64 → a.2.2.2.2 k = b.2.2.2.2 k
/-- a row at q, its arrays behind it in order, up to e, that holds the snapshot c as far as it counts -/
def RowH (G : GT) (h : HM) (q e : Nat) (c : Cu) : Prop := ∃ (q1 q2 q3 : Nat) (c' : Cu), q < q1 ∧ q1 < q2 ∧ q2 < q3 ∧ q3 < e ∧ CuE c' c ∧ c'.1 ≤ 16 ∧ h q = some (.inr (2, [.ref q1, .ref q2, .ref q3, .ref e, .int (iZ (c'.1 : Int))])) ∧ h q1 = some (.inl (G_j G, 16, .inr (.inl (lA c'.2.1)))) ∧ h q2 = some (.inl (G_j G, 16, .inr (.inl (lA c'.2.2.1)))) ∧ h q3 = some (.inl (G_i G, 16, .inl (iA c'.2.2.2.1))) ∧ h e = some (.inl (G_i G, 1024, .inl (iA c'.2.2.2.2)))
/-- the past: its ring Kp of rows beyond top, apart from each other; C j: what row j holds -/
def PaW (G : GT) (h : HM) (top p pk nx ct : Nat) (Kp : Nat → Option Nat) (Ke : Nat → Nat) (C : Nat → Cu) : Prop :=
  nx < 10 ∧ ct ≤ 10 ∧ h p = some (.inr (7, [.ref pk, .int (iZ (nx : Int)), .int (iZ (ct : Int))])) ∧ h pk = some (.inl (G_q G, 10, .inr (.inr (.inr (.inr Kp))))) ∧ (∀ j, j < 10 → ∀ q, Kp j = some q → top < q ∧ RowH G h q (Ke j) (C j)) ∧ (∀ i j, i < 10 → j < 10 → i ≠ j → ∀ q r, Kp i = some q → Kp j = some r → Ke i < r ∨ Ke j < q)
/-- what lies up to top and isn't among S stays -/
def Fb (top : Nat) (S : List Nat) (h h' : HM) : Prop := ∀ b e, h b = some e → b ≤ top → b ∉ S → h' b = some e
theorem cpy_in {F K : Nat → Int} {n i : Nat} (h : i < n) : va_cpy F K 0 0 n i = F i := by
  show (if 0 ≤ i ∧ i < 0 + n then F (0 + (i - 0)) else K i) = F i
  rw [if_pos ⟨Nat.zero_le _, by omega⟩]
  congr 1
  omega
theorem cue_cpy {n : Nat} {K1 K2 K3 K4 F1 F2 F3 F4 : Nat → Int} : CuE (n, va_cpy K1 F1 0 0 n, va_cpy K2 F2 0 0 n, va_cpy K3 F3 0 0 n, va_cpy K4 F4 0 0 (n * 64)) (n, K1, K2, K3, K4) := by
  refine ⟨rfl, fun i hi => ⟨?_, ?_, ?_⟩, fun k hk => ?_⟩
  · show va_cpy K1 F1 0 0 n i = K1 i
    exact cpy_in hi
  · show va_cpy K2 F2 0 0 n i = K2 i
    exact cpy_in hi
  · show va_cpy K3 F3 0 0 n i = K3 i
    exact cpy_in hi
  · show va_cpy K4 F4 0 0 (n * 64) k = K4 k
    exact cpy_in hk
theorem RowH.keep {G : GT} {h h' : HM} {q e : Nat} {c : Cu} (hr : RowH G h q e c) (hk : ∀ b x, h b = some x → q ≤ b → b ≤ e → h' b = some x) : RowH G h' q e c := by
  obtain ⟨q1, q2, q3, c', l1, l2, l3, l4, ce, cn, a0, a1, a2, a3, a4⟩ := hr
  exact ⟨q1, q2, q3, c', l1, l2, l3, l4, ce, cn, hk _ _ a0 (by omega) (by omega), hk _ _ a1 (by omega) (by omega), hk _ _ a2 (by omega) (by omega), hk _ _ a3 (by omega) (by omega), hk _ _ a4 (by omega) (by omega)⟩
set_option maxHeartbeats 4000000 in
set_option maxRecDepth 100000 in
theorem c_Pa_keep (G : GT) (h : HM) (top p pk o o1 o2 o3 o4 nx ct n : Nat) (Kp : Nat → Option Nat) (Ke : Nat → Nat) (C : Nat → Cu) (K1 K2 K3 K4 : Nat → Int) (hW : PaW G h top p pk nx ct Kp Ke C)
    (ho : h o = some (.inr (2, [.ref o1, .ref o2, .ref o3, .ref o4, .int (iZ (n : Int))]))) (ho1 : h o1 = some (.inl (G_j G, 16, .inr (.inl (lA K1))))) (ho2 : h o2 = some (.inl (G_j G, 16, .inr (.inl (lA K2))))) (ho3 : h o3 = some (.inl (G_i G, 16, .inl (iA K3)))) (ho4 : h o4 = some (.inl (G_i G, 1024, .inl (iA K4)))) (hn : n ≤ 16) (htop : ∃ e, h top = some e) (hle : p ≤ top ∧ pk ≤ top ∧ o ≤ top ∧ o1 ≤ top ∧ o2 ≤ top ∧ o3 ≤ top ∧ o4 ≤ top) (n_o1_o2 : o1 ≠ o2) :
    Rn G M_Pa_keep ({ frames := 2, cells := 5, slots := 1077, locals := 61 }) [.ref p, .ref o] h (fun r h' => r = none ∧ (∃ Kp' Ke', PaW G h' top p pk ((nx + 1) % 10) (min (ct + 1) 10) Kp' Ke' (fun j => if j = nx then (n, K1, K2, K3, K4) else C j) ∧ (∃ q, Kp' nx = some q) ∧ ∀ j, j ≠ nx → Kp' j = Kp j) ∧ Fb top [p, pk] h h') := by
  obtain ⟨w1, w2, w3, w4, w5, w6⟩ := hW
  obtain ⟨te, htop⟩ := htop
  have ce := cue_cpy (n := n) (K1 := K1) (K2 := K2) (K3 := K3) (K4 := K4) (F1 := fun _ => 0) (F2 := fun _ => 0) (F3 := fun _ => 0) (F4 := fun _ => 0)
  cases hK : Kp nx with
  | none =>
    refine rn_mono (c_Pa_keepN G h p pk o o1 o2 o3 o4 Kp nx ct n K1 K2 K3 K4 w3 w4 ho ho1 ho2 ho3 ho4 w1 w2 hn hK n_o1_o2) ?_
    rintro r h' ⟨rfl, q, q1, q2, q3, q4, ltq, l1, l2, l3, l4, hp, hpk, hq, hq1, hq2, hq3, hq4, fx⟩
    have htq := ltq _ _ htop
    refine ⟨rfl, ⟨va_up Kp nx (some q), (fun j => if j = nx then q4 else Ke j), ⟨Nat.mod_lt _ (by decide), by omega, hp, hpk, ?_, ?_⟩, ⟨q, if_pos rfl⟩, fun j hj => if_neg hj⟩, fun b e hb _ hs => fx b e hb hs⟩
    · intro j hj z hz
      by_cases qj : j = nx
      · subst qj
        have hz2 : va_up Kp j (some q) j = some q := if_pos rfl
        obtain rfl : q = z := Option.some.inj (hz2.symm.trans hz)
        refine ⟨htq, ?_⟩
        try dsimp only
        rw [if_pos rfl, if_pos rfl]
        exact ⟨q1, q2, q3, _, l1, l2, l3, l4, ce, hn, hq, hq1, hq2, hq3, hq4⟩
      · have hz2 : va_up Kp nx (some q) j = Kp j := if_neg qj
        rw [hz2] at hz
        obtain ⟨t1, t2⟩ := w5 j hj z hz
        try dsimp only
        rw [if_neg qj, if_neg qj]
        exact ⟨t1, t2.keep (fun b x hb b1 b2 => fx b x hb (ninc (by omega) (ninc (by omega) nin0)))⟩
    · intro i j hi hj hij a b ha hb
      by_cases qi : i = nx
      · have hb2 : va_up Kp nx (some q) j = Kp j := if_neg (by omega)
        rw [hb2] at hb
        obtain ⟨t1, q1', q2', q3', c', m1, m2, m3, m4, ce', cn', b0, b1, b2, b3, b4⟩ := w5 j hj b hb
        have := ltq _ _ b4
        rw [qi] at ha
        have ha2 : va_up Kp nx (some q) nx = some q := if_pos rfl
        obtain rfl : q = a := Option.some.inj (ha2.symm.trans ha)
        right
        try dsimp only
        rw [if_neg (by omega)]
        exact this
      · have ha2 : va_up Kp nx (some q) i = Kp i := if_neg qi
        rw [ha2] at ha
        try dsimp only
        rw [if_neg qi]
        by_cases qj : j = nx
        · obtain ⟨t1, q1', q2', q3', c', m1, m2, m3, m4, ce', cn', b0, b1, b2, b3, b4⟩ := w5 i hi a ha
          have := ltq _ _ b4
          rw [qj] at hb
          have hb2 : va_up Kp nx (some q) nx = some q := if_pos rfl
          obtain rfl : q = b := Option.some.inj (hb2.symm.trans hb)
          left
          exact this
        · have hb2 : va_up Kp nx (some q) j = Kp j := if_neg qj
          rw [hb2] at hb
          try dsimp only
          rw [if_neg qj]
          exact w6 i j hi hj hij a b ha hb
  | some q =>
    obtain ⟨t1, q1, q2, q3, ⟨n0, F1, F2, F3, F4⟩, m1, m2, m3, m4, ce', cn', b0, b1, b2, b3, b4⟩ := w5 nx w1 q hK
    refine rn_mono (c_Pa_keepR G h p pk q q1 q2 q3 (Ke nx) o o1 o2 o3 o4 Kp n0 nx ct n F1 F2 F3 F4 K1 K2 K3 K4 w3 w4 b0 b1 b2 b3 b4 ho ho1 ho2 ho3 ho4 w1 w2 hn hK (by omega) (by omega) (by omega) (by omega) (by omega) (by omega) (by omega) (by omega) n_o1_o2) ?_
    rintro r h' ⟨rfl, hp, hpk, hq, hq1, hq2, hq3, hq4, fm⟩
    have ce2 := cue_cpy (n := n) (K1 := K1) (K2 := K2) (K3 := K3) (K4 := K4) (F1 := F1) (F2 := F2) (F3 := F3) (F4 := F4)
    refine ⟨rfl, ⟨Kp, Ke, ⟨Nat.mod_lt _ (by decide), by omega, hp, hpk, ?_, w6⟩, ⟨q, hK⟩, fun _ _ => rfl⟩, fun b e hb ht hs => ?_⟩
    · intro j hj z hz
      by_cases qj : j = nx
      · subst qj
        obtain rfl : q = z := Option.some.inj (hK.symm.trans hz)
        refine ⟨t1, ?_⟩
        try dsimp only
        rw [if_pos rfl]
        exact ⟨q1, q2, q3, _, m1, m2, m3, m4, ce2, hn, hq, hq1, hq2, hq3, hq4⟩
      · obtain ⟨s1, s2⟩ := w5 j hj z hz
        try dsimp only
        rw [if_neg qj]
        have := w6 nx j w1 hj (by omega) q z hK hz
        exact ⟨s1, s2.keep (fun b x hb c1 c2 => (fm b (ninc (by omega) (ninc (by omega) (ninc (by omega) (ninc (by omega) (ninc (by omega) (ninc (by omega) nin0))))))).trans hb)⟩
    · have hbp : b ≠ p := fun w => hs (by rw [w]; exact List.mem_cons_self)
      exact (fm b (ninc hbp (ninc (by omega) (ninc (by omega) (ninc (by omega) (ninc (by omega) (ninc (by omega) nin0))))))).trans hb
