theorem d_Mo_put_0 : decode M_Mo_put.2.1 0 = .ok (.iload_n 3, 1) := by decide +kernel
theorem d_Mo_put_1 : decode M_Mo_put.2.1 1 = .ok (.iconst 1, 1) := by decide +kernel
theorem d_Mo_put_2 : decode M_Mo_put.2.1 2 = .ok (.if_icmp .lt 9, 3) := by decide +kernel
theorem d_Mo_put_5 : decode M_Mo_put.2.1 5 = .ok (.iload_n 3, 1) := by decide +kernel
theorem d_Mo_put_6 : decode M_Mo_put.2.1 6 = .ok (.bipush 8, 2) := by decide +kernel
theorem d_Mo_put_8 : decode M_Mo_put.2.1 8 = .ok (.if_icmp .le 6, 3) := by decide +kernel
theorem d_Mo_put_11 : decode M_Mo_put.2.1 11 = .ok (.bipush (-2), 2) := by decide +kernel
theorem d_Mo_put_13 : decode M_Mo_put.2.1 13 = .ok (.ireturn, 1) := by decide +kernel
theorem d_Mo_put_14 : decode M_Mo_put.2.1 14 = .ok (.aload_n 0, 1) := by decide +kernel
theorem d_Mo_put_15 : decode M_Mo_put.2.1 15 = .ok (.getfield 95, 3) := by decide +kernel
theorem d_Mo_put_18 : decode M_Mo_put.2.1 18 = .ok (.iload_n 3, 1) := by decide +kernel
theorem d_Mo_put_19 : decode M_Mo_put.2.1 19 = .ok (.iadd, 1) := by decide +kernel
theorem d_Mo_put_20 : decode M_Mo_put.2.1 20 = .ok (.sipush 1000, 3) := by decide +kernel
theorem d_Mo_put_23 : decode M_Mo_put.2.1 23 = .ok (.if_icmp .le 6, 3) := by decide +kernel
theorem d_Mo_put_26 : decode M_Mo_put.2.1 26 = .ok (.bipush (-3), 2) := by decide +kernel
theorem d_Mo_put_28 : decode M_Mo_put.2.1 28 = .ok (.ireturn, 1) := by decide +kernel
theorem d_Mo_put_29 : decode M_Mo_put.2.1 29 = .ok (.iconst 0, 1) := by decide +kernel
theorem d_Mo_put_30 : decode M_Mo_put.2.1 30 = .ok (.istore 4, 2) := by decide +kernel
theorem d_Mo_put_32 : decode M_Mo_put.2.1 32 = .ok (.iload 4, 2) := by decide +kernel
theorem d_Mo_put_34 : decode M_Mo_put.2.1 34 = .ok (.iload_n 3, 1) := by decide +kernel
theorem d_Mo_put_35 : decode M_Mo_put.2.1 35 = .ok (.if_icmp .ge 40, 3) := by decide +kernel
theorem d_Mo_put_38 : decode M_Mo_put.2.1 38 = .ok (.aload_n 0, 1) := by decide +kernel
theorem d_Mo_put_39 : decode M_Mo_put.2.1 39 = .ok (.getfield 7, 3) := by decide +kernel
theorem d_Mo_put_42 : decode M_Mo_put.2.1 42 = .ok (.aload_n 0, 1) := by decide +kernel
theorem d_Mo_put_43 : decode M_Mo_put.2.1 43 = .ok (.getfield 95, 3) := by decide +kernel
theorem d_Mo_put_46 : decode M_Mo_put.2.1 46 = .ok (.lload_n 1, 1) := by decide +kernel
theorem d_Mo_put_47 : decode M_Mo_put.2.1 47 = .ok (.bipush 8, 2) := by decide +kernel
theorem d_Mo_put_49 : decode M_Mo_put.2.1 49 = .ok (.iload 4, 2) := by decide +kernel
theorem d_Mo_put_51 : decode M_Mo_put.2.1 51 = .ok (.imul, 1) := by decide +kernel
theorem d_Mo_put_52 : decode M_Mo_put.2.1 52 = .ok (.lshr, 1) := by decide +kernel
theorem d_Mo_put_53 : decode M_Mo_put.2.1 53 = .ok (.ldc2_w 98, 3) := by decide +kernel
theorem d_Mo_put_56 : decode M_Mo_put.2.1 56 = .ok (.land, 1) := by decide +kernel
theorem d_Mo_put_57 : decode M_Mo_put.2.1 57 = .ok (.l2i, 1) := by decide +kernel
theorem d_Mo_put_58 : decode M_Mo_put.2.1 58 = .ok (.iastore, 1) := by decide +kernel
theorem d_Mo_put_59 : decode M_Mo_put.2.1 59 = .ok (.aload_n 0, 1) := by decide +kernel
theorem d_Mo_put_60 : decode M_Mo_put.2.1 60 = .ok (.dup, 1) := by decide +kernel
theorem d_Mo_put_61 : decode M_Mo_put.2.1 61 = .ok (.getfield 95, 3) := by decide +kernel
theorem d_Mo_put_64 : decode M_Mo_put.2.1 64 = .ok (.iconst 1, 1) := by decide +kernel
theorem d_Mo_put_65 : decode M_Mo_put.2.1 65 = .ok (.iadd, 1) := by decide +kernel
theorem d_Mo_put_66 : decode M_Mo_put.2.1 66 = .ok (.putfield 95, 3) := by decide +kernel
theorem d_Mo_put_69 : decode M_Mo_put.2.1 69 = .ok (.iinc 4 1, 3) := by decide +kernel
theorem d_Mo_put_72 : decode M_Mo_put.2.1 72 = .ok (.goto (-40), 3) := by decide +kernel
theorem d_Mo_put_75 : decode M_Mo_put.2.1 75 = .ok (.aload_n 0, 1) := by decide +kernel
theorem d_Mo_put_76 : decode M_Mo_put.2.1 76 = .ok (.getfield 95, 3) := by decide +kernel
theorem d_Mo_put_79 : decode M_Mo_put.2.1 79 = .ok (.ireturn, 1) := by decide +kernel
theorem d_CB_wipe_0 : decode M_CB_wipe.2.1 0 = .ok (.aload_n 0, 1) := by decide +kernel
theorem d_CB_wipe_1 : decode M_CB_wipe.2.1 1 = .ok (.getfield 10, 3) := by decide +kernel
theorem d_CB_wipe_4 : decode M_CB_wipe.2.1 4 = .ok (.getfield 80, 3) := by decide +kernel
theorem d_CB_wipe_7 : decode M_CB_wipe.2.1 7 = .ok (.istore_n 1, 1) := by decide +kernel
theorem d_CB_wipe_8 : decode M_CB_wipe.2.1 8 = .ok (.aload_n 0, 1) := by decide +kernel
theorem d_CB_wipe_9 : decode M_CB_wipe.2.1 9 = .ok (.getfield 10, 3) := by decide +kernel
theorem d_CB_wipe_12 : decode M_CB_wipe.2.1 12 = .ok (.iconst 0, 1) := by decide +kernel
theorem d_CB_wipe_13 : decode M_CB_wipe.2.1 13 = .ok (.putfield 80, 3) := by decide +kernel
theorem d_CB_wipe_16 : decode M_CB_wipe.2.1 16 = .ok (.iload_n 1, 1) := by decide +kernel
theorem d_CB_wipe_17 : decode M_CB_wipe.2.1 17 = .ok (.ireturn, 1) := by decide +kernel
theorem d_Mo_wipe_0 : decode M_Mo_wipe.2.1 0 = .ok (.aload_n 0, 1) := by decide +kernel
theorem d_Mo_wipe_1 : decode M_Mo_wipe.2.1 1 = .ok (.getfield 95, 3) := by decide +kernel
theorem d_Mo_wipe_4 : decode M_Mo_wipe.2.1 4 = .ok (.istore_n 1, 1) := by decide +kernel
theorem d_Mo_wipe_5 : decode M_Mo_wipe.2.1 5 = .ok (.aload_n 0, 1) := by decide +kernel
theorem d_Mo_wipe_6 : decode M_Mo_wipe.2.1 6 = .ok (.iconst 0, 1) := by decide +kernel
theorem d_Mo_wipe_7 : decode M_Mo_wipe.2.1 7 = .ok (.putfield 95, 3) := by decide +kernel
theorem d_Mo_wipe_10 : decode M_Mo_wipe.2.1 10 = .ok (.iload_n 1, 1) := by decide +kernel
theorem d_Mo_wipe_11 : decode M_Mo_wipe.2.1 11 = .ok (.ireturn, 1) := by decide +kernel
theorem d_CB_at_0 : decode M_CB_at.2.1 0 = .ok (.aload_n 0, 1) := by decide +kernel
theorem d_CB_at_1 : decode M_CB_at.2.1 1 = .ok (.getfield 10, 3) := by decide +kernel
theorem d_CB_at_4 : decode M_CB_at.2.1 4 = .ok (.iload_n 1, 1) := by decide +kernel
theorem d_CB_at_5 : decode M_CB_at.2.1 5 = .ok (.invokevirtual 88, 3) := by decide +kernel
theorem d_CB_at_8 : decode M_CB_at.2.1 8 = .ok (.ireturn, 1) := by decide +kernel
theorem d_Mo_at_0 : decode M_Mo_at.2.1 0 = .ok (.iload_n 1, 1) := by decide +kernel
theorem d_Mo_at_1 : decode M_Mo_at.2.1 1 = .ok (.ifCond .lt 20, 3) := by decide +kernel
theorem d_Mo_at_4 : decode M_Mo_at.2.1 4 = .ok (.iload_n 1, 1) := by decide +kernel
theorem d_Mo_at_5 : decode M_Mo_at.2.1 5 = .ok (.aload_n 0, 1) := by decide +kernel
theorem d_Mo_at_6 : decode M_Mo_at.2.1 6 = .ok (.getfield 95, 3) := by decide +kernel
theorem d_Mo_at_9 : decode M_Mo_at.2.1 9 = .ok (.if_icmp .ge 12, 3) := by decide +kernel
theorem d_Mo_at_12 : decode M_Mo_at.2.1 12 = .ok (.aload_n 0, 1) := by decide +kernel
theorem d_Mo_at_13 : decode M_Mo_at.2.1 13 = .ok (.getfield 7, 3) := by decide +kernel
theorem d_Mo_at_16 : decode M_Mo_at.2.1 16 = .ok (.iload_n 1, 1) := by decide +kernel
theorem d_Mo_at_17 : decode M_Mo_at.2.1 17 = .ok (.iaload, 1) := by decide +kernel
theorem d_Mo_at_18 : decode M_Mo_at.2.1 18 = .ok (.goto 4, 3) := by decide +kernel
theorem d_Mo_at_21 : decode M_Mo_at.2.1 21 = .ok (.iconst (-1), 1) := by decide +kernel
theorem d_Mo_at_22 : decode M_Mo_at.2.1 22 = .ok (.ireturn, 1) := by decide +kernel
theorem d_CB_cues_0 : decode M_CB_cues.2.1 0 = .ok (.aload_n 0, 1) := by decide +kernel
theorem d_CB_cues_1 : decode M_CB_cues.2.1 1 = .ok (.getfield 33, 3) := by decide +kernel
theorem d_CB_cues_4 : decode M_CB_cues.2.1 4 = .ok (.getfield 112, 3) := by decide +kernel
theorem d_CB_cues_7 : decode M_CB_cues.2.1 7 = .ok (.ireturn, 1) := by decide +kernel
theorem d_Mo_cues_0 : decode M_Mo_cues.2.1 0 = .ok (.aload_n 0, 1) := by decide +kernel
theorem d_Mo_cues_1 : decode M_Mo_cues.2.1 1 = .ok (.getfield 92, 3) := by decide +kernel
theorem d_Mo_cues_4 : decode M_Mo_cues.2.1 4 = .ok (.ireturn, 1) := by decide +kernel
set_option maxHeartbeats 4000000 in
set_option maxRecDepth 100000 in
theorem lp_Mo_put (G : GT) (h0 : HM) (σ0 : Nat → Value) (m mb : Nat) (F : Nat → Int) (n c : Nat) (z : Int) (hc : n + c ≤ 1000) (hc8 : c ≤ 8) : ∀ (d : Nat) (i : Nat) (h : HM) (σ : Nat → Value), i + d = c → h m = some (.inr (11, fsN 34 σ)) → σ 0 = .int (iZ ((n : Int) + (i : Int))) → σ 1 = .ref mb → Fs [0] σ0 σ → h mb = some (.inl (G_i G, 1000, .inl (iA (putF F n z i)))) → Fm [m, mb] h0 h → Ev G M_Mo_put (rm 0 0) (fun r h' => r = some (.int (iZ ((n : Int) + c))) ∧ (∃ σ', h' m = some (.inr (11, fsN 34 σ')) ∧ σ' 0 = .int (iZ ((n : Int) + c)) ∧ Fs [0] σ0 σ') ∧ h' mb = some (.inl (G_i G, 1000, .inl (iA (putF F n z c)))) ∧ Fm [m, mb] h0 h') 32 [(0, .ref m), (1, .long (lZ z)), (3, .int (iZ (c : Int))), (4, .int (iZ (i : Int)))] [] h 0 0 := by
  intro d
  induction d using Nat.strongRecOn with
  | ind d ih =>
  intro i h σ hd hm f0 f1 fs hbb fm
  refine ev_iload d_Mo_put_32 rfl ?_
  refine ev_iload_n d_Mo_put_34 rfl rfl ?_
  refine ez_icmp_ge (tgt := 75) (by omega) (by omega) d_Mo_put_35 rfl (fun c35 => ?_) (fun c35 => ?_)
  · refine ev_aload_n d_Mo_put_75 rfl rfl ?_
    refine ev_getF d_Mo_put_76 fl_Mo_95 hm (by decide) f0 ?_
    exact ev_ireturn d_Mo_put_79 rfl (by decide) (by decide) (⟨by rw [show (c : Int) = i by omega], ⟨σ, hm, by rw [f0, show (c : Int) = i by omega], fs⟩, by rw [show c = i by omega]; exact hbb, fm⟩)
  · refine ev_aload_n d_Mo_put_38 rfl rfl ?_
    refine ev_getF d_Mo_put_39 fl_Mo_7 hm (by decide) f1 ?_
    refine ev_aload_n d_Mo_put_42 rfl rfl ?_
    refine ev_getF d_Mo_put_43 fl_Mo_95 hm (by decide) f0 ?_
    refine ev_lload_n d_Mo_put_46 rfl rfl ?_
    refine ev_bipush (v := iZ 8) d_Mo_put_47 rfl ?_
    refine ev_iload d_Mo_put_49 rfl ?_
    refine ez_imul d_Mo_put_51 ?_
    refine ev_lshr d_Mo_put_52 ?_
    refine ev_ldc2 (v := lZ 255) d_Mo_put_53 kc_Mo_98 ?_
    refine ev_land d_Mo_put_56 ?_
    refine ev_l2i d_Mo_put_57 ?_
    rw [byte_s (by omega)]
    refine ez_iastore (F' := zup (putF F n z i) (n + i) (byteZ z i)) (n + i) d_Mo_put_58 hbb (by omega) (by omega) (by decide) rfl (fun h1 h1a h1o => ?_)
    have hm := (h1o _ (cne hm hbb (by simp))).trans hm
    have hbb := h1a
    have fm := fm.step (by simp) h1o
    refine ev_aload_n d_Mo_put_59 rfl rfl ?_
    refine ev_dup d_Mo_put_60 rfl ?_
    refine ev_getF d_Mo_put_61 fl_Mo_95 hm (by decide) f0 ?_
    refine ev_iconst (v := iZ 1) d_Mo_put_64 rfl ?_
    refine ez_iadd d_Mo_put_65 ?_
    refine ev_putF2 d_Mo_put_66 fw_Mo_95 (Or.inr (fun _ _ _ q => by cases q; rfl)) hm (by decide) rfl rfl (fun h2 σ3 h2a σ3j σ3o h2o => ?_)
    have f1 := (σ3o 1 (by decide)).trans f1
    have f0 := σ3j
    have fs := fs.step (by simp) σ3o
    have hbb := (h2o _ (cne hbb hm (by simp))).trans hbb
    have hm := h2a
    have fm := fm.step (by simp) h2o
    refine ez_iinc (L' := [(0, .ref m), (1, .long (lZ z)), (3, .int (iZ (c : Int))), (4, .int (iZ ((i + 1 : Nat) : Int)))]) d_Mo_put_69 rfl (by decide) rfl ?_
    refine ev_goto (tgt := 32) d_Mo_put_72 rfl ?_
    exact ih (d - 1) (by omega) (i + 1) h2 σ3 (by omega) hm (by rw [f0]; rfl) f1 fs hbb fm
set_option maxHeartbeats 4000000 in
set_option maxRecDepth 100000 in
theorem c_Mo_put (G : GT) (h : HM) (σ : Nat → Value) (m mb : Nat) (F : Nat → Int) (n : Nat) (z c : Int) (hm : h m = some (.inr (11, fsN 34 σ))) (f0 : σ 0 = .int (iZ (n : Int))) (f1 : σ 1 = .ref mb) (hbb : h mb = some (.inl (G_i G, 1000, .inl (iA F)))) (hn : n ≤ 1000) (hc : iR c) : Rn G M_Mo_put (rm 0 0) [.ref m, .long (lZ z), .int (iZ c)] h (fun r h' => (c < 1 ∨ 8 < c → r = some (.int (iZ (-2))) ∧ h' = h) ∧ (1 ≤ c → c ≤ 8 → 1000 < (n : Int) + c → r = some (.int (iZ (-3))) ∧ h' = h) ∧ (1 ≤ c → c ≤ 8 → (n : Int) + c ≤ 1000 → r = some (.int (iZ ((n : Int) + c))) ∧ (∃ σ', h' m = some (.inr (11, fsN 34 σ')) ∧ σ' 0 = .int (iZ ((n : Int) + c)) ∧ Fs [0] σ σ') ∧ h' mb = some (.inl (G_i G, 1000, .inl (iA (putF F n z c.toNat)))) ∧ Fm [m, mb] h h')) := by
  refine rn_of (by decide) (Nat.le_of_ble_eq_true rfl) ?_
  show Ev G M_Mo_put _ _ 0 [(0, .ref m), (1, .long (lZ z)), (3, .int (iZ c))] [] _ 0 0
  refine ev_iload_n d_Mo_put_0 rfl rfl ?_
  refine ev_iconst (v := iZ 1) d_Mo_put_1 rfl ?_
  refine ez_icmp_lt (tgt := 11) (by omega) (by decide) d_Mo_put_2 rfl (fun c2 => ?_) (fun c2 => ?_)
  · refine ev_bipush (v := iZ (-2)) d_Mo_put_11 rfl ?_
    exact ev_ireturn d_Mo_put_13 rfl (by decide) (by decide) (⟨fun _ => ⟨rfl, rfl⟩, fun a b _ => absurd a (by omega), fun a b _ => absurd a (by omega)⟩)
  · refine ev_iload_n d_Mo_put_5 rfl rfl ?_
    refine ev_bipush (v := iZ 8) d_Mo_put_6 rfl ?_
    refine ez_icmp_le (tgt := 14) (by omega) (by decide) d_Mo_put_8 rfl (fun c8 => ?_) (fun c8 => ?_)
    · refine ev_aload_n d_Mo_put_14 rfl rfl ?_
      refine ev_getF d_Mo_put_15 fl_Mo_95 hm (by decide) f0 ?_
      refine ev_iload_n d_Mo_put_18 rfl rfl ?_
      refine ez_iadd d_Mo_put_19 ?_
      refine ev_sipush (v := iZ 1000) d_Mo_put_20 rfl ?_
      refine ez_icmp_le (tgt := 29) (by omega) (by decide) d_Mo_put_23 rfl (fun c23 => ?_) (fun c23 => ?_)
      · refine ev_iconst (v := iZ 0) d_Mo_put_29 rfl ?_
        refine ev_istore (L' := [(0, .ref m), (1, .long (lZ z)), (3, .int (iZ c)), (4, .int (iZ 0))]) d_Mo_put_30 (by decide) rfl ?_
        obtain ⟨cc, rfl⟩ : ∃ cc : Nat, c = (cc : Int) := ⟨c.toNat, by omega⟩
        refine ev_mono ?_ (lp_Mo_put G h σ m mb F n cc z (by omega) (by omega) cc 0 h σ (by omega) hm (by simpa using f0) f1 Fs.rf hbb Fm.rf)
        intro r h' q
        exact ⟨fun w => absurd w (by omega), fun _ _ w => absurd w (by omega), fun _ _ _ => by rw [Int.toNat_natCast]; exact q⟩
      · refine ev_bipush (v := iZ (-3)) d_Mo_put_26 rfl ?_
        exact ev_ireturn d_Mo_put_28 rfl (by decide) (by decide) (⟨fun w => absurd w (by omega), fun _ _ _ => ⟨rfl, rfl⟩, fun _ _ w => absurd w (by omega)⟩)
    · refine ev_bipush (v := iZ (-2)) d_Mo_put_11 rfl ?_
      exact ev_ireturn d_Mo_put_13 rfl (by decide) (by decide) (⟨fun _ => ⟨rfl, rfl⟩, fun a b _ => absurd a (by omega), fun a b _ => absurd a (by omega)⟩)
set_option maxHeartbeats 4000000 in
set_option maxRecDepth 100000 in
theorem c_CB_wipe (G : GT) (h : HM) (x b xf xu xo xp xe xw xl xr : Nat) (bb : Nat) (n : Int) (hx : h x = some (.inr (0, [.ref b, .ref xf, .ref xu, .ref xo, .ref xp, .ref xe, .ref xw, .ref xl, .ref xr]))) (hb : h b = some (.inr (1, [.ref bb, .int (iZ n)]))) : Rn G M_CB_wipe (rm 0 0) [.ref x] h (fun r h' => r = some (.int (iZ n)) ∧ h' b = some (.inr (1, [.ref bb, .int (iZ 0)])) ∧ Fm [b] h h') := by
  refine rn_of (by decide) (Nat.le_of_ble_eq_true rfl) ?_
  show Ev G M_CB_wipe _ _ 0 [(0, .ref x)] [] _ 0 0
  have fm : Fm [b] h h := Fm.rf
  refine ev_aload_n d_CB_wipe_0 rfl rfl ?_
  refine ev_get d_CB_wipe_1 fl_CB_10 hx rfl ?_
  refine ev_get d_CB_wipe_4 fl_CB_80 hb rfl ?_
  refine ev_istore_n (L' := [(0, .ref x), (1, .int (iZ n))]) d_CB_wipe_7 rfl (by decide) rfl ?_
  refine ev_aload_n d_CB_wipe_8 rfl rfl ?_
  refine ev_get d_CB_wipe_9 fl_CB_10 hx rfl ?_
  refine ev_iconst (v := iZ 0) d_CB_wipe_12 rfl ?_
  refine ev_put2 (fs' := [.ref bb, .int (iZ 0)]) d_CB_wipe_13 fw_CB_80 (Or.inr (fun _ _ _ q => by cases q; rfl)) hb (Nat.le_of_ble_eq_true rfl) rfl rfl rfl (fun h1 h1a h1o => ?_)
  have hx := (h1o _ (cne hx hb (by simp))).trans hx
  have hb := h1a
  have fm := fm.step (by simp) h1o
  refine ev_iload_n d_CB_wipe_16 rfl rfl ?_
  exact ev_ireturn d_CB_wipe_17 rfl (by decide) (by decide) (⟨rfl, hb, fm⟩)
set_option maxHeartbeats 4000000 in
set_option maxRecDepth 100000 in
theorem c_Mo_wipe (G : GT) (h : HM) (σ : Nat → Value) (m : Nat) (n : Int) (hm : h m = some (.inr (11, fsN 34 σ))) (f0 : σ 0 = .int (iZ n)) : Rn G M_Mo_wipe (rm 0 0) [.ref m] h (fun r h' => r = some (.int (iZ n)) ∧ (∃ σ', h' m = some (.inr (11, fsN 34 σ')) ∧ σ' 0 = .int (iZ 0) ∧ Fs [0] σ σ') ∧ Fm [m] h h') := by
  refine rn_of (by decide) (Nat.le_of_ble_eq_true rfl) ?_
  show Ev G M_Mo_wipe _ _ 0 [(0, .ref m)] [] _ 0 0
  have fm : Fm [m] h h := Fm.rf
  have fs : Fs [0] σ σ := Fs.rf
  refine ev_aload_n d_Mo_wipe_0 rfl rfl ?_
  refine ev_getF d_Mo_wipe_1 fl_Mo_95 hm (by decide) f0 ?_
  refine ev_istore_n (L' := [(0, .ref m), (1, .int (iZ n))]) d_Mo_wipe_4 rfl (by decide) rfl ?_
  refine ev_aload_n d_Mo_wipe_5 rfl rfl ?_
  refine ev_iconst (v := iZ 0) d_Mo_wipe_6 rfl ?_
  refine ev_putF2 d_Mo_wipe_7 fw_Mo_95 (Or.inr (fun _ _ _ q => by cases q; rfl)) hm (by decide) rfl rfl (fun h1 σ2 h1a σ2j σ2o h1o => ?_)
  have f0 := σ2j
  have fs := fs.step (by simp) σ2o
  have hm := h1a
  have fm := fm.step (by simp) h1o
  refine ev_iload_n d_Mo_wipe_10 rfl rfl ?_
  exact ev_ireturn d_Mo_wipe_11 rfl (by decide) (by decide) (⟨rfl, ⟨σ2, hm, f0, fs⟩, fm⟩)
set_option maxHeartbeats 4000000 in
set_option maxRecDepth 100000 in
theorem c_CB_at (G : GT) (h : HM) (x b xf xu xo xp xe xw xl xr : Nat) (bb : Nat) (F : Nat → Int) (n i : Int) (hx : h x = some (.inr (0, [.ref b, .ref xf, .ref xu, .ref xo, .ref xp, .ref xe, .ref xw, .ref xl, .ref xr]))) (hb : h b = some (.inr (1, [.ref bb, .int (iZ n)]))) (hbb : h bb = some (.inl (G_i G, 1000, .inl (iA F)))) (hn : 0 ≤ n ∧ n ≤ 1000) (hi : iR i) : Rn G M_CB_at (rm 1 21) [.ref x, .int (iZ i)] h (Pu (.int (iZ (lookZ F n i))) h) := by
  refine rn_of (by decide) (Nat.le_of_ble_eq_true rfl) ?_
  show Ev G M_CB_at _ _ 0 [(0, .ref x), (1, .int (iZ i))] [] _ 0 0
  refine ev_aload_n d_CB_at_0 rfl rfl ?_
  refine ev_get d_CB_at_1 fl_CB_10 hx rfl ?_
  refine ev_iload_n d_CB_at_4 rfl rfl ?_
  refine ev_pV M_Bu_look 0 0 (As := [.int (iZ i)]) (c_Bu_look G h b bb F n i hb hbb hn hi) d_CB_at_5 mk_Bu_look ml_CB_88 mv_Bu_look hb rfl rfl rfl (Nat.le_of_ble_eq_true rfl) ⟨by decide, by decide⟩ ⟨by decide, by decide⟩ ?_
  exact ev_ireturn d_CB_at_8 rfl (by decide) (by decide) (⟨rfl, rfl⟩)
set_option maxHeartbeats 4000000 in
set_option maxRecDepth 100000 in
theorem c_Mo_at (G : GT) (h : HM) (σ : Nat → Value) (m mb : Nat) (F : Nat → Int) (n i : Int) (hm : h m = some (.inr (11, fsN 34 σ))) (f0 : σ 0 = .int (iZ n)) (f1 : σ 1 = .ref mb) (hbb : h mb = some (.inl (G_i G, 1000, .inl (iA F)))) (hn : 0 ≤ n ∧ n ≤ 1000) (hi : iR i) : Rn G M_Mo_at (rm 0 0) [.ref m, .int (iZ i)] h (Pu (.int (iZ (lookZ F n i))) h) := by
  refine rn_of (by decide) (Nat.le_of_ble_eq_true rfl) ?_
  show Ev G M_Mo_at _ _ 0 [(0, .ref m), (1, .int (iZ i))] [] _ 0 0
  refine ev_iload_n d_Mo_at_0 rfl rfl ?_
  refine ez_if_lt (tgt := 21) (by omega) d_Mo_at_1 rfl (fun c1 => ?_) (fun c1 => ?_)
  · refine ev_iconst (v := iZ (-1)) d_Mo_at_21 rfl ?_
    exact ev_ireturn d_Mo_at_22 rfl (by decide) (by decide) (⟨by rw [show (lookZ F n i : Int) = (-1) from by unfold lookZ; split <;> first | rfl | omega], rfl⟩)
  · refine ev_iload_n d_Mo_at_4 rfl rfl ?_
    refine ev_aload_n d_Mo_at_5 rfl rfl ?_
    refine ev_getF d_Mo_at_6 fl_Mo_95 hm (by decide) f0 ?_
    refine ez_icmp_ge (tgt := 21) (by omega) (by omega) d_Mo_at_9 rfl (fun c9 => ?_) (fun c9 => ?_)
    · refine ev_iconst (v := iZ (-1)) d_Mo_at_21 rfl ?_
      exact ev_ireturn d_Mo_at_22 rfl (by decide) (by decide) (⟨by rw [show (lookZ F n i : Int) = (-1) from by unfold lookZ; split <;> first | rfl | omega], rfl⟩)
    · refine ev_aload_n d_Mo_at_12 rfl rfl ?_
      refine ev_getF d_Mo_at_13 fl_Mo_7 hm (by decide) f1 ?_
      refine ev_iload_n d_Mo_at_16 rfl rfl ?_
      refine ez_iaload i.toNat d_Mo_at_17 hbb (by omega) (by omega) (by decide) ?_
      refine ev_goto (tgt := 22) d_Mo_at_18 rfl ?_
      exact ev_ireturn d_Mo_at_22 rfl (by decide) (by decide) (⟨by rw [show (lookZ F n i : Int) = F i.toNat from by unfold lookZ; split <;> first | rfl | omega], rfl⟩)
set_option maxHeartbeats 4000000 in
set_option maxRecDepth 100000 in
theorem c_CB_cues (G : GT) (h : HM) (x b xf xu xo xp xe xw xl xr : Nat) (o1 o2 o3 o4 : Nat) (n : Int) (hx : h x = some (.inr (0, [.ref b, .ref xf, .ref xu, .ref xo, .ref xp, .ref xe, .ref xw, .ref xl, .ref xr]))) (ho : h xo = some (.inr (2, [.ref o1, .ref o2, .ref o3, .ref o4, .int (iZ n)]))) : Rn G M_CB_cues (rm 0 0) [.ref x] h (Pu (.int (iZ n)) h) := by
  refine rn_of (by decide) (Nat.le_of_ble_eq_true rfl) ?_
  show Ev G M_CB_cues _ _ 0 [(0, .ref x)] [] _ 0 0
  refine ev_aload_n d_CB_cues_0 rfl rfl ?_
  refine ev_get d_CB_cues_1 fl_CB_33 hx rfl ?_
  refine ev_get d_CB_cues_4 fl_CB_112 ho rfl ?_
  exact ev_ireturn d_CB_cues_7 rfl (by decide) (by decide) (⟨rfl, rfl⟩)
set_option maxHeartbeats 4000000 in
set_option maxRecDepth 100000 in
theorem c_Mo_cues (G : GT) (h : HM) (σ : Nat → Value) (m : Nat) (n : Int) (hm : h m = some (.inr (11, fsN 34 σ))) (f4 : σ 4 = .int (iZ n)) : Rn G M_Mo_cues (rm 0 0) [.ref m] h (Pu (.int (iZ n)) h) := by
  refine rn_of (by decide) (Nat.le_of_ble_eq_true rfl) ?_
  show Ev G M_Mo_cues _ _ 0 [(0, .ref m)] [] _ 0 0
  refine ev_aload_n d_Mo_cues_0 rfl rfl ?_
  refine ev_getF d_Mo_cues_1 fl_Mo_92 hm (by decide) f4 ?_
  exact ev_ireturn d_Mo_cues_4 rfl (by decide) (by decide) (⟨rfl, rfl⟩)
