theorem d_Mo_write1_0 : decode M_Mo_write1.2.1 0 = .ok (.aload_n 0, 1) := by decide +kernel
theorem d_Mo_write1_1 : decode M_Mo_write1.2.1 1 = .ok (.getfield 179, 3) := by decide +kernel
theorem d_Mo_write1_4 : decode M_Mo_write1.2.1 4 = .ok (.ifCond .ne 13, 3) := by decide +kernel
theorem d_Mo_write1_7 : decode M_Mo_write1.2.1 7 = .ok (.aload_n 0, 1) := by decide +kernel
theorem d_Mo_write1_8 : decode M_Mo_write1.2.1 8 = .ok (.getfield 7, 3) := by decide +kernel
theorem d_Mo_write1_11 : decode M_Mo_write1.2.1 11 = .ok (.aload_n 0, 1) := by decide +kernel
theorem d_Mo_write1_12 : decode M_Mo_write1.2.1 12 = .ok (.getfield 183, 3) := by decide +kernel
theorem d_Mo_write1_15 : decode M_Mo_write1.2.1 15 = .ok (.iload_n 1, 1) := by decide +kernel
theorem d_Mo_write1_16 : decode M_Mo_write1.2.1 16 = .ok (.iastore, 1) := by decide +kernel
theorem d_Mo_write1_17 : decode M_Mo_write1.2.1 17 = .ok (.aload_n 0, 1) := by decide +kernel
theorem d_Mo_write1_18 : decode M_Mo_write1.2.1 18 = .ok (.dup, 1) := by decide +kernel
theorem d_Mo_write1_19 : decode M_Mo_write1.2.1 19 = .ok (.getfield 183, 3) := by decide +kernel
theorem d_Mo_write1_22 : decode M_Mo_write1.2.1 22 = .ok (.iconst 1, 1) := by decide +kernel
theorem d_Mo_write1_23 : decode M_Mo_write1.2.1 23 = .ok (.iadd, 1) := by decide +kernel
theorem d_Mo_write1_24 : decode M_Mo_write1.2.1 24 = .ok (.putfield 183, 3) := by decide +kernel
theorem d_Mo_write1_27 : decode M_Mo_write1.2.1 27 = .ok (.return_, 1) := by decide +kernel
theorem d_Mo_writeDigits_0 : decode M_Mo_writeDigits.2.1 0 = .ok (.lconst 1, 1) := by decide +kernel
theorem d_Mo_writeDigits_1 : decode M_Mo_writeDigits.2.1 1 = .ok (.lstore 4, 2) := by decide +kernel
theorem d_Mo_writeDigits_3 : decode M_Mo_writeDigits.2.1 3 = .ok (.iconst 1, 1) := by decide +kernel
theorem d_Mo_writeDigits_4 : decode M_Mo_writeDigits.2.1 4 = .ok (.istore 6, 2) := by decide +kernel
theorem d_Mo_writeDigits_6 : decode M_Mo_writeDigits.2.1 6 = .ok (.iload 6, 2) := by decide +kernel
theorem d_Mo_writeDigits_8 : decode M_Mo_writeDigits.2.1 8 = .ok (.iload_n 3, 1) := by decide +kernel
theorem d_Mo_writeDigits_9 : decode M_Mo_writeDigits.2.1 9 = .ok (.if_icmp .ge 17, 3) := by decide +kernel
theorem d_Mo_writeDigits_12 : decode M_Mo_writeDigits.2.1 12 = .ok (.ldc2_w 130, 3) := by decide +kernel
theorem d_Mo_writeDigits_15 : decode M_Mo_writeDigits.2.1 15 = .ok (.lload 4, 2) := by decide +kernel
theorem d_Mo_writeDigits_17 : decode M_Mo_writeDigits.2.1 17 = .ok (.lmul, 1) := by decide +kernel
theorem d_Mo_writeDigits_18 : decode M_Mo_writeDigits.2.1 18 = .ok (.lstore 4, 2) := by decide +kernel
theorem d_Mo_writeDigits_20 : decode M_Mo_writeDigits.2.1 20 = .ok (.iinc 6 1, 3) := by decide +kernel
theorem d_Mo_writeDigits_23 : decode M_Mo_writeDigits.2.1 23 = .ok (.goto (-17), 3) := by decide +kernel
theorem d_Mo_writeDigits_26 : decode M_Mo_writeDigits.2.1 26 = .ok (.iconst 0, 1) := by decide +kernel
theorem d_Mo_writeDigits_27 : decode M_Mo_writeDigits.2.1 27 = .ok (.istore 6, 2) := by decide +kernel
theorem d_Mo_writeDigits_29 : decode M_Mo_writeDigits.2.1 29 = .ok (.iload 6, 2) := by decide +kernel
theorem d_Mo_writeDigits_31 : decode M_Mo_writeDigits.2.1 31 = .ok (.iload_n 3, 1) := by decide +kernel
theorem d_Mo_writeDigits_32 : decode M_Mo_writeDigits.2.1 32 = .ok (.if_icmp .ge 33, 3) := by decide +kernel
theorem d_Mo_writeDigits_35 : decode M_Mo_writeDigits.2.1 35 = .ok (.aload_n 0, 1) := by decide +kernel
theorem d_Mo_writeDigits_36 : decode M_Mo_writeDigits.2.1 36 = .ok (.bipush 48, 2) := by decide +kernel
theorem d_Mo_writeDigits_38 : decode M_Mo_writeDigits.2.1 38 = .ok (.lload_n 1, 1) := by decide +kernel
theorem d_Mo_writeDigits_39 : decode M_Mo_writeDigits.2.1 39 = .ok (.lload 4, 2) := by decide +kernel
theorem d_Mo_writeDigits_41 : decode M_Mo_writeDigits.2.1 41 = .ok (.ldiv, 1) := by decide +kernel
theorem d_Mo_writeDigits_42 : decode M_Mo_writeDigits.2.1 42 = .ok (.ldc2_w 130, 3) := by decide +kernel
theorem d_Mo_writeDigits_45 : decode M_Mo_writeDigits.2.1 45 = .ok (.lrem, 1) := by decide +kernel
theorem d_Mo_writeDigits_46 : decode M_Mo_writeDigits.2.1 46 = .ok (.l2i, 1) := by decide +kernel
theorem d_Mo_writeDigits_47 : decode M_Mo_writeDigits.2.1 47 = .ok (.iadd, 1) := by decide +kernel
theorem d_Mo_writeDigits_48 : decode M_Mo_writeDigits.2.1 48 = .ok (.invokevirtual 186, 3) := by decide +kernel
theorem d_Mo_writeDigits_51 : decode M_Mo_writeDigits.2.1 51 = .ok (.lload 4, 2) := by decide +kernel
theorem d_Mo_writeDigits_53 : decode M_Mo_writeDigits.2.1 53 = .ok (.ldc2_w 130, 3) := by decide +kernel
theorem d_Mo_writeDigits_56 : decode M_Mo_writeDigits.2.1 56 = .ok (.ldiv, 1) := by decide +kernel
theorem d_Mo_writeDigits_57 : decode M_Mo_writeDigits.2.1 57 = .ok (.lstore 4, 2) := by decide +kernel
theorem d_Mo_writeDigits_59 : decode M_Mo_writeDigits.2.1 59 = .ok (.iinc 6 1, 3) := by decide +kernel
theorem d_Mo_writeDigits_62 : decode M_Mo_writeDigits.2.1 62 = .ok (.goto (-33), 3) := by decide +kernel
theorem d_Mo_writeDigits_65 : decode M_Mo_writeDigits.2.1 65 = .ok (.return_, 1) := by decide +kernel
theorem d_Mo_writeClock_0 : decode M_Mo_writeClock.2.1 0 = .ok (.lload_n 1, 1) := by decide +kernel
theorem d_Mo_writeClock_1 : decode M_Mo_writeClock.2.1 1 = .ok (.ldc2_w 132, 3) := by decide +kernel
theorem d_Mo_writeClock_4 : decode M_Mo_writeClock.2.1 4 = .ok (.invokestatic 189, 3) := by decide +kernel
theorem d_Mo_writeClock_7 : decode M_Mo_writeClock.2.1 7 = .ok (.lstore_n 3, 1) := by decide +kernel
theorem d_Mo_writeClock_8 : decode M_Mo_writeClock.2.1 8 = .ok (.aload_n 0, 1) := by decide +kernel
theorem d_Mo_writeClock_9 : decode M_Mo_writeClock.2.1 9 = .ok (.lload_n 3, 1) := by decide +kernel
theorem d_Mo_writeClock_10 : decode M_Mo_writeClock.2.1 10 = .ok (.ldc2_w 193, 3) := by decide +kernel
theorem d_Mo_writeClock_13 : decode M_Mo_writeClock.2.1 13 = .ok (.ldiv, 1) := by decide +kernel
theorem d_Mo_writeClock_14 : decode M_Mo_writeClock.2.1 14 = .ok (.iconst 2, 1) := by decide +kernel
theorem d_Mo_writeClock_15 : decode M_Mo_writeClock.2.1 15 = .ok (.invokevirtual 195, 3) := by decide +kernel
theorem d_Mo_writeClock_18 : decode M_Mo_writeClock.2.1 18 = .ok (.aload_n 0, 1) := by decide +kernel
theorem d_Mo_writeClock_19 : decode M_Mo_writeClock.2.1 19 = .ok (.bipush 58, 2) := by decide +kernel
theorem d_Mo_writeClock_21 : decode M_Mo_writeClock.2.1 21 = .ok (.invokevirtual 186, 3) := by decide +kernel
theorem d_Mo_writeClock_24 : decode M_Mo_writeClock.2.1 24 = .ok (.aload_n 0, 1) := by decide +kernel
theorem d_Mo_writeClock_25 : decode M_Mo_writeClock.2.1 25 = .ok (.lload_n 3, 1) := by decide +kernel
theorem d_Mo_writeClock_26 : decode M_Mo_writeClock.2.1 26 = .ok (.ldc2_w 199, 3) := by decide +kernel
theorem d_Mo_writeClock_29 : decode M_Mo_writeClock.2.1 29 = .ok (.ldiv, 1) := by decide +kernel
theorem d_Mo_writeClock_30 : decode M_Mo_writeClock.2.1 30 = .ok (.ldc2_w 124, 3) := by decide +kernel
theorem d_Mo_writeClock_33 : decode M_Mo_writeClock.2.1 33 = .ok (.lrem, 1) := by decide +kernel
theorem d_Mo_writeClock_34 : decode M_Mo_writeClock.2.1 34 = .ok (.iconst 2, 1) := by decide +kernel
theorem d_Mo_writeClock_35 : decode M_Mo_writeClock.2.1 35 = .ok (.invokevirtual 195, 3) := by decide +kernel
theorem d_Mo_writeClock_38 : decode M_Mo_writeClock.2.1 38 = .ok (.aload_n 0, 1) := by decide +kernel
theorem d_Mo_writeClock_39 : decode M_Mo_writeClock.2.1 39 = .ok (.bipush 58, 2) := by decide +kernel
theorem d_Mo_writeClock_41 : decode M_Mo_writeClock.2.1 41 = .ok (.invokevirtual 186, 3) := by decide +kernel
theorem d_Mo_writeClock_44 : decode M_Mo_writeClock.2.1 44 = .ok (.aload_n 0, 1) := by decide +kernel
theorem d_Mo_writeClock_45 : decode M_Mo_writeClock.2.1 45 = .ok (.lload_n 3, 1) := by decide +kernel
theorem d_Mo_writeClock_46 : decode M_Mo_writeClock.2.1 46 = .ok (.ldc2_w 201, 3) := by decide +kernel
theorem d_Mo_writeClock_49 : decode M_Mo_writeClock.2.1 49 = .ok (.ldiv, 1) := by decide +kernel
theorem d_Mo_writeClock_50 : decode M_Mo_writeClock.2.1 50 = .ok (.ldc2_w 124, 3) := by decide +kernel
theorem d_Mo_writeClock_53 : decode M_Mo_writeClock.2.1 53 = .ok (.lrem, 1) := by decide +kernel
theorem d_Mo_writeClock_54 : decode M_Mo_writeClock.2.1 54 = .ok (.iconst 2, 1) := by decide +kernel
theorem d_Mo_writeClock_55 : decode M_Mo_writeClock.2.1 55 = .ok (.invokevirtual 195, 3) := by decide +kernel
theorem d_Mo_writeClock_58 : decode M_Mo_writeClock.2.1 58 = .ok (.aload_n 0, 1) := by decide +kernel
theorem d_Mo_writeClock_59 : decode M_Mo_writeClock.2.1 59 = .ok (.bipush 44, 2) := by decide +kernel
theorem d_Mo_writeClock_61 : decode M_Mo_writeClock.2.1 61 = .ok (.invokevirtual 186, 3) := by decide +kernel
theorem d_Mo_writeClock_64 : decode M_Mo_writeClock.2.1 64 = .ok (.aload_n 0, 1) := by decide +kernel
theorem d_Mo_writeClock_65 : decode M_Mo_writeClock.2.1 65 = .ok (.lload_n 3, 1) := by decide +kernel
theorem d_Mo_writeClock_66 : decode M_Mo_writeClock.2.1 66 = .ok (.ldc2_w 201, 3) := by decide +kernel
theorem d_Mo_writeClock_69 : decode M_Mo_writeClock.2.1 69 = .ok (.lrem, 1) := by decide +kernel
theorem d_Mo_writeClock_70 : decode M_Mo_writeClock.2.1 70 = .ok (.iconst 3, 1) := by decide +kernel
theorem d_Mo_writeClock_71 : decode M_Mo_writeClock.2.1 71 = .ok (.invokevirtual 195, 3) := by decide +kernel
theorem d_Mo_writeClock_74 : decode M_Mo_writeClock.2.1 74 = .ok (.return_, 1) := by decide +kernel
theorem d_Mo_writeFrames_0 : decode M_Mo_writeFrames.2.1 0 = .ok (.lload_n 1, 1) := by decide +kernel
theorem d_Mo_writeFrames_1 : decode M_Mo_writeFrames.2.1 1 = .ok (.aload_n 0, 1) := by decide +kernel
theorem d_Mo_writeFrames_2 : decode M_Mo_writeFrames.2.1 2 = .ok (.invokevirtual 134, 3) := by decide +kernel
theorem d_Mo_writeFrames_5 : decode M_Mo_writeFrames.2.1 5 = .ok (.invokestatic 189, 3) := by decide +kernel
theorem d_Mo_writeFrames_8 : decode M_Mo_writeFrames.2.1 8 = .ok (.lstore_n 3, 1) := by decide +kernel
theorem d_Mo_writeFrames_9 : decode M_Mo_writeFrames.2.1 9 = .ok (.iconst 1, 1) := by decide +kernel
theorem d_Mo_writeFrames_10 : decode M_Mo_writeFrames.2.1 10 = .ok (.istore 5, 2) := by decide +kernel
theorem d_Mo_writeFrames_12 : decode M_Mo_writeFrames.2.1 12 = .ok (.ldc2_w 130, 3) := by decide +kernel
theorem d_Mo_writeFrames_15 : decode M_Mo_writeFrames.2.1 15 = .ok (.lstore 6, 2) := by decide +kernel
theorem d_Mo_writeFrames_17 : decode M_Mo_writeFrames.2.1 17 = .ok (.lload 6, 2) := by decide +kernel
theorem d_Mo_writeFrames_19 : decode M_Mo_writeFrames.2.1 19 = .ok (.lload_n 3, 1) := by decide +kernel
theorem d_Mo_writeFrames_20 : decode M_Mo_writeFrames.2.1 20 = .ok (.lcmp, 1) := by decide +kernel
theorem d_Mo_writeFrames_21 : decode M_Mo_writeFrames.2.1 21 = .ok (.ifCond .gt 17, 3) := by decide +kernel
theorem d_Mo_writeFrames_24 : decode M_Mo_writeFrames.2.1 24 = .ok (.iinc 5 1, 3) := by decide +kernel
theorem d_Mo_writeFrames_27 : decode M_Mo_writeFrames.2.1 27 = .ok (.ldc2_w 130, 3) := by decide +kernel
theorem d_Mo_writeFrames_30 : decode M_Mo_writeFrames.2.1 30 = .ok (.lload 6, 2) := by decide +kernel
theorem d_Mo_writeFrames_32 : decode M_Mo_writeFrames.2.1 32 = .ok (.lmul, 1) := by decide +kernel
theorem d_Mo_writeFrames_33 : decode M_Mo_writeFrames.2.1 33 = .ok (.lstore 6, 2) := by decide +kernel
theorem d_Mo_writeFrames_35 : decode M_Mo_writeFrames.2.1 35 = .ok (.goto (-18), 3) := by decide +kernel
theorem d_Mo_writeFrames_38 : decode M_Mo_writeFrames.2.1 38 = .ok (.aload_n 0, 1) := by decide +kernel
theorem d_Mo_writeFrames_39 : decode M_Mo_writeFrames.2.1 39 = .ok (.bipush 123, 2) := by decide +kernel
theorem d_Mo_writeFrames_41 : decode M_Mo_writeFrames.2.1 41 = .ok (.invokevirtual 186, 3) := by decide +kernel
theorem d_Mo_writeFrames_44 : decode M_Mo_writeFrames.2.1 44 = .ok (.aload_n 0, 1) := by decide +kernel
theorem d_Mo_writeFrames_45 : decode M_Mo_writeFrames.2.1 45 = .ok (.lload_n 3, 1) := by decide +kernel
theorem d_Mo_writeFrames_46 : decode M_Mo_writeFrames.2.1 46 = .ok (.iload 5, 2) := by decide +kernel
theorem d_Mo_writeFrames_48 : decode M_Mo_writeFrames.2.1 48 = .ok (.invokevirtual 195, 3) := by decide +kernel
theorem d_Mo_writeFrames_51 : decode M_Mo_writeFrames.2.1 51 = .ok (.aload_n 0, 1) := by decide +kernel
theorem d_Mo_writeFrames_52 : decode M_Mo_writeFrames.2.1 52 = .ok (.bipush 125, 2) := by decide +kernel
theorem d_Mo_writeFrames_54 : decode M_Mo_writeFrames.2.1 54 = .ok (.invokevirtual 186, 3) := by decide +kernel
theorem d_Mo_writeFrames_57 : decode M_Mo_writeFrames.2.1 57 = .ok (.return_, 1) := by decide +kernel
theorem d_Mo_writeSix_0 : decode M_Mo_writeSix.2.1 0 = .ok (.bipush 40, 2) := by decide +kernel
theorem d_Mo_writeSix_2 : decode M_Mo_writeSix.2.1 2 = .ok (.istore_n 3, 1) := by decide +kernel
theorem d_Mo_writeSix_3 : decode M_Mo_writeSix.2.1 3 = .ok (.iload_n 3, 1) := by decide +kernel
theorem d_Mo_writeSix_4 : decode M_Mo_writeSix.2.1 4 = .ok (.ifCond .lt 21, 3) := by decide +kernel
theorem d_Mo_writeSix_7 : decode M_Mo_writeSix.2.1 7 = .ok (.aload_n 0, 1) := by decide +kernel
theorem d_Mo_writeSix_8 : decode M_Mo_writeSix.2.1 8 = .ok (.lload_n 1, 1) := by decide +kernel
theorem d_Mo_writeSix_9 : decode M_Mo_writeSix.2.1 9 = .ok (.iload_n 3, 1) := by decide +kernel
theorem d_Mo_writeSix_10 : decode M_Mo_writeSix.2.1 10 = .ok (.lshr, 1) := by decide +kernel
theorem d_Mo_writeSix_11 : decode M_Mo_writeSix.2.1 11 = .ok (.ldc2_w 98, 3) := by decide +kernel
theorem d_Mo_writeSix_14 : decode M_Mo_writeSix.2.1 14 = .ok (.land, 1) := by decide +kernel
theorem d_Mo_writeSix_15 : decode M_Mo_writeSix.2.1 15 = .ok (.l2i, 1) := by decide +kernel
theorem d_Mo_writeSix_16 : decode M_Mo_writeSix.2.1 16 = .ok (.invokevirtual 186, 3) := by decide +kernel
theorem d_Mo_writeSix_19 : decode M_Mo_writeSix.2.1 19 = .ok (.iinc 3 (-8), 3) := by decide +kernel
theorem d_Mo_writeSix_22 : decode M_Mo_writeSix.2.1 22 = .ok (.goto (-19), 3) := by decide +kernel
theorem d_Mo_writeSix_25 : decode M_Mo_writeSix.2.1 25 = .ok (.return_, 1) := by decide +kernel
def bufC (cn : Int) (F : Nat → Int) (L : List Int) : Nat → Int := if cn = 1 then F else pL F L
theorem bufC_1 {cn : Int} {F : Nat → Int} {L : List Int} (h : cn = 1) : bufC cn F L = F := if_pos h
theorem bufC_0 {cn : Int} {F : Nat → Int} {L : List Int} (h : cn ≠ 1) : bufC cn F L = pL F L := if_neg h
theorem tenZ_s {q : Nat} (h : q < 5) : 10 * tenZ q = tenZ (q + 1) := by
  have : q = 0 ∨ q = 1 ∨ q = 2 ∨ q = 3 ∨ q = 4 := by omega
  rcases this with rfl | rfl | rfl | rfl | rfl <;> rfl
theorem tenZ_d {q : Nat} (h0 : 1 ≤ q) (h : q < 6) : tenZ q / 10 = tenZ (q - 1) := by
  have : q = 1 ∨ q = 2 ∨ q = 3 ∨ q = 4 ∨ q = 5 := by omega
  rcases this with rfl | rfl | rfl | rfl | rfl <;> rfl
set_option maxHeartbeats 4000000 in
set_option maxRecDepth 100000 in
theorem c_Mo_write1 (G : GT) (h : HM) (σ : Nat → Value) (m bu : Nat) (F : Nat → Int) (cn : Int) (L : List Int) (x : Int) (hm : h m = some (.inr (11, fsN 34 σ))) (f1 : σ 1 = .ref bu) (f23 : σ 23 = .int (iZ ((L).length : Int))) (f24 : σ 24 = .int (iZ cn)) (hbu : h bu = some (.inl (G_i G, 1000, .inl (iA (bufC cn F (L)))))) (hcn : cn = 0 ∨ cn = 1) (hlen : (cn = 1 ∨ L.length + (1) ≤ 1000) ∧ L.length + (1) ≤ 2000) : Rn G M_Mo_write1 (rm 0 0) [.ref m, .int (iZ x)] h (fun r h' => r = none ∧ (∃ σ', h' m = some (.inr (11, fsN 34 σ')) ∧ σ' 23 = .int (iZ ((L ++ [x]).length : Int)) ∧ Fs [23] σ σ') ∧ h' bu = some (.inl (G_i G, 1000, .inl (iA (bufC cn F (L ++ [x]))))) ∧ Fm [m, bu] h h') := by
  refine rn_of (by decide) (Nat.le_of_ble_eq_true rfl) ?_
  show Ev G M_Mo_write1 _ _ 0 [(0, .ref m), (1, .int (iZ x))] [] _ 0 0
  have fm : Fm [m, bu] h h := Fm.rf
  have fs : Fs [23] σ σ := Fs.rf
  refine ev_aload_n d_Mo_write1_0 rfl rfl ?_
  refine ev_getF d_Mo_write1_1 fl_Mo_179 hm (by decide) f24 ?_
  refine ez_if_ne (tgt := 17) (by omega) d_Mo_write1_4 rfl (fun c4 => ?_) (fun c4 => ?_)
  · refine ev_aload_n d_Mo_write1_17 rfl rfl ?_
    refine ev_dup d_Mo_write1_18 rfl ?_
    refine ev_getF d_Mo_write1_19 fl_Mo_183 hm (by decide) f23 ?_
    refine ev_iconst (v := iZ 1) d_Mo_write1_22 rfl ?_
    refine ez_iadd d_Mo_write1_23 ?_
    rw [show (((L).length : Int) + 1 : Int) = ((L ++ [x]).length : Int) from by simp]
    refine ev_putF2 d_Mo_write1_24 fw_Mo_183 (Or.inr (fun _ _ _ q => by cases q; rfl)) hm (by decide) rfl rfl (fun h1 σ2 h1a σ2j σ2o h1o => ?_)
    have f1 := (σ2o 1 (by decide)).trans f1
    have f24 := (σ2o 24 (by decide)).trans f24
    have f23 := σ2j
    have fs := fs.step (by simp) σ2o
    have hbu := (h1o _ (cne hbu hm (by simp))).trans hbu
    have hm := h1a
    have fm := fm.step (by simp) h1o
    exact ev_return d_Mo_write1_27 rfl (by decide) (by decide) (⟨rfl, ⟨σ2, hm, f23, fs⟩, by rw [bufC_1 (by omega)]; rw [bufC_1 (by omega)] at hbu; exact hbu, fm⟩)
  · refine ev_aload_n d_Mo_write1_7 rfl rfl ?_
    refine ev_getF d_Mo_write1_8 fl_Mo_7 hm (by decide) f1 ?_
    refine ev_aload_n d_Mo_write1_11 rfl rfl ?_
    refine ev_getF d_Mo_write1_12 fl_Mo_183 hm (by decide) f23 ?_
    refine ev_iload_n d_Mo_write1_15 rfl rfl ?_
    refine ez_iastore (F' := zup (bufC cn F (L)) L.length x) L.length d_Mo_write1_16 hbu (by omega) (by omega) (by decide) rfl (fun h3 h3a h3o => ?_)
    have hm := (h3o _ (cne hm hbu (by simp))).trans hm
    have hbu := h3a
    have fm := fm.step (by simp) h3o
    refine ev_aload_n d_Mo_write1_17 rfl rfl ?_
    refine ev_dup d_Mo_write1_18 rfl ?_
    refine ev_getF d_Mo_write1_19 fl_Mo_183 hm (by decide) f23 ?_
    refine ev_iconst (v := iZ 1) d_Mo_write1_22 rfl ?_
    refine ez_iadd d_Mo_write1_23 ?_
    rw [show (((L).length : Int) + 1 : Int) = ((L ++ [x]).length : Int) from by simp]
    refine ev_putF2 d_Mo_write1_24 fw_Mo_183 (Or.inr (fun _ _ _ q => by cases q; rfl)) hm (by decide) rfl rfl (fun h4 σ5 h4a σ5j σ5o h4o => ?_)
    have f1 := (σ5o 1 (by decide)).trans f1
    have f24 := (σ5o 24 (by decide)).trans f24
    have f23 := σ5j
    have fs := fs.step (by simp) σ5o
    have hbu := (h4o _ (cne hbu hm (by simp))).trans hbu
    have hm := h4a
    have fm := fm.step (by simp) h4o
    exact ev_return d_Mo_write1_27 rfl (by decide) (by decide) (⟨rfl, ⟨σ5, hm, f23, fs⟩, by rw [bufC_0 (by omega), ← pL_s]; rw [bufC_0 (by omega)] at hbu; exact hbu, fm⟩)
set_option maxHeartbeats 4000000 in
set_option maxRecDepth 100000 in
theorem lp_Mo_wd1 (G : GT) (Q : Option Value → HM → Prop) (h : HM) (m : Nat) (v : Int) (d0 : Nat) (hd0 : d0 ≤ 6) (kk : ∀ q : Nat, q + 1 = d0 → Ev G M_Mo_writeDigits (rm 1 22) Q 26 [(0, .ref m), (1, .long (lZ v)), (3, .int (iZ (d0 : Int))), (4, .long (lZ (tenZ q))), (6, .int (iZ ((q + 1 : Nat) : Int)))] [] h 0 0) : ∀ (d : Nat) (q : Nat), q + 1 + d = d0 → Ev G M_Mo_writeDigits (rm 1 22) (Q) 6 [(0, .ref m), (1, .long (lZ v)), (3, .int (iZ (d0 : Int))), (4, .long (lZ (tenZ q))), (6, .int (iZ ((q + 1 : Nat) : Int)))] [] h 0 0 := by
  intro d
  induction d using Nat.strongRecOn with
  | ind d ih =>
  intro q hd
  refine ev_iload d_Mo_writeDigits_6 rfl ?_
  refine ev_iload_n d_Mo_writeDigits_8 rfl rfl ?_
  refine ez_icmp_ge (tgt := 26) (by omega) (by omega) d_Mo_writeDigits_9 rfl (fun c9 => ?_) (fun c9 => ?_)
  · exact kk q (by omega)
  · refine ev_ldc2 (v := lZ 10) d_Mo_writeDigits_12 kc_Mo_130 ?_
    refine ev_lload d_Mo_writeDigits_15 rfl ?_
    refine ez_lmul d_Mo_writeDigits_17 ?_
    rw [show (10 * (tenZ q) : Int) = tenZ (q + 1) from tenZ_s (by omega)]
    refine ev_lstore (L' := [(0, .ref m), (1, .long (lZ v)), (3, .int (iZ (d0 : Int))), (4, .long (lZ (tenZ (q + 1)))), (6, .int (iZ ((q + 1 : Nat) : Int)))]) d_Mo_writeDigits_18 (by decide) rfl ?_
    refine ez_iinc (L' := [(0, .ref m), (1, .long (lZ v)), (3, .int (iZ (d0 : Int))), (4, .long (lZ (tenZ (q + 1)))), (6, .int (iZ ((q + 1 + 1 : Nat) : Int)))]) d_Mo_writeDigits_20 rfl (by decide) rfl ?_
    refine ev_goto (tgt := 6) d_Mo_writeDigits_23 rfl ?_
    exact ih (d - 1) (by omega) (q + 1) (by omega)
set_option maxHeartbeats 4000000 in
set_option maxRecDepth 100000 in
theorem lp_Mo_wd2 (G : GT) (h0 : HM) (σ0 : Nat → Value) (m bu : Nat) (F : Nat → Int) (cn : Int) (L : List Int) (v : Int) (d0 : Nat) (hv : 0 ≤ v ∧ v ≤ 1000000000) (hd0 : d0 ≤ 6) (hcn : cn = 0 ∨ cn = 1) (hlen : (cn = 1 ∨ L.length + (d0) ≤ 1000) ∧ L.length + (d0) ≤ 2000) : ∀ (d : Nat) (r : Nat) (h : HM) (σ : Nat → Value) (LL : List Int) (tt : Int), r = d → r ≤ d0 → (1 ≤ r → tt = tenZ (r - 1)) → LL ++ dgL v r = L ++ dgL v d0 → h m = some (.inr (11, fsN 34 σ)) → σ 1 = .ref bu → σ 23 = .int (iZ ((LL).length : Int)) → σ 24 = .int (iZ cn) → h bu = some (.inl (G_i G, 1000, .inl (iA (bufC cn F (LL))))) → Fm [m, bu] h0 h → Fs [23] σ0 σ → Ev G M_Mo_writeDigits (rm 1 22) (fun r h' => r = none ∧ (∃ σ', h' m = some (.inr (11, fsN 34 σ')) ∧ σ' 23 = .int (iZ ((L ++ dgL v d0).length : Int)) ∧ Fs [23] σ0 σ') ∧ h' bu = some (.inl (G_i G, 1000, .inl (iA (bufC cn F (L ++ dgL v d0))))) ∧ Fm [m, bu] h0 h') 29 [(0, .ref m), (1, .long (lZ v)), (3, .int (iZ (d0 : Int))), (4, .long (lZ tt)), (6, .int (iZ ((d0 - r : Nat) : Int)))] [] h 0 0 := by
  intro d
  induction d using Nat.strongRecOn with
  | ind d ih =>
  intro r h σ LL tt hd hr htt hLL hm f1 f23 f24 hbu fm fs
  refine ev_iload d_Mo_writeDigits_29 rfl ?_
  refine ev_iload_n d_Mo_writeDigits_31 rfl rfl ?_
  refine ez_icmp_ge (tgt := 65) (by omega) (by omega) d_Mo_writeDigits_32 rfl (fun c32 => ?_) (fun c32 => ?_)
  · exact ev_return d_Mo_writeDigits_65 rfl (by decide) (by decide) (⟨rfl, ⟨σ, hm, by rw [show r = 0 by omega] at hLL; rw [← hLL]; simp only [dgL, List.append_nil]; exact f23, fs⟩, by rw [show r = 0 by omega] at hLL; rw [← hLL]; simp only [dgL, List.append_nil]; exact hbu, fm⟩)
  · obtain ⟨r, rfl⟩ : ∃ q : Nat, r = q + 1 := ⟨r - 1, by omega⟩
    have rt := tenZ_r r
    obtain rfl : tt = tenZ r := htt (by omega)
    have rq := Int.ediv_nonneg hv.1 (show 0 ≤ tenZ r by omega)
    have rq2 := Int.ediv_le_self (tenZ r) hv.1
    have hl9 := congrArg List.length hLL
    rw [dgL] at hLL
    simp only [List.length_append, dgL_l] at hl9
    refine ev_aload_n d_Mo_writeDigits_35 rfl rfl ?_
    refine ev_bipush (v := iZ 48) d_Mo_writeDigits_36 rfl ?_
    refine ev_lload_n d_Mo_writeDigits_38 rfl rfl ?_
    refine ev_lload d_Mo_writeDigits_39 rfl ?_
    refine ez_ldiv (by omega) (by omega) (by omega) (by omega) d_Mo_writeDigits_41 ?_
    refine ev_ldc2 (v := lZ 10) d_Mo_writeDigits_42 kc_Mo_130 ?_
    refine ez_lrem (by omega) (by omega) (by omega) (by omega) d_Mo_writeDigits_45 ?_
    refine ez_l2i d_Mo_writeDigits_46 ?_
    refine ez_iadd d_Mo_writeDigits_47 ?_
    refine ev_callV M_Mo_write1 (rm 0 0) _ (As := [.int (iZ (48 + ((v / (tenZ r)) % 10)))]) (c_Mo_write1 G h σ m bu F cn (LL) (48 + ((v / (tenZ r)) % 10)) hm f1 f23 f24 hbu hcn (by first | omega | (simp only [List.length_append, List.length_cons, List.length_nil, dgL_l, txL_l, oTime_l, oFr_l, sixL_l]; omega))) d_Mo_writeDigits_48 mk_Mo_write1 ml_Mo_186 mv_Mo_write1 hm rfl rfl rfl (Nat.le_of_ble_eq_true rfl) ⟨by decide, by decide⟩ ⟨by decide, by decide⟩ (fun r h1 hq => ?_)
    obtain ⟨rfl, ⟨σ2, gm, g23, gs⟩, gbu, fmc⟩ := hq
    have f1 := (gs 1 (by decide)).trans f1
    have f24 := (gs 24 (by decide)).trans f24
    have f23 := g23
    have hm := gm
    have hbu := gbu
    have fm := fm.call (by simp) fmc
    have fs := fs.call (by simp) gs
    refine ev_lload d_Mo_writeDigits_51 rfl ?_
    refine ev_ldc2 (v := lZ 10) d_Mo_writeDigits_53 kc_Mo_130 ?_
    refine ez_ldiv (by omega) (by omega) (by omega) (by omega) d_Mo_writeDigits_56 ?_
    refine ev_lstore (L' := [(0, .ref m), (1, .long (lZ v)), (3, .int (iZ (d0 : Int))), (4, .long (lZ ((tenZ r) / 10))), (6, .int (iZ ((d0 - (r + 1) : Nat) : Int)))]) d_Mo_writeDigits_57 (by decide) rfl ?_
    refine ez_iinc (L' := [(0, .ref m), (1, .long (lZ v)), (3, .int (iZ (d0 : Int))), (4, .long (lZ ((tenZ r) / 10))), (6, .int (iZ (((d0 - (r + 1) : Nat) : Int) + 1)))]) d_Mo_writeDigits_59 rfl (by decide) rfl ?_
    refine ev_goto (tgt := 29) d_Mo_writeDigits_62 rfl ?_
    rw [show ((d0 - (r + 1) : Nat) : Int) + 1 = ((d0 - r : Nat) : Int) from by omega]
    exact ih (d - 1) (by omega) r h1 σ2 (LL ++ [48 + ((v / (tenZ r)) % 10)]) (tenZ r / 10) (by omega) (by omega) (fun q => tenZ_d q (by omega)) (by rw [List.append_assoc]; exact hLL) hm f1 f23 f24 hbu fm fs
set_option maxHeartbeats 4000000 in
set_option maxRecDepth 100000 in
theorem c_Mo_writeDigits (G : GT) (h : HM) (σ : Nat → Value) (m bu : Nat) (F : Nat → Int) (cn : Int) (L : List Int) (v : Int) (d0 : Nat) (hm : h m = some (.inr (11, fsN 34 σ))) (f1 : σ 1 = .ref bu) (f23 : σ 23 = .int (iZ ((L).length : Int))) (f24 : σ 24 = .int (iZ cn)) (hbu : h bu = some (.inl (G_i G, 1000, .inl (iA (bufC cn F (L)))))) (hv : 0 ≤ v ∧ v ≤ 1000000000) (hd0 : 1 ≤ d0) (hd6 : d0 ≤ 6) (hcn : cn = 0 ∨ cn = 1) (hlen : (cn = 1 ∨ L.length + (d0) ≤ 1000) ∧ L.length + (d0) ≤ 2000) : Rn G M_Mo_writeDigits (rm 1 22) [.ref m, .long (lZ v), .int (iZ (d0 : Int))] h (fun r h' => r = none ∧ (∃ σ', h' m = some (.inr (11, fsN 34 σ')) ∧ σ' 23 = .int (iZ ((L ++ dgL v d0).length : Int)) ∧ Fs [23] σ σ') ∧ h' bu = some (.inl (G_i G, 1000, .inl (iA (bufC cn F (L ++ dgL v d0))))) ∧ Fm [m, bu] h h') := by
  refine rn_of (by decide) (Nat.le_of_ble_eq_true rfl) ?_
  show Ev G M_Mo_writeDigits _ _ 0 [(0, .ref m), (1, .long (lZ v)), (3, .int (iZ (d0 : Int)))] [] _ 0 0
  refine ev_lconst (v := lZ 1) d_Mo_writeDigits_0 rfl ?_
  refine ev_lstore (L' := [(0, .ref m), (1, .long (lZ v)), (3, .int (iZ (d0 : Int))), (4, .long (lZ 1))]) d_Mo_writeDigits_1 (by decide) rfl ?_
  refine ev_iconst (v := iZ 1) d_Mo_writeDigits_3 rfl ?_
  refine ev_istore (L' := [(0, .ref m), (1, .long (lZ v)), (3, .int (iZ (d0 : Int))), (4, .long (lZ 1)), (6, .int (iZ 1))]) d_Mo_writeDigits_4 (by decide) rfl ?_
  refine lp_Mo_wd1 G _ h m v d0 hd6 (fun q hq => ?_) (d0 - 1) 0 (by omega)
  refine ev_iconst (v := iZ 0) d_Mo_writeDigits_26 rfl ?_
  refine ev_istore (L' := [(0, .ref m), (1, .long (lZ v)), (3, .int (iZ (d0 : Int))), (4, .long (lZ (tenZ q))), (6, .int (iZ 0))]) d_Mo_writeDigits_27 (by decide) rfl ?_
  rw [show (0 : Int) = ((d0 - d0 : Nat) : Int) from by omega]
  exact lp_Mo_wd2 G h σ m bu F cn L v d0 hv hd6 hcn hlen d0 d0 h σ L (tenZ q) rfl (by omega) (fun _ => by rw [show d0 - 1 = q by omega]) rfl hm f1 f23 f24 hbu Fm.rf Fs.rf
set_option maxHeartbeats 4000000 in
set_option maxRecDepth 100000 in
theorem c_Mo_writeClock (G : GT) (h : HM) (σ : Nat → Value) (m bu : Nat) (F : Nat → Int) (cn : Int) (L : List Int) (t : Int) (hm : h m = some (.inr (11, fsN 34 σ))) (f1 : σ 1 = .ref bu) (f23 : σ 23 = .int (iZ ((L).length : Int))) (f24 : σ 24 = .int (iZ cn)) (hbu : h bu = some (.inl (G_i G, 1000, .inl (iA (bufC cn F (L)))))) (ht : 0 ≤ t ∧ t ≤ 2540160000000) (hcn : cn = 0 ∨ cn = 1) (hlen : (cn = 1 ∨ L.length + (12) ≤ 1000) ∧ L.length + (12) ≤ 2000) : Rn G M_Mo_writeClock (rm 2 60) [.ref m, .long (lZ t)] h (fun r h' => r = none ∧ (∃ σ', h' m = some (.inr (11, fsN 34 σ')) ∧ σ' 23 = .int (iZ ((L ++ oTime t).length : Int)) ∧ Fs [23] σ σ') ∧ h' bu = some (.inl (G_i G, 1000, .inl (iA (bufC cn F (L ++ oTime t))))) ∧ Fm [m, bu] h h') := by
  refine rn_of (by decide) (Nat.le_of_ble_eq_true rfl) ?_
  show Ev G M_Mo_writeClock _ _ 0 [(0, .ref m), (1, .long (lZ t))] [] _ 0 0
  have fm : Fm [m, bu] h h := Fm.rf
  have fs : Fs [23] σ σ := Fs.rf
  refine ev_lload_n d_Mo_writeClock_0 rfl rfl ?_
  refine ev_ldc2 (v := lZ 705600) d_Mo_writeClock_1 kc_Mo_132 ?_
  have rv := tho_r ht
  refine ev_pS M_Mo_nearest 0 0 (As := [.long (lZ t), .long (lZ 705600)]) (c_Mo_nearest G h t 705600 (by omega) (by omega)) d_Mo_writeClock_4 mk_Mo_nearest ml_Mo_189 ms_Mo_nearest rfl rfl (Nat.le_of_ble_eq_true rfl) ⟨by decide, by decide⟩ ⟨by decide, by decide⟩ ?_
  refine ev_lstore_n (L' := [(0, .ref m), (1, .long (lZ t)), (3, .long (lZ (nearZ t 705600)))]) d_Mo_writeClock_7 rfl (by decide) rfl ?_
  refine ev_aload_n d_Mo_writeClock_8 rfl rfl ?_
  refine ev_lload_n d_Mo_writeClock_9 rfl rfl ?_
  refine ev_ldc2 (v := lZ 3600000) d_Mo_writeClock_10 kc_Mo_193 ?_
  refine ez_ldiv (by omega) (by omega) (by omega) (by omega) d_Mo_writeClock_13 ?_
  refine ev_iconst (v := iZ 2) d_Mo_writeClock_14 rfl ?_
  refine ev_callV M_Mo_writeDigits (rm 1 22) _ (As := [.long (lZ ((nearZ t 705600) / 3600000)), .int (iZ 2)]) (c_Mo_writeDigits G h σ m bu F cn (L) ((nearZ t 705600) / 3600000) 2 hm f1 f23 f24 hbu (by omega) (by decide) (by decide) hcn (by first | omega | (simp only [List.length_append, List.length_cons, List.length_nil, dgL_l, txL_l, oTime_l, oFr_l, sixL_l]; omega))) d_Mo_writeClock_15 mk_Mo_writeDigits ml_Mo_195 mv_Mo_writeDigits hm rfl rfl rfl (Nat.le_of_ble_eq_true rfl) ⟨by decide, by decide⟩ ⟨by decide, by decide⟩ (fun r h1 hq => ?_)
  obtain ⟨rfl, ⟨σ2, gm, g23, gs⟩, gbu, fmc⟩ := hq
  have f1 := (gs 1 (by decide)).trans f1
  have f24 := (gs 24 (by decide)).trans f24
  have f23 := g23
  have hm := gm
  have hbu := gbu
  have fm := fm.call (by simp) fmc
  have fs := fs.call (by simp) gs
  refine ev_aload_n d_Mo_writeClock_18 rfl rfl ?_
  refine ev_bipush (v := iZ 58) d_Mo_writeClock_19 rfl ?_
  refine ev_callV M_Mo_write1 (rm 0 0) _ (As := [.int (iZ 58)]) (c_Mo_write1 G h1 σ2 m bu F cn (L ++ dgL ((nearZ t 705600) / 3600000) 2) (58) hm f1 f23 f24 hbu hcn (by first | omega | (simp only [List.length_append, List.length_cons, List.length_nil, dgL_l, txL_l, oTime_l, oFr_l, sixL_l]; omega))) d_Mo_writeClock_21 mk_Mo_write1 ml_Mo_186 mv_Mo_write1 hm rfl rfl rfl (Nat.le_of_ble_eq_true rfl) ⟨by decide, by decide⟩ ⟨by decide, by decide⟩ (fun r h3 hq => ?_)
  obtain ⟨rfl, ⟨σ4, gm, g23, gs⟩, gbu, fmc⟩ := hq
  have f1 := (gs 1 (by decide)).trans f1
  have f24 := (gs 24 (by decide)).trans f24
  have f23 := g23
  have hm := gm
  have hbu := gbu
  have fm := fm.call (by simp) fmc
  have fs := fs.call (by simp) gs
  refine ev_aload_n d_Mo_writeClock_24 rfl rfl ?_
  refine ev_lload_n d_Mo_writeClock_25 rfl rfl ?_
  refine ev_ldc2 (v := lZ 60000) d_Mo_writeClock_26 kc_Mo_199 ?_
  refine ez_ldiv (by omega) (by omega) (by omega) (by omega) d_Mo_writeClock_29 ?_
  refine ev_ldc2 (v := lZ 60) d_Mo_writeClock_30 kc_Mo_124 ?_
  refine ez_lrem (by omega) (by omega) (by omega) (by omega) d_Mo_writeClock_33 ?_
  refine ev_iconst (v := iZ 2) d_Mo_writeClock_34 rfl ?_
  refine ev_callV M_Mo_writeDigits (rm 1 22) _ (As := [.long (lZ (((nearZ t 705600) / 60000) % 60)), .int (iZ 2)]) (c_Mo_writeDigits G h3 σ4 m bu F cn (L ++ dgL ((nearZ t 705600) / 3600000) 2 ++ [58]) (((nearZ t 705600) / 60000) % 60) 2 hm f1 f23 f24 hbu (by omega) (by decide) (by decide) hcn (by first | omega | (simp only [List.length_append, List.length_cons, List.length_nil, dgL_l, txL_l, oTime_l, oFr_l, sixL_l]; omega))) d_Mo_writeClock_35 mk_Mo_writeDigits ml_Mo_195 mv_Mo_writeDigits hm rfl rfl rfl (Nat.le_of_ble_eq_true rfl) ⟨by decide, by decide⟩ ⟨by decide, by decide⟩ (fun r h5 hq => ?_)
  obtain ⟨rfl, ⟨σ6, gm, g23, gs⟩, gbu, fmc⟩ := hq
  have f1 := (gs 1 (by decide)).trans f1
  have f24 := (gs 24 (by decide)).trans f24
  have f23 := g23
  have hm := gm
  have hbu := gbu
  have fm := fm.call (by simp) fmc
  have fs := fs.call (by simp) gs
  refine ev_aload_n d_Mo_writeClock_38 rfl rfl ?_
  refine ev_bipush (v := iZ 58) d_Mo_writeClock_39 rfl ?_
  refine ev_callV M_Mo_write1 (rm 0 0) _ (As := [.int (iZ 58)]) (c_Mo_write1 G h5 σ6 m bu F cn (L ++ dgL ((nearZ t 705600) / 3600000) 2 ++ [58] ++ dgL (((nearZ t 705600) / 60000) % 60) 2) (58) hm f1 f23 f24 hbu hcn (by first | omega | (simp only [List.length_append, List.length_cons, List.length_nil, dgL_l, txL_l, oTime_l, oFr_l, sixL_l]; omega))) d_Mo_writeClock_41 mk_Mo_write1 ml_Mo_186 mv_Mo_write1 hm rfl rfl rfl (Nat.le_of_ble_eq_true rfl) ⟨by decide, by decide⟩ ⟨by decide, by decide⟩ (fun r h7 hq => ?_)
  obtain ⟨rfl, ⟨σ8, gm, g23, gs⟩, gbu, fmc⟩ := hq
  have f1 := (gs 1 (by decide)).trans f1
  have f24 := (gs 24 (by decide)).trans f24
  have f23 := g23
  have hm := gm
  have hbu := gbu
  have fm := fm.call (by simp) fmc
  have fs := fs.call (by simp) gs
  refine ev_aload_n d_Mo_writeClock_44 rfl rfl ?_
  refine ev_lload_n d_Mo_writeClock_45 rfl rfl ?_
  refine ev_ldc2 (v := lZ 1000) d_Mo_writeClock_46 kc_Mo_201 ?_
  refine ez_ldiv (by omega) (by omega) (by omega) (by omega) d_Mo_writeClock_49 ?_
  refine ev_ldc2 (v := lZ 60) d_Mo_writeClock_50 kc_Mo_124 ?_
  refine ez_lrem (by omega) (by omega) (by omega) (by omega) d_Mo_writeClock_53 ?_
  refine ev_iconst (v := iZ 2) d_Mo_writeClock_54 rfl ?_
  refine ev_callV M_Mo_writeDigits (rm 1 22) _ (As := [.long (lZ (((nearZ t 705600) / 1000) % 60)), .int (iZ 2)]) (c_Mo_writeDigits G h7 σ8 m bu F cn (L ++ dgL ((nearZ t 705600) / 3600000) 2 ++ [58] ++ dgL (((nearZ t 705600) / 60000) % 60) 2 ++ [58]) (((nearZ t 705600) / 1000) % 60) 2 hm f1 f23 f24 hbu (by omega) (by decide) (by decide) hcn (by first | omega | (simp only [List.length_append, List.length_cons, List.length_nil, dgL_l, txL_l, oTime_l, oFr_l, sixL_l]; omega))) d_Mo_writeClock_55 mk_Mo_writeDigits ml_Mo_195 mv_Mo_writeDigits hm rfl rfl rfl (Nat.le_of_ble_eq_true rfl) ⟨by decide, by decide⟩ ⟨by decide, by decide⟩ (fun r h9 hq => ?_)
  obtain ⟨rfl, ⟨σ10, gm, g23, gs⟩, gbu, fmc⟩ := hq
  have f1 := (gs 1 (by decide)).trans f1
  have f24 := (gs 24 (by decide)).trans f24
  have f23 := g23
  have hm := gm
  have hbu := gbu
  have fm := fm.call (by simp) fmc
  have fs := fs.call (by simp) gs
  refine ev_aload_n d_Mo_writeClock_58 rfl rfl ?_
  refine ev_bipush (v := iZ 44) d_Mo_writeClock_59 rfl ?_
  refine ev_callV M_Mo_write1 (rm 0 0) _ (As := [.int (iZ 44)]) (c_Mo_write1 G h9 σ10 m bu F cn (L ++ dgL ((nearZ t 705600) / 3600000) 2 ++ [58] ++ dgL (((nearZ t 705600) / 60000) % 60) 2 ++ [58] ++ dgL (((nearZ t 705600) / 1000) % 60) 2) (44) hm f1 f23 f24 hbu hcn (by first | omega | (simp only [List.length_append, List.length_cons, List.length_nil, dgL_l, txL_l, oTime_l, oFr_l, sixL_l]; omega))) d_Mo_writeClock_61 mk_Mo_write1 ml_Mo_186 mv_Mo_write1 hm rfl rfl rfl (Nat.le_of_ble_eq_true rfl) ⟨by decide, by decide⟩ ⟨by decide, by decide⟩ (fun r h11 hq => ?_)
  obtain ⟨rfl, ⟨σ12, gm, g23, gs⟩, gbu, fmc⟩ := hq
  have f1 := (gs 1 (by decide)).trans f1
  have f24 := (gs 24 (by decide)).trans f24
  have f23 := g23
  have hm := gm
  have hbu := gbu
  have fm := fm.call (by simp) fmc
  have fs := fs.call (by simp) gs
  refine ev_aload_n d_Mo_writeClock_64 rfl rfl ?_
  refine ev_lload_n d_Mo_writeClock_65 rfl rfl ?_
  refine ev_ldc2 (v := lZ 1000) d_Mo_writeClock_66 kc_Mo_201 ?_
  refine ez_lrem (by omega) (by omega) (by omega) (by omega) d_Mo_writeClock_69 ?_
  refine ev_iconst (v := iZ 3) d_Mo_writeClock_70 rfl ?_
  refine ev_callV M_Mo_writeDigits (rm 1 22) _ (As := [.long (lZ ((nearZ t 705600) % 1000)), .int (iZ 3)]) (c_Mo_writeDigits G h11 σ12 m bu F cn (L ++ dgL ((nearZ t 705600) / 3600000) 2 ++ [58] ++ dgL (((nearZ t 705600) / 60000) % 60) 2 ++ [58] ++ dgL (((nearZ t 705600) / 1000) % 60) 2 ++ [44]) ((nearZ t 705600) % 1000) 3 hm f1 f23 f24 hbu (by omega) (by decide) (by decide) hcn (by first | omega | (simp only [List.length_append, List.length_cons, List.length_nil, dgL_l, txL_l, oTime_l, oFr_l, sixL_l]; omega))) d_Mo_writeClock_71 mk_Mo_writeDigits ml_Mo_195 mv_Mo_writeDigits hm rfl rfl rfl (Nat.le_of_ble_eq_true rfl) ⟨by decide, by decide⟩ ⟨by decide, by decide⟩ (fun r h13 hq => ?_)
  obtain ⟨rfl, ⟨σ14, gm, g23, gs⟩, gbu, fmc⟩ := hq
  have f1 := (gs 1 (by decide)).trans f1
  have f24 := (gs 24 (by decide)).trans f24
  have f23 := g23
  have hm := gm
  have hbu := gbu
  have fm := fm.call (by simp) fmc
  have fs := fs.call (by simp) gs
  have e9 : L ++ dgL ((nearZ t 705600) / 3600000) 2 ++ [58] ++ dgL (((nearZ t 705600) / 60000) % 60) 2 ++ [58] ++ dgL (((nearZ t 705600) / 1000) % 60) 2 ++ [44] ++ dgL ((nearZ t 705600) % 1000) 3 = L ++ oTime t := by unfold oTime; simp only [List.append_assoc]
  exact ev_return d_Mo_writeClock_74 rfl (by decide) (by decide) (⟨rfl, ⟨σ14, hm, by rw [← e9]; exact f23, fs⟩, by rw [← e9]; exact hbu, fm⟩)
set_option maxHeartbeats 4000000 in
set_option maxRecDepth 100000 in
theorem c_Mo_writeFrames (G : GT) (h : HM) (σ : Nat → Value) (m bu : Nat) (F : Nat → Int) (cn : Int) (L : List Int) (num den tk t : Int) (hm : h m = some (.inr (11, fsN 34 σ))) (f1 : σ 1 = .ref bu) (f2 : σ 2 = .int (iZ num)) (f3 : σ 3 = .int (iZ den)) (f23 : σ 23 = .int (iZ ((L).length : Int))) (f24 : σ 24 = .int (iZ cn)) (hbu : h bu = some (.inl (G_i G, 1000, .inl (iA (bufC cn F (L)))))) (hnum : 1 ≤ num ∧ num ≤ 120000) (hden : 1 ≤ den ∧ den ≤ 1001) (htk : tk = 705600000 * den / num) (htr : 11760000 ≤ tk ∧ tk ≤ 705600000) (ht : 0 ≤ t ∧ t ≤ 2540160000000) (hcn : cn = 0 ∨ cn = 1) (hlen : (cn = 1 ∨ L.length + (2 + ndg (nearZ t tk)) ≤ 1000) ∧ L.length + (2 + ndg (nearZ t tk)) ≤ 2000) : Rn G M_Mo_writeFrames (rm 2 60) [.ref m, .long (lZ t)] h (fun r h' => r = none ∧ (∃ σ', h' m = some (.inr (11, fsN 34 σ')) ∧ σ' 23 = .int (iZ ((L ++ oFr tk t).length : Int)) ∧ Fs [23] σ σ') ∧ h' bu = some (.inl (G_i G, 1000, .inl (iA (bufC cn F (L ++ oFr tk t))))) ∧ Fm [m, bu] h h') := by
  refine rn_of (by decide) (Nat.le_of_ble_eq_true rfl) ?_
  show Ev G M_Mo_writeFrames _ _ 0 [(0, .ref m), (1, .long (lZ t))] [] _ 0 0
  have fm : Fm [m, bu] h h := Fm.rf
  have fs : Fs [23] σ σ := Fs.rf
  have rnd := ndg_r (nearZ t tk)
  refine ev_lload_n d_Mo_writeFrames_0 rfl rfl ?_
  refine ev_aload_n d_Mo_writeFrames_1 rfl rfl ?_
  refine ev_pV M_Mo_frame 0 0 (As := []) (c_Mo_frame G h σ m num den hm f2 f3 hnum hden) d_Mo_writeFrames_2 mk_Mo_frame ml_Mo_134 mv_Mo_frame hm rfl rfl rfl (Nat.le_of_ble_eq_true rfl) ⟨by decide, by decide⟩ ⟨by decide, by decide⟩ ?_
  rw [← htk]
  have rv := fra_r htr ht
  refine ev_pS M_Mo_nearest 0 0 (As := [.long (lZ t), .long (lZ tk)]) (c_Mo_nearest G h t tk (by omega) (by omega)) d_Mo_writeFrames_5 mk_Mo_nearest ml_Mo_189 ms_Mo_nearest rfl rfl (Nat.le_of_ble_eq_true rfl) ⟨by decide, by decide⟩ ⟨by decide, by decide⟩ ?_
  refine ev_lstore_n (L' := [(0, .ref m), (1, .long (lZ t)), (3, .long (lZ (nearZ t tk)))]) d_Mo_writeFrames_8 rfl (by decide) rfl ?_
  refine ev_iconst (v := iZ 1) d_Mo_writeFrames_9 rfl ?_
  refine ev_istore (L' := [(0, .ref m), (1, .long (lZ t)), (3, .long (lZ (nearZ t tk))), (5, .int (iZ 1))]) d_Mo_writeFrames_10 (by decide) rfl ?_
  refine ev_ldc2 (v := lZ 10) d_Mo_writeFrames_12 kc_Mo_130 ?_
  refine ev_lstore (L' := [(0, .ref m), (1, .long (lZ t)), (3, .long (lZ (nearZ t tk))), (5, .int (iZ 1)), (6, .long (lZ 10))]) d_Mo_writeFrames_15 (by decide) rfl ?_
  refine ev_lload d_Mo_writeFrames_17 rfl ?_
  refine ev_lload_n d_Mo_writeFrames_19 rfl rfl ?_
  refine ev_lcmp d_Mo_writeFrames_20 ?_
  refine ez_lif_gt (tgt := 38) (by decide) (by omega) d_Mo_writeFrames_21 rfl (fun c21 => ?_) (fun c21 => ?_)
  · have hnd : ndg (nearZ t tk) = 1 := by unfold ndg; (repeat' split) <;> omega
    refine ev_aload_n d_Mo_writeFrames_38 rfl rfl ?_
    refine ev_bipush (v := iZ 123) d_Mo_writeFrames_39 rfl ?_
    refine ev_callV M_Mo_write1 (rm 0 0) _ (As := [.int (iZ 123)]) (c_Mo_write1 G h σ m bu F cn (L) (123) hm f1 f23 f24 hbu hcn (by first | omega | (simp only [List.length_append, List.length_cons, List.length_nil, dgL_l, txL_l, oTime_l, oFr_l, sixL_l]; omega))) d_Mo_writeFrames_41 mk_Mo_write1 ml_Mo_186 mv_Mo_write1 hm rfl rfl rfl (Nat.le_of_ble_eq_true rfl) ⟨by decide, by decide⟩ ⟨by decide, by decide⟩ (fun r h1 hq => ?_)
    obtain ⟨rfl, ⟨σ2, gm, g23, gs⟩, gbu, fmc⟩ := hq
    have f1 := (gs 1 (by decide)).trans f1
    have f2 := (gs 2 (by decide)).trans f2
    have f3 := (gs 3 (by decide)).trans f3
    have f24 := (gs 24 (by decide)).trans f24
    have f23 := g23
    have hm := gm
    have hbu := gbu
    have fm := fm.call (by simp) fmc
    have fs := fs.call (by simp) gs
    refine ev_aload_n d_Mo_writeFrames_44 rfl rfl ?_
    refine ev_lload_n d_Mo_writeFrames_45 rfl rfl ?_
    refine ev_iload d_Mo_writeFrames_46 rfl ?_
    refine ev_callV M_Mo_writeDigits (rm 1 22) _ (As := [.long (lZ (nearZ t tk)), .int (iZ 1)]) (c_Mo_writeDigits G h1 σ2 m bu F cn (L ++ [123]) (nearZ t tk) 1 hm f1 f23 f24 hbu (by omega) (by decide) (by decide) hcn (by first | omega | (simp only [List.length_append, List.length_cons, List.length_nil, dgL_l, txL_l, oTime_l, oFr_l, sixL_l]; omega))) d_Mo_writeFrames_48 mk_Mo_writeDigits ml_Mo_195 mv_Mo_writeDigits hm rfl rfl rfl (Nat.le_of_ble_eq_true rfl) ⟨by decide, by decide⟩ ⟨by decide, by decide⟩ (fun r h3 hq => ?_)
    obtain ⟨rfl, ⟨σ4, gm, g23, gs⟩, gbu, fmc⟩ := hq
    have f1 := (gs 1 (by decide)).trans f1
    have f2 := (gs 2 (by decide)).trans f2
    have f3 := (gs 3 (by decide)).trans f3
    have f24 := (gs 24 (by decide)).trans f24
    have f23 := g23
    have hm := gm
    have hbu := gbu
    have fm := fm.call (by simp) fmc
    have fs := fs.call (by simp) gs
    refine ev_aload_n d_Mo_writeFrames_51 rfl rfl ?_
    refine ev_bipush (v := iZ 125) d_Mo_writeFrames_52 rfl ?_
    refine ev_callV M_Mo_write1 (rm 0 0) _ (As := [.int (iZ 125)]) (c_Mo_write1 G h3 σ4 m bu F cn (L ++ [123] ++ dgL (nearZ t tk) 1) (125) hm f1 f23 f24 hbu hcn (by first | omega | (simp only [List.length_append, List.length_cons, List.length_nil, dgL_l, txL_l, oTime_l, oFr_l, sixL_l]; omega))) d_Mo_writeFrames_54 mk_Mo_write1 ml_Mo_186 mv_Mo_write1 hm rfl rfl rfl (Nat.le_of_ble_eq_true rfl) ⟨by decide, by decide⟩ ⟨by decide, by decide⟩ (fun r h5 hq => ?_)
    obtain ⟨rfl, ⟨σ6, gm, g23, gs⟩, gbu, fmc⟩ := hq
    have f1 := (gs 1 (by decide)).trans f1
    have f2 := (gs 2 (by decide)).trans f2
    have f3 := (gs 3 (by decide)).trans f3
    have f24 := (gs 24 (by decide)).trans f24
    have f23 := g23
    have hm := gm
    have hbu := gbu
    have fm := fm.call (by simp) fmc
    have fs := fs.call (by simp) gs
    have e9 : L ++ [123] ++ dgL (nearZ t tk) 1 ++ [125] = L ++ oFr tk t := by unfold oFr; rw [hnd]; simp only [List.append_assoc]
    exact ev_return d_Mo_writeFrames_57 rfl (by decide) (by decide) (⟨rfl, ⟨σ6, hm, by rw [← e9]; exact f23, fs⟩, by rw [← e9]; exact hbu, fm⟩)
  · refine ez_iinc (L' := [(0, .ref m), (1, .long (lZ t)), (3, .long (lZ (nearZ t tk))), (5, .int (iZ 2)), (6, .long (lZ 10))]) d_Mo_writeFrames_24 rfl (by decide) rfl ?_
    refine ev_ldc2 (v := lZ 10) d_Mo_writeFrames_27 kc_Mo_130 ?_
    refine ev_lload d_Mo_writeFrames_30 rfl ?_
    refine ez_lmul d_Mo_writeFrames_32 ?_
    refine ev_lstore (L' := [(0, .ref m), (1, .long (lZ t)), (3, .long (lZ (nearZ t tk))), (5, .int (iZ 2)), (6, .long (lZ 100))]) d_Mo_writeFrames_33 (by decide) rfl ?_
    refine ev_goto (tgt := 17) d_Mo_writeFrames_35 rfl ?_
    refine ev_lload d_Mo_writeFrames_17 rfl ?_
    refine ev_lload_n d_Mo_writeFrames_19 rfl rfl ?_
    refine ev_lcmp d_Mo_writeFrames_20 ?_
    refine ez_lif_gt (tgt := 38) (by decide) (by omega) d_Mo_writeFrames_21 rfl (fun c21 => ?_) (fun c21 => ?_)
    · have hnd : ndg (nearZ t tk) = 2 := by unfold ndg; (repeat' split) <;> omega
      refine ev_aload_n d_Mo_writeFrames_38 rfl rfl ?_
      refine ev_bipush (v := iZ 123) d_Mo_writeFrames_39 rfl ?_
      refine ev_callV M_Mo_write1 (rm 0 0) _ (As := [.int (iZ 123)]) (c_Mo_write1 G h σ m bu F cn (L) (123) hm f1 f23 f24 hbu hcn (by first | omega | (simp only [List.length_append, List.length_cons, List.length_nil, dgL_l, txL_l, oTime_l, oFr_l, sixL_l]; omega))) d_Mo_writeFrames_41 mk_Mo_write1 ml_Mo_186 mv_Mo_write1 hm rfl rfl rfl (Nat.le_of_ble_eq_true rfl) ⟨by decide, by decide⟩ ⟨by decide, by decide⟩ (fun r h7 hq => ?_)
      obtain ⟨rfl, ⟨σ8, gm, g23, gs⟩, gbu, fmc⟩ := hq
      have f1 := (gs 1 (by decide)).trans f1
      have f2 := (gs 2 (by decide)).trans f2
      have f3 := (gs 3 (by decide)).trans f3
      have f24 := (gs 24 (by decide)).trans f24
      have f23 := g23
      have hm := gm
      have hbu := gbu
      have fm := fm.call (by simp) fmc
      have fs := fs.call (by simp) gs
      refine ev_aload_n d_Mo_writeFrames_44 rfl rfl ?_
      refine ev_lload_n d_Mo_writeFrames_45 rfl rfl ?_
      refine ev_iload d_Mo_writeFrames_46 rfl ?_
      refine ev_callV M_Mo_writeDigits (rm 1 22) _ (As := [.long (lZ (nearZ t tk)), .int (iZ 2)]) (c_Mo_writeDigits G h7 σ8 m bu F cn (L ++ [123]) (nearZ t tk) 2 hm f1 f23 f24 hbu (by omega) (by decide) (by decide) hcn (by first | omega | (simp only [List.length_append, List.length_cons, List.length_nil, dgL_l, txL_l, oTime_l, oFr_l, sixL_l]; omega))) d_Mo_writeFrames_48 mk_Mo_writeDigits ml_Mo_195 mv_Mo_writeDigits hm rfl rfl rfl (Nat.le_of_ble_eq_true rfl) ⟨by decide, by decide⟩ ⟨by decide, by decide⟩ (fun r h9 hq => ?_)
      obtain ⟨rfl, ⟨σ10, gm, g23, gs⟩, gbu, fmc⟩ := hq
      have f1 := (gs 1 (by decide)).trans f1
      have f2 := (gs 2 (by decide)).trans f2
      have f3 := (gs 3 (by decide)).trans f3
      have f24 := (gs 24 (by decide)).trans f24
      have f23 := g23
      have hm := gm
      have hbu := gbu
      have fm := fm.call (by simp) fmc
      have fs := fs.call (by simp) gs
      refine ev_aload_n d_Mo_writeFrames_51 rfl rfl ?_
      refine ev_bipush (v := iZ 125) d_Mo_writeFrames_52 rfl ?_
      refine ev_callV M_Mo_write1 (rm 0 0) _ (As := [.int (iZ 125)]) (c_Mo_write1 G h9 σ10 m bu F cn (L ++ [123] ++ dgL (nearZ t tk) 2) (125) hm f1 f23 f24 hbu hcn (by first | omega | (simp only [List.length_append, List.length_cons, List.length_nil, dgL_l, txL_l, oTime_l, oFr_l, sixL_l]; omega))) d_Mo_writeFrames_54 mk_Mo_write1 ml_Mo_186 mv_Mo_write1 hm rfl rfl rfl (Nat.le_of_ble_eq_true rfl) ⟨by decide, by decide⟩ ⟨by decide, by decide⟩ (fun r h11 hq => ?_)
      obtain ⟨rfl, ⟨σ12, gm, g23, gs⟩, gbu, fmc⟩ := hq
      have f1 := (gs 1 (by decide)).trans f1
      have f2 := (gs 2 (by decide)).trans f2
      have f3 := (gs 3 (by decide)).trans f3
      have f24 := (gs 24 (by decide)).trans f24
      have f23 := g23
      have hm := gm
      have hbu := gbu
      have fm := fm.call (by simp) fmc
      have fs := fs.call (by simp) gs
      have e9 : L ++ [123] ++ dgL (nearZ t tk) 2 ++ [125] = L ++ oFr tk t := by unfold oFr; rw [hnd]; simp only [List.append_assoc]
      exact ev_return d_Mo_writeFrames_57 rfl (by decide) (by decide) (⟨rfl, ⟨σ12, hm, by rw [← e9]; exact f23, fs⟩, by rw [← e9]; exact hbu, fm⟩)
    · refine ez_iinc (L' := [(0, .ref m), (1, .long (lZ t)), (3, .long (lZ (nearZ t tk))), (5, .int (iZ 3)), (6, .long (lZ 100))]) d_Mo_writeFrames_24 rfl (by decide) rfl ?_
      refine ev_ldc2 (v := lZ 10) d_Mo_writeFrames_27 kc_Mo_130 ?_
      refine ev_lload d_Mo_writeFrames_30 rfl ?_
      refine ez_lmul d_Mo_writeFrames_32 ?_
      refine ev_lstore (L' := [(0, .ref m), (1, .long (lZ t)), (3, .long (lZ (nearZ t tk))), (5, .int (iZ 3)), (6, .long (lZ 1000))]) d_Mo_writeFrames_33 (by decide) rfl ?_
      refine ev_goto (tgt := 17) d_Mo_writeFrames_35 rfl ?_
      refine ev_lload d_Mo_writeFrames_17 rfl ?_
      refine ev_lload_n d_Mo_writeFrames_19 rfl rfl ?_
      refine ev_lcmp d_Mo_writeFrames_20 ?_
      refine ez_lif_gt (tgt := 38) (by decide) (by omega) d_Mo_writeFrames_21 rfl (fun c21 => ?_) (fun c21 => ?_)
      · have hnd : ndg (nearZ t tk) = 3 := by unfold ndg; (repeat' split) <;> omega
        refine ev_aload_n d_Mo_writeFrames_38 rfl rfl ?_
        refine ev_bipush (v := iZ 123) d_Mo_writeFrames_39 rfl ?_
        refine ev_callV M_Mo_write1 (rm 0 0) _ (As := [.int (iZ 123)]) (c_Mo_write1 G h σ m bu F cn (L) (123) hm f1 f23 f24 hbu hcn (by first | omega | (simp only [List.length_append, List.length_cons, List.length_nil, dgL_l, txL_l, oTime_l, oFr_l, sixL_l]; omega))) d_Mo_writeFrames_41 mk_Mo_write1 ml_Mo_186 mv_Mo_write1 hm rfl rfl rfl (Nat.le_of_ble_eq_true rfl) ⟨by decide, by decide⟩ ⟨by decide, by decide⟩ (fun r h13 hq => ?_)
        obtain ⟨rfl, ⟨σ14, gm, g23, gs⟩, gbu, fmc⟩ := hq
        have f1 := (gs 1 (by decide)).trans f1
        have f2 := (gs 2 (by decide)).trans f2
        have f3 := (gs 3 (by decide)).trans f3
        have f24 := (gs 24 (by decide)).trans f24
        have f23 := g23
        have hm := gm
        have hbu := gbu
        have fm := fm.call (by simp) fmc
        have fs := fs.call (by simp) gs
        refine ev_aload_n d_Mo_writeFrames_44 rfl rfl ?_
        refine ev_lload_n d_Mo_writeFrames_45 rfl rfl ?_
        refine ev_iload d_Mo_writeFrames_46 rfl ?_
        refine ev_callV M_Mo_writeDigits (rm 1 22) _ (As := [.long (lZ (nearZ t tk)), .int (iZ 3)]) (c_Mo_writeDigits G h13 σ14 m bu F cn (L ++ [123]) (nearZ t tk) 3 hm f1 f23 f24 hbu (by omega) (by decide) (by decide) hcn (by first | omega | (simp only [List.length_append, List.length_cons, List.length_nil, dgL_l, txL_l, oTime_l, oFr_l, sixL_l]; omega))) d_Mo_writeFrames_48 mk_Mo_writeDigits ml_Mo_195 mv_Mo_writeDigits hm rfl rfl rfl (Nat.le_of_ble_eq_true rfl) ⟨by decide, by decide⟩ ⟨by decide, by decide⟩ (fun r h15 hq => ?_)
        obtain ⟨rfl, ⟨σ16, gm, g23, gs⟩, gbu, fmc⟩ := hq
        have f1 := (gs 1 (by decide)).trans f1
        have f2 := (gs 2 (by decide)).trans f2
        have f3 := (gs 3 (by decide)).trans f3
        have f24 := (gs 24 (by decide)).trans f24
        have f23 := g23
        have hm := gm
        have hbu := gbu
        have fm := fm.call (by simp) fmc
        have fs := fs.call (by simp) gs
        refine ev_aload_n d_Mo_writeFrames_51 rfl rfl ?_
        refine ev_bipush (v := iZ 125) d_Mo_writeFrames_52 rfl ?_
        refine ev_callV M_Mo_write1 (rm 0 0) _ (As := [.int (iZ 125)]) (c_Mo_write1 G h15 σ16 m bu F cn (L ++ [123] ++ dgL (nearZ t tk) 3) (125) hm f1 f23 f24 hbu hcn (by first | omega | (simp only [List.length_append, List.length_cons, List.length_nil, dgL_l, txL_l, oTime_l, oFr_l, sixL_l]; omega))) d_Mo_writeFrames_54 mk_Mo_write1 ml_Mo_186 mv_Mo_write1 hm rfl rfl rfl (Nat.le_of_ble_eq_true rfl) ⟨by decide, by decide⟩ ⟨by decide, by decide⟩ (fun r h17 hq => ?_)
        obtain ⟨rfl, ⟨σ18, gm, g23, gs⟩, gbu, fmc⟩ := hq
        have f1 := (gs 1 (by decide)).trans f1
        have f2 := (gs 2 (by decide)).trans f2
        have f3 := (gs 3 (by decide)).trans f3
        have f24 := (gs 24 (by decide)).trans f24
        have f23 := g23
        have hm := gm
        have hbu := gbu
        have fm := fm.call (by simp) fmc
        have fs := fs.call (by simp) gs
        have e9 : L ++ [123] ++ dgL (nearZ t tk) 3 ++ [125] = L ++ oFr tk t := by unfold oFr; rw [hnd]; simp only [List.append_assoc]
        exact ev_return d_Mo_writeFrames_57 rfl (by decide) (by decide) (⟨rfl, ⟨σ18, hm, by rw [← e9]; exact f23, fs⟩, by rw [← e9]; exact hbu, fm⟩)
      · refine ez_iinc (L' := [(0, .ref m), (1, .long (lZ t)), (3, .long (lZ (nearZ t tk))), (5, .int (iZ 4)), (6, .long (lZ 1000))]) d_Mo_writeFrames_24 rfl (by decide) rfl ?_
        refine ev_ldc2 (v := lZ 10) d_Mo_writeFrames_27 kc_Mo_130 ?_
        refine ev_lload d_Mo_writeFrames_30 rfl ?_
        refine ez_lmul d_Mo_writeFrames_32 ?_
        refine ev_lstore (L' := [(0, .ref m), (1, .long (lZ t)), (3, .long (lZ (nearZ t tk))), (5, .int (iZ 4)), (6, .long (lZ 10000))]) d_Mo_writeFrames_33 (by decide) rfl ?_
        refine ev_goto (tgt := 17) d_Mo_writeFrames_35 rfl ?_
        refine ev_lload d_Mo_writeFrames_17 rfl ?_
        refine ev_lload_n d_Mo_writeFrames_19 rfl rfl ?_
        refine ev_lcmp d_Mo_writeFrames_20 ?_
        refine ez_lif_gt (tgt := 38) (by decide) (by omega) d_Mo_writeFrames_21 rfl (fun c21 => ?_) (fun c21 => ?_)
        · have hnd : ndg (nearZ t tk) = 4 := by unfold ndg; (repeat' split) <;> omega
          refine ev_aload_n d_Mo_writeFrames_38 rfl rfl ?_
          refine ev_bipush (v := iZ 123) d_Mo_writeFrames_39 rfl ?_
          refine ev_callV M_Mo_write1 (rm 0 0) _ (As := [.int (iZ 123)]) (c_Mo_write1 G h σ m bu F cn (L) (123) hm f1 f23 f24 hbu hcn (by first | omega | (simp only [List.length_append, List.length_cons, List.length_nil, dgL_l, txL_l, oTime_l, oFr_l, sixL_l]; omega))) d_Mo_writeFrames_41 mk_Mo_write1 ml_Mo_186 mv_Mo_write1 hm rfl rfl rfl (Nat.le_of_ble_eq_true rfl) ⟨by decide, by decide⟩ ⟨by decide, by decide⟩ (fun r h19 hq => ?_)
          obtain ⟨rfl, ⟨σ20, gm, g23, gs⟩, gbu, fmc⟩ := hq
          have f1 := (gs 1 (by decide)).trans f1
          have f2 := (gs 2 (by decide)).trans f2
          have f3 := (gs 3 (by decide)).trans f3
          have f24 := (gs 24 (by decide)).trans f24
          have f23 := g23
          have hm := gm
          have hbu := gbu
          have fm := fm.call (by simp) fmc
          have fs := fs.call (by simp) gs
          refine ev_aload_n d_Mo_writeFrames_44 rfl rfl ?_
          refine ev_lload_n d_Mo_writeFrames_45 rfl rfl ?_
          refine ev_iload d_Mo_writeFrames_46 rfl ?_
          refine ev_callV M_Mo_writeDigits (rm 1 22) _ (As := [.long (lZ (nearZ t tk)), .int (iZ 4)]) (c_Mo_writeDigits G h19 σ20 m bu F cn (L ++ [123]) (nearZ t tk) 4 hm f1 f23 f24 hbu (by omega) (by decide) (by decide) hcn (by first | omega | (simp only [List.length_append, List.length_cons, List.length_nil, dgL_l, txL_l, oTime_l, oFr_l, sixL_l]; omega))) d_Mo_writeFrames_48 mk_Mo_writeDigits ml_Mo_195 mv_Mo_writeDigits hm rfl rfl rfl (Nat.le_of_ble_eq_true rfl) ⟨by decide, by decide⟩ ⟨by decide, by decide⟩ (fun r h21 hq => ?_)
          obtain ⟨rfl, ⟨σ22, gm, g23, gs⟩, gbu, fmc⟩ := hq
          have f1 := (gs 1 (by decide)).trans f1
          have f2 := (gs 2 (by decide)).trans f2
          have f3 := (gs 3 (by decide)).trans f3
          have f24 := (gs 24 (by decide)).trans f24
          have f23 := g23
          have hm := gm
          have hbu := gbu
          have fm := fm.call (by simp) fmc
          have fs := fs.call (by simp) gs
          refine ev_aload_n d_Mo_writeFrames_51 rfl rfl ?_
          refine ev_bipush (v := iZ 125) d_Mo_writeFrames_52 rfl ?_
          refine ev_callV M_Mo_write1 (rm 0 0) _ (As := [.int (iZ 125)]) (c_Mo_write1 G h21 σ22 m bu F cn (L ++ [123] ++ dgL (nearZ t tk) 4) (125) hm f1 f23 f24 hbu hcn (by first | omega | (simp only [List.length_append, List.length_cons, List.length_nil, dgL_l, txL_l, oTime_l, oFr_l, sixL_l]; omega))) d_Mo_writeFrames_54 mk_Mo_write1 ml_Mo_186 mv_Mo_write1 hm rfl rfl rfl (Nat.le_of_ble_eq_true rfl) ⟨by decide, by decide⟩ ⟨by decide, by decide⟩ (fun r h23 hq => ?_)
          obtain ⟨rfl, ⟨σ24, gm, g23, gs⟩, gbu, fmc⟩ := hq
          have f1 := (gs 1 (by decide)).trans f1
          have f2 := (gs 2 (by decide)).trans f2
          have f3 := (gs 3 (by decide)).trans f3
          have f24 := (gs 24 (by decide)).trans f24
          have f23 := g23
          have hm := gm
          have hbu := gbu
          have fm := fm.call (by simp) fmc
          have fs := fs.call (by simp) gs
          have e9 : L ++ [123] ++ dgL (nearZ t tk) 4 ++ [125] = L ++ oFr tk t := by unfold oFr; rw [hnd]; simp only [List.append_assoc]
          exact ev_return d_Mo_writeFrames_57 rfl (by decide) (by decide) (⟨rfl, ⟨σ24, hm, by rw [← e9]; exact f23, fs⟩, by rw [← e9]; exact hbu, fm⟩)
        · refine ez_iinc (L' := [(0, .ref m), (1, .long (lZ t)), (3, .long (lZ (nearZ t tk))), (5, .int (iZ 5)), (6, .long (lZ 10000))]) d_Mo_writeFrames_24 rfl (by decide) rfl ?_
          refine ev_ldc2 (v := lZ 10) d_Mo_writeFrames_27 kc_Mo_130 ?_
          refine ev_lload d_Mo_writeFrames_30 rfl ?_
          refine ez_lmul d_Mo_writeFrames_32 ?_
          refine ev_lstore (L' := [(0, .ref m), (1, .long (lZ t)), (3, .long (lZ (nearZ t tk))), (5, .int (iZ 5)), (6, .long (lZ 100000))]) d_Mo_writeFrames_33 (by decide) rfl ?_
          refine ev_goto (tgt := 17) d_Mo_writeFrames_35 rfl ?_
          refine ev_lload d_Mo_writeFrames_17 rfl ?_
          refine ev_lload_n d_Mo_writeFrames_19 rfl rfl ?_
          refine ev_lcmp d_Mo_writeFrames_20 ?_
          refine ez_lif_gt (tgt := 38) (by decide) (by omega) d_Mo_writeFrames_21 rfl (fun c21 => ?_) (fun c21 => ?_)
          · have hnd : ndg (nearZ t tk) = 5 := by unfold ndg; (repeat' split) <;> omega
            refine ev_aload_n d_Mo_writeFrames_38 rfl rfl ?_
            refine ev_bipush (v := iZ 123) d_Mo_writeFrames_39 rfl ?_
            refine ev_callV M_Mo_write1 (rm 0 0) _ (As := [.int (iZ 123)]) (c_Mo_write1 G h σ m bu F cn (L) (123) hm f1 f23 f24 hbu hcn (by first | omega | (simp only [List.length_append, List.length_cons, List.length_nil, dgL_l, txL_l, oTime_l, oFr_l, sixL_l]; omega))) d_Mo_writeFrames_41 mk_Mo_write1 ml_Mo_186 mv_Mo_write1 hm rfl rfl rfl (Nat.le_of_ble_eq_true rfl) ⟨by decide, by decide⟩ ⟨by decide, by decide⟩ (fun r h25 hq => ?_)
            obtain ⟨rfl, ⟨σ26, gm, g23, gs⟩, gbu, fmc⟩ := hq
            have f1 := (gs 1 (by decide)).trans f1
            have f2 := (gs 2 (by decide)).trans f2
            have f3 := (gs 3 (by decide)).trans f3
            have f24 := (gs 24 (by decide)).trans f24
            have f23 := g23
            have hm := gm
            have hbu := gbu
            have fm := fm.call (by simp) fmc
            have fs := fs.call (by simp) gs
            refine ev_aload_n d_Mo_writeFrames_44 rfl rfl ?_
            refine ev_lload_n d_Mo_writeFrames_45 rfl rfl ?_
            refine ev_iload d_Mo_writeFrames_46 rfl ?_
            refine ev_callV M_Mo_writeDigits (rm 1 22) _ (As := [.long (lZ (nearZ t tk)), .int (iZ 5)]) (c_Mo_writeDigits G h25 σ26 m bu F cn (L ++ [123]) (nearZ t tk) 5 hm f1 f23 f24 hbu (by omega) (by decide) (by decide) hcn (by first | omega | (simp only [List.length_append, List.length_cons, List.length_nil, dgL_l, txL_l, oTime_l, oFr_l, sixL_l]; omega))) d_Mo_writeFrames_48 mk_Mo_writeDigits ml_Mo_195 mv_Mo_writeDigits hm rfl rfl rfl (Nat.le_of_ble_eq_true rfl) ⟨by decide, by decide⟩ ⟨by decide, by decide⟩ (fun r h27 hq => ?_)
            obtain ⟨rfl, ⟨σ28, gm, g23, gs⟩, gbu, fmc⟩ := hq
            have f1 := (gs 1 (by decide)).trans f1
            have f2 := (gs 2 (by decide)).trans f2
            have f3 := (gs 3 (by decide)).trans f3
            have f24 := (gs 24 (by decide)).trans f24
            have f23 := g23
            have hm := gm
            have hbu := gbu
            have fm := fm.call (by simp) fmc
            have fs := fs.call (by simp) gs
            refine ev_aload_n d_Mo_writeFrames_51 rfl rfl ?_
            refine ev_bipush (v := iZ 125) d_Mo_writeFrames_52 rfl ?_
            refine ev_callV M_Mo_write1 (rm 0 0) _ (As := [.int (iZ 125)]) (c_Mo_write1 G h27 σ28 m bu F cn (L ++ [123] ++ dgL (nearZ t tk) 5) (125) hm f1 f23 f24 hbu hcn (by first | omega | (simp only [List.length_append, List.length_cons, List.length_nil, dgL_l, txL_l, oTime_l, oFr_l, sixL_l]; omega))) d_Mo_writeFrames_54 mk_Mo_write1 ml_Mo_186 mv_Mo_write1 hm rfl rfl rfl (Nat.le_of_ble_eq_true rfl) ⟨by decide, by decide⟩ ⟨by decide, by decide⟩ (fun r h29 hq => ?_)
            obtain ⟨rfl, ⟨σ30, gm, g23, gs⟩, gbu, fmc⟩ := hq
            have f1 := (gs 1 (by decide)).trans f1
            have f2 := (gs 2 (by decide)).trans f2
            have f3 := (gs 3 (by decide)).trans f3
            have f24 := (gs 24 (by decide)).trans f24
            have f23 := g23
            have hm := gm
            have hbu := gbu
            have fm := fm.call (by simp) fmc
            have fs := fs.call (by simp) gs
            have e9 : L ++ [123] ++ dgL (nearZ t tk) 5 ++ [125] = L ++ oFr tk t := by unfold oFr; rw [hnd]; simp only [List.append_assoc]
            exact ev_return d_Mo_writeFrames_57 rfl (by decide) (by decide) (⟨rfl, ⟨σ30, hm, by rw [← e9]; exact f23, fs⟩, by rw [← e9]; exact hbu, fm⟩)
          · refine ez_iinc (L' := [(0, .ref m), (1, .long (lZ t)), (3, .long (lZ (nearZ t tk))), (5, .int (iZ 6)), (6, .long (lZ 100000))]) d_Mo_writeFrames_24 rfl (by decide) rfl ?_
            refine ev_ldc2 (v := lZ 10) d_Mo_writeFrames_27 kc_Mo_130 ?_
            refine ev_lload d_Mo_writeFrames_30 rfl ?_
            refine ez_lmul d_Mo_writeFrames_32 ?_
            refine ev_lstore (L' := [(0, .ref m), (1, .long (lZ t)), (3, .long (lZ (nearZ t tk))), (5, .int (iZ 6)), (6, .long (lZ 1000000))]) d_Mo_writeFrames_33 (by decide) rfl ?_
            refine ev_goto (tgt := 17) d_Mo_writeFrames_35 rfl ?_
            refine ev_lload d_Mo_writeFrames_17 rfl ?_
            refine ev_lload_n d_Mo_writeFrames_19 rfl rfl ?_
            refine ev_lcmp d_Mo_writeFrames_20 ?_
            refine ez_lif_gt (tgt := 38) (by decide) (by omega) d_Mo_writeFrames_21 rfl (fun c21 => ?_) (fun c21 => absurd c21 (by omega))
            have hnd : ndg (nearZ t tk) = 6 := by unfold ndg; (repeat' split) <;> omega
            refine ev_aload_n d_Mo_writeFrames_38 rfl rfl ?_
            refine ev_bipush (v := iZ 123) d_Mo_writeFrames_39 rfl ?_
            refine ev_callV M_Mo_write1 (rm 0 0) _ (As := [.int (iZ 123)]) (c_Mo_write1 G h σ m bu F cn (L) (123) hm f1 f23 f24 hbu hcn (by first | omega | (simp only [List.length_append, List.length_cons, List.length_nil, dgL_l, txL_l, oTime_l, oFr_l, sixL_l]; omega))) d_Mo_writeFrames_41 mk_Mo_write1 ml_Mo_186 mv_Mo_write1 hm rfl rfl rfl (Nat.le_of_ble_eq_true rfl) ⟨by decide, by decide⟩ ⟨by decide, by decide⟩ (fun r h31 hq => ?_)
            obtain ⟨rfl, ⟨σ32, gm, g23, gs⟩, gbu, fmc⟩ := hq
            have f1 := (gs 1 (by decide)).trans f1
            have f2 := (gs 2 (by decide)).trans f2
            have f3 := (gs 3 (by decide)).trans f3
            have f24 := (gs 24 (by decide)).trans f24
            have f23 := g23
            have hm := gm
            have hbu := gbu
            have fm := fm.call (by simp) fmc
            have fs := fs.call (by simp) gs
            refine ev_aload_n d_Mo_writeFrames_44 rfl rfl ?_
            refine ev_lload_n d_Mo_writeFrames_45 rfl rfl ?_
            refine ev_iload d_Mo_writeFrames_46 rfl ?_
            refine ev_callV M_Mo_writeDigits (rm 1 22) _ (As := [.long (lZ (nearZ t tk)), .int (iZ 6)]) (c_Mo_writeDigits G h31 σ32 m bu F cn (L ++ [123]) (nearZ t tk) 6 hm f1 f23 f24 hbu (by omega) (by decide) (by decide) hcn (by first | omega | (simp only [List.length_append, List.length_cons, List.length_nil, dgL_l, txL_l, oTime_l, oFr_l, sixL_l]; omega))) d_Mo_writeFrames_48 mk_Mo_writeDigits ml_Mo_195 mv_Mo_writeDigits hm rfl rfl rfl (Nat.le_of_ble_eq_true rfl) ⟨by decide, by decide⟩ ⟨by decide, by decide⟩ (fun r h33 hq => ?_)
            obtain ⟨rfl, ⟨σ34, gm, g23, gs⟩, gbu, fmc⟩ := hq
            have f1 := (gs 1 (by decide)).trans f1
            have f2 := (gs 2 (by decide)).trans f2
            have f3 := (gs 3 (by decide)).trans f3
            have f24 := (gs 24 (by decide)).trans f24
            have f23 := g23
            have hm := gm
            have hbu := gbu
            have fm := fm.call (by simp) fmc
            have fs := fs.call (by simp) gs
            refine ev_aload_n d_Mo_writeFrames_51 rfl rfl ?_
            refine ev_bipush (v := iZ 125) d_Mo_writeFrames_52 rfl ?_
            refine ev_callV M_Mo_write1 (rm 0 0) _ (As := [.int (iZ 125)]) (c_Mo_write1 G h33 σ34 m bu F cn (L ++ [123] ++ dgL (nearZ t tk) 6) (125) hm f1 f23 f24 hbu hcn (by first | omega | (simp only [List.length_append, List.length_cons, List.length_nil, dgL_l, txL_l, oTime_l, oFr_l, sixL_l]; omega))) d_Mo_writeFrames_54 mk_Mo_write1 ml_Mo_186 mv_Mo_write1 hm rfl rfl rfl (Nat.le_of_ble_eq_true rfl) ⟨by decide, by decide⟩ ⟨by decide, by decide⟩ (fun r h35 hq => ?_)
            obtain ⟨rfl, ⟨σ36, gm, g23, gs⟩, gbu, fmc⟩ := hq
            have f1 := (gs 1 (by decide)).trans f1
            have f2 := (gs 2 (by decide)).trans f2
            have f3 := (gs 3 (by decide)).trans f3
            have f24 := (gs 24 (by decide)).trans f24
            have f23 := g23
            have hm := gm
            have hbu := gbu
            have fm := fm.call (by simp) fmc
            have fs := fs.call (by simp) gs
            have e9 : L ++ [123] ++ dgL (nearZ t tk) 6 ++ [125] = L ++ oFr tk t := by unfold oFr; rw [hnd]; simp only [List.append_assoc]
            exact ev_return d_Mo_writeFrames_57 rfl (by decide) (by decide) (⟨rfl, ⟨σ36, hm, by rw [← e9]; exact f23, fs⟩, by rw [← e9]; exact hbu, fm⟩)
set_option maxHeartbeats 4000000 in
set_option maxRecDepth 100000 in
theorem c_Mo_writeSix (G : GT) (h : HM) (σ : Nat → Value) (m bu : Nat) (F : Nat → Int) (cn : Int) (L : List Int) (t : Int) (hm : h m = some (.inr (11, fsN 34 σ))) (f1 : σ 1 = .ref bu) (f23 : σ 23 = .int (iZ ((L).length : Int))) (f24 : σ 24 = .int (iZ cn)) (hbu : h bu = some (.inl (G_i G, 1000, .inl (iA (bufC cn F (L)))))) (hcn : cn = 0 ∨ cn = 1) (hlen : (cn = 1 ∨ L.length + (6) ≤ 1000) ∧ L.length + (6) ≤ 2000) : Rn G M_Mo_writeSix (rm 1 22) [.ref m, .long (lZ t)] h (fun r h' => r = none ∧ (∃ σ', h' m = some (.inr (11, fsN 34 σ')) ∧ σ' 23 = .int (iZ ((L ++ sixL t 6).length : Int)) ∧ Fs [23] σ σ') ∧ h' bu = some (.inl (G_i G, 1000, .inl (iA (bufC cn F (L ++ sixL t 6))))) ∧ Fm [m, bu] h h') := by
  refine rn_of (by decide) (Nat.le_of_ble_eq_true rfl) ?_
  show Ev G M_Mo_writeSix _ _ 0 [(0, .ref m), (1, .long (lZ t))] [] _ 0 0
  have fm : Fm [m, bu] h h := Fm.rf
  have fs : Fs [23] σ σ := Fs.rf
  refine ev_bipush (v := iZ 40) d_Mo_writeSix_0 rfl ?_
  refine ev_istore_n (L' := [(0, .ref m), (1, .long (lZ t)), (3, .int (iZ 40))]) d_Mo_writeSix_2 rfl (by decide) rfl ?_
  refine ev_iload_n d_Mo_writeSix_3 rfl rfl ?_
  refine ez_if_lt (tgt := 25) (by decide) d_Mo_writeSix_4 rfl (fun c4 => absurd c4 (by omega)) (fun c4 => ?_)
  refine ev_aload_n d_Mo_writeSix_7 rfl rfl ?_
  refine ev_lload_n d_Mo_writeSix_8 rfl rfl ?_
  refine ev_iload_n d_Mo_writeSix_9 rfl rfl ?_
  refine ev_top (8 * ((5 : Nat) : Int)) (rfl) ?_
  refine ev_lshr d_Mo_writeSix_10 ?_
  refine ev_ldc2 (v := lZ 255) d_Mo_writeSix_11 kc_Mo_98 ?_
  refine ev_land d_Mo_writeSix_14 ?_
  refine ev_l2i d_Mo_writeSix_15 ?_
  rw [byte_s (by decide)]
  refine ev_callV M_Mo_write1 (rm 0 0) _ (As := [.int (iZ (byteZ t 5))]) (c_Mo_write1 G h σ m bu F cn (L) (byteZ t 5) hm f1 f23 f24 hbu hcn (by first | omega | (simp only [List.length_append, List.length_cons, List.length_nil, dgL_l, txL_l, oTime_l, oFr_l, sixL_l]; omega))) d_Mo_writeSix_16 mk_Mo_write1 ml_Mo_186 mv_Mo_write1 hm rfl rfl rfl (Nat.le_of_ble_eq_true rfl) ⟨by decide, by decide⟩ ⟨by decide, by decide⟩ (fun r h1 hq => ?_)
  obtain ⟨rfl, ⟨σ2, gm, g23, gs⟩, gbu, fmc⟩ := hq
  have f1 := (gs 1 (by decide)).trans f1
  have f24 := (gs 24 (by decide)).trans f24
  have f23 := g23
  have hm := gm
  have hbu := gbu
  have fm := fm.call (by simp) fmc
  have fs := fs.call (by simp) gs
  refine ez_iinc (L' := [(0, .ref m), (1, .long (lZ t)), (3, .int (iZ 32))]) d_Mo_writeSix_19 rfl (by decide) rfl ?_
  refine ev_goto (tgt := 3) d_Mo_writeSix_22 rfl ?_
  refine ev_iload_n d_Mo_writeSix_3 rfl rfl ?_
  refine ez_if_lt (tgt := 25) (by decide) d_Mo_writeSix_4 rfl (fun c4 => absurd c4 (by omega)) (fun c4 => ?_)
  refine ev_aload_n d_Mo_writeSix_7 rfl rfl ?_
  refine ev_lload_n d_Mo_writeSix_8 rfl rfl ?_
  refine ev_iload_n d_Mo_writeSix_9 rfl rfl ?_
  refine ev_top (8 * ((4 : Nat) : Int)) (rfl) ?_
  refine ev_lshr d_Mo_writeSix_10 ?_
  refine ev_ldc2 (v := lZ 255) d_Mo_writeSix_11 kc_Mo_98 ?_
  refine ev_land d_Mo_writeSix_14 ?_
  refine ev_l2i d_Mo_writeSix_15 ?_
  rw [byte_s (by decide)]
  refine ev_callV M_Mo_write1 (rm 0 0) _ (As := [.int (iZ (byteZ t 4))]) (c_Mo_write1 G h1 σ2 m bu F cn (L ++ [byteZ t 5]) (byteZ t 4) hm f1 f23 f24 hbu hcn (by first | omega | (simp only [List.length_append, List.length_cons, List.length_nil, dgL_l, txL_l, oTime_l, oFr_l, sixL_l]; omega))) d_Mo_writeSix_16 mk_Mo_write1 ml_Mo_186 mv_Mo_write1 hm rfl rfl rfl (Nat.le_of_ble_eq_true rfl) ⟨by decide, by decide⟩ ⟨by decide, by decide⟩ (fun r h3 hq => ?_)
  obtain ⟨rfl, ⟨σ4, gm, g23, gs⟩, gbu, fmc⟩ := hq
  have f1 := (gs 1 (by decide)).trans f1
  have f24 := (gs 24 (by decide)).trans f24
  have f23 := g23
  have hm := gm
  have hbu := gbu
  have fm := fm.call (by simp) fmc
  have fs := fs.call (by simp) gs
  refine ez_iinc (L' := [(0, .ref m), (1, .long (lZ t)), (3, .int (iZ 24))]) d_Mo_writeSix_19 rfl (by decide) rfl ?_
  refine ev_goto (tgt := 3) d_Mo_writeSix_22 rfl ?_
  refine ev_iload_n d_Mo_writeSix_3 rfl rfl ?_
  refine ez_if_lt (tgt := 25) (by decide) d_Mo_writeSix_4 rfl (fun c4 => absurd c4 (by omega)) (fun c4 => ?_)
  refine ev_aload_n d_Mo_writeSix_7 rfl rfl ?_
  refine ev_lload_n d_Mo_writeSix_8 rfl rfl ?_
  refine ev_iload_n d_Mo_writeSix_9 rfl rfl ?_
  refine ev_top (8 * ((3 : Nat) : Int)) (rfl) ?_
  refine ev_lshr d_Mo_writeSix_10 ?_
  refine ev_ldc2 (v := lZ 255) d_Mo_writeSix_11 kc_Mo_98 ?_
  refine ev_land d_Mo_writeSix_14 ?_
  refine ev_l2i d_Mo_writeSix_15 ?_
  rw [byte_s (by decide)]
  refine ev_callV M_Mo_write1 (rm 0 0) _ (As := [.int (iZ (byteZ t 3))]) (c_Mo_write1 G h3 σ4 m bu F cn (L ++ [byteZ t 5] ++ [byteZ t 4]) (byteZ t 3) hm f1 f23 f24 hbu hcn (by first | omega | (simp only [List.length_append, List.length_cons, List.length_nil, dgL_l, txL_l, oTime_l, oFr_l, sixL_l]; omega))) d_Mo_writeSix_16 mk_Mo_write1 ml_Mo_186 mv_Mo_write1 hm rfl rfl rfl (Nat.le_of_ble_eq_true rfl) ⟨by decide, by decide⟩ ⟨by decide, by decide⟩ (fun r h5 hq => ?_)
  obtain ⟨rfl, ⟨σ6, gm, g23, gs⟩, gbu, fmc⟩ := hq
  have f1 := (gs 1 (by decide)).trans f1
  have f24 := (gs 24 (by decide)).trans f24
  have f23 := g23
  have hm := gm
  have hbu := gbu
  have fm := fm.call (by simp) fmc
  have fs := fs.call (by simp) gs
  refine ez_iinc (L' := [(0, .ref m), (1, .long (lZ t)), (3, .int (iZ 16))]) d_Mo_writeSix_19 rfl (by decide) rfl ?_
  refine ev_goto (tgt := 3) d_Mo_writeSix_22 rfl ?_
  refine ev_iload_n d_Mo_writeSix_3 rfl rfl ?_
  refine ez_if_lt (tgt := 25) (by decide) d_Mo_writeSix_4 rfl (fun c4 => absurd c4 (by omega)) (fun c4 => ?_)
  refine ev_aload_n d_Mo_writeSix_7 rfl rfl ?_
  refine ev_lload_n d_Mo_writeSix_8 rfl rfl ?_
  refine ev_iload_n d_Mo_writeSix_9 rfl rfl ?_
  refine ev_top (8 * ((2 : Nat) : Int)) (rfl) ?_
  refine ev_lshr d_Mo_writeSix_10 ?_
  refine ev_ldc2 (v := lZ 255) d_Mo_writeSix_11 kc_Mo_98 ?_
  refine ev_land d_Mo_writeSix_14 ?_
  refine ev_l2i d_Mo_writeSix_15 ?_
  rw [byte_s (by decide)]
  refine ev_callV M_Mo_write1 (rm 0 0) _ (As := [.int (iZ (byteZ t 2))]) (c_Mo_write1 G h5 σ6 m bu F cn (L ++ [byteZ t 5] ++ [byteZ t 4] ++ [byteZ t 3]) (byteZ t 2) hm f1 f23 f24 hbu hcn (by first | omega | (simp only [List.length_append, List.length_cons, List.length_nil, dgL_l, txL_l, oTime_l, oFr_l, sixL_l]; omega))) d_Mo_writeSix_16 mk_Mo_write1 ml_Mo_186 mv_Mo_write1 hm rfl rfl rfl (Nat.le_of_ble_eq_true rfl) ⟨by decide, by decide⟩ ⟨by decide, by decide⟩ (fun r h7 hq => ?_)
  obtain ⟨rfl, ⟨σ8, gm, g23, gs⟩, gbu, fmc⟩ := hq
  have f1 := (gs 1 (by decide)).trans f1
  have f24 := (gs 24 (by decide)).trans f24
  have f23 := g23
  have hm := gm
  have hbu := gbu
  have fm := fm.call (by simp) fmc
  have fs := fs.call (by simp) gs
  refine ez_iinc (L' := [(0, .ref m), (1, .long (lZ t)), (3, .int (iZ 8))]) d_Mo_writeSix_19 rfl (by decide) rfl ?_
  refine ev_goto (tgt := 3) d_Mo_writeSix_22 rfl ?_
  refine ev_iload_n d_Mo_writeSix_3 rfl rfl ?_
  refine ez_if_lt (tgt := 25) (by decide) d_Mo_writeSix_4 rfl (fun c4 => absurd c4 (by omega)) (fun c4 => ?_)
  refine ev_aload_n d_Mo_writeSix_7 rfl rfl ?_
  refine ev_lload_n d_Mo_writeSix_8 rfl rfl ?_
  refine ev_iload_n d_Mo_writeSix_9 rfl rfl ?_
  refine ev_top (8 * ((1 : Nat) : Int)) (rfl) ?_
  refine ev_lshr d_Mo_writeSix_10 ?_
  refine ev_ldc2 (v := lZ 255) d_Mo_writeSix_11 kc_Mo_98 ?_
  refine ev_land d_Mo_writeSix_14 ?_
  refine ev_l2i d_Mo_writeSix_15 ?_
  rw [byte_s (by decide)]
  refine ev_callV M_Mo_write1 (rm 0 0) _ (As := [.int (iZ (byteZ t 1))]) (c_Mo_write1 G h7 σ8 m bu F cn (L ++ [byteZ t 5] ++ [byteZ t 4] ++ [byteZ t 3] ++ [byteZ t 2]) (byteZ t 1) hm f1 f23 f24 hbu hcn (by first | omega | (simp only [List.length_append, List.length_cons, List.length_nil, dgL_l, txL_l, oTime_l, oFr_l, sixL_l]; omega))) d_Mo_writeSix_16 mk_Mo_write1 ml_Mo_186 mv_Mo_write1 hm rfl rfl rfl (Nat.le_of_ble_eq_true rfl) ⟨by decide, by decide⟩ ⟨by decide, by decide⟩ (fun r h9 hq => ?_)
  obtain ⟨rfl, ⟨σ10, gm, g23, gs⟩, gbu, fmc⟩ := hq
  have f1 := (gs 1 (by decide)).trans f1
  have f24 := (gs 24 (by decide)).trans f24
  have f23 := g23
  have hm := gm
  have hbu := gbu
  have fm := fm.call (by simp) fmc
  have fs := fs.call (by simp) gs
  refine ez_iinc (L' := [(0, .ref m), (1, .long (lZ t)), (3, .int (iZ 0))]) d_Mo_writeSix_19 rfl (by decide) rfl ?_
  refine ev_goto (tgt := 3) d_Mo_writeSix_22 rfl ?_
  refine ev_iload_n d_Mo_writeSix_3 rfl rfl ?_
  refine ez_if_lt (tgt := 25) (by decide) d_Mo_writeSix_4 rfl (fun c4 => absurd c4 (by omega)) (fun c4 => ?_)
  refine ev_aload_n d_Mo_writeSix_7 rfl rfl ?_
  refine ev_lload_n d_Mo_writeSix_8 rfl rfl ?_
  refine ev_iload_n d_Mo_writeSix_9 rfl rfl ?_
  refine ev_top (8 * ((0 : Nat) : Int)) (rfl) ?_
  refine ev_lshr d_Mo_writeSix_10 ?_
  refine ev_ldc2 (v := lZ 255) d_Mo_writeSix_11 kc_Mo_98 ?_
  refine ev_land d_Mo_writeSix_14 ?_
  refine ev_l2i d_Mo_writeSix_15 ?_
  rw [byte_s (by decide)]
  refine ev_callV M_Mo_write1 (rm 0 0) _ (As := [.int (iZ (byteZ t 0))]) (c_Mo_write1 G h9 σ10 m bu F cn (L ++ [byteZ t 5] ++ [byteZ t 4] ++ [byteZ t 3] ++ [byteZ t 2] ++ [byteZ t 1]) (byteZ t 0) hm f1 f23 f24 hbu hcn (by first | omega | (simp only [List.length_append, List.length_cons, List.length_nil, dgL_l, txL_l, oTime_l, oFr_l, sixL_l]; omega))) d_Mo_writeSix_16 mk_Mo_write1 ml_Mo_186 mv_Mo_write1 hm rfl rfl rfl (Nat.le_of_ble_eq_true rfl) ⟨by decide, by decide⟩ ⟨by decide, by decide⟩ (fun r h11 hq => ?_)
  obtain ⟨rfl, ⟨σ12, gm, g23, gs⟩, gbu, fmc⟩ := hq
  have f1 := (gs 1 (by decide)).trans f1
  have f24 := (gs 24 (by decide)).trans f24
  have f23 := g23
  have hm := gm
  have hbu := gbu
  have fm := fm.call (by simp) fmc
  have fs := fs.call (by simp) gs
  refine ez_iinc (L' := [(0, .ref m), (1, .long (lZ t)), (3, .int (iZ (-8)))]) d_Mo_writeSix_19 rfl (by decide) rfl ?_
  refine ev_goto (tgt := 3) d_Mo_writeSix_22 rfl ?_
  refine ev_iload_n d_Mo_writeSix_3 rfl rfl ?_
  refine ez_if_lt (tgt := 25) (by decide) d_Mo_writeSix_4 rfl (fun c4 => ?_) (fun c4 => absurd c4 (by omega))
  have e9 : L ++ [byteZ t 5] ++ [byteZ t 4] ++ [byteZ t 3] ++ [byteZ t 2] ++ [byteZ t 1] ++ [byteZ t 0] = L ++ sixL t 6 := by simp only [sixL, List.append_assoc, List.cons_append, List.nil_append]
  exact ev_return d_Mo_writeSix_25 rfl (by decide) (by decide) (⟨rfl, ⟨σ12, hm, by rw [← e9]; exact f23, fs⟩, by rw [← e9]; exact hbu, fm⟩)
