theorem d_CB_nearest_0 : decode M_CB_nearest.2.1 0 = .ok (.lload_n 0, 1) := by decide +kernel
theorem d_CB_nearest_1 : decode M_CB_nearest.2.1 1 = .ok (.lload_n 2, 1) := by decide +kernel
theorem d_CB_nearest_2 : decode M_CB_nearest.2.1 2 = .ok (.invokestatic 213, 3) := by decide +kernel
theorem d_CB_nearest_5 : decode M_CB_nearest.2.1 5 = .ok (.lstore 4, 2) := by decide +kernel
theorem d_CB_nearest_7 : decode M_CB_nearest.2.1 7 = .ok (.ldc2_w 219, 3) := by decide +kernel
theorem d_CB_nearest_10 : decode M_CB_nearest.2.1 10 = .ok (.lload_n 0, 1) := by decide +kernel
theorem d_CB_nearest_11 : decode M_CB_nearest.2.1 11 = .ok (.lload 4, 2) := by decide +kernel
theorem d_CB_nearest_13 : decode M_CB_nearest.2.1 13 = .ok (.lload_n 2, 1) := by decide +kernel
theorem d_CB_nearest_14 : decode M_CB_nearest.2.1 14 = .ok (.lmul, 1) := by decide +kernel
theorem d_CB_nearest_15 : decode M_CB_nearest.2.1 15 = .ok (.lsub, 1) := by decide +kernel
theorem d_CB_nearest_16 : decode M_CB_nearest.2.1 16 = .ok (.lmul, 1) := by decide +kernel
theorem d_CB_nearest_17 : decode M_CB_nearest.2.1 17 = .ok (.lstore 6, 2) := by decide +kernel
theorem d_CB_nearest_19 : decode M_CB_nearest.2.1 19 = .ok (.lload 6, 2) := by decide +kernel
theorem d_CB_nearest_21 : decode M_CB_nearest.2.1 21 = .ok (.lload_n 2, 1) := by decide +kernel
theorem d_CB_nearest_22 : decode M_CB_nearest.2.1 22 = .ok (.lcmp, 1) := by decide +kernel
theorem d_CB_nearest_23 : decode M_CB_nearest.2.1 23 = .ok (.ifCond .gt 19, 3) := by decide +kernel
theorem d_CB_nearest_26 : decode M_CB_nearest.2.1 26 = .ok (.lload 6, 2) := by decide +kernel
theorem d_CB_nearest_28 : decode M_CB_nearest.2.1 28 = .ok (.lload_n 2, 1) := by decide +kernel
theorem d_CB_nearest_29 : decode M_CB_nearest.2.1 29 = .ok (.lcmp, 1) := by decide +kernel
theorem d_CB_nearest_30 : decode M_CB_nearest.2.1 30 = .ok (.ifCond .ne 16, 3) := by decide +kernel
theorem d_CB_nearest_33 : decode M_CB_nearest.2.1 33 = .ok (.lload 4, 2) := by decide +kernel
theorem d_CB_nearest_35 : decode M_CB_nearest.2.1 35 = .ok (.lconst 1, 1) := by decide +kernel
theorem d_CB_nearest_36 : decode M_CB_nearest.2.1 36 = .ok (.land, 1) := by decide +kernel
theorem d_CB_nearest_37 : decode M_CB_nearest.2.1 37 = .ok (.lconst 1, 1) := by decide +kernel
theorem d_CB_nearest_38 : decode M_CB_nearest.2.1 38 = .ok (.lcmp, 1) := by decide +kernel
theorem d_CB_nearest_39 : decode M_CB_nearest.2.1 39 = .ok (.ifCond .ne 7, 3) := by decide +kernel
theorem d_CB_nearest_42 : decode M_CB_nearest.2.1 42 = .ok (.iconst 1, 1) := by decide +kernel
theorem d_CB_nearest_43 : decode M_CB_nearest.2.1 43 = .ok (.goto 4, 3) := by decide +kernel
theorem d_CB_nearest_46 : decode M_CB_nearest.2.1 46 = .ok (.iconst 0, 1) := by decide +kernel
theorem d_CB_nearest_47 : decode M_CB_nearest.2.1 47 = .ok (.istore 8, 2) := by decide +kernel
theorem d_CB_nearest_49 : decode M_CB_nearest.2.1 49 = .ok (.iload 8, 2) := by decide +kernel
theorem d_CB_nearest_51 : decode M_CB_nearest.2.1 51 = .ok (.ifCond .eq 10, 3) := by decide +kernel
theorem d_CB_nearest_54 : decode M_CB_nearest.2.1 54 = .ok (.lload 4, 2) := by decide +kernel
theorem d_CB_nearest_56 : decode M_CB_nearest.2.1 56 = .ok (.lconst 1, 1) := by decide +kernel
theorem d_CB_nearest_57 : decode M_CB_nearest.2.1 57 = .ok (.ladd, 1) := by decide +kernel
theorem d_CB_nearest_58 : decode M_CB_nearest.2.1 58 = .ok (.goto 5, 3) := by decide +kernel
theorem d_CB_nearest_61 : decode M_CB_nearest.2.1 61 = .ok (.lload 4, 2) := by decide +kernel
theorem d_CB_nearest_63 : decode M_CB_nearest.2.1 63 = .ok (.lreturn, 1) := by decide +kernel
theorem d_Mo_nearest_0 : decode M_Mo_nearest.2.1 0 = .ok (.lload_n 0, 1) := by decide +kernel
theorem d_Mo_nearest_1 : decode M_Mo_nearest.2.1 1 = .ok (.lload_n 2, 1) := by decide +kernel
theorem d_Mo_nearest_2 : decode M_Mo_nearest.2.1 2 = .ok (.ldiv, 1) := by decide +kernel
theorem d_Mo_nearest_3 : decode M_Mo_nearest.2.1 3 = .ok (.lstore 4, 2) := by decide +kernel
theorem d_Mo_nearest_5 : decode M_Mo_nearest.2.1 5 = .ok (.lload_n 0, 1) := by decide +kernel
theorem d_Mo_nearest_6 : decode M_Mo_nearest.2.1 6 = .ok (.lload_n 2, 1) := by decide +kernel
theorem d_Mo_nearest_7 : decode M_Mo_nearest.2.1 7 = .ok (.lrem, 1) := by decide +kernel
theorem d_Mo_nearest_8 : decode M_Mo_nearest.2.1 8 = .ok (.lstore 6, 2) := by decide +kernel
theorem d_Mo_nearest_10 : decode M_Mo_nearest.2.1 10 = .ok (.lload 6, 2) := by decide +kernel
theorem d_Mo_nearest_12 : decode M_Mo_nearest.2.1 12 = .ok (.lconst 0, 1) := by decide +kernel
theorem d_Mo_nearest_13 : decode M_Mo_nearest.2.1 13 = .ok (.lcmp, 1) := by decide +kernel
theorem d_Mo_nearest_14 : decode M_Mo_nearest.2.1 14 = .ok (.ifCond .ge 15, 3) := by decide +kernel
theorem d_Mo_nearest_17 : decode M_Mo_nearest.2.1 17 = .ok (.lload 4, 2) := by decide +kernel
theorem d_Mo_nearest_19 : decode M_Mo_nearest.2.1 19 = .ok (.lconst 1, 1) := by decide +kernel
theorem d_Mo_nearest_20 : decode M_Mo_nearest.2.1 20 = .ok (.lsub, 1) := by decide +kernel
theorem d_Mo_nearest_21 : decode M_Mo_nearest.2.1 21 = .ok (.lstore 4, 2) := by decide +kernel
theorem d_Mo_nearest_23 : decode M_Mo_nearest.2.1 23 = .ok (.lload 6, 2) := by decide +kernel
theorem d_Mo_nearest_25 : decode M_Mo_nearest.2.1 25 = .ok (.lload_n 2, 1) := by decide +kernel
theorem d_Mo_nearest_26 : decode M_Mo_nearest.2.1 26 = .ok (.ladd, 1) := by decide +kernel
theorem d_Mo_nearest_27 : decode M_Mo_nearest.2.1 27 = .ok (.lstore 6, 2) := by decide +kernel
theorem d_Mo_nearest_29 : decode M_Mo_nearest.2.1 29 = .ok (.ldc2_w 84, 3) := by decide +kernel
theorem d_Mo_nearest_32 : decode M_Mo_nearest.2.1 32 = .ok (.lload 6, 2) := by decide +kernel
theorem d_Mo_nearest_34 : decode M_Mo_nearest.2.1 34 = .ok (.lmul, 1) := by decide +kernel
theorem d_Mo_nearest_35 : decode M_Mo_nearest.2.1 35 = .ok (.lload_n 2, 1) := by decide +kernel
theorem d_Mo_nearest_36 : decode M_Mo_nearest.2.1 36 = .ok (.lcmp, 1) := by decide +kernel
theorem d_Mo_nearest_37 : decode M_Mo_nearest.2.1 37 = .ok (.ifCond .gt 25, 3) := by decide +kernel
theorem d_Mo_nearest_40 : decode M_Mo_nearest.2.1 40 = .ok (.ldc2_w 84, 3) := by decide +kernel
theorem d_Mo_nearest_43 : decode M_Mo_nearest.2.1 43 = .ok (.lload 6, 2) := by decide +kernel
theorem d_Mo_nearest_45 : decode M_Mo_nearest.2.1 45 = .ok (.lmul, 1) := by decide +kernel
theorem d_Mo_nearest_46 : decode M_Mo_nearest.2.1 46 = .ok (.lload_n 2, 1) := by decide +kernel
theorem d_Mo_nearest_47 : decode M_Mo_nearest.2.1 47 = .ok (.lcmp, 1) := by decide +kernel
theorem d_Mo_nearest_48 : decode M_Mo_nearest.2.1 48 = .ok (.ifCond .ne 21, 3) := by decide +kernel
theorem d_Mo_nearest_51 : decode M_Mo_nearest.2.1 51 = .ok (.lload 4, 2) := by decide +kernel
theorem d_Mo_nearest_53 : decode M_Mo_nearest.2.1 53 = .ok (.ldc2_w 84, 3) := by decide +kernel
theorem d_Mo_nearest_56 : decode M_Mo_nearest.2.1 56 = .ok (.lrem, 1) := by decide +kernel
theorem d_Mo_nearest_57 : decode M_Mo_nearest.2.1 57 = .ok (.lconst 0, 1) := by decide +kernel
theorem d_Mo_nearest_58 : decode M_Mo_nearest.2.1 58 = .ok (.lcmp, 1) := by decide +kernel
theorem d_Mo_nearest_59 : decode M_Mo_nearest.2.1 59 = .ok (.ifCond .eq 10, 3) := by decide +kernel
theorem d_Mo_nearest_62 : decode M_Mo_nearest.2.1 62 = .ok (.lload 4, 2) := by decide +kernel
theorem d_Mo_nearest_64 : decode M_Mo_nearest.2.1 64 = .ok (.lconst 1, 1) := by decide +kernel
theorem d_Mo_nearest_65 : decode M_Mo_nearest.2.1 65 = .ok (.ladd, 1) := by decide +kernel
theorem d_Mo_nearest_66 : decode M_Mo_nearest.2.1 66 = .ok (.goto 5, 3) := by decide +kernel
theorem d_Mo_nearest_69 : decode M_Mo_nearest.2.1 69 = .ok (.lload 4, 2) := by decide +kernel
theorem d_Mo_nearest_71 : decode M_Mo_nearest.2.1 71 = .ok (.lreturn, 1) := by decide +kernel
theorem d_Fr_nearestFrame_0 : decode M_Fr_nearestFrame.2.1 0 = .ok (.lload_n 1, 1) := by decide +kernel
theorem d_Fr_nearestFrame_1 : decode M_Fr_nearestFrame.2.1 1 = .ok (.aload_n 0, 1) := by decide +kernel
theorem d_Fr_nearestFrame_2 : decode M_Fr_nearestFrame.2.1 2 = .ok (.getfield 20, 3) := by decide +kernel
theorem d_Fr_nearestFrame_5 : decode M_Fr_nearestFrame.2.1 5 = .ok (.invokestatic 29, 3) := by decide +kernel
theorem d_Fr_nearestFrame_8 : decode M_Fr_nearestFrame.2.1 8 = .ok (.l2i, 1) := by decide +kernel
theorem d_Fr_nearestFrame_9 : decode M_Fr_nearestFrame.2.1 9 = .ok (.ireturn, 1) := by decide +kernel
theorem divs {a b : Int} (hb : 0 < b) : (a.tdiv b = a / b ∧ a.tmod b = a % b ∧ (0 ≤ a ∨ a % b = 0)) ∨ (a.tdiv b = a / b + 1 ∧ a.tmod b = a % b - b ∧ a < 0 ∧ a % b ≠ 0) := by
  rw [Int.tdiv_eq_ediv, Int.tmod_eq_emod]
  by_cases q : 0 ≤ a ∨ b ∣ a
  · left
    rw [if_pos q, if_pos q]
    refine ⟨by omega, by omega, ?_⟩
    rcases q with q | q
    · exact Or.inl q
    · exact Or.inr (Int.emod_eq_zero_of_dvd q)
  · right
    rw [if_neg q, if_neg q, Int.sign_eq_one_of_pos hb]
    refine ⟨rfl, by omega, by omega, fun w => q (Or.inr (Int.dvd_of_emod_eq_zero w))⟩
theorem dmul {a b : Int} : a / b * b = a - a % b := by
  have := Int.emod_def a b
  rw [Int.mul_comm] at this
  omega
theorem tmul {a b : Int} : a.tdiv b * b = a - a.tmod b := by
  have := Int.tmod_def a b
  rw [Int.mul_comm] at this
  omega
theorem divr {a b : Int} (hb : 0 < b) (h1 : -4611686018427387904 ≤ a) (h2 : a ≤ 4611686018427387904) : -4611686018427387904 ≤ a / b ∧ a / b ≤ 4611686018427387904 := by
  constructor
  · exact (Int.le_ediv_iff_mul_le hb).mpr (by have : (-4611686018427387904 : Int) * b ≤ -4611686018427387904 * 1 := Int.mul_le_mul_of_nonpos_left (by decide) (by omega); omega)
  · by_cases q : 0 ≤ a
    · have := Int.ediv_le_self b q; omega
    · have : a / b < 0 := Int.ediv_neg_of_neg_of_pos (by omega) hb
      omega
def nearZ (a b : Int) : Int := if 2 * (a % b) > b ∨ (2 * (a % b) = b ∧ (a / b) % 2 = 1) then a / b + 1 else a / b
theorem xor_s {a b : Int} (ha : lR a) (hb : lR b) (h0 : 0 < b) : (lZ a ^^^ lZ b) < 0 ↔ a < 0 := by
  rw [Int64.lt_iff_toInt_lt]
  have e : ∀ x : Int64, x.toInt < 0 ↔ x.toBitVec.msb = true := by
    intro x
    rw [BitVec.msb_eq_toInt]
    simp
  show (lZ a ^^^ lZ b).toInt < 0 ↔ a < 0
  rw [e, Int64.toBitVec_xor, BitVec.msb_xor]
  have ea := e (lZ a)
  have eb := e (lZ b)
  rw [lZ_t ha] at ea
  rw [lZ_t hb] at eb
  have nb : (lZ b).toBitVec.msb = false := by
    cases h : (lZ b).toBitVec.msb with
    | false => rfl
    | true => have := eb.mpr h; omega
  rw [nb]
  simp
  exact ea.symm
theorem and1 (a : Int) : lZ a &&& lZ 1 = lZ (a % 2) := by
  apply Int64.toBitVec.inj
  apply BitVec.eq_of_toNat_eq
  rw [Int64.toBitVec_and, BitVec.toNat_and]
  show (BitVec.ofInt 64 a).toNat &&& 1 = (BitVec.ofInt 64 (a % 2)).toNat
  rw [show (BitVec.ofInt 64 a).toNat &&& 1 = (BitVec.ofInt 64 a).toNat % 2 from Nat.and_two_pow_sub_one_eq_mod _ 1, BitVec.toNat_ofInt, BitVec.toNat_ofInt]
  omega
theorem lk_floorDiv : Cond.methodLink "CueBench" 213 M_Math_floorDiv.1 ∈ Wall := (wm 427 (by decide +kernel) rfl)
theorem ev_floorDiv {G : GT} {M : MT} {R : Room} {Q : Option Value → HM → Prop} {pc : Nat} {L : List (Nat × Value)} {st : List Value} {h : HM} {k n : Nat} {x y : Int64} {idx : Nat} (hy : y ≠ 0) (d : decode M.2.1 pc = .ok (.invokestatic idx, 3)) (h1 : Cond.methodLink M.1.cls idx M_Math_floorDiv.1 ∈ Wall) (hf : 1 ≤ R.frames) (hlo : (st.map fun v => v.category).sum + 17 ≤ R.locals) (hk : k ≤ R.cells) (hn : n ≤ R.slots) (kk : Ev G M R Q (pc + 3) L (.long (Jvm.Free.JP.Math_floorDiv_JJ.val x y) :: st) h k n) : Ev G M R Q pc L (.long y :: .long x :: st) h k n := by
  intro p e s m args below meth c H locs ls cx hl hH hS T hT X
  have hts := cx.2.2.2.2.1
  obtain ⟨v, T', X', hE, hst⟩ := X.callS cx.1 (own := M.1.cls) (index := idx) (Jvm.Free.JP.Math_floorDiv_JJ.law (G_l G) x y) cx.2.2.2.2.2.1 (fun w hw => by
      simp only [Jvm.Free.XT.staticW, List.mem_cons, List.not_mem_nil, or_false] at hw
      rcases hw with rfl | rfl
      · exact hts _ h1
      · exact hts _ ms_Math_floorDiv) (Jvm.Free.XT.unparts (hts _ mk_Math_floorDiv.1) (fun w hw => by
      simp only [Jvm.Free.JP.Math_floorDiv_JJ.site, List.mem_cons, List.not_mem_nil, or_false] at hw
      subst hw
      exact hts _ in_Math)) (W := (st.map fun v => v.category).sum) (by omega) (by omega) hk hn (g := F0 m pc ls (.long y :: .long x :: st)) rfl (by rw [cx.2.2.1]; exact hl.1) (Steps.refl _) (argsL := [.long x, .long y]) (rest := st) rfl rfl (by show 2 * 0 + _ ≤ _; omega) (by rw [cx.2.1]; exact d) ⟨rfl, hy⟩
  obtain ⟨rfl, hh⟩ := hE
  rw [List.append_nil] at X'
  obtain ⟨t, a1, b1⟩ := kk p e s m args below meth c H locs ls cx hl hH hS T' (hh.trans hT) X'
  exact ⟨t, hst.trans a1, b1⟩
theorem floorV {a b : Int} (ha : -4611686018427387904 ≤ a ∧ a ≤ 4611686018427387904) (hb : 0 < b ∧ b ≤ 2305843009213693952) : Jvm.Free.JP.Math_floorDiv_JJ.val (lZ a) (lZ b) = lZ (a / b) := by
  have hD := divs (a := a) hb.1
  have hM := dmul (a := a) (b := b)
  have hP := tmul (a := a) (b := b)
  have hq := divr hb.1 ha.1 ha.2
  have hm0 := Int.emod_nonneg a (show b ≠ 0 by omega)
  have hm1 := Int.emod_lt_of_pos a hb.1
  unfold Jvm.Free.JP.Math_floorDiv_JJ.val
  rw [lZ_tdiv (by omega) (by omega) (by omega), lZ_mul, show lZ (a.tdiv b) - 1 = lZ (a.tdiv b - 1) from lZ_sub _ 1]
  by_cases z : a < 0
  · rw [if_pos ((xor_s (by omega) (by omega) hb.1).mpr z)]
    by_cases w : a % b = 0
    · rw [if_pos (by rw [hP]; congr 1; omega)]
      congr 1; omega
    · rw [if_neg (fun e => by have := (lZ_eq (by omega) (by omega)).mp e; omega)]
      congr 1; omega
  · rw [if_neg (fun e => z ((xor_s (by omega) (by omega) hb.1).mp e))]
    congr 1; omega
set_option maxHeartbeats 4000000 in
set_option maxRecDepth 100000 in
theorem c_CB_nearest (G : GT) (h : HM) (a b : Int) (ha : -4611686018427387904 ≤ a ∧ a ≤ 4611686018427387904) (hb : 0 < b ∧ b ≤ 2305843009213693952) : Rn G M_CB_nearest (rm 1 30) [.long (lZ a), .long (lZ b)] h (Pu (.long (lZ (nearZ a b))) h) := by
  refine rn_of (by decide) (Nat.le_of_ble_eq_true rfl) ?_
  show Ev G M_CB_nearest _ _ 0 [(0, .long (lZ a)), (2, .long (lZ b))] [] _ 0 0
  have hD := divs (a := a) hb.1
  have hM := dmul (a := a) (b := b)
  have hP := tmul (a := a) (b := b)
  have hq := divr hb.1 ha.1 ha.2
  have hm0 := Int.emod_nonneg a (show b ≠ 0 by omega)
  have hm1 := Int.emod_lt_of_pos a hb.1
  refine ev_lload_n d_CB_nearest_0 rfl rfl ?_
  refine ev_lload_n d_CB_nearest_1 rfl rfl ?_
  refine ev_floorDiv (y := lZ b) (fun e => by have := (lZ_eq (a := b) (b := 0) (by omega) (by omega)).mp e; omega) d_CB_nearest_2 lk_floorDiv (by decide) (by decide) (by decide) (by decide) ?_
  rw [floorV ha hb]
  refine ev_lstore (L' := [(0, .long (lZ a)), (2, .long (lZ b)), (4, .long (lZ (a / b)))]) d_CB_nearest_5 (by decide) rfl ?_
  refine ev_ldc2 (v := lZ 2) d_CB_nearest_7 kc_CB_219 ?_
  refine ev_lload_n d_CB_nearest_10 rfl rfl ?_
  refine ev_lload d_CB_nearest_11 rfl ?_
  refine ev_lload_n d_CB_nearest_13 rfl rfl ?_
  refine ez_lmul d_CB_nearest_14 ?_
  refine ez_lsub d_CB_nearest_15 ?_
  refine ez_lmul d_CB_nearest_16 ?_
  refine ev_lstore (L' := [(0, .long (lZ a)), (2, .long (lZ b)), (4, .long (lZ (a / b))), (6, .long (lZ (2 * (a - ((a / b) * b)))))]) d_CB_nearest_17 (by decide) rfl ?_
  refine ev_lload d_CB_nearest_19 rfl ?_
  refine ev_lload_n d_CB_nearest_21 rfl rfl ?_
  refine ev_lcmp d_CB_nearest_22 ?_
  refine ez_lif_gt (tgt := 42) (by omega) (by omega) d_CB_nearest_23 rfl (fun c23 => ?_) (fun c23 => ?_)
  · refine ev_iconst (v := iZ 1) d_CB_nearest_42 rfl ?_
    refine ev_goto (tgt := 47) d_CB_nearest_43 rfl ?_
    refine ev_istore (L' := [(0, .long (lZ a)), (2, .long (lZ b)), (4, .long (lZ (a / b))), (6, .long (lZ (2 * (a - ((a / b) * b))))), (8, .int (iZ 1))]) d_CB_nearest_47 (by decide) rfl ?_
    refine ev_iload d_CB_nearest_49 rfl ?_
    refine ez_if_eq (tgt := 61) (by decide) d_CB_nearest_51 rfl (fun c51 => absurd c51 (by omega)) (fun c51 => ?_)
    refine ev_lload d_CB_nearest_54 rfl ?_
    refine ev_lconst (v := lZ 1) d_CB_nearest_56 rfl ?_
    refine ez_ladd d_CB_nearest_57 ?_
    refine ev_goto (tgt := 63) d_CB_nearest_58 rfl ?_
    exact ev_lreturn d_CB_nearest_63 rfl (by decide) (by decide) (⟨by rw [show nearZ a b = (a / b) + 1 from by unfold nearZ; split <;> omega], rfl⟩)
  · refine ev_lload d_CB_nearest_26 rfl ?_
    refine ev_lload_n d_CB_nearest_28 rfl rfl ?_
    refine ev_lcmp d_CB_nearest_29 ?_
    refine ez_lif_ne (tgt := 46) (by omega) (by omega) d_CB_nearest_30 rfl (fun c30 => ?_) (fun c30 => ?_)
    · refine ev_iconst (v := iZ 0) d_CB_nearest_46 rfl ?_
      refine ev_istore (L' := [(0, .long (lZ a)), (2, .long (lZ b)), (4, .long (lZ (a / b))), (6, .long (lZ (2 * (a - ((a / b) * b))))), (8, .int (iZ 0))]) d_CB_nearest_47 (by decide) rfl ?_
      refine ev_iload d_CB_nearest_49 rfl ?_
      refine ez_if_eq (tgt := 61) (by decide) d_CB_nearest_51 rfl (fun c51 => ?_) (fun c51 => absurd c51 (by omega))
      refine ev_lload d_CB_nearest_61 rfl ?_
      exact ev_lreturn d_CB_nearest_63 rfl (by decide) (by decide) (⟨by rw [show nearZ a b = a / b from by unfold nearZ; split <;> omega], rfl⟩)
    · refine ev_lload d_CB_nearest_33 rfl ?_
      refine ev_lconst (v := lZ 1) d_CB_nearest_35 rfl ?_
      refine ev_land d_CB_nearest_36 ?_
      rw [and1]
      refine ev_lconst (v := lZ 1) d_CB_nearest_37 rfl ?_
      refine ev_lcmp d_CB_nearest_38 ?_
      refine ez_lif_ne (tgt := 46) (by omega) (by decide) d_CB_nearest_39 rfl (fun c39 => ?_) (fun c39 => ?_)
      · refine ev_iconst (v := iZ 0) d_CB_nearest_46 rfl ?_
        refine ev_istore (L' := [(0, .long (lZ a)), (2, .long (lZ b)), (4, .long (lZ (a / b))), (6, .long (lZ (2 * (a - ((a / b) * b))))), (8, .int (iZ 0))]) d_CB_nearest_47 (by decide) rfl ?_
        refine ev_iload d_CB_nearest_49 rfl ?_
        refine ez_if_eq (tgt := 61) (by decide) d_CB_nearest_51 rfl (fun c51 => ?_) (fun c51 => absurd c51 (by omega))
        refine ev_lload d_CB_nearest_61 rfl ?_
        exact ev_lreturn d_CB_nearest_63 rfl (by decide) (by decide) (⟨by rw [show nearZ a b = a / b from by unfold nearZ; split <;> omega], rfl⟩)
      · refine ev_iconst (v := iZ 1) d_CB_nearest_42 rfl ?_
        refine ev_goto (tgt := 47) d_CB_nearest_43 rfl ?_
        refine ev_istore (L' := [(0, .long (lZ a)), (2, .long (lZ b)), (4, .long (lZ (a / b))), (6, .long (lZ (2 * (a - ((a / b) * b))))), (8, .int (iZ 1))]) d_CB_nearest_47 (by decide) rfl ?_
        refine ev_iload d_CB_nearest_49 rfl ?_
        refine ez_if_eq (tgt := 61) (by decide) d_CB_nearest_51 rfl (fun c51 => absurd c51 (by omega)) (fun c51 => ?_)
        refine ev_lload d_CB_nearest_54 rfl ?_
        refine ev_lconst (v := lZ 1) d_CB_nearest_56 rfl ?_
        refine ez_ladd d_CB_nearest_57 ?_
        refine ev_goto (tgt := 63) d_CB_nearest_58 rfl ?_
        exact ev_lreturn d_CB_nearest_63 rfl (by decide) (by decide) (⟨by rw [show nearZ a b = (a / b) + 1 from by unfold nearZ; split <;> omega], rfl⟩)
set_option maxHeartbeats 4000000 in
set_option maxRecDepth 100000 in
theorem c_Mo_nearest (G : GT) (h : HM) (a b : Int) (ha : -4611686018427387904 ≤ a ∧ a ≤ 4611686018427387904) (hb : 0 < b ∧ b ≤ 2305843009213693952) : Rn G M_Mo_nearest (rm 0 0) [.long (lZ a), .long (lZ b)] h (Pu (.long (lZ (nearZ a b))) h) := by
  refine rn_of (by decide) (Nat.le_of_ble_eq_true rfl) ?_
  show Ev G M_Mo_nearest _ _ 0 [(0, .long (lZ a)), (2, .long (lZ b))] [] _ 0 0
  have hD := divs (a := a) hb.1
  have hM := dmul (a := a) (b := b)
  have hP := tmul (a := a) (b := b)
  have hq := divr hb.1 ha.1 ha.2
  have hm0 := Int.emod_nonneg a (show b ≠ 0 by omega)
  have hm1 := Int.emod_lt_of_pos a hb.1
  refine ev_lload_n d_Mo_nearest_0 rfl rfl ?_
  refine ev_lload_n d_Mo_nearest_1 rfl rfl ?_
  refine ez_ltdiv (by omega) (by omega) (by omega) (by omega) d_Mo_nearest_2 ?_
  refine ev_lstore (L' := [(0, .long (lZ a)), (2, .long (lZ b)), (4, .long (lZ (a.tdiv b)))]) d_Mo_nearest_3 (by decide) rfl ?_
  refine ev_lload_n d_Mo_nearest_5 rfl rfl ?_
  refine ev_lload_n d_Mo_nearest_6 rfl rfl ?_
  refine ez_ltrem (by omega) (by omega) (by omega) (by omega) d_Mo_nearest_7 ?_
  refine ev_lstore (L' := [(0, .long (lZ a)), (2, .long (lZ b)), (4, .long (lZ (a.tdiv b))), (6, .long (lZ (a.tmod b)))]) d_Mo_nearest_8 (by decide) rfl ?_
  refine ev_lload d_Mo_nearest_10 rfl ?_
  refine ev_lconst (v := lZ 0) d_Mo_nearest_12 rfl ?_
  refine ev_lcmp d_Mo_nearest_13 ?_
  refine ez_lif_ge (tgt := 29) (by omega) (by decide) d_Mo_nearest_14 rfl (fun c14 => ?_) (fun c14 => ?_)
  · refine ev_ldc2 (v := lZ 2) d_Mo_nearest_29 kc_Mo_84 ?_
    refine ev_lload d_Mo_nearest_32 rfl ?_
    refine ez_lmul d_Mo_nearest_34 ?_
    refine ev_lload_n d_Mo_nearest_35 rfl rfl ?_
    refine ev_lcmp d_Mo_nearest_36 ?_
    refine ez_lif_gt (tgt := 62) (by omega) (by omega) d_Mo_nearest_37 rfl (fun c37 => ?_) (fun c37 => ?_)
    · refine ev_lload d_Mo_nearest_62 rfl ?_
      refine ev_lconst (v := lZ 1) d_Mo_nearest_64 rfl ?_
      refine ez_ladd d_Mo_nearest_65 ?_
      refine ev_goto (tgt := 71) d_Mo_nearest_66 rfl ?_
      exact ev_lreturn d_Mo_nearest_71 rfl (by decide) (by decide) (⟨by rw [show nearZ a b = (a.tdiv b) + 1 from by unfold nearZ; split <;> omega], rfl⟩)
    · refine ev_ldc2 (v := lZ 2) d_Mo_nearest_40 kc_Mo_84 ?_
      refine ev_lload d_Mo_nearest_43 rfl ?_
      refine ez_lmul d_Mo_nearest_45 ?_
      refine ev_lload_n d_Mo_nearest_46 rfl rfl ?_
      refine ev_lcmp d_Mo_nearest_47 ?_
      refine ez_lif_ne (tgt := 69) (by omega) (by omega) d_Mo_nearest_48 rfl (fun c48 => ?_) (fun c48 => ?_)
      · refine ev_lload d_Mo_nearest_69 rfl ?_
        exact ev_lreturn d_Mo_nearest_71 rfl (by decide) (by decide) (⟨by rw [show nearZ a b = a.tdiv b from by unfold nearZ; split <;> omega], rfl⟩)
      · refine ev_lload d_Mo_nearest_51 rfl ?_
        refine ev_ldc2 (v := lZ 2) d_Mo_nearest_53 kc_Mo_84 ?_
        have hE := divs (a := a.tdiv b) (b := 2) (by decide)
        refine ez_ltrem (by omega) (by omega) (by omega) (by omega) d_Mo_nearest_56 ?_
        refine ev_lconst (v := lZ 0) d_Mo_nearest_57 rfl ?_
        refine ev_lcmp d_Mo_nearest_58 ?_
        refine ez_lif_eq (tgt := 69) (by omega) (by decide) d_Mo_nearest_59 rfl (fun c59 => ?_) (fun c59 => ?_)
        · refine ev_lload d_Mo_nearest_69 rfl ?_
          exact ev_lreturn d_Mo_nearest_71 rfl (by decide) (by decide) (⟨by rw [show nearZ a b = a.tdiv b from by unfold nearZ; split <;> omega], rfl⟩)
        · refine ev_lload d_Mo_nearest_62 rfl ?_
          refine ev_lconst (v := lZ 1) d_Mo_nearest_64 rfl ?_
          refine ez_ladd d_Mo_nearest_65 ?_
          refine ev_goto (tgt := 71) d_Mo_nearest_66 rfl ?_
          exact ev_lreturn d_Mo_nearest_71 rfl (by decide) (by decide) (⟨by rw [show nearZ a b = (a.tdiv b) + 1 from by unfold nearZ; split <;> omega], rfl⟩)
  · refine ev_lload d_Mo_nearest_17 rfl ?_
    refine ev_lconst (v := lZ 1) d_Mo_nearest_19 rfl ?_
    refine ez_lsub d_Mo_nearest_20 ?_
    refine ev_lstore (L' := [(0, .long (lZ a)), (2, .long (lZ b)), (4, .long (lZ ((a.tdiv b) - 1))), (6, .long (lZ (a.tmod b)))]) d_Mo_nearest_21 (by decide) rfl ?_
    refine ev_lload d_Mo_nearest_23 rfl ?_
    refine ev_lload_n d_Mo_nearest_25 rfl rfl ?_
    refine ez_ladd d_Mo_nearest_26 ?_
    refine ev_lstore (L' := [(0, .long (lZ a)), (2, .long (lZ b)), (4, .long (lZ ((a.tdiv b) - 1))), (6, .long (lZ ((a.tmod b) + b)))]) d_Mo_nearest_27 (by decide) rfl ?_
    refine ev_ldc2 (v := lZ 2) d_Mo_nearest_29 kc_Mo_84 ?_
    refine ev_lload d_Mo_nearest_32 rfl ?_
    refine ez_lmul d_Mo_nearest_34 ?_
    refine ev_lload_n d_Mo_nearest_35 rfl rfl ?_
    refine ev_lcmp d_Mo_nearest_36 ?_
    refine ez_lif_gt (tgt := 62) (by omega) (by omega) d_Mo_nearest_37 rfl (fun c37 => ?_) (fun c37 => ?_)
    · refine ev_lload d_Mo_nearest_62 rfl ?_
      refine ev_lconst (v := lZ 1) d_Mo_nearest_64 rfl ?_
      refine ez_ladd d_Mo_nearest_65 ?_
      refine ev_goto (tgt := 71) d_Mo_nearest_66 rfl ?_
      exact ev_lreturn d_Mo_nearest_71 rfl (by decide) (by decide) (⟨by rw [show nearZ a b = ((a.tdiv b) - 1) + 1 from by unfold nearZ; split <;> omega], rfl⟩)
    · refine ev_ldc2 (v := lZ 2) d_Mo_nearest_40 kc_Mo_84 ?_
      refine ev_lload d_Mo_nearest_43 rfl ?_
      refine ez_lmul d_Mo_nearest_45 ?_
      refine ev_lload_n d_Mo_nearest_46 rfl rfl ?_
      refine ev_lcmp d_Mo_nearest_47 ?_
      refine ez_lif_ne (tgt := 69) (by omega) (by omega) d_Mo_nearest_48 rfl (fun c48 => ?_) (fun c48 => ?_)
      · refine ev_lload d_Mo_nearest_69 rfl ?_
        exact ev_lreturn d_Mo_nearest_71 rfl (by decide) (by decide) (⟨by rw [show nearZ a b = (a.tdiv b) - 1 from by unfold nearZ; split <;> omega], rfl⟩)
      · refine ev_lload d_Mo_nearest_51 rfl ?_
        refine ev_ldc2 (v := lZ 2) d_Mo_nearest_53 kc_Mo_84 ?_
        have hE := divs (a := (a.tdiv b) - 1) (b := 2) (by decide)
        refine ez_ltrem (by omega) (by omega) (by omega) (by omega) d_Mo_nearest_56 ?_
        refine ev_lconst (v := lZ 0) d_Mo_nearest_57 rfl ?_
        refine ev_lcmp d_Mo_nearest_58 ?_
        refine ez_lif_eq (tgt := 69) (by omega) (by decide) d_Mo_nearest_59 rfl (fun c59 => ?_) (fun c59 => ?_)
        · refine ev_lload d_Mo_nearest_69 rfl ?_
          exact ev_lreturn d_Mo_nearest_71 rfl (by decide) (by decide) (⟨by rw [show nearZ a b = (a.tdiv b) - 1 from by unfold nearZ; split <;> omega], rfl⟩)
        · refine ev_lload d_Mo_nearest_62 rfl ?_
          refine ev_lconst (v := lZ 1) d_Mo_nearest_64 rfl ?_
          refine ez_ladd d_Mo_nearest_65 ?_
          refine ev_goto (tgt := 71) d_Mo_nearest_66 rfl ?_
          exact ev_lreturn d_Mo_nearest_71 rfl (by decide) (by decide) (⟨by rw [show nearZ a b = ((a.tdiv b) - 1) + 1 from by unfold nearZ; split <;> omega], rfl⟩)
set_option maxHeartbeats 4000000 in
set_option maxRecDepth 100000 in
theorem c_Fr_nearestFrame (G : GT) (h : HM) (xf : Nat) (num den tk t : Int) (hf : h xf = some (.inr (5, [.int (iZ num), .int (iZ den), .long (lZ tk)]))) (ht : -4611686018427387904 ≤ t ∧ t ≤ 4611686018427387904) (htk : 0 < tk ∧ tk ≤ 2305843009213693952) : Rn G M_Fr_nearestFrame (rm 2 60) [.ref xf, .long (lZ t)] h (Pu (.int (iZ (nearZ t tk))) h) := by
  refine rn_of (by decide) (Nat.le_of_ble_eq_true rfl) ?_
  show Ev G M_Fr_nearestFrame _ _ 0 [(0, .ref xf), (1, .long (lZ t))] [] _ 0 0
  refine ev_lload_n d_Fr_nearestFrame_0 rfl rfl ?_
  refine ev_aload_n d_Fr_nearestFrame_1 rfl rfl ?_
  refine ev_get d_Fr_nearestFrame_2 fl_Fr_20 hf rfl ?_
  refine ev_pS M_CB_nearest 1 30 (As := [.long (lZ t), .long (lZ tk)]) (c_CB_nearest G h t tk ht htk) d_Fr_nearestFrame_5 mk_CB_nearest ml_Fr_29 ms_CB_nearest rfl rfl (Nat.le_of_ble_eq_true rfl) ⟨by decide, by decide⟩ ⟨by decide, by decide⟩ ?_
  refine ez_l2i d_Fr_nearestFrame_8 ?_
  exact ev_ireturn d_Fr_nearestFrame_9 rfl (by decide) (by decide) (⟨rfl, rfl⟩)
