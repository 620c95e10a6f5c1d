theorem d_CB_cellsOf_0 : decode M_CB_cellsOf.2.1 0 = .ok (.iload_n 0, 1) := by decide +kernel
theorem d_CB_cellsOf_1 : decode M_CB_cellsOf.2.1 1 = .ok (.bipush 32, 2) := by decide +kernel
theorem d_CB_cellsOf_3 : decode M_CB_cellsOf.2.1 3 = .ok (.if_icmp .lt 11, 3) := by decide +kernel
theorem d_CB_cellsOf_6 : decode M_CB_cellsOf.2.1 6 = .ok (.iload_n 0, 1) := by decide +kernel
theorem d_CB_cellsOf_7 : decode M_CB_cellsOf.2.1 7 = .ok (.bipush 126, 2) := by decide +kernel
theorem d_CB_cellsOf_9 : decode M_CB_cellsOf.2.1 9 = .ok (.if_icmp .gt 5, 3) := by decide +kernel
theorem d_CB_cellsOf_12 : decode M_CB_cellsOf.2.1 12 = .ok (.iconst 1, 1) := by decide +kernel
theorem d_CB_cellsOf_13 : decode M_CB_cellsOf.2.1 13 = .ok (.ireturn, 1) := by decide +kernel
theorem d_CB_cellsOf_14 : decode M_CB_cellsOf.2.1 14 = .ok (.iload_n 0, 1) := by decide +kernel
theorem d_CB_cellsOf_15 : decode M_CB_cellsOf.2.1 15 = .ok (.sipush 128, 3) := by decide +kernel
theorem d_CB_cellsOf_18 : decode M_CB_cellsOf.2.1 18 = .ok (.if_icmp .lt 14, 3) := by decide +kernel
theorem d_CB_cellsOf_21 : decode M_CB_cellsOf.2.1 21 = .ok (.iload_n 0, 1) := by decide +kernel
theorem d_CB_cellsOf_22 : decode M_CB_cellsOf.2.1 22 = .ok (.sipush 191, 3) := by decide +kernel
theorem d_CB_cellsOf_25 : decode M_CB_cellsOf.2.1 25 = .ok (.if_icmp .gt 7, 3) := by decide +kernel
theorem d_CB_cellsOf_28 : decode M_CB_cellsOf.2.1 28 = .ok (.iconst 2, 1) := by decide +kernel
theorem d_CB_cellsOf_29 : decode M_CB_cellsOf.2.1 29 = .ok (.goto 4, 3) := by decide +kernel
theorem d_CB_cellsOf_32 : decode M_CB_cellsOf.2.1 32 = .ok (.iconst 0, 1) := by decide +kernel
theorem d_CB_cellsOf_33 : decode M_CB_cellsOf.2.1 33 = .ok (.ireturn, 1) := by decide +kernel
theorem d_Mo_cellsOf_0 : decode M_Mo_cellsOf.2.1 0 = .ok (.iload_n 0, 1) := by decide +kernel
theorem d_Mo_cellsOf_1 : decode M_Mo_cellsOf.2.1 1 = .ok (.bipush 32, 2) := by decide +kernel
theorem d_Mo_cellsOf_3 : decode M_Mo_cellsOf.2.1 3 = .ok (.if_icmp .lt 13, 3) := by decide +kernel
theorem d_Mo_cellsOf_6 : decode M_Mo_cellsOf.2.1 6 = .ok (.iload_n 0, 1) := by decide +kernel
theorem d_Mo_cellsOf_7 : decode M_Mo_cellsOf.2.1 7 = .ok (.bipush 126, 2) := by decide +kernel
theorem d_Mo_cellsOf_9 : decode M_Mo_cellsOf.2.1 9 = .ok (.if_icmp .gt 7, 3) := by decide +kernel
theorem d_Mo_cellsOf_12 : decode M_Mo_cellsOf.2.1 12 = .ok (.iconst 1, 1) := by decide +kernel
theorem d_Mo_cellsOf_13 : decode M_Mo_cellsOf.2.1 13 = .ok (.goto 22, 3) := by decide +kernel
theorem d_Mo_cellsOf_16 : decode M_Mo_cellsOf.2.1 16 = .ok (.iload_n 0, 1) := by decide +kernel
theorem d_Mo_cellsOf_17 : decode M_Mo_cellsOf.2.1 17 = .ok (.sipush 128, 3) := by decide +kernel
theorem d_Mo_cellsOf_20 : decode M_Mo_cellsOf.2.1 20 = .ok (.if_icmp .lt 14, 3) := by decide +kernel
theorem d_Mo_cellsOf_23 : decode M_Mo_cellsOf.2.1 23 = .ok (.iload_n 0, 1) := by decide +kernel
theorem d_Mo_cellsOf_24 : decode M_Mo_cellsOf.2.1 24 = .ok (.sipush 191, 3) := by decide +kernel
theorem d_Mo_cellsOf_27 : decode M_Mo_cellsOf.2.1 27 = .ok (.if_icmp .gt 7, 3) := by decide +kernel
theorem d_Mo_cellsOf_30 : decode M_Mo_cellsOf.2.1 30 = .ok (.iconst 2, 1) := by decide +kernel
theorem d_Mo_cellsOf_31 : decode M_Mo_cellsOf.2.1 31 = .ok (.goto 4, 3) := by decide +kernel
theorem d_Mo_cellsOf_34 : decode M_Mo_cellsOf.2.1 34 = .ok (.iconst 0, 1) := by decide +kernel
theorem d_Mo_cellsOf_35 : decode M_Mo_cellsOf.2.1 35 = .ok (.ireturn, 1) := by decide +kernel
theorem d_CB_isForm_0 : decode M_CB_isForm.2.1 0 = .ok (.iload_n 0, 1) := by decide +kernel
theorem d_CB_isForm_1 : decode M_CB_isForm.2.1 1 = .ok (.ifCond .eq 13, 3) := by decide +kernel
theorem d_CB_isForm_4 : decode M_CB_isForm.2.1 4 = .ok (.iload_n 0, 1) := by decide +kernel
theorem d_CB_isForm_5 : decode M_CB_isForm.2.1 5 = .ok (.iconst 1, 1) := by decide +kernel
theorem d_CB_isForm_6 : decode M_CB_isForm.2.1 6 = .ok (.if_icmp .eq 8, 3) := by decide +kernel
theorem d_CB_isForm_9 : decode M_CB_isForm.2.1 9 = .ok (.iload_n 0, 1) := by decide +kernel
theorem d_CB_isForm_10 : decode M_CB_isForm.2.1 10 = .ok (.iconst 2, 1) := by decide +kernel
theorem d_CB_isForm_11 : decode M_CB_isForm.2.1 11 = .ok (.if_icmp .ne 7, 3) := by decide +kernel
theorem d_CB_isForm_14 : decode M_CB_isForm.2.1 14 = .ok (.iconst 1, 1) := by decide +kernel
theorem d_CB_isForm_15 : decode M_CB_isForm.2.1 15 = .ok (.goto 4, 3) := by decide +kernel
theorem d_CB_isForm_18 : decode M_CB_isForm.2.1 18 = .ok (.iconst 0, 1) := by decide +kernel
theorem d_CB_isForm_19 : decode M_CB_isForm.2.1 19 = .ok (.ireturn, 1) := by decide +kernel
theorem d_Re_isLetter_0 : decode M_Re_isLetter.2.1 0 = .ok (.iload_n 0, 1) := by decide +kernel
theorem d_Re_isLetter_1 : decode M_Re_isLetter.2.1 1 = .ok (.bipush 32, 2) := by decide +kernel
theorem d_Re_isLetter_3 : decode M_Re_isLetter.2.1 3 = .ok (.if_icmp .lt 19, 3) := by decide +kernel
theorem d_Re_isLetter_6 : decode M_Re_isLetter.2.1 6 = .ok (.iload_n 0, 1) := by decide +kernel
theorem d_Re_isLetter_7 : decode M_Re_isLetter.2.1 7 = .ok (.bipush 124, 2) := by decide +kernel
theorem d_Re_isLetter_9 : decode M_Re_isLetter.2.1 9 = .ok (.if_icmp .eq 13, 3) := by decide +kernel
theorem d_Re_isLetter_12 : decode M_Re_isLetter.2.1 12 = .ok (.iload_n 0, 1) := by decide +kernel
theorem d_Re_isLetter_13 : decode M_Re_isLetter.2.1 13 = .ok (.bipush 127, 2) := by decide +kernel
theorem d_Re_isLetter_15 : decode M_Re_isLetter.2.1 15 = .ok (.if_icmp .eq 7, 3) := by decide +kernel
theorem d_Re_isLetter_18 : decode M_Re_isLetter.2.1 18 = .ok (.iconst 1, 1) := by decide +kernel
theorem d_Re_isLetter_19 : decode M_Re_isLetter.2.1 19 = .ok (.goto 4, 3) := by decide +kernel
theorem d_Re_isLetter_22 : decode M_Re_isLetter.2.1 22 = .ok (.iconst 0, 1) := by decide +kernel
theorem d_Re_isLetter_23 : decode M_Re_isLetter.2.1 23 = .ok (.ireturn, 1) := by decide +kernel
theorem d_Mo_isText_0 : decode M_Mo_isText.2.1 0 = .ok (.iload_n 0, 1) := by decide +kernel
theorem d_Mo_isText_1 : decode M_Mo_isText.2.1 1 = .ok (.bipush 32, 2) := by decide +kernel
theorem d_Mo_isText_3 : decode M_Mo_isText.2.1 3 = .ok (.if_icmp .lt 15, 3) := by decide +kernel
theorem d_Mo_isText_6 : decode M_Mo_isText.2.1 6 = .ok (.iload_n 0, 1) := by decide +kernel
theorem d_Mo_isText_7 : decode M_Mo_isText.2.1 7 = .ok (.bipush 126, 2) := by decide +kernel
theorem d_Mo_isText_9 : decode M_Mo_isText.2.1 9 = .ok (.if_icmp .gt 9, 3) := by decide +kernel
theorem d_Mo_isText_12 : decode M_Mo_isText.2.1 12 = .ok (.iload_n 0, 1) := by decide +kernel
theorem d_Mo_isText_13 : decode M_Mo_isText.2.1 13 = .ok (.bipush 124, 2) := by decide +kernel
theorem d_Mo_isText_15 : decode M_Mo_isText.2.1 15 = .ok (.if_icmp .ne 17, 3) := by decide +kernel
theorem d_Mo_isText_18 : decode M_Mo_isText.2.1 18 = .ok (.iload_n 0, 1) := by decide +kernel
theorem d_Mo_isText_19 : decode M_Mo_isText.2.1 19 = .ok (.sipush 128, 3) := by decide +kernel
theorem d_Mo_isText_22 : decode M_Mo_isText.2.1 22 = .ok (.if_icmp .lt 14, 3) := by decide +kernel
theorem d_Mo_isText_25 : decode M_Mo_isText.2.1 25 = .ok (.iload_n 0, 1) := by decide +kernel
theorem d_Mo_isText_26 : decode M_Mo_isText.2.1 26 = .ok (.sipush 255, 3) := by decide +kernel
theorem d_Mo_isText_29 : decode M_Mo_isText.2.1 29 = .ok (.if_icmp .gt 7, 3) := by decide +kernel
theorem d_Mo_isText_32 : decode M_Mo_isText.2.1 32 = .ok (.iconst 1, 1) := by decide +kernel
theorem d_Mo_isText_33 : decode M_Mo_isText.2.1 33 = .ok (.goto 4, 3) := by decide +kernel
theorem d_Mo_isText_36 : decode M_Mo_isText.2.1 36 = .ok (.iconst 0, 1) := by decide +kernel
theorem d_Mo_isText_37 : decode M_Mo_isText.2.1 37 = .ok (.ireturn, 1) := by decide +kernel
theorem d_Bu_look_0 : decode M_Bu_look.2.1 0 = .ok (.iload_n 1, 1) := by decide +kernel
theorem d_Bu_look_1 : decode M_Bu_look.2.1 1 = .ok (.ifCond .lt 20, 3) := by decide +kernel
theorem d_Bu_look_4 : decode M_Bu_look.2.1 4 = .ok (.iload_n 1, 1) := by decide +kernel
theorem d_Bu_look_5 : decode M_Bu_look.2.1 5 = .ok (.aload_n 0, 1) := by decide +kernel
theorem d_Bu_look_6 : decode M_Bu_look.2.1 6 = .ok (.getfield 15, 3) := by decide +kernel
theorem d_Bu_look_9 : decode M_Bu_look.2.1 9 = .ok (.if_icmp .ge 12, 3) := by decide +kernel
theorem d_Bu_look_12 : decode M_Bu_look.2.1 12 = .ok (.aload_n 0, 1) := by decide +kernel
theorem d_Bu_look_13 : decode M_Bu_look.2.1 13 = .ok (.getfield 9, 3) := by decide +kernel
theorem d_Bu_look_16 : decode M_Bu_look.2.1 16 = .ok (.iload_n 1, 1) := by decide +kernel
theorem d_Bu_look_17 : decode M_Bu_look.2.1 17 = .ok (.iaload, 1) := by decide +kernel
theorem d_Bu_look_18 : decode M_Bu_look.2.1 18 = .ok (.goto 4, 3) := by decide +kernel
theorem d_Bu_look_21 : decode M_Bu_look.2.1 21 = .ok (.iconst (-1), 1) := by decide +kernel
theorem d_Bu_look_22 : decode M_Bu_look.2.1 22 = .ok (.ireturn, 1) := by decide +kernel
theorem d_Ro_has_0 : decode M_Ro_has.2.1 0 = .ok (.iload_n 1, 1) := by decide +kernel
theorem d_Ro_has_1 : decode M_Ro_has.2.1 1 = .ok (.ifCond .lt 15, 3) := by decide +kernel
theorem d_Ro_has_4 : decode M_Ro_has.2.1 4 = .ok (.iload_n 1, 1) := by decide +kernel
theorem d_Ro_has_5 : decode M_Ro_has.2.1 5 = .ok (.aload_n 0, 1) := by decide +kernel
theorem d_Ro_has_6 : decode M_Ro_has.2.1 6 = .ok (.getfield 25, 3) := by decide +kernel
theorem d_Ro_has_9 : decode M_Ro_has.2.1 9 = .ok (.if_icmp .ge 7, 3) := by decide +kernel
theorem d_Ro_has_12 : decode M_Ro_has.2.1 12 = .ok (.iconst 1, 1) := by decide +kernel
theorem d_Ro_has_13 : decode M_Ro_has.2.1 13 = .ok (.goto 4, 3) := by decide +kernel
theorem d_Ro_has_16 : decode M_Ro_has.2.1 16 = .ok (.iconst 0, 1) := by decide +kernel
theorem d_Ro_has_17 : decode M_Ro_has.2.1 17 = .ok (.ireturn, 1) := by decide +kernel
theorem d_Ro_byteAt_0 : decode M_Ro_byteAt.2.1 0 = .ok (.aload_n 0, 1) := by decide +kernel
theorem d_Ro_byteAt_1 : decode M_Ro_byteAt.2.1 1 = .ok (.getfield 22, 3) := by decide +kernel
theorem d_Ro_byteAt_4 : decode M_Ro_byteAt.2.1 4 = .ok (.iload_n 1, 1) := by decide +kernel
theorem d_Ro_byteAt_5 : decode M_Ro_byteAt.2.1 5 = .ok (.bipush 64, 2) := by decide +kernel
theorem d_Ro_byteAt_7 : decode M_Ro_byteAt.2.1 7 = .ok (.imul, 1) := by decide +kernel
theorem d_Ro_byteAt_8 : decode M_Ro_byteAt.2.1 8 = .ok (.iload_n 2, 1) := by decide +kernel
theorem d_Ro_byteAt_9 : decode M_Ro_byteAt.2.1 9 = .ok (.iadd, 1) := by decide +kernel
theorem d_Ro_byteAt_10 : decode M_Ro_byteAt.2.1 10 = .ok (.iaload, 1) := by decide +kernel
theorem d_Ro_byteAt_11 : decode M_Ro_byteAt.2.1 11 = .ok (.ireturn, 1) := by decide +kernel
def cellZ (b : Int) : Int := if 32 ≤ b ∧ b ≤ 126 then 1 else if 128 ≤ b ∧ b ≤ 191 then 2 else 0
def isFormZ (f : Int) : Int := if f = 0 ∨ f = 1 ∨ f = 2 then 1 else 0
def isLetterZ (b : Int) : Int := if 32 ≤ b ∧ b ≠ 124 ∧ b ≠ 127 then 1 else 0
def isTextZ (b : Int) : Int := if (32 ≤ b ∧ b ≤ 126 ∧ b ≠ 124) ∨ (128 ≤ b ∧ b ≤ 255) then 1 else 0
def lookZ (F : Nat → Int) (n : Int) (i : Int) : Int := if 0 ≤ i ∧ i < n then F i.toNat else -1
def hasZ (n i : Int) : Int := if 0 ≤ i ∧ i < n then 1 else 0
theorem zup_all {P : Int → Prop} {F : Nat → Int} {k : Nat} {v : Int} (h : ∀ j, P (F j)) (hv : P v) : ∀ j, P (zup F k v j) := by
  intro j
  unfold zup
  split
  · exact hv
  · exact h j
set_option maxHeartbeats 4000000 in
set_option maxRecDepth 100000 in
theorem c_CB_cellsOf (G : GT) (h : HM) (b : Int) (hb : iR b) : Rn G M_CB_cellsOf (rm 0 0) [.int (iZ b)] h (Pu (.int (iZ (cellZ b))) h) := by
  refine rn_of (by decide) (Nat.le_of_ble_eq_true rfl) ?_
  show Ev G M_CB_cellsOf _ _ 0 [(0, .int (iZ b))] [] _ 0 0
  refine ev_iload_n d_CB_cellsOf_0 rfl rfl ?_
  refine ev_bipush (v := iZ 32) d_CB_cellsOf_1 rfl ?_
  refine ez_icmp_lt (tgt := 14) (by omega) (by decide) d_CB_cellsOf_3 rfl (fun c3 => ?_) (fun c3 => ?_)
  · refine ev_iload_n d_CB_cellsOf_14 rfl rfl ?_
    refine ev_sipush (v := iZ 128) d_CB_cellsOf_15 rfl ?_
    refine ez_icmp_lt (tgt := 32) (by omega) (by decide) d_CB_cellsOf_18 rfl (fun c18 => ?_) (fun c18 => ?_)
    · refine ev_iconst (v := iZ 0) d_CB_cellsOf_32 rfl ?_
      exact ev_ireturn d_CB_cellsOf_33 rfl (by decide) (by decide) (⟨by rw [show (cellZ b : Int) = 0 from by unfold cellZ; (repeat' split) <;> omega], rfl⟩)
    · refine ev_iload_n d_CB_cellsOf_21 rfl rfl ?_
      refine ev_sipush (v := iZ 191) d_CB_cellsOf_22 rfl ?_
      refine ez_icmp_gt (tgt := 32) (by omega) (by decide) d_CB_cellsOf_25 rfl (fun c25 => ?_) (fun c25 => ?_)
      · refine ev_iconst (v := iZ 0) d_CB_cellsOf_32 rfl ?_
        exact ev_ireturn d_CB_cellsOf_33 rfl (by decide) (by decide) (⟨by rw [show (cellZ b : Int) = 0 from by unfold cellZ; (repeat' split) <;> omega], rfl⟩)
      · refine ev_iconst (v := iZ 2) d_CB_cellsOf_28 rfl ?_
        refine ev_goto (tgt := 33) d_CB_cellsOf_29 rfl ?_
        exact ev_ireturn d_CB_cellsOf_33 rfl (by decide) (by decide) (⟨by rw [show (cellZ b : Int) = 2 from by unfold cellZ; (repeat' split) <;> omega], rfl⟩)
  · refine ev_iload_n d_CB_cellsOf_6 rfl rfl ?_
    refine ev_bipush (v := iZ 126) d_CB_cellsOf_7 rfl ?_
    refine ez_icmp_gt (tgt := 14) (by omega) (by decide) d_CB_cellsOf_9 rfl (fun c9 => ?_) (fun c9 => ?_)
    · refine ev_iload_n d_CB_cellsOf_14 rfl rfl ?_
      refine ev_sipush (v := iZ 128) d_CB_cellsOf_15 rfl ?_
      refine ez_icmp_lt (tgt := 32) (by omega) (by decide) d_CB_cellsOf_18 rfl (fun c18 => ?_) (fun c18 => ?_)
      · refine ev_iconst (v := iZ 0) d_CB_cellsOf_32 rfl ?_
        exact ev_ireturn d_CB_cellsOf_33 rfl (by decide) (by decide) (⟨by rw [show (cellZ b : Int) = 0 from by unfold cellZ; (repeat' split) <;> omega], rfl⟩)
      · refine ev_iload_n d_CB_cellsOf_21 rfl rfl ?_
        refine ev_sipush (v := iZ 191) d_CB_cellsOf_22 rfl ?_
        refine ez_icmp_gt (tgt := 32) (by omega) (by decide) d_CB_cellsOf_25 rfl (fun c25 => ?_) (fun c25 => ?_)
        · refine ev_iconst (v := iZ 0) d_CB_cellsOf_32 rfl ?_
          exact ev_ireturn d_CB_cellsOf_33 rfl (by decide) (by decide) (⟨by rw [show (cellZ b : Int) = 0 from by unfold cellZ; (repeat' split) <;> omega], rfl⟩)
        · refine ev_iconst (v := iZ 2) d_CB_cellsOf_28 rfl ?_
          refine ev_goto (tgt := 33) d_CB_cellsOf_29 rfl ?_
          exact ev_ireturn d_CB_cellsOf_33 rfl (by decide) (by decide) (⟨by rw [show (cellZ b : Int) = 2 from by unfold cellZ; (repeat' split) <;> omega], rfl⟩)
    · refine ev_iconst (v := iZ 1) d_CB_cellsOf_12 rfl ?_
      exact ev_ireturn d_CB_cellsOf_13 rfl (by decide) (by decide) (⟨by rw [show (cellZ b : Int) = 1 from by unfold cellZ; (repeat' split) <;> omega], rfl⟩)
set_option maxHeartbeats 4000000 in
set_option maxRecDepth 100000 in
theorem c_Mo_cellsOf (G : GT) (h : HM) (b : Int) (hb : iR b) : Rn G M_Mo_cellsOf (rm 0 0) [.int (iZ b)] h (Pu (.int (iZ (cellZ b))) h) := by
  refine rn_of (by decide) (Nat.le_of_ble_eq_true rfl) ?_
  show Ev G M_Mo_cellsOf _ _ 0 [(0, .int (iZ b))] [] _ 0 0
  refine ev_iload_n d_Mo_cellsOf_0 rfl rfl ?_
  refine ev_bipush (v := iZ 32) d_Mo_cellsOf_1 rfl ?_
  refine ez_icmp_lt (tgt := 16) (by omega) (by decide) d_Mo_cellsOf_3 rfl (fun c3 => ?_) (fun c3 => ?_)
  · refine ev_iload_n d_Mo_cellsOf_16 rfl rfl ?_
    refine ev_sipush (v := iZ 128) d_Mo_cellsOf_17 rfl ?_
    refine ez_icmp_lt (tgt := 34) (by omega) (by decide) d_Mo_cellsOf_20 rfl (fun c20 => ?_) (fun c20 => ?_)
    · refine ev_iconst (v := iZ 0) d_Mo_cellsOf_34 rfl ?_
      exact ev_ireturn d_Mo_cellsOf_35 rfl (by decide) (by decide) (⟨by rw [show (cellZ b : Int) = 0 from by unfold cellZ; (repeat' split) <;> omega], rfl⟩)
    · refine ev_iload_n d_Mo_cellsOf_23 rfl rfl ?_
      refine ev_sipush (v := iZ 191) d_Mo_cellsOf_24 rfl ?_
      refine ez_icmp_gt (tgt := 34) (by omega) (by decide) d_Mo_cellsOf_27 rfl (fun c27 => ?_) (fun c27 => ?_)
      · refine ev_iconst (v := iZ 0) d_Mo_cellsOf_34 rfl ?_
        exact ev_ireturn d_Mo_cellsOf_35 rfl (by decide) (by decide) (⟨by rw [show (cellZ b : Int) = 0 from by unfold cellZ; (repeat' split) <;> omega], rfl⟩)
      · refine ev_iconst (v := iZ 2) d_Mo_cellsOf_30 rfl ?_
        refine ev_goto (tgt := 35) d_Mo_cellsOf_31 rfl ?_
        exact ev_ireturn d_Mo_cellsOf_35 rfl (by decide) (by decide) (⟨by rw [show (cellZ b : Int) = 2 from by unfold cellZ; (repeat' split) <;> omega], rfl⟩)
  · refine ev_iload_n d_Mo_cellsOf_6 rfl rfl ?_
    refine ev_bipush (v := iZ 126) d_Mo_cellsOf_7 rfl ?_
    refine ez_icmp_gt (tgt := 16) (by omega) (by decide) d_Mo_cellsOf_9 rfl (fun c9 => ?_) (fun c9 => ?_)
    · refine ev_iload_n d_Mo_cellsOf_16 rfl rfl ?_
      refine ev_sipush (v := iZ 128) d_Mo_cellsOf_17 rfl ?_
      refine ez_icmp_lt (tgt := 34) (by omega) (by decide) d_Mo_cellsOf_20 rfl (fun c20 => ?_) (fun c20 => ?_)
      · refine ev_iconst (v := iZ 0) d_Mo_cellsOf_34 rfl ?_
        exact ev_ireturn d_Mo_cellsOf_35 rfl (by decide) (by decide) (⟨by rw [show (cellZ b : Int) = 0 from by unfold cellZ; (repeat' split) <;> omega], rfl⟩)
      · refine ev_iload_n d_Mo_cellsOf_23 rfl rfl ?_
        refine ev_sipush (v := iZ 191) d_Mo_cellsOf_24 rfl ?_
        refine ez_icmp_gt (tgt := 34) (by omega) (by decide) d_Mo_cellsOf_27 rfl (fun c27 => ?_) (fun c27 => ?_)
        · refine ev_iconst (v := iZ 0) d_Mo_cellsOf_34 rfl ?_
          exact ev_ireturn d_Mo_cellsOf_35 rfl (by decide) (by decide) (⟨by rw [show (cellZ b : Int) = 0 from by unfold cellZ; (repeat' split) <;> omega], rfl⟩)
        · refine ev_iconst (v := iZ 2) d_Mo_cellsOf_30 rfl ?_
          refine ev_goto (tgt := 35) d_Mo_cellsOf_31 rfl ?_
          exact ev_ireturn d_Mo_cellsOf_35 rfl (by decide) (by decide) (⟨by rw [show (cellZ b : Int) = 2 from by unfold cellZ; (repeat' split) <;> omega], rfl⟩)
    · refine ev_iconst (v := iZ 1) d_Mo_cellsOf_12 rfl ?_
      refine ev_goto (tgt := 35) d_Mo_cellsOf_13 rfl ?_
      exact ev_ireturn d_Mo_cellsOf_35 rfl (by decide) (by decide) (⟨by rw [show (cellZ b : Int) = 1 from by unfold cellZ; (repeat' split) <;> omega], rfl⟩)
set_option maxHeartbeats 4000000 in
set_option maxRecDepth 100000 in
theorem c_CB_isForm (G : GT) (h : HM) (b : Int) (hb : iR b) : Rn G M_CB_isForm (rm 0 0) [.int (iZ b)] h (Pu (.int (iZ (isFormZ b))) h) := by
  refine rn_of (by decide) (Nat.le_of_ble_eq_true rfl) ?_
  show Ev G M_CB_isForm _ _ 0 [(0, .int (iZ b))] [] _ 0 0
  refine ev_iload_n d_CB_isForm_0 rfl rfl ?_
  refine ez_if_eq (tgt := 14) (by omega) d_CB_isForm_1 rfl (fun c1 => ?_) (fun c1 => ?_)
  · refine ev_iconst (v := iZ 1) d_CB_isForm_14 rfl ?_
    refine ev_goto (tgt := 19) d_CB_isForm_15 rfl ?_
    exact ev_zreturn d_CB_isForm_19 rfl (Or.inr rfl) (by decide) (by decide) (⟨by rw [show (isFormZ b : Int) = 1 from by unfold isFormZ; (repeat' split) <;> omega], rfl⟩)
  · refine ev_iload_n d_CB_isForm_4 rfl rfl ?_
    refine ev_iconst (v := iZ 1) d_CB_isForm_5 rfl ?_
    refine ez_icmp_eq (tgt := 14) (by omega) (by decide) d_CB_isForm_6 rfl (fun c6 => ?_) (fun c6 => ?_)
    · refine ev_iconst (v := iZ 1) d_CB_isForm_14 rfl ?_
      refine ev_goto (tgt := 19) d_CB_isForm_15 rfl ?_
      exact ev_zreturn d_CB_isForm_19 rfl (Or.inr rfl) (by decide) (by decide) (⟨by rw [show (isFormZ b : Int) = 1 from by unfold isFormZ; (repeat' split) <;> omega], rfl⟩)
    · refine ev_iload_n d_CB_isForm_9 rfl rfl ?_
      refine ev_iconst (v := iZ 2) d_CB_isForm_10 rfl ?_
      refine ez_icmp_ne (tgt := 18) (by omega) (by decide) d_CB_isForm_11 rfl (fun c11 => ?_) (fun c11 => ?_)
      · refine ev_iconst (v := iZ 0) d_CB_isForm_18 rfl ?_
        exact ev_zreturn d_CB_isForm_19 rfl (Or.inl rfl) (by decide) (by decide) (⟨by rw [show (isFormZ b : Int) = 0 from by unfold isFormZ; (repeat' split) <;> omega], rfl⟩)
      · refine ev_iconst (v := iZ 1) d_CB_isForm_14 rfl ?_
        refine ev_goto (tgt := 19) d_CB_isForm_15 rfl ?_
        exact ev_zreturn d_CB_isForm_19 rfl (Or.inr rfl) (by decide) (by decide) (⟨by rw [show (isFormZ b : Int) = 1 from by unfold isFormZ; (repeat' split) <;> omega], rfl⟩)
set_option maxHeartbeats 4000000 in
set_option maxRecDepth 100000 in
theorem c_Re_isLetter (G : GT) (h : HM) (b : Int) (hb : iR b) : Rn G M_Re_isLetter (rm 0 0) [.int (iZ b)] h (Pu (.int (iZ (isLetterZ b))) h) := by
  refine rn_of (by decide) (Nat.le_of_ble_eq_true rfl) ?_
  show Ev G M_Re_isLetter _ _ 0 [(0, .int (iZ b))] [] _ 0 0
  refine ev_iload_n d_Re_isLetter_0 rfl rfl ?_
  refine ev_bipush (v := iZ 32) d_Re_isLetter_1 rfl ?_
  refine ez_icmp_lt (tgt := 22) (by omega) (by decide) d_Re_isLetter_3 rfl (fun c3 => ?_) (fun c3 => ?_)
  · refine ev_iconst (v := iZ 0) d_Re_isLetter_22 rfl ?_
    exact ev_zreturn d_Re_isLetter_23 rfl (Or.inl rfl) (by decide) (by decide) (⟨by rw [show (isLetterZ b : Int) = 0 from by unfold isLetterZ; (repeat' split) <;> omega], rfl⟩)
  · refine ev_iload_n d_Re_isLetter_6 rfl rfl ?_
    refine ev_bipush (v := iZ 124) d_Re_isLetter_7 rfl ?_
    refine ez_icmp_eq (tgt := 22) (by omega) (by decide) d_Re_isLetter_9 rfl (fun c9 => ?_) (fun c9 => ?_)
    · refine ev_iconst (v := iZ 0) d_Re_isLetter_22 rfl ?_
      exact ev_zreturn d_Re_isLetter_23 rfl (Or.inl rfl) (by decide) (by decide) (⟨by rw [show (isLetterZ b : Int) = 0 from by unfold isLetterZ; (repeat' split) <;> omega], rfl⟩)
    · refine ev_iload_n d_Re_isLetter_12 rfl rfl ?_
      refine ev_bipush (v := iZ 127) d_Re_isLetter_13 rfl ?_
      refine ez_icmp_eq (tgt := 22) (by omega) (by decide) d_Re_isLetter_15 rfl (fun c15 => ?_) (fun c15 => ?_)
      · refine ev_iconst (v := iZ 0) d_Re_isLetter_22 rfl ?_
        exact ev_zreturn d_Re_isLetter_23 rfl (Or.inl rfl) (by decide) (by decide) (⟨by rw [show (isLetterZ b : Int) = 0 from by unfold isLetterZ; (repeat' split) <;> omega], rfl⟩)
      · refine ev_iconst (v := iZ 1) d_Re_isLetter_18 rfl ?_
        refine ev_goto (tgt := 23) d_Re_isLetter_19 rfl ?_
        exact ev_zreturn d_Re_isLetter_23 rfl (Or.inr rfl) (by decide) (by decide) (⟨by rw [show (isLetterZ b : Int) = 1 from by unfold isLetterZ; (repeat' split) <;> omega], rfl⟩)
set_option maxHeartbeats 4000000 in
set_option maxRecDepth 100000 in
theorem c_Mo_isText (G : GT) (h : HM) (b : Int) (hb : iR b) : Rn G M_Mo_isText (rm 0 0) [.int (iZ b)] h (Pu (.int (iZ (isTextZ b))) h) := by
  refine rn_of (by decide) (Nat.le_of_ble_eq_true rfl) ?_
  show Ev G M_Mo_isText _ _ 0 [(0, .int (iZ b))] [] _ 0 0
  refine ev_iload_n d_Mo_isText_0 rfl rfl ?_
  refine ev_bipush (v := iZ 32) d_Mo_isText_1 rfl ?_
  refine ez_icmp_lt (tgt := 18) (by omega) (by decide) d_Mo_isText_3 rfl (fun c3 => ?_) (fun c3 => ?_)
  · refine ev_iload_n d_Mo_isText_18 rfl rfl ?_
    refine ev_sipush (v := iZ 128) d_Mo_isText_19 rfl ?_
    refine ez_icmp_lt (tgt := 36) (by omega) (by decide) d_Mo_isText_22 rfl (fun c22 => ?_) (fun c22 => ?_)
    · refine ev_iconst (v := iZ 0) d_Mo_isText_36 rfl ?_
      exact ev_zreturn d_Mo_isText_37 rfl (Or.inl rfl) (by decide) (by decide) (⟨by rw [show (isTextZ b : Int) = 0 from by unfold isTextZ; (repeat' split) <;> omega], rfl⟩)
    · refine ev_iload_n d_Mo_isText_25 rfl rfl ?_
      refine ev_sipush (v := iZ 255) d_Mo_isText_26 rfl ?_
      refine ez_icmp_gt (tgt := 36) (by omega) (by decide) d_Mo_isText_29 rfl (fun c29 => ?_) (fun c29 => ?_)
      · refine ev_iconst (v := iZ 0) d_Mo_isText_36 rfl ?_
        exact ev_zreturn d_Mo_isText_37 rfl (Or.inl rfl) (by decide) (by decide) (⟨by rw [show (isTextZ b : Int) = 0 from by unfold isTextZ; (repeat' split) <;> omega], rfl⟩)
      · refine ev_iconst (v := iZ 1) d_Mo_isText_32 rfl ?_
        refine ev_goto (tgt := 37) d_Mo_isText_33 rfl ?_
        exact ev_zreturn d_Mo_isText_37 rfl (Or.inr rfl) (by decide) (by decide) (⟨by rw [show (isTextZ b : Int) = 1 from by unfold isTextZ; (repeat' split) <;> omega], rfl⟩)
  · refine ev_iload_n d_Mo_isText_6 rfl rfl ?_
    refine ev_bipush (v := iZ 126) d_Mo_isText_7 rfl ?_
    refine ez_icmp_gt (tgt := 18) (by omega) (by decide) d_Mo_isText_9 rfl (fun c9 => ?_) (fun c9 => ?_)
    · refine ev_iload_n d_Mo_isText_18 rfl rfl ?_
      refine ev_sipush (v := iZ 128) d_Mo_isText_19 rfl ?_
      refine ez_icmp_lt (tgt := 36) (by omega) (by decide) d_Mo_isText_22 rfl (fun c22 => ?_) (fun c22 => ?_)
      · refine ev_iconst (v := iZ 0) d_Mo_isText_36 rfl ?_
        exact ev_zreturn d_Mo_isText_37 rfl (Or.inl rfl) (by decide) (by decide) (⟨by rw [show (isTextZ b : Int) = 0 from by unfold isTextZ; (repeat' split) <;> omega], rfl⟩)
      · refine ev_iload_n d_Mo_isText_25 rfl rfl ?_
        refine ev_sipush (v := iZ 255) d_Mo_isText_26 rfl ?_
        refine ez_icmp_gt (tgt := 36) (by omega) (by decide) d_Mo_isText_29 rfl (fun c29 => ?_) (fun c29 => ?_)
        · refine ev_iconst (v := iZ 0) d_Mo_isText_36 rfl ?_
          exact ev_zreturn d_Mo_isText_37 rfl (Or.inl rfl) (by decide) (by decide) (⟨by rw [show (isTextZ b : Int) = 0 from by unfold isTextZ; (repeat' split) <;> omega], rfl⟩)
        · refine ev_iconst (v := iZ 1) d_Mo_isText_32 rfl ?_
          refine ev_goto (tgt := 37) d_Mo_isText_33 rfl ?_
          exact ev_zreturn d_Mo_isText_37 rfl (Or.inr rfl) (by decide) (by decide) (⟨by rw [show (isTextZ b : Int) = 1 from by unfold isTextZ; (repeat' split) <;> omega], rfl⟩)
    · refine ev_iload_n d_Mo_isText_12 rfl rfl ?_
      refine ev_bipush (v := iZ 124) d_Mo_isText_13 rfl ?_
      refine ez_icmp_ne (tgt := 32) (by omega) (by decide) d_Mo_isText_15 rfl (fun c15 => ?_) (fun c15 => ?_)
      · refine ev_iconst (v := iZ 1) d_Mo_isText_32 rfl ?_
        refine ev_goto (tgt := 37) d_Mo_isText_33 rfl ?_
        exact ev_zreturn d_Mo_isText_37 rfl (Or.inr rfl) (by decide) (by decide) (⟨by rw [show (isTextZ b : Int) = 1 from by unfold isTextZ; (repeat' split) <;> omega], rfl⟩)
      · refine ev_iload_n d_Mo_isText_18 rfl rfl ?_
        refine ev_sipush (v := iZ 128) d_Mo_isText_19 rfl ?_
        refine ez_icmp_lt (tgt := 36) (by omega) (by decide) d_Mo_isText_22 rfl (fun c22 => ?_) (fun c22 => ?_)
        · refine ev_iconst (v := iZ 0) d_Mo_isText_36 rfl ?_
          exact ev_zreturn d_Mo_isText_37 rfl (Or.inl rfl) (by decide) (by decide) (⟨by rw [show (isTextZ b : Int) = 0 from by unfold isTextZ; (repeat' split) <;> omega], rfl⟩)
        · refine ev_iload_n d_Mo_isText_25 rfl rfl ?_
          refine ev_sipush (v := iZ 255) d_Mo_isText_26 rfl ?_
          refine ez_icmp_gt (tgt := 36) (by omega) (by decide) d_Mo_isText_29 rfl (fun c29 => ?_) (fun c29 => ?_)
          · refine ev_iconst (v := iZ 0) d_Mo_isText_36 rfl ?_
            exact ev_zreturn d_Mo_isText_37 rfl (Or.inl rfl) (by decide) (by decide) (⟨by rw [show (isTextZ b : Int) = 0 from by unfold isTextZ; (repeat' split) <;> omega], rfl⟩)
          · refine ev_iconst (v := iZ 1) d_Mo_isText_32 rfl ?_
            refine ev_goto (tgt := 37) d_Mo_isText_33 rfl ?_
            exact ev_zreturn d_Mo_isText_37 rfl (Or.inr rfl) (by decide) (by decide) (⟨by rw [show (isTextZ b : Int) = 1 from by unfold isTextZ; (repeat' split) <;> omega], rfl⟩)
set_option maxHeartbeats 4000000 in
set_option maxRecDepth 100000 in
theorem c_Bu_look (G : GT) (h : HM) (b bb : Nat) (F : Nat → Int) (n i : Int) (hb : h b = some (.inr (1, [.ref bb, .int (iZ n)]))) (hbb : h bb = some (.inl (G_i G, 1000, .inl (iA F)))) (hn : 0 ≤ n ∧ n ≤ 1000) (hi : iR i) : Rn G M_Bu_look (rm 0 0) [.ref b, .int (iZ i)] h (Pu (.int (iZ (lookZ F n i))) h) := by
  refine rn_of (by decide) (Nat.le_of_ble_eq_true rfl) ?_
  show Ev G M_Bu_look _ _ 0 [(0, .ref b), (1, .int (iZ i))] [] _ 0 0
  refine ev_iload_n d_Bu_look_0 rfl rfl ?_
  refine ez_if_lt (tgt := 21) (by omega) d_Bu_look_1 rfl (fun c1 => ?_) (fun c1 => ?_)
  · refine ev_iconst (v := iZ (-1)) d_Bu_look_21 rfl ?_
    exact ev_ireturn d_Bu_look_22 rfl (by decide) (by decide) (⟨by rw [show (lookZ F n i : Int) = (-1) from by unfold lookZ; split <;> first | rfl | omega], rfl⟩)
  · refine ev_iload_n d_Bu_look_4 rfl rfl ?_
    refine ev_aload_n d_Bu_look_5 rfl rfl ?_
    refine ev_get d_Bu_look_6 fl_Bu_15 hb rfl ?_
    refine ez_icmp_ge (tgt := 21) (by omega) (by omega) d_Bu_look_9 rfl (fun c9 => ?_) (fun c9 => ?_)
    · refine ev_iconst (v := iZ (-1)) d_Bu_look_21 rfl ?_
      exact ev_ireturn d_Bu_look_22 rfl (by decide) (by decide) (⟨by rw [show (lookZ F n i : Int) = (-1) from by unfold lookZ; split <;> first | rfl | omega], rfl⟩)
    · refine ev_aload_n d_Bu_look_12 rfl rfl ?_
      refine ev_get d_Bu_look_13 fl_Bu_9 hb rfl ?_
      refine ev_iload_n d_Bu_look_16 rfl rfl ?_
      refine ez_iaload i.toNat d_Bu_look_17 hbb (by omega) (by omega) (by decide) ?_
      refine ev_goto (tgt := 22) d_Bu_look_18 rfl ?_
      exact ev_ireturn d_Bu_look_22 rfl (by decide) (by decide) (⟨by rw [show (lookZ F n i : Int) = F i.toNat from by unfold lookZ; split <;> first | rfl | omega], rfl⟩)
set_option maxHeartbeats 4000000 in
set_option maxRecDepth 100000 in
theorem c_Ro_has (G : GT) (h : HM) (r a1 a2 a3 a4 : Nat) (n i : Int) (hr : h r = some (.inr (2, [.ref a1, .ref a2, .ref a3, .ref a4, .int (iZ n)]))) (hn : 0 ≤ n ∧ n ≤ 16) (hi : iR i) : Rn G M_Ro_has (rm 0 0) [.ref r, .int (iZ i)] h (Pu (.int (iZ (hasZ n i))) h) := by
  refine rn_of (by decide) (Nat.le_of_ble_eq_true rfl) ?_
  show Ev G M_Ro_has _ _ 0 [(0, .ref r), (1, .int (iZ i))] [] _ 0 0
  refine ev_iload_n d_Ro_has_0 rfl rfl ?_
  refine ez_if_lt (tgt := 16) (by omega) d_Ro_has_1 rfl (fun c1 => ?_) (fun c1 => ?_)
  · refine ev_iconst (v := iZ 0) d_Ro_has_16 rfl ?_
    exact ev_zreturn d_Ro_has_17 rfl (Or.inl rfl) (by decide) (by decide) (⟨by rw [show (hasZ n i : Int) = 0 from by unfold hasZ; (repeat' split) <;> omega], rfl⟩)
  · refine ev_iload_n d_Ro_has_4 rfl rfl ?_
    refine ev_aload_n d_Ro_has_5 rfl rfl ?_
    refine ev_get d_Ro_has_6 fl_Ro_25 hr rfl ?_
    refine ez_icmp_ge (tgt := 16) (by omega) (by omega) d_Ro_has_9 rfl (fun c9 => ?_) (fun c9 => ?_)
    · refine ev_iconst (v := iZ 0) d_Ro_has_16 rfl ?_
      exact ev_zreturn d_Ro_has_17 rfl (Or.inl rfl) (by decide) (by decide) (⟨by rw [show (hasZ n i : Int) = 0 from by unfold hasZ; (repeat' split) <;> omega], rfl⟩)
    · refine ev_iconst (v := iZ 1) d_Ro_has_12 rfl ?_
      refine ev_goto (tgt := 17) d_Ro_has_13 rfl ?_
      exact ev_zreturn d_Ro_has_17 rfl (Or.inr rfl) (by decide) (by decide) (⟨by rw [show (hasZ n i : Int) = 1 from by unfold hasZ; (repeat' split) <;> omega], rfl⟩)
set_option maxHeartbeats 4000000 in
set_option maxRecDepth 100000 in
theorem c_Ro_byteAt (G : GT) (h : HM) (r a1 a2 a3 a4 : Nat) (n : Int) (F : Nat → Int) (i j : Nat) (hr : h r = some (.inr (2, [.ref a1, .ref a2, .ref a3, .ref a4, .int (iZ n)]))) (h4 : h a4 = some (.inl (G_i G, 1024, .inl (iA F)))) (hj : i * 64 + j < 1024) : Rn G M_Ro_byteAt (rm 0 0) [.ref r, .int (iZ (i : Int)), .int (iZ (j : Int))] h (Pu (.int (iZ (F (i * 64 + j)))) h) := by
  refine rn_of (by decide) (Nat.le_of_ble_eq_true rfl) ?_
  show Ev G M_Ro_byteAt _ _ 0 [(0, .ref r), (1, .int (iZ (i : Int))), (2, .int (iZ (j : Int)))] [] _ 0 0
  refine ev_aload_n d_Ro_byteAt_0 rfl rfl ?_
  refine ev_get d_Ro_byteAt_1 fl_Ro_22 hr rfl ?_
  refine ev_iload_n d_Ro_byteAt_4 rfl rfl ?_
  refine ev_bipush (v := iZ 64) d_Ro_byteAt_5 rfl ?_
  refine ez_imul d_Ro_byteAt_7 ?_
  refine ev_iload_n d_Ro_byteAt_8 rfl rfl ?_
  refine ez_iadd d_Ro_byteAt_9 ?_
  refine ez_iaload (i * 64 + j) d_Ro_byteAt_10 h4 (by omega) (by omega) (by decide) ?_
  exact ev_ireturn d_Ro_byteAt_11 rfl (by decide) (by decide) (⟨rfl, rfl⟩)
