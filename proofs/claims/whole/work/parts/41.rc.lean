theorem d_Ro_add_0 : decode M_Ro_add.2.1 0 = .ok (.aload_n 0, 1) := by decide +kernel
theorem d_Ro_add_1 : decode M_Ro_add.2.1 1 = .ok (.getfield 25, 3) := by decide +kernel
theorem d_Ro_add_4 : decode M_Ro_add.2.1 4 = .ok (.bipush 16, 2) := by decide +kernel
theorem d_Ro_add_6 : decode M_Ro_add.2.1 6 = .ok (.if_icmp .eq 17, 3) := by decide +kernel
theorem d_Ro_add_9 : decode M_Ro_add.2.1 9 = .ok (.lload_n 3, 1) := by decide +kernel
theorem d_Ro_add_10 : decode M_Ro_add.2.1 10 = .ok (.lload_n 1, 1) := by decide +kernel
theorem d_Ro_add_11 : decode M_Ro_add.2.1 11 = .ok (.lcmp, 1) := by decide +kernel
theorem d_Ro_add_12 : decode M_Ro_add.2.1 12 = .ok (.ifCond .le 11, 3) := by decide +kernel
theorem d_Ro_add_15 : decode M_Ro_add.2.1 15 = .ok (.lload_n 3, 1) := by decide +kernel
theorem d_Ro_add_16 : decode M_Ro_add.2.1 16 = .ok (.ldc2_w 50, 3) := by decide +kernel
theorem d_Ro_add_19 : decode M_Ro_add.2.1 19 = .ok (.lcmp, 1) := by decide +kernel
theorem d_Ro_add_20 : decode M_Ro_add.2.1 20 = .ok (.ifCond .le 5, 3) := by decide +kernel
theorem d_Ro_add_23 : decode M_Ro_add.2.1 23 = .ok (.iconst 0, 1) := by decide +kernel
theorem d_Ro_add_24 : decode M_Ro_add.2.1 24 = .ok (.ireturn, 1) := by decide +kernel
theorem d_Ro_add_25 : decode M_Ro_add.2.1 25 = .ok (.aload_n 0, 1) := by decide +kernel
theorem d_Ro_add_26 : decode M_Ro_add.2.1 26 = .ok (.getfield 25, 3) := by decide +kernel
theorem d_Ro_add_29 : decode M_Ro_add.2.1 29 = .ok (.ifCond .le 21, 3) := by decide +kernel
theorem d_Ro_add_32 : decode M_Ro_add.2.1 32 = .ok (.lload_n 1, 1) := by decide +kernel
theorem d_Ro_add_33 : decode M_Ro_add.2.1 33 = .ok (.aload_n 0, 1) := by decide +kernel
theorem d_Ro_add_34 : decode M_Ro_add.2.1 34 = .ok (.getfield 9, 3) := by decide +kernel
theorem d_Ro_add_37 : decode M_Ro_add.2.1 37 = .ok (.aload_n 0, 1) := by decide +kernel
theorem d_Ro_add_38 : decode M_Ro_add.2.1 38 = .ok (.getfield 25, 3) := by decide +kernel
theorem d_Ro_add_41 : decode M_Ro_add.2.1 41 = .ok (.iconst 1, 1) := by decide +kernel
theorem d_Ro_add_42 : decode M_Ro_add.2.1 42 = .ok (.isub, 1) := by decide +kernel
theorem d_Ro_add_43 : decode M_Ro_add.2.1 43 = .ok (.laload, 1) := by decide +kernel
theorem d_Ro_add_44 : decode M_Ro_add.2.1 44 = .ok (.lcmp, 1) := by decide +kernel
theorem d_Ro_add_45 : decode M_Ro_add.2.1 45 = .ok (.ifCond .ge 5, 3) := by decide +kernel
theorem d_Ro_add_48 : decode M_Ro_add.2.1 48 = .ok (.iconst 0, 1) := by decide +kernel
theorem d_Ro_add_49 : decode M_Ro_add.2.1 49 = .ok (.ireturn, 1) := by decide +kernel
theorem d_Ro_add_50 : decode M_Ro_add.2.1 50 = .ok (.aload_n 0, 1) := by decide +kernel
theorem d_Ro_add_51 : decode M_Ro_add.2.1 51 = .ok (.getfield 9, 3) := by decide +kernel
theorem d_Ro_add_54 : decode M_Ro_add.2.1 54 = .ok (.aload_n 0, 1) := by decide +kernel
theorem d_Ro_add_55 : decode M_Ro_add.2.1 55 = .ok (.getfield 25, 3) := by decide +kernel
theorem d_Ro_add_58 : decode M_Ro_add.2.1 58 = .ok (.lload_n 1, 1) := by decide +kernel
theorem d_Ro_add_59 : decode M_Ro_add.2.1 59 = .ok (.lastore, 1) := by decide +kernel
theorem d_Ro_add_60 : decode M_Ro_add.2.1 60 = .ok (.aload_n 0, 1) := by decide +kernel
theorem d_Ro_add_61 : decode M_Ro_add.2.1 61 = .ok (.getfield 15, 3) := by decide +kernel
theorem d_Ro_add_64 : decode M_Ro_add.2.1 64 = .ok (.aload_n 0, 1) := by decide +kernel
theorem d_Ro_add_65 : decode M_Ro_add.2.1 65 = .ok (.getfield 25, 3) := by decide +kernel
theorem d_Ro_add_68 : decode M_Ro_add.2.1 68 = .ok (.lload_n 3, 1) := by decide +kernel
theorem d_Ro_add_69 : decode M_Ro_add.2.1 69 = .ok (.lastore, 1) := by decide +kernel
theorem d_Ro_add_70 : decode M_Ro_add.2.1 70 = .ok (.aload_n 0, 1) := by decide +kernel
theorem d_Ro_add_71 : decode M_Ro_add.2.1 71 = .ok (.getfield 18, 3) := by decide +kernel
theorem d_Ro_add_74 : decode M_Ro_add.2.1 74 = .ok (.aload_n 0, 1) := by decide +kernel
theorem d_Ro_add_75 : decode M_Ro_add.2.1 75 = .ok (.getfield 25, 3) := by decide +kernel
theorem d_Ro_add_78 : decode M_Ro_add.2.1 78 = .ok (.iload 6, 2) := by decide +kernel
theorem d_Ro_add_80 : decode M_Ro_add.2.1 80 = .ok (.iastore, 1) := by decide +kernel
theorem d_Ro_add_81 : decode M_Ro_add.2.1 81 = .ok (.aload 5, 2) := by decide +kernel
theorem d_Ro_add_83 : decode M_Ro_add.2.1 83 = .ok (.iconst 0, 1) := by decide +kernel
theorem d_Ro_add_84 : decode M_Ro_add.2.1 84 = .ok (.aload_n 0, 1) := by decide +kernel
theorem d_Ro_add_85 : decode M_Ro_add.2.1 85 = .ok (.getfield 22, 3) := by decide +kernel
theorem d_Ro_add_88 : decode M_Ro_add.2.1 88 = .ok (.aload_n 0, 1) := by decide +kernel
theorem d_Ro_add_89 : decode M_Ro_add.2.1 89 = .ok (.getfield 25, 3) := by decide +kernel
theorem d_Ro_add_92 : decode M_Ro_add.2.1 92 = .ok (.bipush 64, 2) := by decide +kernel
theorem d_Ro_add_94 : decode M_Ro_add.2.1 94 = .ok (.imul, 1) := by decide +kernel
theorem d_Ro_add_95 : decode M_Ro_add.2.1 95 = .ok (.iload 6, 2) := by decide +kernel
theorem d_Ro_add_97 : decode M_Ro_add.2.1 97 = .ok (.invokestatic 44, 3) := by decide +kernel
theorem d_Ro_add_100 : decode M_Ro_add.2.1 100 = .ok (.aload_n 0, 1) := by decide +kernel
theorem d_Ro_add_101 : decode M_Ro_add.2.1 101 = .ok (.dup, 1) := by decide +kernel
theorem d_Ro_add_102 : decode M_Ro_add.2.1 102 = .ok (.getfield 25, 3) := by decide +kernel
theorem d_Ro_add_105 : decode M_Ro_add.2.1 105 = .ok (.iconst 1, 1) := by decide +kernel
theorem d_Ro_add_106 : decode M_Ro_add.2.1 106 = .ok (.iadd, 1) := by decide +kernel
theorem d_Ro_add_107 : decode M_Ro_add.2.1 107 = .ok (.putfield 25, 3) := by decide +kernel
theorem d_Ro_add_110 : decode M_Ro_add.2.1 110 = .ok (.iconst 1, 1) := by decide +kernel
theorem d_Ro_add_111 : decode M_Ro_add.2.1 111 = .ok (.ireturn, 1) := by decide +kernel
theorem d_Re_findFault_0 : decode M_Re_findFault.2.1 0 = .ok (.aload_n 0, 1) := by decide +kernel
theorem d_Re_findFault_1 : decode M_Re_findFault.2.1 1 = .ok (.getfield 12, 3) := by decide +kernel
theorem d_Re_findFault_4 : decode M_Re_findFault.2.1 4 = .ok (.iconst 0, 1) := by decide +kernel
theorem d_Re_findFault_5 : decode M_Re_findFault.2.1 5 = .ok (.putfield 30, 3) := by decide +kernel
theorem d_Re_findFault_8 : decode M_Re_findFault.2.1 8 = .ok (.aload_n 0, 1) := by decide +kernel
theorem d_Re_findFault_9 : decode M_Re_findFault.2.1 9 = .ok (.iconst 0, 1) := by decide +kernel
theorem d_Re_findFault_10 : decode M_Re_findFault.2.1 10 = .ok (.putfield 34, 3) := by decide +kernel
theorem d_Re_findFault_13 : decode M_Re_findFault.2.1 13 = .ok (.iconst 0, 1) := by decide +kernel
theorem d_Re_findFault_14 : decode M_Re_findFault.2.1 14 = .ok (.istore_n 2, 1) := by decide +kernel
theorem d_Re_findFault_15 : decode M_Re_findFault.2.1 15 = .ok (.iload_n 2, 1) := by decide +kernel
theorem d_Re_findFault_16 : decode M_Re_findFault.2.1 16 = .ok (.bipush 16, 2) := by decide +kernel
theorem d_Re_findFault_18 : decode M_Re_findFault.2.1 18 = .ok (.if_icmp .gt 79, 3) := by decide +kernel
theorem d_Re_findFault_21 : decode M_Re_findFault.2.1 21 = .ok (.aload_n 0, 1) := by decide +kernel
theorem d_Re_findFault_22 : decode M_Re_findFault.2.1 22 = .ok (.getfield 34, 3) := by decide +kernel
theorem d_Re_findFault_25 : decode M_Re_findFault.2.1 25 = .ok (.aload_n 0, 1) := by decide +kernel
theorem d_Re_findFault_26 : decode M_Re_findFault.2.1 26 = .ok (.getfield 22, 3) := by decide +kernel
theorem d_Re_findFault_29 : decode M_Re_findFault.2.1 29 = .ok (.getfield 37, 3) := by decide +kernel
theorem d_Re_findFault_32 : decode M_Re_findFault.2.1 32 = .ok (.if_icmp .ge 65, 3) := by decide +kernel
theorem d_Re_findFault_35 : decode M_Re_findFault.2.1 35 = .ok (.aload_n 0, 1) := by decide +kernel
theorem d_Re_findFault_36 : decode M_Re_findFault.2.1 36 = .ok (.getfield 34, 3) := by decide +kernel
theorem d_Re_findFault_39 : decode M_Re_findFault.2.1 39 = .ok (.istore_n 3, 1) := by decide +kernel
theorem d_Re_findFault_40 : decode M_Re_findFault.2.1 40 = .ok (.aload_n 0, 1) := by decide +kernel
theorem d_Re_findFault_41 : decode M_Re_findFault.2.1 41 = .ok (.iconst 0, 1) := by decide +kernel
theorem d_Re_findFault_42 : decode M_Re_findFault.2.1 42 = .ok (.putfield 42, 3) := by decide +kernel
theorem d_Re_findFault_45 : decode M_Re_findFault.2.1 45 = .ok (.aload_n 0, 1) := by decide +kernel
theorem d_Re_findFault_46 : decode M_Re_findFault.2.1 46 = .ok (.iconst 0, 1) := by decide +kernel
theorem d_Re_findFault_47 : decode M_Re_findFault.2.1 47 = .ok (.putfield 43, 3) := by decide +kernel
theorem d_Re_findFault_50 : decode M_Re_findFault.2.1 50 = .ok (.aload_n 0, 1) := by decide +kernel
theorem d_Re_findFault_51 : decode M_Re_findFault.2.1 51 = .ok (.iload_n 1, 1) := by decide +kernel
theorem d_Re_findFault_52 : decode M_Re_findFault.2.1 52 = .ok (.invokevirtual 47, 3) := by decide +kernel
theorem d_Re_findFault_55 : decode M_Re_findFault.2.1 55 = .ok (.ifCond .ne 8, 3) := by decide +kernel
theorem d_Re_findFault_58 : decode M_Re_findFault.2.1 58 = .ok (.aload_n 0, 1) := by decide +kernel
theorem d_Re_findFault_59 : decode M_Re_findFault.2.1 59 = .ok (.getfield 34, 3) := by decide +kernel
theorem d_Re_findFault_62 : decode M_Re_findFault.2.1 62 = .ok (.ireturn, 1) := by decide +kernel
theorem d_Re_findFault_63 : decode M_Re_findFault.2.1 63 = .ok (.aload_n 0, 1) := by decide +kernel
theorem d_Re_findFault_64 : decode M_Re_findFault.2.1 64 = .ok (.getfield 12, 3) := by decide +kernel
theorem d_Re_findFault_67 : decode M_Re_findFault.2.1 67 = .ok (.aload_n 0, 1) := by decide +kernel
theorem d_Re_findFault_68 : decode M_Re_findFault.2.1 68 = .ok (.getfield 51, 3) := by decide +kernel
theorem d_Re_findFault_71 : decode M_Re_findFault.2.1 71 = .ok (.aload_n 0, 1) := by decide +kernel
theorem d_Re_findFault_72 : decode M_Re_findFault.2.1 72 = .ok (.getfield 55, 3) := by decide +kernel
theorem d_Re_findFault_75 : decode M_Re_findFault.2.1 75 = .ok (.aload_n 0, 1) := by decide +kernel
theorem d_Re_findFault_76 : decode M_Re_findFault.2.1 76 = .ok (.getfield 18, 3) := by decide +kernel
theorem d_Re_findFault_79 : decode M_Re_findFault.2.1 79 = .ok (.aload_n 0, 1) := by decide +kernel
theorem d_Re_findFault_80 : decode M_Re_findFault.2.1 80 = .ok (.getfield 42, 3) := by decide +kernel
theorem d_Re_findFault_83 : decode M_Re_findFault.2.1 83 = .ok (.invokevirtual 58, 3) := by decide +kernel
theorem d_Re_findFault_86 : decode M_Re_findFault.2.1 86 = .ok (.ifCond .ne 5, 3) := by decide +kernel
theorem d_Re_findFault_89 : decode M_Re_findFault.2.1 89 = .ok (.iload_n 3, 1) := by decide +kernel
theorem d_Re_findFault_90 : decode M_Re_findFault.2.1 90 = .ok (.ireturn, 1) := by decide +kernel
theorem d_Re_findFault_91 : decode M_Re_findFault.2.1 91 = .ok (.iinc 2 1, 3) := by decide +kernel
theorem d_Re_findFault_94 : decode M_Re_findFault.2.1 94 = .ok (.goto (-79), 3) := by decide +kernel
theorem d_Re_findFault_97 : decode M_Re_findFault.2.1 97 = .ok (.iconst (-1), 1) := by decide +kernel
theorem d_Re_findFault_98 : decode M_Re_findFault.2.1 98 = .ok (.ireturn, 1) := by decide +kernel
theorem d_CB_read_0 : decode M_CB_read.2.1 0 = .ok (.iload_n 1, 1) := by decide +kernel
theorem d_CB_read_1 : decode M_CB_read.2.1 1 = .ok (.invokestatic 96, 3) := by decide +kernel
theorem d_CB_read_4 : decode M_CB_read.2.1 4 = .ok (.ifCond .ne 6, 3) := by decide +kernel
theorem d_CB_read_7 : decode M_CB_read.2.1 7 = .ok (.bipush (-2), 2) := by decide +kernel
theorem d_CB_read_9 : decode M_CB_read.2.1 9 = .ok (.ireturn, 1) := by decide +kernel
theorem d_CB_read_10 : decode M_CB_read.2.1 10 = .ok (.aload_n 0, 1) := by decide +kernel
theorem d_CB_read_11 : decode M_CB_read.2.1 11 = .ok (.getfield 49, 3) := by decide +kernel
theorem d_CB_read_14 : decode M_CB_read.2.1 14 = .ok (.iload_n 1, 1) := by decide +kernel
theorem d_CB_read_15 : decode M_CB_read.2.1 15 = .ok (.invokevirtual 100, 3) := by decide +kernel
theorem d_CB_read_18 : decode M_CB_read.2.1 18 = .ok (.istore_n 2, 1) := by decide +kernel
theorem d_CB_read_19 : decode M_CB_read.2.1 19 = .ok (.iload_n 2, 1) := by decide +kernel
theorem d_CB_read_20 : decode M_CB_read.2.1 20 = .ok (.iconst (-1), 1) := by decide +kernel
theorem d_CB_read_21 : decode M_CB_read.2.1 21 = .ok (.if_icmp .eq 8, 3) := by decide +kernel
theorem d_CB_read_24 : decode M_CB_read.2.1 24 = .ok (.bipush (-10), 2) := by decide +kernel
theorem d_CB_read_26 : decode M_CB_read.2.1 26 = .ok (.iload_n 2, 1) := by decide +kernel
theorem d_CB_read_27 : decode M_CB_read.2.1 27 = .ok (.isub, 1) := by decide +kernel
theorem d_CB_read_28 : decode M_CB_read.2.1 28 = .ok (.ireturn, 1) := by decide +kernel
theorem d_CB_read_29 : decode M_CB_read.2.1 29 = .ok (.aload_n 0, 1) := by decide +kernel
theorem d_CB_read_30 : decode M_CB_read.2.1 30 = .ok (.getfield 40, 3) := by decide +kernel
theorem d_CB_read_33 : decode M_CB_read.2.1 33 = .ok (.aload_n 0, 1) := by decide +kernel
theorem d_CB_read_34 : decode M_CB_read.2.1 34 = .ok (.getfield 33, 3) := by decide +kernel
theorem d_CB_read_37 : decode M_CB_read.2.1 37 = .ok (.invokevirtual 103, 3) := by decide +kernel
theorem d_CB_read_40 : decode M_CB_read.2.1 40 = .ok (.aload_n 0, 1) := by decide +kernel
theorem d_CB_read_41 : decode M_CB_read.2.1 41 = .ok (.getfield 33, 3) := by decide +kernel
theorem d_CB_read_44 : decode M_CB_read.2.1 44 = .ok (.aload_n 0, 1) := by decide +kernel
theorem d_CB_read_45 : decode M_CB_read.2.1 45 = .ok (.getfield 49, 3) := by decide +kernel
theorem d_CB_read_48 : decode M_CB_read.2.1 48 = .ok (.getfield 106, 3) := by decide +kernel
theorem d_CB_read_51 : decode M_CB_read.2.1 51 = .ok (.invokevirtual 109, 3) := by decide +kernel
theorem d_CB_read_54 : decode M_CB_read.2.1 54 = .ok (.aload_n 0, 1) := by decide +kernel
theorem d_CB_read_55 : decode M_CB_read.2.1 55 = .ok (.getfield 33, 3) := by decide +kernel
theorem d_CB_read_58 : decode M_CB_read.2.1 58 = .ok (.getfield 112, 3) := by decide +kernel
theorem d_CB_read_61 : decode M_CB_read.2.1 61 = .ok (.ireturn, 1) := by decide +kernel
theorem mq_get {F : Nat → Int} {n : Nat} : ∀ {A : List (Int × Int)} {p : Nat}, (mq F n A p).2 = true → ∀ (j : Nat) (a : Int × Int), A[j]? = some a → a.1 ≤ lk F n (p + j) ∧ lk F n (p + j) ≤ a.2 := by
  intro A
  induction A with
  | nil => intro p _ j a h; simp at h
  | cons b t ih =>
    intro p h j a ha
    rw [mq] at h
    split at h
    · rename_i q
      cases j with
      | zero =>
        rw [List.getElem?_cons_zero] at ha
        cases ha
        exact q
      | succ j =>
        rw [List.getElem?_cons_succ] at ha
        have := ih h j a ha
        rw [show p + (j + 1) = p + 1 + j from by omega]
        exact this
    · cases h
def tok (T : List Int) : Prop := T.length ≤ 64 ∧ ∀ x ∈ T, 0 ≤ x ∧ x ≤ 255
theorem tok_nil : tok [] := ⟨by decide, fun x h => by cases h⟩
theorem tok_lad {T : List Int} {br : Bool} {b : Int} (hb : lok b T br) (hr : b ≤ 255) (h : tok T) : tok (lad T br b) ∧ 1 ≤ (lad T br b).length := by
  obtain ⟨⟨h1, _, _⟩, h2⟩ := hb
  refine ⟨⟨?_, ?_⟩, ?_⟩
  · cases br <;> simp [lad] at h2 ⊢ <;> omega
  · intro x hx
    unfold lad at hx
    rw [List.mem_append] at hx
    rcases hx with hx | hx
    · exact h.2 x hx
    · cases br <;> simp at hx <;> omega
  · have := lad_l (T := T) (br := br) (b := b)
    have := bz_r br
    omega
theorem tx0_r {F : Nat → Int} {n : Nat} (hF : ∀ k, 0 ≤ F k ∧ F k ≤ 255) : ∀ (g p : Nat) (T : List Int) (br : Bool), tok T → p ≤ n → p ≤ (tx0 F n g p T br).1 ∧ (tx0 F n g p T br).1 ≤ n ∧ ∀ T', (tx0 F n g p T br).2 = some T' → tok T' ∧ 1 ≤ T'.length := by
  intro g
  induction g with
  | zero => intro p T br _ hp; exact ⟨Nat.le_refl _, hp, fun T' h => by cases h⟩
  | succ g ih =>
    intro p T br hT hp
    have hl := lk_r (n := n) hF p
    rw [tx0]
    split
    · rename_i q
      have lp := lk_p (F := F) (n := n) (p := p) (by omega)
      split
      · exact ⟨Nat.le_refl _, hp, fun T' h => by cases h⟩
      · split
        · exact ⟨Nat.le_succ _, lp, fun T' h => by cases h; exact ⟨hT, by omega⟩⟩
        · have := ih (p + 1) T true hT (by omega)
          exact ⟨by omega, this.2⟩
    · split
      · rename_i q q2
        have lp := lk_p (F := F) (n := n) (p := p) (by have := q2.1.1; omega)
        have := ih (p + 1) (lad T br (lk F n p)) false (tok_lad q2 hl.2 hT).1 (by omega)
        exact ⟨by omega, this.2⟩
      · exact ⟨Nat.le_refl _, hp, fun T' h => by cases h⟩
theorem tx1_r {F : Nat → Int} {n : Nat} (hF : ∀ k, 0 ≤ F k ∧ F k ≤ 255) : ∀ (g p : Nat) (T : List Int) (br : Bool), tok T → p ≤ n → p ≤ (tx1 F n g p T br).1 ∧ (tx1 F n g p T br).1 ≤ n ∧ ∀ T', (tx1 F n g p T br).2 = some T' → tok T' ∧ 1 ≤ T'.length := by
  intro g
  induction g with
  | zero => intro p T br _ hp; exact ⟨Nat.le_refl _, hp, fun T' h => by cases h⟩
  | succ g ih =>
    intro p T br hT hp
    have hl := lk_r (n := n) hF p
    rw [tx1]
    split
    · rename_i q
      have lp := lk_p (F := F) (n := n) (p := p) (by omega)
      split
      · exact ⟨Nat.le_refl _, hp, fun T' h => by cases h⟩
      · rename_i q2
        exact ⟨Nat.le_succ _, lp, fun T' h => by cases h; exact ⟨hT, by have : T.length ≠ 0 := fun w => q2 (Or.inl w); omega⟩⟩
    · split
      · rename_i q
        have lp := lk_p (F := F) (n := n) (p := p) (by omega)
        split
        · have := ih (p + 1) T true hT (by omega)
          exact ⟨by omega, this.2⟩
        · exact ⟨Nat.le_refl _, hp, fun T' h => by cases h⟩
      · split
        · rename_i q q2 q3
          have lp := lk_p (F := F) (n := n) (p := p) (by have := q3.1.1; omega)
          have := ih (p + 1) (lad T br (lk F n p)) false (tok_lad q3 hl.2 hT).1 (by omega)
          exact ⟨by omega, this.2⟩
        · exact ⟨Nat.le_refl _, hp, fun T' h => by cases h⟩
theorem tx2_r {F : Nat → Int} {n : Nat} {z : Int} (hF : ∀ k, 0 ≤ F k ∧ F k ≤ 255) : ∀ (g : Nat) (k : Int) (p : Nat) (T : List Int) (br : Bool), tok T → p ≤ n → (1 ≤ T.length ∨ (br = false ∧ 1 ≤ g)) → p ≤ (tx2 F n z g k p T br).1 ∧ (tx2 F n z g k p T br).1 ≤ n ∧ ∀ T', (tx2 F n z g k p T br).2 = some T' → tok T' ∧ 1 ≤ T'.length := by
  intro g
  induction g with
  | zero => intro k p T br hT hp h1; exact ⟨Nat.le_refl _, hp, fun T' h => by cases h; exact ⟨hT, by omega⟩⟩
  | succ g ih =>
    intro k p T br hT hp h1
    have hl := lk_r (n := n) hF p
    rw [tx2]
    split
    · rename_i q
      have lp := lk_p (F := F) (n := n) (p := p) (by omega)
      split
      · rename_i q2
        have := ih (k + 1) (p + 1) T true hT (by omega) (Or.inl (by have := q2.2.1; omega))
        exact ⟨by omega, this.2⟩
      · exact ⟨Nat.le_refl _, hp, fun T' h => by cases h⟩
    · split
      · rename_i q q2
        have lp := lk_p (F := F) (n := n) (p := p) (by have := q2.1.1; omega)
        have tl := tok_lad q2 hl.2 hT
        have := ih (k + 1) (p + 1) (lad T br (lk F n p)) false tl.1 (by omega) (Or.inl tl.2)
        exact ⟨by omega, this.2⟩
      · exact ⟨Nat.le_refl _, hp, fun T' h => by cases h⟩
theorem txP_r {f : Int} {F : Nat → Int} {n p : Nat} (hF : ∀ k, 0 ≤ F k ∧ F k ≤ 255) (hp : p ≤ n) : p ≤ (txP f F n p).1 ∧ (txP f F n p).1 ≤ n ∧ ∀ T', (txP f F n p).2 = some T' → tok T' ∧ 1 ≤ T'.length := by
  unfold txP
  split
  · exact tx0_r hF _ _ _ _ tok_nil hp
  · split
    · exact tx1_r hF _ _ _ _ tok_nil hp
    · unfold tx2s
      split
      · rename_i q
        have lp := lk_p (F := F) (n := n) (p := p) (by omega)
        have := tx2_r (n := n) (z := lk F n p) hF (lk F n p).toNat 0 (p + 1) [] false tok_nil (by omega) (Or.inr ⟨rfl, by omega⟩)
        exact ⟨by omega, this.2⟩
      · exact ⟨Nat.le_refl _, hp, fun T' h => by cases h⟩
theorem hP_le {f : Int} {F : Nat → Int} {n p : Nat} (hp : p ≤ n) : p ≤ (hP f F n p).1 ∧ (hP f F n p).1 ≤ n := by
  unfold hP
  split
  · exact mq_le (by decide) hp
  · split
    · have a := frP_le (F := F) (n := n) (p := p) hp
      split
      · have b := frP_le (F := F) (n := n) (p := (frP F n p).1) a.2
        omega
      · exact a
    · exact mq_le (by decide) hp
theorem clk_r {F : Nat → Int} {n p : Nat} (h : ∀ j, j = 0 ∨ j = 1 ∨ j = 3 ∨ j = 4 ∨ j = 6 ∨ j = 7 ∨ j = 9 ∨ j = 10 ∨ j = 11 → 48 ≤ lk F n (p + j) ∧ lk F n (p + j) ≤ 57) : 0 ≤ clk F n p ∧ clk F n p ≤ 1000000000000000 := by
  have a0 := h 0 (by simp)
  have a1 := h 1 (by simp)
  have a3 := h 3 (by simp)
  have a4 := h 4 (by simp)
  have a6 := h 6 (by simp)
  have a7 := h 7 (by simp)
  have a9 := h 9 (by simp)
  have a10 := h 10 (by simp)
  have a11 := h 11 (by simp)
  unfold clk v60
  rw [Nat.add_zero] at a0
  simp only [Nat.add_assoc, Nat.reduceAdd] at *
  omega
theorem sxv_r {F : Nat → Int} {n p : Nat} (h : ∀ j, j < 6 → 0 ≤ lk F n (p + j) ∧ lk F n (p + j) ≤ 255) : 0 ≤ sxv F n 6 p 0 ∧ sxv F n 6 p 0 ≤ 1000000000000000 := by
  have a0 := h 0 (by omega)
  have a1 := h 1 (by omega)
  have a2 := h 2 (by omega)
  have a3 := h 3 (by omega)
  have a4 := h 4 (by omega)
  have a5 := h 5 (by omega)
  simp only [sxv]
  rw [Nat.add_zero] at a0
  simp only [Nat.add_assoc, Nat.reduceAdd] at *
  omega
theorem dv_r {F : Nat → Int} {n : Nat} : ∀ (k p : Nat) (a b : Int), 0 ≤ a → a ≤ b → 0 ≤ dv F n k p a ∧ dv F n k p a ≤ (b + 1) * 10 ^ k - 1 := by
  intro k
  induction k with
  | zero => intro p a b h1 h2; rw [dv]; omega
  | succ k ih =>
    intro p a b h1 h2
    rw [dv]
    split
    · rename_i q
      have q1 : 48 ≤ lk F n p ∧ lk F n p ≤ 57 := mq1_iff.mp q
      have := ih (p + 1) (a * 10 + (lk F n p - 48)) (b * 10 + 9) (by omega) (by omega)
      rw [Int.pow_succ]
      rw [show (b * 10 + 9 + 1) * 10 ^ k = (b + 1) * (10 ^ k * 10) from by grind] at this
      exact this
    · have h0 : (0 : Int) < 10 ^ (k + 1) := Int.pow_pos (by decide)
      have hp : (1 : Int) ≤ 10 ^ (k + 1) := h0
      have := Int.mul_le_mul_of_nonneg_left hp (show (0 : Int) ≤ b + 1 by omega)
      omega
theorem frV_r {F : Nat → Int} {n p : Nat} {tk : Int} (h : (frP F n p).2 = true) (ht : 0 ≤ tk ∧ tk ≤ 705600000) : 0 ≤ frV F n p * tk ∧ frV F n p * tk ≤ 1000000000000000 := by
  have hd : (mq F n (sg 123 ++ dg9) p).2 = true := by
    unfold frP at h
    split at h
    · assumption
    · exact h
  have q := mq_get hd 1 (48, 57) rfl
  have d := dv_r (F := F) (n := n) 5 (p + 2) (0 * 10 + (lk F n (p + 1) - 48)) 9 (by omega) (by omega)
  have v : 0 ≤ frV F n p ∧ frV F n p ≤ 999999 := d
  have := Int.mul_nonneg v.1 ht.1
  have m1 := Int.mul_le_mul v.2 ht.2 ht.1 (by decide)
  omega
theorem hSE_r {f tk : Int} {F : Nat → Int} {n p : Nat} (h : (hP f F n p).2 = true) (ht : 0 ≤ tk ∧ tk ≤ 705600000) : (0 ≤ hS f tk F n p ∧ hS f tk F n p ≤ 1000000000000000) ∧ (0 ≤ hE f tk F n p ∧ hE f tk F n p ≤ 1000000000000000) := by
  unfold hP at h
  unfold hS hE
  split
  · rename_i q
    rw [if_pos q] at h
    refine ⟨clk_r ?_, clk_r ?_⟩ <;> intro j hj <;> rcases hj with rfl | rfl | rfl | rfl | rfl | rfl | rfl | rfl | rfl
    · have := mq_get h 0 (48, 53) rfl; omega
    · exact mq_get h 1 (48, 57) rfl
    · have := mq_get h 3 (48, 53) rfl; omega
    · exact mq_get h 4 (48, 57) rfl
    · have := mq_get h 6 (48, 53) rfl; omega
    · exact mq_get h 7 (48, 57) rfl
    · exact mq_get h 9 (48, 57) rfl
    · exact mq_get h 10 (48, 57) rfl
    · exact mq_get h 11 (48, 57) rfl
    · have := mq_get h 15 (48, 53) rfl; simp only [Nat.add_assoc, Nat.reduceAdd] at *; omega
    · exact mq_get h 16 (48, 57) rfl
    · have := mq_get h 18 (48, 53) rfl; simp only [Nat.add_assoc, Nat.reduceAdd] at *; omega
    · exact mq_get h 19 (48, 57) rfl
    · have := mq_get h 21 (48, 53) rfl; simp only [Nat.add_assoc, Nat.reduceAdd] at *; omega
    · exact mq_get h 22 (48, 57) rfl
    · exact mq_get h 24 (48, 57) rfl
    · exact mq_get h 25 (48, 57) rfl
    · exact mq_get h 26 (48, 57) rfl
  · rename_i q
    rw [if_neg q] at h
    split
    · rename_i q1
      rw [if_pos q1] at h
      split at h
      · rename_i q2
        exact ⟨frV_r q2 ht, frV_r h ht⟩
      · rename_i q2; exact absurd h q2
    · rename_i q1
      rw [if_neg q1] at h
      refine ⟨sxv_r ?_, sxv_r ?_⟩ <;> intro j hj
      · exact mq_get h j (0, 255) (by have : j = 0 ∨ j = 1 ∨ j = 2 ∨ j = 3 ∨ j = 4 ∨ j = 5 := by omega
                                      rcases this with rfl | rfl | rfl | rfl | rfl | rfl <;> rfl)
      · rw [Nat.add_assoc]
        exact mq_get h (6 + j) (0, 255) (by have : j = 0 ∨ j = 1 ∨ j = 2 ∨ j = 3 ∨ j = 4 ∨ j = 5 := by omega
                                            rcases this with rfl | rfl | rfl | rfl | rfl | rfl <;> rfl)
abbrev cueR (S : Qe) : Prop := (0 ≤ S.1 ∧ S.1 ≤ 1000000000000000) ∧ (0 ≤ S.2.1 ∧ S.2.1 ≤ 1000000000000000) ∧ tok S.2.2 ∧ 1 ≤ S.2.2.length
theorem cuP_r {f tk : Int} {F : Nat → Int} {n p : Nat} (hF : ∀ k, 0 ≤ F k ∧ F k ≤ 255) (hp : p ≤ n) (ht : 0 ≤ tk ∧ tk ≤ 705600000) : p ≤ (cuP f tk F n p).1 ∧ (cuP f tk F n p).1 ≤ n ∧ ∀ S, (cuP f tk F n p).2 = some S → cueR S := by
  have a := hP_le (f := f) (F := F) hp
  unfold cuP
  split
  · rename_i q
    have b := txP_r (f := f) hF a.2
    refine ⟨by show p ≤ (txP f F n (hP f F n p).1).1; omega, b.2.1, fun S h => ?_⟩
    replace h : (txP f F n (hP f F n p).1).2.map (fun T => (hS f tk F n p, hE f tk F n p, T)) = some S := h
    rw [Option.map_eq_some_iff] at h
    obtain ⟨T, h1, rfl⟩ := h
    have r := hSE_r (tk := tk) q ht
    exact ⟨r.1, r.2, b.2.2 T h1⟩
  · exact ⟨a.1, a.2, fun S h => by cases h⟩
/-- the last start of a list of cues, 0 if there is none -/
def lstS (C : List Qe) : Int := (C.getLast?.map (fun S => S.1)).getD 0
abbrev lOK (C : List Qe) (S : Qe) : Prop := C.length < 16 ∧ S.1 < S.2.1 ∧ S.2.1 ≤ 2540160000000 ∧ lstS C ≤ S.1
/-- what reading gives: the place of a fault, or -1, and the cues -/
def rdL (f tk : Int) (F : Nat → Int) (n : Nat) : Nat → Nat → List Qe → Int × List Qe
  | 0, _, C => (-1, C)
  | g + 1, p, C => if n ≤ p then (-1, C) else match (cuP f tk F n p).2 with
    | none => (((cuP f tk F n p).1 : Int), C)
    | some S => if lOK C S then rdL f tk F n g (cuP f tk F n p).1 (C ++ [S]) else ((p : Int), C)
theorem rdL_e {f tk : Int} {F : Nat → Int} {n g p : Nat} {C : List Qe} (h : n ≤ p) : rdL f tk F n (g + 1) p C = (-1, C) := by rw [rdL, if_pos h]
theorem rdL_n {f tk : Int} {F : Nat → Int} {n g p : Nat} {C : List Qe} (h : p < n) (h2 : (cuP f tk F n p).2 = none) : rdL f tk F n (g + 1) p C = (((cuP f tk F n p).1 : Int), C) := by rw [rdL, if_neg (by omega), h2]
theorem rdL_b {f tk : Int} {F : Nat → Int} {n g p : Nat} {C : List Qe} {S : Qe} (h : p < n) (h2 : (cuP f tk F n p).2 = some S) (h3 : ¬ lOK C S) : rdL f tk F n (g + 1) p C = ((p : Int), C) := by rw [rdL, if_neg (by omega), h2]; exact if_neg h3
theorem rdL_s {f tk : Int} {F : Nat → Int} {n g p : Nat} {C : List Qe} {S : Qe} (h : p < n) (h2 : (cuP f tk F n p).2 = some S) (h3 : lOK C S) : rdL f tk F n (g + 1) p C = rdL f tk F n g (cuP f tk F n p).1 (C ++ [S]) := by rw [rdL, if_neg (by omega), h2]; exact if_pos h3
def rowL (C : List Qe) (K1 K2 K3 K4 : Nat → Int) : Prop := ∀ i S, C[i]? = some S → K1 i = S.1 ∧ K2 i = S.2.1 ∧ K3 i = (S.2.2.length : Int) ∧ S.2.2.length ≤ 64 ∧ ∀ j x, S.2.2[j]? = some x → K4 (i * 64 + j) = x
theorem rowL_nil {K1 K2 K3 K4 : Nat → Int} : rowL [] K1 K2 K3 K4 := by intro i S h; simp at h
theorem rowL_s {C : List Qe} {S : Qe} {K1 K2 K3 K4 E : Nat → Int} (h : rowL C K1 K2 K3 K4) (hS : S.2.2.length ≤ 64) : rowL (C ++ [S]) (zup K1 C.length S.1) (zup K2 C.length S.2.1) (zup K3 C.length (S.2.2.length : Int)) (va_cpy (pL E S.2.2) K4 0 (C.length * 64) S.2.2.length) := by
  intro i R hR
  by_cases q : i < C.length
  · rw [List.getElem?_append_left q] at hR
    obtain ⟨h1, h2, h3, h4, h5⟩ := h i R hR
    rw [zup_n (by omega), zup_n (by omega), zup_n (by omega)]
    refine ⟨h1, h2, h3, h4, fun j x hx => ?_⟩
    have hj : j < R.2.2.length := by
      rcases Nat.lt_or_ge j R.2.2.length with w | w
      · exact w
      · rw [List.getElem?_eq_none w] at hx; cases hx
    show (if C.length * 64 ≤ i * 64 + j ∧ i * 64 + j < C.length * 64 + S.2.2.length then _ else K4 (i * 64 + j)) = x
    rw [if_neg (by omega)]
    exact h5 j x hx
  · rw [List.getElem?_append_right (by omega)] at hR
    have hi : i = C.length := by
      rcases Nat.lt_or_ge C.length i with w | w
      · rw [List.getElem?_eq_none (by simp; omega)] at hR; cases hR
      · omega
    subst hi
    rw [Nat.sub_self] at hR
    cases hR
    rw [zup_s, zup_s, zup_s]
    refine ⟨rfl, rfl, rfl, hS, fun j x hx => ?_⟩
    have hj : j < S.2.2.length := by
      rcases Nat.lt_or_ge j S.2.2.length with w | w
      · exact w
      · rw [List.getElem?_eq_none w] at hx; cases hx
    show (if C.length * 64 ≤ C.length * 64 + j ∧ C.length * 64 + j < C.length * 64 + S.2.2.length then pL E S.2.2 (0 + (C.length * 64 + j - C.length * 64)) else K4 (C.length * 64 + j)) = x
    rw [if_pos (by omega), show 0 + (C.length * 64 + j - C.length * 64) = j from by omega]
    show (S.2.2[j]?).getD _ = x
    rw [hx]
    rfl
def rgs (K1 K2 K3 K4 : Nat → Int) : Prop := (∀ k, 0 ≤ K1 k ∧ K1 k ≤ 2540160000000) ∧ (∀ k, 0 ≤ K2 k ∧ K2 k ≤ 2540160000000) ∧ (∀ k, 0 ≤ K3 k ∧ K3 k ≤ 64) ∧ (∀ k, 0 ≤ K4 k ∧ K4 k ≤ 255)
theorem zup_r {K : Nat → Int} {a b : Int} {k : Nat} {x : Int} (h : ∀ k, a ≤ K k ∧ K k ≤ b) (hx : a ≤ x ∧ x ≤ b) : ∀ j, a ≤ zup K k x j ∧ zup K k x j ≤ b := by
  intro j
  show a ≤ (if j = k then x else K j) ∧ (if j = k then x else K j) ≤ b
  split
  · exact hx
  · exact h j
theorem rgs_s {S : Qe} {K1 K2 K3 K4 E : Nat → Int} {c : Nat} (h : rgs K1 K2 K3 K4) (hc : cueR S) (h1 : S.1 < S.2.1) (h2 : S.2.1 ≤ 2540160000000) : rgs (zup K1 c S.1) (zup K2 c S.2.1) (zup K3 c (S.2.2.length : Int)) (va_cpy (pL E S.2.2) K4 0 (c * 64) S.2.2.length) := by
  obtain ⟨g1, g2, g3, g4⟩ := h
  obtain ⟨⟨c1, _⟩, ⟨c2, _⟩, ⟨c3, c4⟩, c5⟩ := hc
  refine ⟨zup_r g1 ⟨c1, by omega⟩, zup_r g2 ⟨c2, h2⟩, zup_r g3 ⟨by omega, by omega⟩, fun k => ?_⟩
  show 0 ≤ (if c * 64 ≤ k ∧ k < c * 64 + S.2.2.length then pL E S.2.2 (0 + (k - c * 64)) else K4 k) ∧ (if c * 64 ≤ k ∧ k < c * 64 + S.2.2.length then pL E S.2.2 (0 + (k - c * 64)) else K4 k) ≤ 255
  split
  · rename_i q
    show 0 ≤ (S.2.2[0 + (k - c * 64)]?).getD _ ∧ (S.2.2[0 + (k - c * 64)]?).getD _ ≤ 255
    rw [List.getElem?_eq_getElem (by omega)]
    exact c4 _ (List.getElem_mem _)
  · exact g4 k
theorem lstS_k {C : List Qe} {K1 K2 K3 K4 : Nat → Int} (h : rowL C K1 K2 K3 K4) : lstS C = if C.length = 0 then 0 else K1 (C.length - 1) := by
  unfold lstS
  rw [List.getLast?_eq_getElem?]
  split
  · rename_i q
    rw [List.getElem?_eq_none (by omega)]
    rfl
  · rename_i q
    rw [List.getElem?_eq_getElem (by omega)]
    exact (h (C.length - 1) _ (List.getElem?_eq_getElem (by omega))).1.symm
/-- what holds of every list of cues that was read -/
def cuesR (C : List Qe) : Prop := C.length ≤ 16 ∧ (∀ S ∈ C, cueR S ∧ S.1 < S.2.1 ∧ S.2.1 ≤ 2540160000000) ∧ ∀ i a b, C[i]? = some a → C[i + 1]? = some b → a.1 ≤ b.1
theorem cuesR_nil : cuesR [] := ⟨by decide, fun S h => absurd h List.not_mem_nil, fun i a b h => absurd h (by simp)⟩
theorem cuesR_s {C : List Qe} {S : Qe} (h : cuesR C) (hc : cueR S) (hl : lOK C S) : cuesR (C ++ [S]) := by
  obtain ⟨h1, h2, h3⟩ := h
  refine ⟨by have := hl.1; rw [List.length_append]; exact this, fun R hR => ?_, fun i a b ha hb => ?_⟩
  · rw [List.mem_append, List.mem_singleton] at hR
    rcases hR with hR | rfl
    · exact h2 R hR
    · exact ⟨hc, hl.2.1, hl.2.2.1⟩
  · have hi : i + 1 < (C ++ [S]).length := by
      rcases Nat.lt_or_ge (i + 1) (C ++ [S]).length with w | w
      · exact w
      · rw [List.getElem?_eq_none w] at hb; cases hb
    rw [List.length_append] at hi
    replace hi : i + 1 < C.length + 1 := hi
    rw [List.getElem?_append_left (by omega)] at ha
    by_cases q : i + 1 < C.length
    · rw [List.getElem?_append_left q] at hb
      exact h3 i a b ha hb
    · rw [List.getElem?_append_right (by omega), show i + 1 - C.length = 0 from by omega] at hb
      cases hb
      have := hl.2.2.2
      unfold lstS at this
      rw [List.getLast?_eq_getElem?, show C.length - 1 = i from by omega, ha] at this
      exact this
abbrev adOK (c : Nat) (K : Nat → Int) (s e : Int) : Prop := c < 16 ∧ s < e ∧ e ≤ 2540160000000 ∧ (c = 0 ∨ K (c - 1) ≤ s)
theorem ad_iff {C : List Qe} {S : Qe} {K1 K2 K3 K4 : Nat → Int} (h : rowL C K1 K2 K3 K4) (hc : cueR S) : adOK C.length K1 S.1 S.2.1 ↔ lOK C S := by
  have e := lstS_k h
  have c := hc.1.1
  unfold adOK lOK
  rw [e]
  split
  · omega
  · omega
theorem rowL_cpy {C : List Qe} {K1 K2 K3 K4 F1 F2 F3 F4 : Nat → Int} (h : rowL C K1 K2 K3 K4) : rowL C (va_cpy K1 F1 0 0 C.length) (va_cpy K2 F2 0 0 C.length) (va_cpy K3 F3 0 0 C.length) (va_cpy K4 F4 0 0 (C.length * 64)) := by
  intro i S hS
  have hi : i < C.length := by
    rcases Nat.lt_or_ge i C.length with w | w
    · exact w
    · rw [List.getElem?_eq_none w] at hS; cases hS
  obtain ⟨h1, h2, h3, h4, h5⟩ := h i S hS
  have c : ∀ (A B : Nat → Int) (m k : Nat), k < m → va_cpy A B 0 0 m k = A k := by
    intro A B m k hk
    show (if 0 ≤ k ∧ k < 0 + m then A (0 + (k - 0)) else B k) = A k
    rw [if_pos (by omega), Nat.zero_add, Nat.sub_zero]
  refine ⟨(c _ _ _ _ hi).trans h1, (c _ _ _ _ hi).trans h2, (c _ _ _ _ hi).trans h3, h4, fun j x hx => ?_⟩
  have hj : j < S.2.2.length := by
    rcases Nat.lt_or_ge j S.2.2.length with w | w
    · exact w
    · rw [List.getElem?_eq_none w] at hx; cases hx
  exact (c _ _ _ _ (by omega)).trans (h5 j x hx)
theorem cpy_q {A B : Nat → Int} {s b m : Nat} {l u : Int} (hA : ∀ k, l ≤ A k ∧ A k ≤ u) (hB : ∀ k, l ≤ B k ∧ B k ≤ u) : ∀ k, l ≤ va_cpy A B s b m k ∧ va_cpy A B s b m k ≤ u := by
  intro k
  show l ≤ (if b ≤ k ∧ k < b + m then A (s + (k - b)) else B k) ∧ (if b ≤ k ∧ k < b + m then A (s + (k - b)) else B k) ≤ u
  split
  · exact hA _
  · exact hB _
theorem rgs_cpy {K1 K2 K3 K4 F1 F2 F3 F4 : Nat → Int} {m k : Nat} (h : rgs K1 K2 K3 K4) (g : rgs F1 F2 F3 F4) : rgs (va_cpy K1 F1 0 0 m) (va_cpy K2 F2 0 0 m) (va_cpy K3 F3 0 0 m) (va_cpy K4 F4 0 0 k) := ⟨cpy_q h.1 g.1, cpy_q h.2.1 g.2.1, cpy_q h.2.2.1 g.2.2.1, cpy_q h.2.2.2 g.2.2.2⟩
set_option maxHeartbeats 4000000 in
set_option maxRecDepth 100000 in
theorem c_Ro_add (G : GT) (h : HM) (fo fo1 fo2 fo3 fo4 le c : Nat) (K1 K2 K3 K4 E : Nat → Int) (T : List Int) (s e : Int) (hfo : h fo = some (.inr (2, [.ref fo1, .ref fo2, .ref fo3, .ref fo4, .int (iZ (c : Int))]))) (hfo1 : h fo1 = some (.inl (G_j G, 16, .inr (.inl (lA K1))))) (hfo2 : h fo2 = some (.inl (G_j G, 16, .inr (.inl (lA K2))))) (hfo3 : h fo3 = some (.inl (G_i G, 16, .inl (iA K3)))) (hfo4 : h fo4 = some (.inl (G_i G, 1024, .inl (iA K4)))) (hl : h le = some (.inl (G_i G, 64, .inl (iA (pL E T))))) (n_f : fo1 ≠ fo2) (hc : c ≤ 16) (hT : T.length ≤ 64) (hK1 : ∀ k, 0 ≤ K1 k ∧ K1 k ≤ 2540160000000) (hs : 0 ≤ s ∧ s ≤ 1000000000000000) (he : 0 ≤ e ∧ e ≤ 1000000000000000) : Rn G M_Ro_add (rm 1 60) [.ref fo, .long (lZ s), .long (lZ e), .ref le, .int (iZ (T.length : Int))] h (fun r h' => (adOK c K1 s e → r = some (.int (iZ 1)) ∧ h' fo = some (.inr (2, [.ref fo1, .ref fo2, .ref fo3, .ref fo4, .int (iZ ((c + 1 : Nat) : Int))])) ∧ h' fo1 = some (.inl (G_j G, 16, .inr (.inl (lA (zup K1 c s))))) ∧ h' fo2 = some (.inl (G_j G, 16, .inr (.inl (lA (zup K2 c e))))) ∧ h' fo3 = some (.inl (G_i G, 16, .inl (iA (zup K3 c (T.length : Int))))) ∧ h' fo4 = some (.inl (G_i G, 1024, .inl (iA (va_cpy (pL E T) K4 0 (c * 64) T.length))))) ∧ (¬ adOK c K1 s e → r = some (.int (iZ 0)) ∧ h' = h) ∧ Fm [fo, fo1, fo2, fo3, fo4] h h') := by
  refine rn_of (by decide) (Nat.le_of_ble_eq_true rfl) ?_
  show Ev G M_Ro_add _ _ 0 [(0, .ref fo), (1, .long (lZ s)), (3, .long (lZ e)), (5, .ref le), (6, .int (iZ (T.length : Int)))] [] _ 0 0
  have fm : Fm [fo, fo1, fo2, fo3, fo4] h h := Fm.rf
  refine ev_aload_n d_Ro_add_0 rfl rfl ?_
  refine ev_get d_Ro_add_1 fl_Ro_25 hfo rfl ?_
  refine ev_bipush (v := iZ 16) d_Ro_add_4 rfl ?_
  refine ez_icmp_eq (tgt := 23) (by omega) (by decide) d_Ro_add_6 rfl (fun c6 => ?_) (fun c6 => ?_)
  · refine ev_iconst (v := iZ 0) d_Ro_add_23 rfl ?_
    exact ev_zreturn d_Ro_add_24 rfl (Or.inl rfl) (by decide) (by decide) (⟨fun q => absurd q (by unfold adOK; omega), fun _ => ⟨rfl, rfl⟩, fm⟩)
  · refine ev_lload_n d_Ro_add_9 rfl rfl ?_
    refine ev_lload_n d_Ro_add_10 rfl rfl ?_
    refine ev_lcmp d_Ro_add_11 ?_
    refine ez_lif_le (tgt := 23) (by omega) (by omega) d_Ro_add_12 rfl (fun c12 => ?_) (fun c12 => ?_)
    · refine ev_iconst (v := iZ 0) d_Ro_add_23 rfl ?_
      exact ev_zreturn d_Ro_add_24 rfl (Or.inl rfl) (by decide) (by decide) (⟨fun q => absurd q (by unfold adOK; omega), fun _ => ⟨rfl, rfl⟩, fm⟩)
    · refine ev_lload_n d_Ro_add_15 rfl rfl ?_
      refine ev_ldc2 (v := lZ 2540160000000) d_Ro_add_16 kc_Ro_50 ?_
      refine ev_lcmp d_Ro_add_19 ?_
      refine ez_lif_le (tgt := 25) (by omega) (by decide) d_Ro_add_20 rfl (fun c20 => ?_) (fun c20 => ?_)
      · refine ev_aload_n d_Ro_add_25 rfl rfl ?_
        refine ev_get d_Ro_add_26 fl_Ro_25 hfo rfl ?_
        refine ez_if_le (tgt := 50) (by omega) d_Ro_add_29 rfl (fun c29 => ?_) (fun c29 => ?_)
        · refine ev_aload_n d_Ro_add_50 rfl rfl ?_
          refine ev_get d_Ro_add_51 fl_Ro_9 hfo rfl ?_
          refine ev_aload_n d_Ro_add_54 rfl rfl ?_
          refine ev_get d_Ro_add_55 fl_Ro_25 hfo rfl ?_
          refine ev_lload_n d_Ro_add_58 rfl rfl ?_
          refine ez_lastore (F' := zup K1 c s) c d_Ro_add_59 hfo1 (by omega) (by omega) (by decide) rfl (fun h1 h1a h1o => ?_)
          have hfo := (h1o _ (cne hfo hfo1 (by simp))).trans hfo
          have hfo2 := (h1o _ (Ne.symm n_f)).trans hfo2
          have hfo3 := (h1o _ (cne hfo3 hfo1 (by simp))).trans hfo3
          have hfo4 := (h1o _ (cne hfo4 hfo1 (by simp))).trans hfo4
          have hl := (h1o _ (cne hl hfo1 (by simp))).trans hl
          have hfo1 := h1a
          have fm := fm.step (by simp) h1o
          refine ev_aload_n d_Ro_add_60 rfl rfl ?_
          refine ev_get d_Ro_add_61 fl_Ro_15 hfo rfl ?_
          refine ev_aload_n d_Ro_add_64 rfl rfl ?_
          refine ev_get d_Ro_add_65 fl_Ro_25 hfo rfl ?_
          refine ev_lload_n d_Ro_add_68 rfl rfl ?_
          refine ez_lastore (F' := zup K2 c e) c d_Ro_add_69 hfo2 (by omega) (by omega) (by decide) rfl (fun h2 h2a h2o => ?_)
          have hfo := (h2o _ (cne hfo hfo2 (by simp))).trans hfo
          have hfo1 := (h2o _ n_f).trans hfo1
          have hfo3 := (h2o _ (cne hfo3 hfo2 (by simp))).trans hfo3
          have hfo4 := (h2o _ (cne hfo4 hfo2 (by simp))).trans hfo4
          have hl := (h2o _ (cne hl hfo2 (by simp))).trans hl
          have hfo2 := h2a
          have fm := fm.step (by simp) h2o
          refine ev_aload_n d_Ro_add_70 rfl rfl ?_
          refine ev_get d_Ro_add_71 fl_Ro_18 hfo rfl ?_
          refine ev_aload_n d_Ro_add_74 rfl rfl ?_
          refine ev_get d_Ro_add_75 fl_Ro_25 hfo rfl ?_
          refine ev_iload d_Ro_add_78 rfl ?_
          refine ez_iastore (F' := zup K3 c (T.length : Int)) c d_Ro_add_80 hfo3 (by omega) (by omega) (by decide) rfl (fun h3 h3a h3o => ?_)
          have hfo := (h3o _ (cne hfo hfo3 (by simp))).trans hfo
          have hfo1 := (h3o _ (cne hfo1 hfo3 (by simp))).trans hfo1
          have hfo2 := (h3o _ (cne hfo2 hfo3 (by simp))).trans hfo2
          have hfo4 := (h3o _ (cne hfo4 hfo3 (by simp))).trans hfo4
          have hl := (h3o _ (cne hl hfo3 (by simp))).trans hl
          have hfo3 := h3a
          have fm := fm.step (by simp) h3o
          refine ev_aload d_Ro_add_81 rfl ?_
          refine ev_iconst (v := iZ 0) d_Ro_add_83 rfl ?_
          refine ev_aload_n d_Ro_add_84 rfl rfl ?_
          refine ev_get d_Ro_add_85 fl_Ro_22 hfo rfl ?_
          refine ev_aload_n d_Ro_add_88 rfl rfl ?_
          refine ev_get d_Ro_add_89 fl_Ro_25 hfo rfl ?_
          refine ev_bipush (v := iZ 64) d_Ro_add_92 rfl ?_
          refine ez_imul d_Ro_add_94 ?_
          refine ev_iload d_Ro_add_95 rfl ?_
          refine ez_copyi (F' := va_cpy (pL E T) K4 0 (c * 64) T.length) 0 (c * 64) T.length d_Ro_add_97 ml_Ro_44 nat_copy sta_copy in_System hl hfo4 (by omega) (by omega) (by omega) (by omega) (by omega) (by decide) (by decide) (by decide) (by decide) rfl (fun h4 h4a h4o => ?_)
          have hfo := (h4o _ (cne hfo hfo4 (by simp))).trans hfo
          have hfo1 := (h4o _ (cne hfo1 hfo4 (by simp))).trans hfo1
          have hfo2 := (h4o _ (cne hfo2 hfo4 (by simp))).trans hfo2
          have hfo3 := (h4o _ (cne hfo3 hfo4 (by simp))).trans hfo3
          have hl := (h4o _ (cne hl hfo4 (by simp))).trans hl
          have hfo4 := h4a
          have fm := fm.step (by simp) h4o
          refine ev_aload_n d_Ro_add_100 rfl rfl ?_
          refine ev_dup d_Ro_add_101 rfl ?_
          refine ev_get d_Ro_add_102 fl_Ro_25 hfo rfl ?_
          refine ev_iconst (v := iZ 1) d_Ro_add_105 rfl ?_
          refine ez_iadd d_Ro_add_106 ?_
          rw [show ((c : Int) + 1 : Int) = ((c + 1 : Nat) : Int) from by omega]
          refine ev_put2 (fs' := [.ref fo1, .ref fo2, .ref fo3, .ref fo4, .int (iZ ((c + 1 : Nat) : Int))]) d_Ro_add_107 fw_Ro_25 (Or.inr (fun _ _ _ q => by cases q; rfl)) hfo (Nat.le_of_ble_eq_true rfl) rfl rfl rfl (fun h5 h5a h5o => ?_)
          have hfo1 := (h5o _ (cne hfo1 hfo (by simp))).trans hfo1
          have hfo2 := (h5o _ (cne hfo2 hfo (by simp))).trans hfo2
          have hfo3 := (h5o _ (cne hfo3 hfo (by simp))).trans hfo3
          have hfo4 := (h5o _ (cne hfo4 hfo (by simp))).trans hfo4
          have hl := (h5o _ (cne hl hfo (by simp))).trans hl
          have hfo := h5a
          have fm := fm.step (by simp) h5o
          refine ev_iconst (v := iZ 1) d_Ro_add_110 rfl ?_
          exact ev_zreturn d_Ro_add_111 rfl (Or.inr rfl) (by decide) (by decide) (⟨fun _ => ⟨rfl, hfo, hfo1, hfo2, hfo3, hfo4⟩, fun q => absurd (show adOK c K1 s e by unfold adOK; omega) q, fm⟩)
        · refine ev_lload_n d_Ro_add_32 rfl rfl ?_
          refine ev_aload_n d_Ro_add_33 rfl rfl ?_
          refine ev_get d_Ro_add_34 fl_Ro_9 hfo rfl ?_
          refine ev_aload_n d_Ro_add_37 rfl rfl ?_
          refine ev_get d_Ro_add_38 fl_Ro_25 hfo rfl ?_
          refine ev_iconst (v := iZ 1) d_Ro_add_41 rfl ?_
          refine ez_isub d_Ro_add_42 ?_
          refine ez_laload (c - 1) d_Ro_add_43 hfo1 (by omega) (by omega) (by decide) ?_
          have rt := hK1 (c - 1)
          refine ev_lcmp d_Ro_add_44 ?_
          refine ez_lif_ge (tgt := 50) (by omega) (by omega) d_Ro_add_45 rfl (fun c45 => ?_) (fun c45 => ?_)
          · refine ev_aload_n d_Ro_add_50 rfl rfl ?_
            refine ev_get d_Ro_add_51 fl_Ro_9 hfo rfl ?_
            refine ev_aload_n d_Ro_add_54 rfl rfl ?_
            refine ev_get d_Ro_add_55 fl_Ro_25 hfo rfl ?_
            refine ev_lload_n d_Ro_add_58 rfl rfl ?_
            refine ez_lastore (F' := zup K1 c s) c d_Ro_add_59 hfo1 (by omega) (by omega) (by decide) rfl (fun h6 h6a h6o => ?_)
            have hfo := (h6o _ (cne hfo hfo1 (by simp))).trans hfo
            have hfo2 := (h6o _ (Ne.symm n_f)).trans hfo2
            have hfo3 := (h6o _ (cne hfo3 hfo1 (by simp))).trans hfo3
            have hfo4 := (h6o _ (cne hfo4 hfo1 (by simp))).trans hfo4
            have hl := (h6o _ (cne hl hfo1 (by simp))).trans hl
            have hfo1 := h6a
            have fm := fm.step (by simp) h6o
            refine ev_aload_n d_Ro_add_60 rfl rfl ?_
            refine ev_get d_Ro_add_61 fl_Ro_15 hfo rfl ?_
            refine ev_aload_n d_Ro_add_64 rfl rfl ?_
            refine ev_get d_Ro_add_65 fl_Ro_25 hfo rfl ?_
            refine ev_lload_n d_Ro_add_68 rfl rfl ?_
            refine ez_lastore (F' := zup K2 c e) c d_Ro_add_69 hfo2 (by omega) (by omega) (by decide) rfl (fun h7 h7a h7o => ?_)
            have hfo := (h7o _ (cne hfo hfo2 (by simp))).trans hfo
            have hfo1 := (h7o _ n_f).trans hfo1
            have hfo3 := (h7o _ (cne hfo3 hfo2 (by simp))).trans hfo3
            have hfo4 := (h7o _ (cne hfo4 hfo2 (by simp))).trans hfo4
            have hl := (h7o _ (cne hl hfo2 (by simp))).trans hl
            have hfo2 := h7a
            have fm := fm.step (by simp) h7o
            refine ev_aload_n d_Ro_add_70 rfl rfl ?_
            refine ev_get d_Ro_add_71 fl_Ro_18 hfo rfl ?_
            refine ev_aload_n d_Ro_add_74 rfl rfl ?_
            refine ev_get d_Ro_add_75 fl_Ro_25 hfo rfl ?_
            refine ev_iload d_Ro_add_78 rfl ?_
            refine ez_iastore (F' := zup K3 c (T.length : Int)) c d_Ro_add_80 hfo3 (by omega) (by omega) (by decide) rfl (fun h8 h8a h8o => ?_)
            have hfo := (h8o _ (cne hfo hfo3 (by simp))).trans hfo
            have hfo1 := (h8o _ (cne hfo1 hfo3 (by simp))).trans hfo1
            have hfo2 := (h8o _ (cne hfo2 hfo3 (by simp))).trans hfo2
            have hfo4 := (h8o _ (cne hfo4 hfo3 (by simp))).trans hfo4
            have hl := (h8o _ (cne hl hfo3 (by simp))).trans hl
            have hfo3 := h8a
            have fm := fm.step (by simp) h8o
            refine ev_aload d_Ro_add_81 rfl ?_
            refine ev_iconst (v := iZ 0) d_Ro_add_83 rfl ?_
            refine ev_aload_n d_Ro_add_84 rfl rfl ?_
            refine ev_get d_Ro_add_85 fl_Ro_22 hfo rfl ?_
            refine ev_aload_n d_Ro_add_88 rfl rfl ?_
            refine ev_get d_Ro_add_89 fl_Ro_25 hfo rfl ?_
            refine ev_bipush (v := iZ 64) d_Ro_add_92 rfl ?_
            refine ez_imul d_Ro_add_94 ?_
            refine ev_iload d_Ro_add_95 rfl ?_
            refine ez_copyi (F' := va_cpy (pL E T) K4 0 (c * 64) T.length) 0 (c * 64) T.length d_Ro_add_97 ml_Ro_44 nat_copy sta_copy in_System hl hfo4 (by omega) (by omega) (by omega) (by omega) (by omega) (by decide) (by decide) (by decide) (by decide) rfl (fun h9 h9a h9o => ?_)
            have hfo := (h9o _ (cne hfo hfo4 (by simp))).trans hfo
            have hfo1 := (h9o _ (cne hfo1 hfo4 (by simp))).trans hfo1
            have hfo2 := (h9o _ (cne hfo2 hfo4 (by simp))).trans hfo2
            have hfo3 := (h9o _ (cne hfo3 hfo4 (by simp))).trans hfo3
            have hl := (h9o _ (cne hl hfo4 (by simp))).trans hl
            have hfo4 := h9a
            have fm := fm.step (by simp) h9o
            refine ev_aload_n d_Ro_add_100 rfl rfl ?_
            refine ev_dup d_Ro_add_101 rfl ?_
            refine ev_get d_Ro_add_102 fl_Ro_25 hfo rfl ?_
            refine ev_iconst (v := iZ 1) d_Ro_add_105 rfl ?_
            refine ez_iadd d_Ro_add_106 ?_
            rw [show ((c : Int) + 1 : Int) = ((c + 1 : Nat) : Int) from by omega]
            refine ev_put2 (fs' := [.ref fo1, .ref fo2, .ref fo3, .ref fo4, .int (iZ ((c + 1 : Nat) : Int))]) d_Ro_add_107 fw_Ro_25 (Or.inr (fun _ _ _ q => by cases q; rfl)) hfo (Nat.le_of_ble_eq_true rfl) rfl rfl rfl (fun h10 h10a h10o => ?_)
            have hfo1 := (h10o _ (cne hfo1 hfo (by simp))).trans hfo1
            have hfo2 := (h10o _ (cne hfo2 hfo (by simp))).trans hfo2
            have hfo3 := (h10o _ (cne hfo3 hfo (by simp))).trans hfo3
            have hfo4 := (h10o _ (cne hfo4 hfo (by simp))).trans hfo4
            have hl := (h10o _ (cne hl hfo (by simp))).trans hl
            have hfo := h10a
            have fm := fm.step (by simp) h10o
            refine ev_iconst (v := iZ 1) d_Ro_add_110 rfl ?_
            exact ev_zreturn d_Ro_add_111 rfl (Or.inr rfl) (by decide) (by decide) (⟨fun _ => ⟨rfl, hfo, hfo1, hfo2, hfo3, hfo4⟩, fun q => absurd (show adOK c K1 s e by unfold adOK; omega) q, fm⟩)
          · refine ev_iconst (v := iZ 0) d_Ro_add_48 rfl ?_
            exact ev_zreturn d_Ro_add_49 rfl (Or.inl rfl) (by decide) (by decide) (⟨fun q => absurd q (by unfold adOK; omega), fun _ => ⟨rfl, rfl⟩, fm⟩)
      · refine ev_iconst (v := iZ 0) d_Ro_add_23 rfl ?_
        exact ev_zreturn d_Ro_add_24 rfl (Or.inl rfl) (by decide) (by decide) (⟨fun q => absurd q (by unfold adOK; omega), fun _ => ⟨rfl, rfl⟩, fm⟩)
set_option maxHeartbeats 4000000 in
set_option maxRecDepth 100000 in
theorem lp_Re_find (G : GT) (h0 : HM) (xe b bb xf fo le fo1 fo2 fo3 fo4 n : Nat) (F : Nat → Int) (num den tk f : Int) (hn : n ≤ 1000) (hF : ∀ k, 0 ≤ F k ∧ F k ≤ 255) (htk : 0 ≤ tk ∧ tk ≤ 705600000) (hfr : f = 0 ∨ f = 1 ∨ f = 2) (n_f : fo1 ≠ fo2) : ∀ (d : Nat) (p : Nat) (C : List Qe) (h : HM) (sz br tm st en : Int) (E K1 K2 K3 K4 : Nat → Int), C.length + d = 17 → p ≤ n → h xe = some (.inr (3, [.ref b, .ref xf, .ref fo, .ref le, .int (iZ sz), .int (iZ br), .int (iZ (p : Int)), .long (lZ tm), .long (lZ st), .long (lZ en)])) → h b = some (.inr (1, [.ref bb, .int (iZ (n : Int))])) → h bb = some (.inl (G_i G, 1000, .inl (iA F))) → h xf = some (.inr (5, [.int (iZ num), .int (iZ den), .long (lZ tk)])) → h le = some (.inl (G_i G, 64, .inl (iA E))) → h fo = some (.inr (2, [.ref fo1, .ref fo2, .ref fo3, .ref fo4, .int (iZ (C.length : Int))])) → h fo1 = some (.inl (G_j G, 16, .inr (.inl (lA K1)))) → h fo2 = some (.inl (G_j G, 16, .inr (.inl (lA K2)))) → h fo3 = some (.inl (G_i G, 16, .inl (iA K3))) → h fo4 = some (.inl (G_i G, 1024, .inl (iA K4))) → rowL C K1 K2 K3 K4 → rgs K1 K2 K3 K4 → cuesR C → Fm [xe, le, fo, fo1, fo2, fo3, fo4] h0 h → Ev G M_Re_findFault (rm 6 150) (fun r h' => r = some (.int (iZ (rdL f tk F n d p C).1)) ∧ (∃ L1 L2 L3 L4 : Nat → Int, h' fo = some (.inr (2, [.ref fo1, .ref fo2, .ref fo3, .ref fo4, .int (iZ ((rdL f tk F n d p C).2.length : Int))])) ∧ h' fo1 = some (.inl (G_j G, 16, .inr (.inl (lA L1)))) ∧ h' fo2 = some (.inl (G_j G, 16, .inr (.inl (lA L2)))) ∧ h' fo3 = some (.inl (G_i G, 16, .inl (iA L3))) ∧ h' fo4 = some (.inl (G_i G, 1024, .inl (iA L4))) ∧ rowL (rdL f tk F n d p C).2 L1 L2 L3 L4 ∧ rgs L1 L2 L3 L4 ∧ cuesR (rdL f tk F n d p C).2) ∧ (∃ p' : Nat, ∃ sz' br' tm' st' en' : Int, h' xe = some (.inr (3, [.ref b, .ref xf, .ref fo, .ref le, .int (iZ sz'), .int (iZ br'), .int (iZ (p' : Int)), .long (lZ tm'), .long (lZ st'), .long (lZ en')]))) ∧ (∃ E' : Nat → Int, h' le = some (.inl (G_i G, 64, .inl (iA E')))) ∧ Fm [xe, le, fo, fo1, fo2, fo3, fo4] h0 h') 15 [(0, .ref xe), (1, .int (iZ f)), (2, .int (iZ (C.length : Int)))] [] h 0 0 := by
  intro d
  induction d using Nat.strongRecOn with
  | ind d ih =>
  intro p C h sz br tm st en E K1 K2 K3 K4 hd hp he hb hbb hf hl hfo hfo1 hfo2 hfo3 hfo4 hrl hrg hcr fm
  have hc6 := hcr.1
  obtain ⟨g, rfl⟩ : ∃ g, d = g + 1 := ⟨d - 1, by omega⟩
  refine ev_iload_n d_Re_findFault_15 rfl rfl ?_
  refine ev_bipush (v := iZ 16) d_Re_findFault_16 rfl ?_
  refine ez_icmp_gt (tgt := 97) (by omega) (by decide) d_Re_findFault_18 rfl (fun c18 => absurd c18 (by omega)) (fun c18 => ?_)
  refine ev_aload_n d_Re_findFault_21 rfl rfl ?_
  refine ev_get d_Re_findFault_22 fl_Re_34 he rfl ?_
  refine ev_aload_n d_Re_findFault_25 rfl rfl ?_
  refine ev_get d_Re_findFault_26 fl_Re_22 he rfl ?_
  refine ev_get d_Re_findFault_29 fl_Re_37 hb rfl ?_
  refine ez_icmp_ge (tgt := 97) (by omega) (by omega) d_Re_findFault_32 rfl (fun c32 => ?_) (fun c32 => ?_)
  · refine ev_iconst (v := iZ (-1)) d_Re_findFault_97 rfl ?_
    have e9 : rdL f tk F n (g + 1) p C = _ := rdL_e (by omega)
    exact ev_ireturn d_Re_findFault_98 rfl (by decide) (by decide) (⟨by rw [e9], ⟨_, _, _, _, by rw [e9]; exact hfo, hfo1, hfo2, hfo3, hfo4, by rw [e9]; exact hrl, hrg, by rw [e9]; exact hcr⟩, ⟨_, _, _, _, _, _, he⟩, ⟨_, hl⟩, fm⟩)
  · refine ev_aload_n d_Re_findFault_35 rfl rfl ?_
    refine ev_get d_Re_findFault_36 fl_Re_34 he rfl ?_
    refine ev_istore_n (L' := [(0, .ref xe), (1, .int (iZ f)), (2, .int (iZ (C.length : Int))), (3, .int (iZ (p : Int)))]) d_Re_findFault_39 rfl (by decide) rfl ?_
    refine ev_aload_n d_Re_findFault_40 rfl rfl ?_
    refine ev_iconst (v := iZ 0) d_Re_findFault_41 rfl ?_
    refine ev_put2 (fs' := [.ref b, .ref xf, .ref fo, .ref le, .int (iZ 0), .int (iZ br), .int (iZ (p : Int)), .long (lZ tm), .long (lZ st), .long (lZ en)]) d_Re_findFault_42 fw_Re_42 (Or.inr (fun _ _ _ q => by cases q; rfl)) he (Nat.le_of_ble_eq_true rfl) rfl rfl rfl (fun h1 h1a h1o => ?_)
    have hb := (h1o _ (cne hb he (by simp))).trans hb
    have hbb := (h1o _ (cne hbb he (by simp))).trans hbb
    have hf := (h1o _ (cne hf he (by simp))).trans hf
    have hl := (h1o _ (cne hl he (by simp))).trans hl
    have hfo := (h1o _ (cne hfo he (by simp))).trans hfo
    have hfo1 := (h1o _ (cne hfo1 he (by simp))).trans hfo1
    have hfo2 := (h1o _ (cne hfo2 he (by simp))).trans hfo2
    have hfo3 := (h1o _ (cne hfo3 he (by simp))).trans hfo3
    have hfo4 := (h1o _ (cne hfo4 he (by simp))).trans hfo4
    have he := h1a
    have fm := fm.step (by simp) h1o
    refine ev_aload_n d_Re_findFault_45 rfl rfl ?_
    refine ev_iconst (v := iZ 0) d_Re_findFault_46 rfl ?_
    refine ev_put2 (fs' := [.ref b, .ref xf, .ref fo, .ref le, .int (iZ 0), .int (iZ 0), .int (iZ (p : Int)), .long (lZ tm), .long (lZ st), .long (lZ en)]) d_Re_findFault_47 fw_Re_43 (Or.inr (fun _ _ _ q => by cases q; rfl)) he (Nat.le_of_ble_eq_true rfl) rfl rfl rfl (fun h2 h2a h2o => ?_)
    have hb := (h2o _ (cne hb he (by simp))).trans hb
    have hbb := (h2o _ (cne hbb he (by simp))).trans hbb
    have hf := (h2o _ (cne hf he (by simp))).trans hf
    have hl := (h2o _ (cne hl he (by simp))).trans hl
    have hfo := (h2o _ (cne hfo he (by simp))).trans hfo
    have hfo1 := (h2o _ (cne hfo1 he (by simp))).trans hfo1
    have hfo2 := (h2o _ (cne hfo2 he (by simp))).trans hfo2
    have hfo3 := (h2o _ (cne hfo3 he (by simp))).trans hfo3
    have hfo4 := (h2o _ (cne hfo4 he (by simp))).trans hfo4
    have he := h2a
    have fm := fm.step (by simp) h2o
    refine ev_aload_n d_Re_findFault_50 rfl rfl ?_
    refine ev_iload_n d_Re_findFault_51 rfl rfl ?_
    refine ev_callV M_Re_takeCue (rm 5 114) _ (As := [.int (iZ f)]) (c_Re_takeCue G h2 xe b bb xf fo le n p F E tm st en num den tk f he hb hbb hl hf hn hp hF hfr) d_Re_findFault_52 mk_Re_takeCue ml_Re_47 mv_Re_takeCue he rfl rfl rfl (Nat.le_of_ble_eq_true rfl) ⟨by decide, by decide⟩ ⟨by decide, by decide⟩ (fun r h8 hq => ?_)
    obtain ⟨qy, qn, fmc⟩ := hq
    have hb := (fmc _ (ninc (cne hb he (by simp)) (ninc (cne hb hl (by simp)) nin0))).trans hb
    have hbb := (fmc _ (ninc (cne hbb he (by simp)) (ninc (cne hbb hl (by simp)) nin0))).trans hbb
    have hf := (fmc _ (ninc (cne hf he (by simp)) (ninc (cne hf hl (by simp)) nin0))).trans hf
    have hfo := (fmc _ (ninc (cne hfo he (by simp)) (ninc (cne hfo hl (by simp)) nin0))).trans hfo
    have hfo1 := (fmc _ (ninc (cne hfo1 he (by simp)) (ninc (cne hfo1 hl (by simp)) nin0))).trans hfo1
    have hfo2 := (fmc _ (ninc (cne hfo2 he (by simp)) (ninc (cne hfo2 hl (by simp)) nin0))).trans hfo2
    have hfo3 := (fmc _ (ninc (cne hfo3 he (by simp)) (ninc (cne hfo3 hl (by simp)) nin0))).trans hfo3
    have hfo4 := (fmc _ (ninc (cne hfo4 he (by simp)) (ninc (cne hfo4 hl (by simp)) nin0))).trans hfo4
    have fm := fm.call (by simp) fmc
    have cr := cuP_r (f := f) (tk := tk) hF hp htk
    rcases hx : (cuP f tk F n p).2 with _ | S
    ·
      obtain ⟨rfl, sz1, br1, tm1, st1, en1, E1, he, hl⟩ := qn hx
      refine ez_if_ne (tgt := 63) (by decide) d_Re_findFault_55 rfl (fun c55 => absurd c55 (by omega)) (fun c55 => ?_)
      refine ev_aload_n d_Re_findFault_58 rfl rfl ?_
      refine ev_get d_Re_findFault_59 fl_Re_34 he rfl ?_
      have e9 : rdL f tk F n (g + 1) p C = _ := rdL_n (by omega) hx
      exact ev_ireturn d_Re_findFault_62 rfl (by decide) (by decide) (⟨by rw [e9], ⟨_, _, _, _, by rw [e9]; exact hfo, hfo1, hfo2, hfo3, hfo4, by rw [e9]; exact hrl, hrg, by rw [e9]; exact hcr⟩, ⟨_, _, _, _, _, _, he⟩, ⟨_, hl⟩, fm⟩)
    ·
      obtain ⟨rfl, ⟨br1, tm1, he⟩, hl, hl6⟩ := qy S hx
      have cS := cr.2.2 S hx
      refine ez_if_ne (tgt := 63) (by decide) d_Re_findFault_55 rfl (fun c55 => ?_) (fun c55 => absurd c55 (by omega))
      refine ev_aload_n d_Re_findFault_63 rfl rfl ?_
      refine ev_get d_Re_findFault_64 fl_Re_12 he rfl ?_
      refine ev_aload_n d_Re_findFault_67 rfl rfl ?_
      refine ev_get d_Re_findFault_68 fl_Re_51 he rfl ?_
      refine ev_aload_n d_Re_findFault_71 rfl rfl ?_
      refine ev_get d_Re_findFault_72 fl_Re_55 he rfl ?_
      refine ev_aload_n d_Re_findFault_75 rfl rfl ?_
      refine ev_get d_Re_findFault_76 fl_Re_18 he rfl ?_
      refine ev_aload_n d_Re_findFault_79 rfl rfl ?_
      refine ev_get d_Re_findFault_80 fl_Re_42 he rfl ?_
      have gfo := hfo
      have gfo1 := hfo1
      have gfo2 := hfo2
      have gfo3 := hfo3
      have gfo4 := hfo4
      refine ev_callV M_Ro_add (rm 1 60) _ (As := [.long (lZ S.1), .long (lZ S.2.1), .ref le, .int (iZ (S.2.2.length : Int))]) (c_Ro_add G h8 fo fo1 fo2 fo3 fo4 le C.length K1 K2 K3 K4 E S.2.2 S.1 S.2.1 hfo hfo1 hfo2 hfo3 hfo4 hl n_f hcr.1 hl6 hrg.1 cS.1 cS.2.1) d_Re_findFault_83 mk_Ro_add ml_Re_58 mv_Ro_add hfo rfl rfl rfl (Nat.le_of_ble_eq_true rfl) ⟨by decide, by decide⟩ ⟨by decide, by decide⟩ (fun r h9 hq => ?_)
      obtain ⟨qy, qn, fmc⟩ := hq
      by_cases ad : lOK C S
      ·
        obtain ⟨rfl, hfo, hfo1, hfo2, hfo3, hfo4⟩ := qy ((ad_iff hrl cS).mpr ad)
        have he := (fmc _ (ninc (cne he gfo (by simp)) (ninc (cne he gfo1 (by simp)) (ninc (cne he gfo2 (by simp)) (ninc (cne he gfo3 (by simp)) (ninc (cne he gfo4 (by simp)) nin0)))))).trans he
        have hb := (fmc _ (ninc (cne hb gfo (by simp)) (ninc (cne hb gfo1 (by simp)) (ninc (cne hb gfo2 (by simp)) (ninc (cne hb gfo3 (by simp)) (ninc (cne hb gfo4 (by simp)) nin0)))))).trans hb
        have hbb := (fmc _ (ninc (cne hbb gfo (by simp)) (ninc (cne hbb gfo1 (by simp)) (ninc (cne hbb gfo2 (by simp)) (ninc (cne hbb gfo3 (by simp)) (ninc (cne hbb gfo4 (by simp)) nin0)))))).trans hbb
        have hf := (fmc _ (ninc (cne hf gfo (by simp)) (ninc (cne hf gfo1 (by simp)) (ninc (cne hf gfo2 (by simp)) (ninc (cne hf gfo3 (by simp)) (ninc (cne hf gfo4 (by simp)) nin0)))))).trans hf
        have hl := (fmc _ (ninc (cne hl gfo (by simp)) (ninc (cne hl gfo1 (by simp)) (ninc (cne hl gfo2 (by simp)) (ninc (cne hl gfo3 (by simp)) (ninc (cne hl gfo4 (by simp)) nin0)))))).trans hl
        have fm := fm.call (by simp) fmc
        refine ez_if_ne (tgt := 91) (by decide) d_Re_findFault_86 rfl (fun c86 => ?_) (fun c86 => absurd c86 (by omega))
        refine ez_iinc (L' := [(0, .ref xe), (1, .int (iZ f)), (2, .int (iZ ((C.length : Int) + 1))), (3, .int (iZ (p : Int)))]) d_Re_findFault_91 rfl (by decide) rfl ?_
        refine ev_goto (tgt := 15) d_Re_findFault_94 rfl ?_
        have e9 : rdL f tk F n (g + 1) p C = _ := rdL_s (by omega) hx ad
        rw [e9]
        rw [show (C.length : Int) + 1 = ((C ++ [S]).length : Int) from by simp]
        refine ev_loc [(0, .ref xe), (1, .int (iZ f)), (2, .int (iZ ((C ++ [S]).length : Int)))] (by simp) ?_
        exact ih g (by omega) (cuP f tk F n p).1 (C ++ [S]) h9 _ _ _ _ _ _ _ _ _ _ (by rw [List.length_append]; show C.length + 1 + g = 17; omega) cr.2.1 he hb hbb hf hl (by rw [List.length_append]; exact hfo) hfo1 hfo2 hfo3 hfo4 (rowL_s hrl hl6) (rgs_s hrg cS ad.2.1 ad.2.2.1) (cuesR_s hcr cS ad) fm
      ·
        obtain ⟨rfl, rfl⟩ := qn (fun w => ad ((ad_iff hrl cS).mp w))
        refine ez_if_ne (tgt := 91) (by decide) d_Re_findFault_86 rfl (fun c86 => absurd c86 (by omega)) (fun c86 => ?_)
        refine ev_iload_n d_Re_findFault_89 rfl rfl ?_
        have e9 : rdL f tk F n (g + 1) p C = _ := rdL_b (by omega) hx ad
        exact ev_ireturn d_Re_findFault_90 rfl (by decide) (by decide) (⟨by rw [e9], ⟨_, _, _, _, by rw [e9]; exact hfo, hfo1, hfo2, hfo3, hfo4, by rw [e9]; exact hrl, hrg, by rw [e9]; exact hcr⟩, ⟨_, _, _, _, _, _, he⟩, ⟨_, hl⟩, fm⟩)
set_option maxHeartbeats 4000000 in
set_option maxRecDepth 100000 in
theorem c_Re_findFault (G : GT) (h : HM) (xe b bb xf fo le fo1 fo2 fo3 fo4 n : Nat) (F : Nat → Int) (p : Int) (c sz br tm st en : Int) (E K1 K2 K3 K4 : Nat → Int) (num den tk f : Int) (he : h xe = some (.inr (3, [.ref b, .ref xf, .ref fo, .ref le, .int (iZ sz), .int (iZ br), .int (iZ p), .long (lZ tm), .long (lZ st), .long (lZ en)]))) (hb : h b = some (.inr (1, [.ref bb, .int (iZ (n : Int))]))) (hbb : h bb = some (.inl (G_i G, 1000, .inl (iA F)))) (hf : h xf = some (.inr (5, [.int (iZ num), .int (iZ den), .long (lZ tk)]))) (hl : h le = some (.inl (G_i G, 64, .inl (iA E)))) (hfo : h fo = some (.inr (2, [.ref fo1, .ref fo2, .ref fo3, .ref fo4, .int (iZ c)]))) (hfo1 : h fo1 = some (.inl (G_j G, 16, .inr (.inl (lA K1))))) (hfo2 : h fo2 = some (.inl (G_j G, 16, .inr (.inl (lA K2))))) (hfo3 : h fo3 = some (.inl (G_i G, 16, .inl (iA K3)))) (hfo4 : h fo4 = some (.inl (G_i G, 1024, .inl (iA K4)))) (hn : n ≤ 1000) (hF : ∀ k, 0 ≤ F k ∧ F k ≤ 255) (htk : 0 ≤ tk ∧ tk ≤ 705600000) (hfr : f = 0 ∨ f = 1 ∨ f = 2) (n_f : fo1 ≠ fo2) (hrg : rgs K1 K2 K3 K4) : Rn G M_Re_findFault (rm 6 150) [.ref xe, .int (iZ f)] h (fun r h' => r = some (.int (iZ (rdL f tk F n 17 0 []).1)) ∧ (∃ L1 L2 L3 L4 : Nat → Int, h' fo = some (.inr (2, [.ref fo1, .ref fo2, .ref fo3, .ref fo4, .int (iZ ((rdL f tk F n 17 0 []).2.length : Int))])) ∧ h' fo1 = some (.inl (G_j G, 16, .inr (.inl (lA L1)))) ∧ h' fo2 = some (.inl (G_j G, 16, .inr (.inl (lA L2)))) ∧ h' fo3 = some (.inl (G_i G, 16, .inl (iA L3))) ∧ h' fo4 = some (.inl (G_i G, 1024, .inl (iA L4))) ∧ rowL (rdL f tk F n 17 0 []).2 L1 L2 L3 L4 ∧ rgs L1 L2 L3 L4 ∧ cuesR (rdL f tk F n 17 0 []).2) ∧ (∃ p' : Nat, ∃ sz' br' tm' st' en' : Int, h' xe = some (.inr (3, [.ref b, .ref xf, .ref fo, .ref le, .int (iZ sz'), .int (iZ br'), .int (iZ (p' : Int)), .long (lZ tm'), .long (lZ st'), .long (lZ en')]))) ∧ (∃ E' : Nat → Int, h' le = some (.inl (G_i G, 64, .inl (iA E')))) ∧ Fm [xe, le, fo, fo1, fo2, fo3, fo4] h h') := by
  refine rn_of (by decide) (Nat.le_of_ble_eq_true rfl) ?_
  show Ev G M_Re_findFault _ _ 0 [(0, .ref xe), (1, .int (iZ f))] [] _ 0 0
  have fm : Fm [xe, le, fo, fo1, fo2, fo3, fo4] h h := Fm.rf
  refine ev_aload_n d_Re_findFault_0 rfl rfl ?_
  refine ev_get d_Re_findFault_1 fl_Re_12 he rfl ?_
  refine ev_iconst (v := iZ 0) d_Re_findFault_4 rfl ?_
  refine ev_put2 (fs' := [.ref fo1, .ref fo2, .ref fo3, .ref fo4, .int (iZ 0)]) d_Re_findFault_5 fw_Re_30 (Or.inr (fun _ _ _ q => by cases q; rfl)) hfo (Nat.le_of_ble_eq_true rfl) rfl rfl rfl (fun h1 h1a h1o => ?_)
  have he := (h1o _ (cne he hfo (by simp))).trans he
  have hb := (h1o _ (cne hb hfo (by simp))).trans hb
  have hbb := (h1o _ (cne hbb hfo (by simp))).trans hbb
  have hf := (h1o _ (cne hf hfo (by simp))).trans hf
  have hl := (h1o _ (cne hl hfo (by simp))).trans hl
  have hfo1 := (h1o _ (cne hfo1 hfo (by simp))).trans hfo1
  have hfo2 := (h1o _ (cne hfo2 hfo (by simp))).trans hfo2
  have hfo3 := (h1o _ (cne hfo3 hfo (by simp))).trans hfo3
  have hfo4 := (h1o _ (cne hfo4 hfo (by simp))).trans hfo4
  have hfo := h1a
  have fm := fm.step (by simp) h1o
  refine ev_aload_n d_Re_findFault_8 rfl rfl ?_
  refine ev_iconst (v := iZ 0) d_Re_findFault_9 rfl ?_
  refine ev_put2 (fs' := [.ref b, .ref xf, .ref fo, .ref le, .int (iZ sz), .int (iZ br), .int (iZ 0), .long (lZ tm), .long (lZ st), .long (lZ en)]) d_Re_findFault_10 fw_Re_34 (Or.inr (fun _ _ _ q => by cases q; rfl)) he (Nat.le_of_ble_eq_true rfl) rfl rfl rfl (fun h2 h2a h2o => ?_)
  have hb := (h2o _ (cne hb he (by simp))).trans hb
  have hbb := (h2o _ (cne hbb he (by simp))).trans hbb
  have hf := (h2o _ (cne hf he (by simp))).trans hf
  have hl := (h2o _ (cne hl he (by simp))).trans hl
  have hfo := (h2o _ (cne hfo he (by simp))).trans hfo
  have hfo1 := (h2o _ (cne hfo1 he (by simp))).trans hfo1
  have hfo2 := (h2o _ (cne hfo2 he (by simp))).trans hfo2
  have hfo3 := (h2o _ (cne hfo3 he (by simp))).trans hfo3
  have hfo4 := (h2o _ (cne hfo4 he (by simp))).trans hfo4
  have he := h2a
  have fm := fm.step (by simp) h2o
  refine ev_iconst (v := iZ 0) d_Re_findFault_13 rfl ?_
  refine ev_istore_n (L' := [(0, .ref xe), (1, .int (iZ f)), (2, .int (iZ 0))]) d_Re_findFault_14 rfl (by decide) rfl ?_
  refine ev_mono ?_ (lp_Re_find G h2 xe b bb xf fo le fo1 fo2 fo3 fo4 n F num den tk f hn hF htk hfr n_f 17 0 [] h2 sz br tm st en E K1 K2 K3 K4 (by decide) (by omega) he hb hbb hf hl hfo hfo1 hfo2 hfo3 hfo4 rowL_nil hrg cuesR_nil Fm.rf)
  rintro r h' ⟨q1, q2, q3, q4, q5⟩
  exact ⟨q1, q2, q3, q4, fm.call (fun _ w => w) q5⟩
set_option maxHeartbeats 4000000 in
set_option maxRecDepth 100000 in
theorem c_CB_readB (G : GT) (h : HM) (x : Nat) (f : Int) (hfi : iR f) (hfr : ¬ (f = 0 ∨ f = 1 ∨ f = 2)) : Rn G M_CB_read (rm 1 40) [.ref x, .int (iZ f)] h (Pu (.int (iZ (-2))) h) := by
  refine rn_of (by decide) (Nat.le_of_ble_eq_true rfl) ?_
  show Ev G M_CB_read _ _ 0 [(0, .ref x), (1, .int (iZ f))] [] _ 0 0
  refine ev_iload_n d_CB_read_0 rfl rfl ?_
  have hif := isF_r f
  refine ev_pS M_CB_isForm 0 0 (As := [.int (iZ f)]) (c_CB_isForm G h f (by omega)) d_CB_read_1 mk_CB_isForm ml_CB_96 ms_CB_isForm rfl rfl (Nat.le_of_ble_eq_true rfl) ⟨by decide, by decide⟩ ⟨by decide, by decide⟩ ?_
  refine ez_if_ne (tgt := 10) (by omega) d_CB_read_4 rfl (fun c4 => ?_) (fun c4 => ?_)
  · have z4 := isF_1 c4
    omega
  · refine ev_bipush (v := iZ (-2)) d_CB_read_7 rfl ?_
    exact ev_ireturn d_CB_read_9 rfl (by decide) (by decide) (⟨rfl, rfl⟩)
theorem rdL_ge {f tk : Int} {F : Nat → Int} {n : Nat} (hF : ∀ k, 0 ≤ F k ∧ F k ≤ 255) (ht : 0 ≤ tk ∧ tk ≤ 705600000) : ∀ (g p : Nat) (C : List Qe), p ≤ n → -1 ≤ (rdL f tk F n g p C).1 ∧ (rdL f tk F n g p C).1 ≤ (n : Int) := by
  intro g
  induction g with
  | zero => intro p C h; rw [rdL]; omega
  | succ g ih =>
    intro p C h
    have r := cuP_r (f := f) (tk := tk) hF h ht
    by_cases q : n ≤ p
    · rw [rdL_e q]; omega
    · rcases hx : (cuP f tk F n p).2 with _ | S
      · rw [rdL_n (by omega) hx]; omega
      · by_cases a : lOK C S
        · rw [rdL_s (by omega) hx a]
          exact ih _ _ r.2.1
        · rw [rdL_b (by omega) hx a]; omega
set_option maxHeartbeats 4000000 in
set_option maxRecDepth 100000 in
theorem c_CB_read (G : GT) (h : HM) (x b xf xu xo xp xe xw xl xr : Nat) (o1 o2 o3 o4 pk top nx ct n : Nat) (Kp : Nat → Option Nat) (Ke : Nat → Nat) (C : Nat → Cu) (K1 K2 K3 K4 : Nat → Int) (bb fo le fo1 fo2 fo3 fo4 n0 : Nat) (F : Nat → Int) (p c sz br tm st en : Int) (E L1 L2 L3 L4 : Nat → Int) (num den tk f : Int) (hx : h x = some (.inr (0, [.ref b, .ref xf, .ref xu, .ref xo, .ref xp, .ref xe, .ref xw, .ref xl, .ref xr]))) (ho : h xo = some (.inr (2, [.ref o1, .ref o2, .ref o3, .ref o4, .int (iZ (n : Int))]))) (ho1 : h o1 = some (.inl (G_j G, 16, .inr (.inl (lA K1))))) (ho2 : h o2 = some (.inl (G_j G, 16, .inr (.inl (lA K2))))) (ho3 : h o3 = some (.inl (G_i G, 16, .inl (iA K3)))) (ho4 : h o4 = some (.inl (G_i G, 1024, .inl (iA K4)))) (he : h xe = some (.inr (3, [.ref b, .ref xf, .ref fo, .ref le, .int (iZ sz), .int (iZ br), .int (iZ p), .long (lZ tm), .long (lZ st), .long (lZ en)]))) (hb : h b = some (.inr (1, [.ref bb, .int (iZ (n0 : Int))]))) (hbb : h bb = some (.inl (G_i G, 1000, .inl (iA F)))) (hf : h xf = some (.inr (5, [.int (iZ num), .int (iZ den), .long (lZ tk)]))) (hl : h le = some (.inl (G_i G, 64, .inl (iA E)))) (hfo : h fo = some (.inr (2, [.ref fo1, .ref fo2, .ref fo3, .ref fo4, .int (iZ c)]))) (hfo1 : h fo1 = some (.inl (G_j G, 16, .inr (.inl (lA L1))))) (hfo2 : h fo2 = some (.inl (G_j G, 16, .inr (.inl (lA L2))))) (hfo3 : h fo3 = some (.inl (G_i G, 16, .inl (iA L3)))) (hfo4 : h fo4 = some (.inl (G_i G, 1024, .inl (iA L4)))) (hW : PaW G h top xp pk nx ct Kp Ke C) (hn : n ≤ 16) (hn0 : n0 ≤ 1000) (hF : ∀ k, 0 ≤ F k ∧ F k ≤ 255) (htk : 0 ≤ tk ∧ tk ≤ 705600000) (hfi : iR f) (hfr : f = 0 ∨ f = 1 ∨ f = 2) (hrg : rgs L1 L2 L3 L4) (hrgK : rgs K1 K2 K3 K4) (hxt : x ≤ top ∧ xe ≤ top ∧ le ≤ top ∧ fo ≤ top ∧ fo1 ≤ top ∧ fo2 ≤ top ∧ fo3 ≤ top ∧ fo4 ≤ top) (htn : top ∉ [xe, le, fo, fo1, fo2, fo3, fo4]) (hle : xp ≤ top ∧ pk ≤ top ∧ xo ≤ top ∧ o1 ≤ top ∧ o2 ≤ top ∧ o3 ≤ top ∧ o4 ≤ top) (htop : ∃ e, h top = some e) (n_o : o1 ≠ o2) (n_f : fo1 ≠ fo2) (n_ro : xo ≠ fo) (n_11 : o1 ≠ fo1) (n_12 : o1 ≠ fo2) (n_21 : o2 ≠ fo1) (n_22 : o2 ≠ fo2) (n_33 : o3 ≠ fo3) (n_44 : o4 ≠ fo4) : Rn G M_CB_read ({ frames := 7, cells := 5, slots := 1077, locals := 190 }) [.ref x, .int (iZ f)] h (fun r h' => ((rdL f tk F n0 17 0 []).1 ≠ -1 → r = some (.int (iZ (-10 - (rdL f tk F n0 17 0 []).1))) ∧ (∃ p' sz' br' tm' st' en' : Int, h' xe = some (.inr (3, [.ref b, .ref xf, .ref fo, .ref le, .int (iZ sz'), .int (iZ br'), .int (iZ p'), .long (lZ tm'), .long (lZ st'), .long (lZ en')]))) ∧ (∃ E' : Nat → Int, h' le = some (.inl (G_i G, 64, .inl (iA E')))) ∧ (∃ c' : Int, ∃ L1 L2 L3 L4 : Nat → Int, h' fo = some (.inr (2, [.ref fo1, .ref fo2, .ref fo3, .ref fo4, .int (iZ c')])) ∧ h' fo1 = some (.inl (G_j G, 16, .inr (.inl (lA L1)))) ∧ h' fo2 = some (.inl (G_j G, 16, .inr (.inl (lA L2)))) ∧ h' fo3 = some (.inl (G_i G, 16, .inl (iA L3))) ∧ h' fo4 = some (.inl (G_i G, 1024, .inl (iA L4))) ∧ rgs L1 L2 L3 L4) ∧ Fm [xe, le, fo, fo1, fo2, fo3, fo4] h h') ∧ ((rdL f tk F n0 17 0 []).1 = -1 → r = some (.int (iZ ((rdL f tk F n0 17 0 []).2.length : Int))) ∧ (∃ N1 N2 N3 N4 : Nat → Int, h' xo = some (.inr (2, [.ref o1, .ref o2, .ref o3, .ref o4, .int (iZ ((rdL f tk F n0 17 0 []).2.length : Int))])) ∧ h' o1 = some (.inl (G_j G, 16, .inr (.inl (lA N1)))) ∧ h' o2 = some (.inl (G_j G, 16, .inr (.inl (lA N2)))) ∧ h' o3 = some (.inl (G_i G, 16, .inl (iA N3))) ∧ h' o4 = some (.inl (G_i G, 1024, .inl (iA N4))) ∧ rowL (rdL f tk F n0 17 0 []).2 N1 N2 N3 N4 ∧ rgs N1 N2 N3 N4 ∧ cuesR (rdL f tk F n0 17 0 []).2) ∧ (∃ p' sz' br' tm' st' en' : Int, h' xe = some (.inr (3, [.ref b, .ref xf, .ref fo, .ref le, .int (iZ sz'), .int (iZ br'), .int (iZ p'), .long (lZ tm'), .long (lZ st'), .long (lZ en')]))) ∧ (∃ E' : Nat → Int, h' le = some (.inl (G_i G, 64, .inl (iA E')))) ∧ (∃ c' : Int, ∃ L1 L2 L3 L4 : Nat → Int, h' fo = some (.inr (2, [.ref fo1, .ref fo2, .ref fo3, .ref fo4, .int (iZ c')])) ∧ h' fo1 = some (.inl (G_j G, 16, .inr (.inl (lA L1)))) ∧ h' fo2 = some (.inl (G_j G, 16, .inr (.inl (lA L2)))) ∧ h' fo3 = some (.inl (G_i G, 16, .inl (iA L3))) ∧ h' fo4 = some (.inl (G_i G, 1024, .inl (iA L4))) ∧ rgs L1 L2 L3 L4) ∧ (∃ Kp' Ke', PaW G h' top xp pk ((nx + 1) % 10) (min (ct + 1) 10) Kp' Ke' (fun j => if j = nx then (n, K1, K2, K3, K4) else C j) ∧ (∃ q, Kp' nx = some q) ∧ ∀ j, j ≠ nx → Kp' j = Kp j) ∧ Fb top [xo, o1, o2, o3, o4, xp, pk, xe, le, fo, fo1, fo2, fo3, fo4] h h')) := by
  refine rn_of (by decide) (Nat.le_of_ble_eq_true rfl) ?_
  show Ev G M_CB_read _ _ 0 [(0, .ref x), (1, .int (iZ f))] [] _ 0 0
  refine ev_iload_n d_CB_read_0 rfl rfl ?_
  have hif := isF_r f
  refine ev_pS M_CB_isForm 0 0 (As := [.int (iZ f)]) (c_CB_isForm G h f (by omega)) d_CB_read_1 mk_CB_isForm ml_CB_96 ms_CB_isForm rfl rfl (Nat.le_of_ble_eq_true rfl) ⟨by decide, by decide⟩ ⟨by decide, by decide⟩ ?_
  refine ez_if_ne (tgt := 10) (by omega) d_CB_read_4 rfl (fun c4 => ?_) (fun c4 => ?_)
  · refine ev_aload_n d_CB_read_10 rfl rfl ?_
    refine ev_get d_CB_read_11 fl_CB_49 hx rfl ?_
    refine ev_iload_n d_CB_read_14 rfl rfl ?_
    refine ev_callV M_Re_findFault (rm 6 150) _ (As := [.int (iZ f)]) (c_Re_findFault G h xe b bb xf fo le fo1 fo2 fo3 fo4 n0 F p c sz br tm st en E L1 L2 L3 L4 num den tk f he hb hbb hf hl hfo hfo1 hfo2 hfo3 hfo4 hn0 hF htk hfr n_f hrg) d_CB_read_15 mk_Re_findFault ml_CB_100 mv_Re_findFault he rfl rfl rfl (Nat.le_of_ble_eq_true rfl) ⟨by decide, by decide⟩ ⟨by decide, by decide⟩ (fun r h7 hq => ?_)
    obtain ⟨rfl, ⟨M1, M2, M3, M4, gfo, gfo1, gfo2, gfo3, gfo4, hrl, hrg2, hcr⟩, ⟨p1, sz1, br1, tm1, st1, en1, ge⟩, ⟨E1, gl⟩, fmc⟩ := hq
    have hW := hW.fm fmc (by
      intro b hb9
      simp only [List.mem_cons, List.not_mem_nil, or_false] at hb9
      rcases hb9 with rfl | rfl | rfl | rfl | rfl | rfl | rfl
      · exact ⟨by omega, cne he hW.2.2.1 (by simp), cne he hW.2.2.2.1 (by simp)⟩
      · exact ⟨by omega, cne hl hW.2.2.1 (by simp), cne hl hW.2.2.2.1 (by simp)⟩
      · exact ⟨by omega, cne hfo hW.2.2.1 (by simp), cne hfo hW.2.2.2.1 (by simp)⟩
      · exact ⟨by omega, cne hfo1 hW.2.2.1 (by simp), cne hfo1 hW.2.2.2.1 (by simp)⟩
      · exact ⟨by omega, cne hfo2 hW.2.2.1 (by simp), cne hfo2 hW.2.2.2.1 (by simp)⟩
      · exact ⟨by omega, cne hfo3 hW.2.2.1 (by simp), cne hfo3 hW.2.2.2.1 (by simp)⟩
      · exact ⟨by omega, cne hfo4 hW.2.2.1 (by simp), cne hfo4 hW.2.2.2.1 (by simp)⟩)
    have htop := htop.imp (fun e q => (fmc _ htn).trans q)
    have hx := (fmc _ (ninc (cne hx he (by simp)) (ninc (cne hx hl (by simp)) (ninc (cne hx hfo (by simp)) (ninc (cne hx hfo1 (by simp)) (ninc (cne hx hfo2 (by simp)) (ninc (cne hx hfo3 (by simp)) (ninc (cne hx hfo4 (by simp)) nin0)))))))).trans hx
    have ho := (fmc _ (ninc (cne ho he (by simp)) (ninc (cne ho hl (by simp)) (ninc n_ro (ninc (cne ho hfo1 (by simp)) (ninc (cne ho hfo2 (by simp)) (ninc (cne ho hfo3 (by simp)) (ninc (cne ho hfo4 (by simp)) nin0)))))))).trans ho
    have ho1 := (fmc _ (ninc (cne ho1 he (by simp)) (ninc (cne ho1 hl (by simp)) (ninc (cne ho1 hfo (by simp)) (ninc n_11 (ninc n_12 (ninc (cne ho1 hfo3 (by simp)) (ninc (cne ho1 hfo4 (by simp)) nin0)))))))).trans ho1
    have ho2 := (fmc _ (ninc (cne ho2 he (by simp)) (ninc (cne ho2 hl (by simp)) (ninc (cne ho2 hfo (by simp)) (ninc n_21 (ninc n_22 (ninc (cne ho2 hfo3 (by simp)) (ninc (cne ho2 hfo4 (by simp)) nin0)))))))).trans ho2
    have ho3 := (fmc _ (ninc (cne ho3 he (by simp)) (ninc (cne ho3 hl (by simp)) (ninc (cne ho3 hfo (by simp)) (ninc (cne ho3 hfo1 (by simp)) (ninc (cne ho3 hfo2 (by simp)) (ninc n_33 (ninc (cne ho3 hfo4 (by simp)) nin0)))))))).trans ho3
    have ho4 := (fmc _ (ninc (cne ho4 he (by simp)) (ninc (cne ho4 hl (by simp)) (ninc (cne ho4 hfo (by simp)) (ninc (cne ho4 hfo1 (by simp)) (ninc (cne ho4 hfo2 (by simp)) (ninc (cne ho4 hfo3 (by simp)) (ninc n_44 nin0)))))))).trans ho4
    have hb := (fmc _ (ninc (cne hb he (by simp)) (ninc (cne hb hl (by simp)) (ninc (cne hb hfo (by simp)) (ninc (cne hb hfo1 (by simp)) (ninc (cne hb hfo2 (by simp)) (ninc (cne hb hfo3 (by simp)) (ninc (cne hb hfo4 (by simp)) nin0)))))))).trans hb
    have hbb := (fmc _ (ninc (cne hbb he (by simp)) (ninc (cne hbb hl (by simp)) (ninc (cne hbb hfo (by simp)) (ninc (cne hbb hfo1 (by simp)) (ninc (cne hbb hfo2 (by simp)) (ninc (cne hbb hfo3 (by simp)) (ninc (cne hbb hfo4 (by simp)) nin0)))))))).trans hbb
    have hf := (fmc _ (ninc (cne hf he (by simp)) (ninc (cne hf hl (by simp)) (ninc (cne hf hfo (by simp)) (ninc (cne hf hfo1 (by simp)) (ninc (cne hf hfo2 (by simp)) (ninc (cne hf hfo3 (by simp)) (ninc (cne hf hfo4 (by simp)) nin0)))))))).trans hf
    have hfo := gfo
    have hfo1 := gfo1
    have hfo2 := gfo2
    have hfo3 := gfo3
    have hfo4 := gfo4
    have he := ge
    have hl := gl
    have rdr := rdL_ge (f := f) (tk := tk) (n := n0) hF htk 17 0 [] (by omega)
    refine ev_istore_n (L' := [(0, .ref x), (1, .int (iZ f)), (2, .int (iZ ((rdL f tk F n0 17 0 []).1)))]) d_CB_read_18 rfl (by decide) rfl ?_
    refine ev_iload_n d_CB_read_19 rfl rfl ?_
    refine ev_iconst (v := iZ (-1)) d_CB_read_20 rfl ?_
    refine ez_icmp_eq (tgt := 29) (by omega) (by decide) d_CB_read_21 rfl (fun c21 => ?_) (fun c21 => ?_)
    · refine ev_aload_n d_CB_read_29 rfl rfl ?_
      refine ev_get d_CB_read_30 fl_CB_40 hx rfl ?_
      refine ev_aload_n d_CB_read_33 rfl rfl ?_
      refine ev_get d_CB_read_34 fl_CB_33 hx rfl ?_
      refine ev_callV M_Pa_keep ({ frames := 2, cells := 5, slots := 1077, locals := 61 }) _ (As := [.ref xo]) (c_Pa_keep G h7 top xp pk xo o1 o2 o3 o4 nx ct n Kp Ke C K1 K2 K3 K4 hW ho ho1 ho2 ho3 ho4 hn htop hle n_o) d_CB_read_37 mk_Pa_keep ml_CB_103 mv_Pa_keep hW.2.2.1 rfl rfl rfl (Nat.le_of_ble_eq_true rfl) ⟨by decide, by decide⟩ ⟨by decide, by decide⟩ (fun r h8 hq => ?_)
      obtain ⟨rfl, ⟨Kp', Ke', hW1, hKs, hKo⟩, fb⟩ := hq
      have hx := fb _ _ hx (by omega) (ninc (cne hx hW.2.2.1 (by simp)) (ninc (cne hx hW.2.2.2.1 (by simp)) nin0))
      have he := fb _ _ he (by omega) (ninc (cne he hW.2.2.1 (by simp)) (ninc (cne he hW.2.2.2.1 (by simp)) nin0))
      have hl := fb _ _ hl (by omega) (ninc (cne hl hW.2.2.1 (by simp)) (ninc (cne hl hW.2.2.2.1 (by simp)) nin0))
      have ho := fb _ _ ho (by omega) (ninc (cne ho hW.2.2.1 (by simp)) (ninc (cne ho hW.2.2.2.1 (by simp)) nin0))
      have ho1 := fb _ _ ho1 (by omega) (ninc (cne ho1 hW.2.2.1 (by simp)) (ninc (cne ho1 hW.2.2.2.1 (by simp)) nin0))
      have ho2 := fb _ _ ho2 (by omega) (ninc (cne ho2 hW.2.2.1 (by simp)) (ninc (cne ho2 hW.2.2.2.1 (by simp)) nin0))
      have ho3 := fb _ _ ho3 (by omega) (ninc (cne ho3 hW.2.2.1 (by simp)) (ninc (cne ho3 hW.2.2.2.1 (by simp)) nin0))
      have ho4 := fb _ _ ho4 (by omega) (ninc (cne ho4 hW.2.2.1 (by simp)) (ninc (cne ho4 hW.2.2.2.1 (by simp)) nin0))
      have hfo := fb _ _ hfo (by omega) (ninc (cne hfo hW.2.2.1 (by simp)) (ninc (cne hfo hW.2.2.2.1 (by simp)) nin0))
      have hfo1 := fb _ _ hfo1 (by omega) (ninc (cne hfo1 hW.2.2.1 (by simp)) (ninc (cne hfo1 hW.2.2.2.1 (by simp)) nin0))
      have hfo2 := fb _ _ hfo2 (by omega) (ninc (cne hfo2 hW.2.2.1 (by simp)) (ninc (cne hfo2 hW.2.2.2.1 (by simp)) nin0))
      have hfo3 := fb _ _ hfo3 (by omega) (ninc (cne hfo3 hW.2.2.1 (by simp)) (ninc (cne hfo3 hW.2.2.2.1 (by simp)) nin0))
      have hfo4 := fb _ _ hfo4 (by omega) (ninc (cne hfo4 hW.2.2.1 (by simp)) (ninc (cne hfo4 hW.2.2.2.1 (by simp)) nin0))
      have hS : ∀ b ∈ [xo, o1, o2, o3, o4], b ≤ top ∧ b ≠ xp ∧ b ≠ pk := by
        intro b hb
        simp at hb
        rcases hb with rfl | rfl | rfl | rfl | rfl
        · exact ⟨by omega, cne ho hW1.2.2.1 (by simp), cne ho hW1.2.2.2.1 (by simp)⟩
        · exact ⟨by omega, cne ho1 hW1.2.2.1 (by simp), cne ho1 hW1.2.2.2.1 (by simp)⟩
        · exact ⟨by omega, cne ho2 hW1.2.2.1 (by simp), cne ho2 hW1.2.2.2.1 (by simp)⟩
        · exact ⟨by omega, cne ho3 hW1.2.2.1 (by simp), cne ho3 hW1.2.2.2.1 (by simp)⟩
        · exact ⟨by omega, cne ho4 hW1.2.2.1 (by simp), cne ho4 hW1.2.2.2.1 (by simp)⟩
      refine ev_aload_n d_CB_read_40 rfl rfl ?_
      refine ev_get d_CB_read_41 fl_CB_33 hx rfl ?_
      refine ev_aload_n d_CB_read_44 rfl rfl ?_
      refine ev_get d_CB_read_45 fl_CB_49 hx rfl ?_
      refine ev_get d_CB_read_48 fl_CB_106 he rfl ?_
      have go := ho
      have go1 := ho1
      have go2 := ho2
      have go3 := ho3
      have go4 := ho4
      refine ev_callV M_Ro_copyFrom (rm 1 40) _ (As := [.ref fo]) (c_Ro_copyFrom G h8 xo o1 o2 o3 o4 fo fo1 fo2 fo3 fo4 (n : Int) (rdL f tk F n0 17 0 []).2.length K1 K2 K3 K4 M1 M2 M3 M4 ho ho1 ho2 ho3 ho4 hfo hfo1 hfo2 hfo3 hfo4 hcr.1 n_ro n_o n_11 n_12 n_21 n_22 n_33 n_44 n_f) d_CB_read_51 mk_Ro_copyFrom ml_CB_109 mv_Ro_copyFrom ho rfl rfl rfl (Nat.le_of_ble_eq_true rfl) ⟨by decide, by decide⟩ ⟨by decide, by decide⟩ (fun r h9 hq => ?_)
      obtain ⟨rfl, ho, ho1, ho2, ho3, ho4, fm⟩ := hq
      have hx := (fm _ (ninc (cne hx go (by simp)) (ninc (cne hx go1 (by simp)) (ninc (cne hx go2 (by simp)) (ninc (cne hx go3 (by simp)) (ninc (cne hx go4 (by simp)) nin0)))))).trans hx
      have he := (fm _ (ninc (cne he go (by simp)) (ninc (cne he go1 (by simp)) (ninc (cne he go2 (by simp)) (ninc (cne he go3 (by simp)) (ninc (cne he go4 (by simp)) nin0)))))).trans he
      have hl := (fm _ (ninc (cne hl go (by simp)) (ninc (cne hl go1 (by simp)) (ninc (cne hl go2 (by simp)) (ninc (cne hl go3 (by simp)) (ninc (cne hl go4 (by simp)) nin0)))))).trans hl
      have hfo := (fm _ (ninc (Ne.symm n_ro) (ninc (cne hfo go1 (by simp)) (ninc (cne hfo go2 (by simp)) (ninc (cne hfo go3 (by simp)) (ninc (cne hfo go4 (by simp)) nin0)))))).trans hfo
      have hfo1 := (fm _ (ninc (cne hfo1 go (by simp)) (ninc (Ne.symm n_11) (ninc (Ne.symm n_21) (ninc (cne hfo1 go3 (by simp)) (ninc (cne hfo1 go4 (by simp)) nin0)))))).trans hfo1
      have hfo2 := (fm _ (ninc (cne hfo2 go (by simp)) (ninc (Ne.symm n_12) (ninc (Ne.symm n_22) (ninc (cne hfo2 go3 (by simp)) (ninc (cne hfo2 go4 (by simp)) nin0)))))).trans hfo2
      have hfo3 := (fm _ (ninc (cne hfo3 go (by simp)) (ninc (cne hfo3 go1 (by simp)) (ninc (cne hfo3 go2 (by simp)) (ninc (Ne.symm n_33) (ninc (cne hfo3 go4 (by simp)) nin0)))))).trans hfo3
      have hfo4 := (fm _ (ninc (cne hfo4 go (by simp)) (ninc (cne hfo4 go1 (by simp)) (ninc (cne hfo4 go2 (by simp)) (ninc (cne hfo4 go3 (by simp)) (ninc (Ne.symm n_44) nin0)))))).trans hfo4
      refine ev_aload_n d_CB_read_54 rfl rfl ?_
      refine ev_get d_CB_read_55 fl_CB_33 hx rfl ?_
      refine ev_get d_CB_read_58 fl_CB_112 ho rfl ?_
      exact ev_ireturn d_CB_read_61 rfl (by decide) (by decide) (⟨fun q => absurd (by omega) q, fun _ => ⟨rfl, ⟨_, _, _, _, ho, ho1, ho2, ho3, ho4, rowL_cpy hrl, rgs_cpy hrg2 hrgK, hcr⟩, ⟨_, _, _, _, _, _, he⟩, ⟨_, hl⟩, ⟨_, _, _, _, _, hfo, hfo1, hfo2, hfo3, hfo4, hrg2⟩, ⟨Kp', Ke', hW1.fm fm hS, hKs, hKo⟩, fun b e q1 q2 q3 => (fb.fm fm (S2 := [xo, o1, o2, o3, o4, xp, pk]) (by simp) (by simp)) b e ((fmc b (fun w => q3 (List.mem_append_right [xo, o1, o2, o3, o4, xp, pk] w))).trans q1) q2 (fun w => q3 (List.mem_append_left [xe, le, fo, fo1, fo2, fo3, fo4] w))⟩⟩)
    · refine ev_bipush (v := iZ (-10)) d_CB_read_24 rfl ?_
      refine ev_iload_n d_CB_read_26 rfl rfl ?_
      refine ez_isub d_CB_read_27 ?_
      exact ev_ireturn d_CB_read_28 rfl (by decide) (by decide) (⟨fun _ => ⟨rfl, ⟨_, _, _, _, _, _, he⟩, ⟨_, hl⟩, ⟨_, _, _, _, _, hfo, hfo1, hfo2, hfo3, hfo4, hrg2⟩, fmc⟩, fun q => absurd q (by omega)⟩)
  · have z4 := isF_0 c4
    exact absurd hfr z4
