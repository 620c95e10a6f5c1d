/-! Ints and longs by whole numbers: iZ z, lZ z; arrays by functions to whole numbers: iA F, lA F. -/
def iZ (z : Int) : Int32 := Int32.ofInt z
def lZ (z : Int) : Int64 := Int64.ofInt z
abbrev iR (z : Int) : Prop := -2147483648 ≤ z ∧ z < 2147483648
abbrev lR (z : Int) : Prop := -9223372036854775808 ≤ z ∧ z < 9223372036854775808
def iA (F : Nat → Int) : Nat → Int32 := fun j => iZ (F j)
def lA (F : Nat → Int) : Nat → Int64 := fun j => lZ (F j)
def zup (F : Nat → Int) (k : Nat) (x : Int) : Nat → Int := fun j => if j = k then x else F j
theorem zup_s {F : Nat → Int} {k : Nat} {x : Int} : zup F k x k = x := if_pos rfl
theorem zup_n {F : Nat → Int} {k j : Nat} {x : Int} (h : j ≠ k) : zup F k x j = F j := if_neg h
theorem iZ_t {z : Int} (h : iR z) : (iZ z).toInt = z := Int32.toInt_ofInt_of_le h.1 h.2
theorem lZ_t {z : Int} (h : lR z) : (lZ z).toInt = z := Int64.toInt_ofInt_of_le h.1 h.2
theorem iZ_of (x : Int32) : iZ x.toInt = x := Int32.ofInt_toInt x
theorem lZ_of (x : Int64) : lZ x.toInt = x := Int64.ofInt_toInt x
theorem iR_of (x : Int32) : iR x.toInt := ⟨x.le_toInt, x.toInt_lt⟩
theorem lR_of (x : Int64) : lR x.toInt := ⟨x.le_toInt, x.toInt_lt⟩
theorem iZ_ex (x : Int32) : ∃ z, x = iZ z ∧ iR z := ⟨x.toInt, (iZ_of x).symm, iR_of x⟩
theorem lZ_ex (x : Int64) : ∃ z, x = lZ z ∧ lR z := ⟨x.toInt, (lZ_of x).symm, lR_of x⟩
theorem iA_of (f : Nat → Int32) : f = iA (fun j => (f j).toInt) := funext fun j => (iZ_of (f j)).symm
theorem lA_of (f : Nat → Int64) : f = lA (fun j => (f j).toInt) := funext fun j => (lZ_of (f j)).symm
theorem iZ_add (a b : Int) : iZ a + iZ b = iZ (a + b) := (Int32.ofInt_add a b).symm
theorem iZ_sub (a b : Int) : iZ a - iZ b = iZ (a - b) := (Int32.ofInt_sub a b).symm
theorem iZ_mul (a b : Int) : iZ a * iZ b = iZ (a * b) := (Int32.ofInt_mul a b).symm
theorem iZ_neg (a : Int) : -iZ a = iZ (-a) := (Int32.ofInt_neg a).symm
theorem lZ_add (a b : Int) : lZ a + lZ b = lZ (a + b) := (Int64.ofInt_add a b).symm
theorem lZ_sub (a b : Int) : lZ a - lZ b = lZ (a - b) := (Int64.ofInt_sub a b).symm
theorem lZ_mul (a b : Int) : lZ a * lZ b = lZ (a * b) := (Int64.ofInt_mul a b).symm
theorem iZ_le {a b : Int} (ha : iR a) (hb : iR b) : iZ a ≤ iZ b ↔ a ≤ b := by rw [Int32.le_iff_toInt_le, iZ_t ha, iZ_t hb]
theorem iZ_lt {a b : Int} (ha : iR a) (hb : iR b) : iZ a < iZ b ↔ a < b := by rw [Int32.lt_iff_toInt_lt, iZ_t ha, iZ_t hb]
theorem iZ_eq {a b : Int} (ha : iR a) (hb : iR b) : iZ a = iZ b ↔ a = b := by rw [← Int32.toInt_inj, iZ_t ha, iZ_t hb]
theorem lZ_le {a b : Int} (ha : lR a) (hb : lR b) : lZ a ≤ lZ b ↔ a ≤ b := by rw [Int64.le_iff_toInt_le, lZ_t ha, lZ_t hb]
theorem lZ_lt {a b : Int} (ha : lR a) (hb : lR b) : lZ a < lZ b ↔ a < b := by rw [Int64.lt_iff_toInt_lt, lZ_t ha, lZ_t hb]
theorem lZ_eq {a b : Int} (ha : lR a) (hb : lR b) : lZ a = lZ b ↔ a = b := by rw [← Int64.toInt_inj, lZ_t ha, lZ_t hb]
theorem iZ_div {a b : Int} (ha : iR a) (hb : iR b) (h0 : 0 ≤ a) (h1 : 0 < b) : iZ a / iZ b = iZ (a / b) := by
  rw [← Int32.toInt_inj, Int32.toInt_div, iZ_t ha, iZ_t hb, Int.tdiv_eq_ediv_of_nonneg h0]
  have hq : 0 ≤ a / b := Int.ediv_nonneg h0 (Int.le_of_lt h1)
  have hq2 : a / b ≤ a := Int.ediv_le_self b h0
  rw [iZ_t ⟨by omega, by omega⟩]
  exact Int.bmod_eq_of_le (by omega) (by omega)
theorem iZ_rem {a b : Int} (ha : iR a) (hb : iR b) (h0 : 0 ≤ a) (h1 : 0 < b) : iZ a - iZ a / iZ b * iZ b = iZ (a % b) := by
  rw [iZ_div ha hb h0 h1, iZ_mul, iZ_sub]
  congr 1
  rw [Int.emod_def, Int.mul_comm]
theorem lZ_div {a b : Int} (ha : lR a) (hb : lR b) (h0 : 0 ≤ a) (h1 : 0 < b) : lZ a / lZ b = lZ (a / b) := by
  rw [← Int64.toInt_inj, Int64.toInt_div, lZ_t ha, lZ_t hb, Int.tdiv_eq_ediv_of_nonneg h0]
  have hq : 0 ≤ a / b := Int.ediv_nonneg h0 (Int.le_of_lt h1)
  have hq2 : a / b ≤ a := Int.ediv_le_self b h0
  rw [lZ_t ⟨by omega, by omega⟩]
  exact Int.bmod_eq_of_le (by omega) (by omega)
theorem lZ_rem {a b : Int} (ha : lR a) (hb : lR b) (h0 : 0 ≤ a) (h1 : 0 < b) : lZ a - lZ a / lZ b * lZ b = lZ (a % b) := by
  rw [lZ_div ha hb h0 h1, lZ_mul, lZ_sub]
  congr 1
  rw [Int.emod_def, Int.mul_comm]
theorem lZ_tdiv {a b : Int} (ha : lR a) (hb : lR b) (h0 : -9223372036854775808 < a) : lZ a / lZ b = lZ (a.tdiv b) := by
  rw [← Int64.toInt_inj, Int64.toInt_div_of_ne_left _ _ (by
    intro q
    have := congrArg Int64.toInt q
    rw [lZ_t ha, Int64.toInt_minValue] at this
    omega), lZ_t ha, lZ_t hb, lZ_t]
  have h1 : (a.tdiv b).natAbs ≤ a.natAbs := by
    rw [Int.natAbs_tdiv]
    exact Nat.div_le_self _ _
  omega
theorem lZ_trem {a b : Int} (ha : lR a) (hb : lR b) (h0 : -9223372036854775808 < a) : lZ a - lZ a / lZ b * lZ b = lZ (a.tmod b) := by
  rw [lZ_tdiv ha hb h0, lZ_mul, lZ_sub]
  congr 1
  rw [Int.tmod_def, Int.mul_comm]
theorem iZ_l {a : Int} (ha : iR a) : (iZ a).toInt64 = lZ a := by
  rw [← Int64.toInt_inj, Int32.toInt_toInt64, iZ_t ha, lZ_t ⟨by omega, by omega⟩]
theorem lZ_i (a : Int) : (lZ a).toInt32 = iZ a := Int64.toInt32_ofInt
theorem iZ_cl {a : Int} {j : Nat} (h : a = j) (hj : j < 2147483648) : (iZ a).toNatClampNeg = j := by
  subst h
  unfold iZ
  rw [Int32.toNatClampNeg_ofInt_of_le (by omega) (by omega)]
  simp
theorem iZ_in {a : Int} {j N : Nat} (h : a = j) (hj : j < N) (hN : N ≤ 2147483647) : vp_in (iZ a) N := by
  intro q
  rw [iZ_cl h (by omega)] at q
  rcases q with q | q
  · rw [show (0 : Int32) = iZ 0 from rfl, iZ_lt ⟨by omega, by omega⟩ ⟨by omega, by omega⟩] at q
    omega
  · omega
theorem iA_up {F : Nat → Int} {k : Nat} {x : Int} : upd (iA F) k (iZ x) = iA (zup F k x) := by
  funext j
  unfold upd iA zup
  split <;> rfl
theorem lA_up {F : Nat → Int} {k : Nat} {x : Int} : vp_updL (lA F) k (lZ x) = lA (zup F k x) := by
  funext j
  unfold vp_updL lA zup
  split <;> rfl
theorem iA_cpy {F K : Nat → Int} {a b n : Nat} : va_cpy (iA F) (iA K) a b n = iA (va_cpy F K a b n) := by
  funext j
  show (if b ≤ j ∧ j < b + n then iZ (F (a + (j - b))) else iZ (K j)) = iZ (if b ≤ j ∧ j < b + n then F (a + (j - b)) else K j)
  by_cases q : b ≤ j ∧ j < b + n
  · rw [if_pos q, if_pos q]
  · rw [if_neg q, if_neg q]
theorem lA_cpy {F K : Nat → Int} {a b n : Nat} : va_cpy (lA F) (lA K) a b n = lA (va_cpy F K a b n) := by
  funext j
  show (if b ≤ j ∧ j < b + n then lZ (F (a + (j - b))) else lZ (K j)) = lZ (if b ≤ j ∧ j < b + n then F (a + (j - b)) else K j)
  by_cases q : b ≤ j ∧ j < b + n
  · rw [if_pos q, if_pos q]
  · rw [if_neg q, if_neg q]
section EVZ
variable {G : GT} {M : MT} {R : Room} {Q : Option Value → HM → Prop} {pc : Nat} {L L' : List (Nat × Value)} {st : List Value} {h : HM} {k n : Nat} {a b : Int}
theorem ez_iadd (d : decode M.2.1 pc = .ok (.iadd, 1)) (kk : Ev G M R Q (pc + 1) L (.int (iZ (a + b)) :: st) h k n) : Ev G M R Q pc L (.int (iZ b) :: .int (iZ a) :: st) h k n := ev_iadd d (by rw [iZ_add]; exact kk)
theorem ez_isub (d : decode M.2.1 pc = .ok (.isub, 1)) (kk : Ev G M R Q (pc + 1) L (.int (iZ (a - b)) :: st) h k n) : Ev G M R Q pc L (.int (iZ b) :: .int (iZ a) :: st) h k n := ev_isub d (by rw [iZ_sub]; exact kk)
theorem ez_imul (d : decode M.2.1 pc = .ok (.imul, 1)) (kk : Ev G M R Q (pc + 1) L (.int (iZ (a * b)) :: st) h k n) : Ev G M R Q pc L (.int (iZ b) :: .int (iZ a) :: st) h k n := ev_imul d (by rw [iZ_mul]; exact kk)
theorem ez_ladd (d : decode M.2.1 pc = .ok (.ladd, 1)) (kk : Ev G M R Q (pc + 1) L (.long (lZ (a + b)) :: st) h k n) : Ev G M R Q pc L (.long (lZ b) :: .long (lZ a) :: st) h k n := ev_ladd d (by rw [lZ_add]; exact kk)
theorem ez_lsub (d : decode M.2.1 pc = .ok (.lsub, 1)) (kk : Ev G M R Q (pc + 1) L (.long (lZ (a - b)) :: st) h k n) : Ev G M R Q pc L (.long (lZ b) :: .long (lZ a) :: st) h k n := ev_lsub d (by rw [lZ_sub]; exact kk)
theorem ez_lmul (d : decode M.2.1 pc = .ok (.lmul, 1)) (kk : Ev G M R Q (pc + 1) L (.long (lZ (a * b)) :: st) h k n) : Ev G M R Q pc L (.long (lZ b) :: .long (lZ a) :: st) h k n := ev_lmul d (by rw [lZ_mul]; exact kk)
theorem inz {b : Int} (hb : iR b) (h1 : b ≠ 0) : ¬ iZ b = 0 := by
  rw [show (0 : Int32) = iZ 0 from rfl, iZ_eq hb ⟨by omega, by omega⟩]
  exact h1
theorem ez_idiv (ha : iR a) (hb : iR b) (h0 : 0 ≤ a) (h1 : 0 < b) (d : decode M.2.1 pc = .ok (.idiv, 1)) (kk : Ev G M R Q (pc + 1) L (.int (iZ (a / b)) :: st) h k n) : Ev G M R Q pc L (.int (iZ b) :: .int (iZ a) :: st) h k n := ev_idiv d (inz hb (by omega)) (by rw [iZ_div ha hb h0 h1]; exact kk)
theorem ez_irem (ha : iR a) (hb : iR b) (h0 : 0 ≤ a) (h1 : 0 < b) (d : decode M.2.1 pc = .ok (.irem, 1)) (kk : Ev G M R Q (pc + 1) L (.int (iZ (a % b)) :: st) h k n) : Ev G M R Q pc L (.int (iZ b) :: .int (iZ a) :: st) h k n := ev_irem d (inz hb (by omega)) (by rw [iZ_rem ha hb h0 h1]; exact kk)
theorem lnz {b : Int} (hb : lR b) (h1 : b ≠ 0) : ¬ lZ b = 0 := by
  rw [show (0 : Int64) = lZ 0 from rfl, lZ_eq hb ⟨by omega, by omega⟩]
  exact h1
theorem ez_ldiv (ha : lR a) (hb : lR b) (h0 : 0 ≤ a) (h1 : 0 < b) (d : decode M.2.1 pc = .ok (.ldiv, 1)) (kk : Ev G M R Q (pc + 1) L (.long (lZ (a / b)) :: st) h k n) : Ev G M R Q pc L (.long (lZ b) :: .long (lZ a) :: st) h k n := ev_ldiv d (lnz hb (by omega)) (by rw [lZ_div ha hb h0 h1]; exact kk)
theorem ez_lrem (ha : lR a) (hb : lR b) (h0 : 0 ≤ a) (h1 : 0 < b) (d : decode M.2.1 pc = .ok (.lrem, 1)) (kk : Ev G M R Q (pc + 1) L (.long (lZ (a % b)) :: st) h k n) : Ev G M R Q pc L (.long (lZ b) :: .long (lZ a) :: st) h k n := ev_lrem d (lnz hb (by omega)) (by rw [lZ_rem ha hb h0 h1]; exact kk)
theorem ez_ltdiv (ha : lR a) (hb : lR b) (h0 : -9223372036854775808 < a) (h1 : b ≠ 0) (d : decode M.2.1 pc = .ok (.ldiv, 1)) (kk : Ev G M R Q (pc + 1) L (.long (lZ (a.tdiv b)) :: st) h k n) : Ev G M R Q pc L (.long (lZ b) :: .long (lZ a) :: st) h k n := ev_ldiv d (lnz hb h1) (by rw [lZ_tdiv ha hb h0]; exact kk)
theorem ez_ltrem (ha : lR a) (hb : lR b) (h0 : -9223372036854775808 < a) (h1 : b ≠ 0) (d : decode M.2.1 pc = .ok (.lrem, 1)) (kk : Ev G M R Q (pc + 1) L (.long (lZ (a.tmod b)) :: st) h k n) : Ev G M R Q pc L (.long (lZ b) :: .long (lZ a) :: st) h k n := ev_lrem d (lnz hb h1) (by rw [lZ_trem ha hb h0]; exact kk)
theorem ez_i2l (ha : iR a) (d : decode M.2.1 pc = .ok (.i2l, 1)) (kk : Ev G M R Q (pc + 1) L (.long (lZ a) :: st) h k n) : Ev G M R Q pc L (.int (iZ a) :: st) h k n := ev_i2l d (by rw [iZ_l ha]; exact kk)
theorem ez_l2i (d : decode M.2.1 pc = .ok (.l2i, 1)) (kk : Ev G M R Q (pc + 1) L (.int (iZ a) :: st) h k n) : Ev G M R Q pc L (.long (lZ a) :: st) h k n := ev_l2i d (by rw [lZ_i]; exact kk)
theorem ez_iinc {i : Nat} {z : Int} (d : decode M.2.1 pc = .ok (.iinc i z, 3)) (hx : lkp L i = some (.int (iZ a))) (hn : i < M.2.2.1) (hL : lins i (Value.int (iZ (a + z))) (lcut1 i L) = L') (kk : Ev G M R Q (pc + 3) L' st h k n) : Ev G M R Q pc L st h k n := ev_iinc d hx (show iZ a + Int32.ofInt z = iZ (a + z) from iZ_add a z) hn hL kk
theorem ez_if_eq {off : Int} {tgt : Nat} (ha : iR a) (d : decode M.2.1 pc = .ok (.ifCond .eq off, 3)) (ht : (pc : Int) + off = (tgt : Int)) (kt : a = 0 → Ev G M R Q tgt L st h k n) (kf : a ≠ 0 → Ev G M R Q (pc + 3) L st h k n) : Ev G M R Q pc L (.int (iZ a) :: st) h k n := ev_if_eq d ht (fun q => kt ((iZ_eq ha (show iR 0 from ⟨by decide, by decide⟩)).mp q)) (fun q => kf (fun w => q ((iZ_eq ha (show iR 0 from ⟨by decide, by decide⟩)).mpr w)))
theorem ez_icmp_eq {off : Int} {tgt : Nat} (ha : iR a) (hb : iR b) (d : decode M.2.1 pc = .ok (.if_icmp .eq off, 3)) (ht : (pc : Int) + off = (tgt : Int)) (kt : a = b → Ev G M R Q tgt L st h k n) (kf : a ≠ b → Ev G M R Q (pc + 3) L st h k n) : Ev G M R Q pc L (.int (iZ b) :: .int (iZ a) :: st) h k n := ev_icmp_eq d ht (fun q => kt ((iZ_eq ha hb).mp q)) (fun q => kf (fun w => q ((iZ_eq ha hb).mpr w)))
theorem ez_lif_eq {off : Int} {tgt : Nat} (ha : lR a) (hb : lR b) (d : decode M.2.1 pc = .ok (.ifCond .eq off, 3)) (ht : (pc : Int) + off = (tgt : Int)) (kt : a = b → Ev G M R Q tgt L st h k n) (kf : a ≠ b → Ev G M R Q (pc + 3) L st h k n) : Ev G M R Q pc L (.int (lg_cmp (lZ a) (lZ b)) :: st) h k n := ev_if_eq d ht (fun q => kt (have q := (lg_cmp_eq _ _).mp q; (lZ_eq ha hb).mp q)) (fun q => kf (have q := fun w => q ((lg_cmp_eq _ _).mpr w); fun w => q ((lZ_eq ha hb).mpr w)))
theorem ez_if_ne {off : Int} {tgt : Nat} (ha : iR a) (d : decode M.2.1 pc = .ok (.ifCond .ne off, 3)) (ht : (pc : Int) + off = (tgt : Int)) (kt : a ≠ 0 → Ev G M R Q tgt L st h k n) (kf : a = 0 → Ev G M R Q (pc + 3) L st h k n) : Ev G M R Q pc L (.int (iZ a) :: st) h k n := ev_if_ne d ht (fun q => kt (fun w => q ((iZ_eq ha (show iR 0 from ⟨by decide, by decide⟩)).mpr w))) (fun q => kf ((iZ_eq ha (show iR 0 from ⟨by decide, by decide⟩)).mp q))
theorem ez_icmp_ne {off : Int} {tgt : Nat} (ha : iR a) (hb : iR b) (d : decode M.2.1 pc = .ok (.if_icmp .ne off, 3)) (ht : (pc : Int) + off = (tgt : Int)) (kt : a ≠ b → Ev G M R Q tgt L st h k n) (kf : a = b → Ev G M R Q (pc + 3) L st h k n) : Ev G M R Q pc L (.int (iZ b) :: .int (iZ a) :: st) h k n := ev_icmp_ne d ht (fun q => kt (fun w => q ((iZ_eq ha hb).mpr w))) (fun q => kf ((iZ_eq ha hb).mp q))
theorem ez_lif_ne {off : Int} {tgt : Nat} (ha : lR a) (hb : lR b) (d : decode M.2.1 pc = .ok (.ifCond .ne off, 3)) (ht : (pc : Int) + off = (tgt : Int)) (kt : a ≠ b → Ev G M R Q tgt L st h k n) (kf : a = b → Ev G M R Q (pc + 3) L st h k n) : Ev G M R Q pc L (.int (lg_cmp (lZ a) (lZ b)) :: st) h k n := ev_if_ne d ht (fun q => kt (have q := (not_congr (lg_cmp_eq _ _)).mp q; fun w => q ((lZ_eq ha hb).mpr w))) (fun q => kf (have q := (lg_cmp_eq _ _).mp q; (lZ_eq ha hb).mp q))
theorem ez_if_lt {off : Int} {tgt : Nat} (ha : iR a) (d : decode M.2.1 pc = .ok (.ifCond .lt off, 3)) (ht : (pc : Int) + off = (tgt : Int)) (kt : a < 0 → Ev G M R Q tgt L st h k n) (kf : 0 ≤ a → Ev G M R Q (pc + 3) L st h k n) : Ev G M R Q pc L (.int (iZ a) :: st) h k n := ev_if_lt d ht (fun q => kt ((iZ_lt ha (show iR 0 from ⟨by decide, by decide⟩)).mp q)) (fun q => kf (Int.not_lt.mp fun w => q ((iZ_lt ha (show iR 0 from ⟨by decide, by decide⟩)).mpr w)))
theorem ez_icmp_lt {off : Int} {tgt : Nat} (ha : iR a) (hb : iR b) (d : decode M.2.1 pc = .ok (.if_icmp .lt off, 3)) (ht : (pc : Int) + off = (tgt : Int)) (kt : a < b → Ev G M R Q tgt L st h k n) (kf : b ≤ a → Ev G M R Q (pc + 3) L st h k n) : Ev G M R Q pc L (.int (iZ b) :: .int (iZ a) :: st) h k n := ev_icmp_lt d ht (fun q => kt ((iZ_lt ha hb).mp q)) (fun q => kf (Int.not_lt.mp fun w => q ((iZ_lt ha hb).mpr w)))
theorem ez_lif_lt {off : Int} {tgt : Nat} (ha : lR a) (hb : lR b) (d : decode M.2.1 pc = .ok (.ifCond .lt off, 3)) (ht : (pc : Int) + off = (tgt : Int)) (kt : a < b → Ev G M R Q tgt L st h k n) (kf : b ≤ a → Ev G M R Q (pc + 3) L st h k n) : Ev G M R Q pc L (.int (lg_cmp (lZ a) (lZ b)) :: st) h k n := ev_if_lt d ht (fun q => kt (have q := (lg_cmp_lt _ _).mp q; (lZ_lt ha hb).mp q)) (fun q => kf (have q := fun w => q ((lg_cmp_lt _ _).mpr w); Int.not_lt.mp fun w => q ((lZ_lt ha hb).mpr w)))
theorem ez_if_ge {off : Int} {tgt : Nat} (ha : iR a) (d : decode M.2.1 pc = .ok (.ifCond .ge off, 3)) (ht : (pc : Int) + off = (tgt : Int)) (kt : 0 ≤ a → Ev G M R Q tgt L st h k n) (kf : a < 0 → Ev G M R Q (pc + 3) L st h k n) : Ev G M R Q pc L (.int (iZ a) :: st) h k n := ev_if_ge d ht (fun q => kt ((iZ_le (show iR 0 from ⟨by decide, by decide⟩) ha).mp q)) (fun q => kf (Int.not_le.mp fun w => q ((iZ_le (show iR 0 from ⟨by decide, by decide⟩) ha).mpr w)))
theorem ez_icmp_ge {off : Int} {tgt : Nat} (ha : iR a) (hb : iR b) (d : decode M.2.1 pc = .ok (.if_icmp .ge off, 3)) (ht : (pc : Int) + off = (tgt : Int)) (kt : b ≤ a → Ev G M R Q tgt L st h k n) (kf : a < b → Ev G M R Q (pc + 3) L st h k n) : Ev G M R Q pc L (.int (iZ b) :: .int (iZ a) :: st) h k n := ev_icmp_ge d ht (fun q => kt ((iZ_le hb ha).mp q)) (fun q => kf (Int.not_le.mp fun w => q ((iZ_le hb ha).mpr w)))
theorem ez_lif_ge {off : Int} {tgt : Nat} (ha : lR a) (hb : lR b) (d : decode M.2.1 pc = .ok (.ifCond .ge off, 3)) (ht : (pc : Int) + off = (tgt : Int)) (kt : b ≤ a → Ev G M R Q tgt L st h k n) (kf : a < b → Ev G M R Q (pc + 3) L st h k n) : Ev G M R Q pc L (.int (lg_cmp (lZ a) (lZ b)) :: st) h k n := ev_if_ge d ht (fun q => kt (have q := (lg_cmp_ge _ _).mp q; (lZ_le hb ha).mp q)) (fun q => kf (have q := fun w => q ((lg_cmp_ge _ _).mpr w); Int.not_le.mp fun w => q ((lZ_le hb ha).mpr w)))
theorem ez_if_gt {off : Int} {tgt : Nat} (ha : iR a) (d : decode M.2.1 pc = .ok (.ifCond .gt off, 3)) (ht : (pc : Int) + off = (tgt : Int)) (kt : 0 < a → Ev G M R Q tgt L st h k n) (kf : a ≤ 0 → Ev G M R Q (pc + 3) L st h k n) : Ev G M R Q pc L (.int (iZ a) :: st) h k n := ev_if_gt d ht (fun q => kt ((iZ_lt (show iR 0 from ⟨by decide, by decide⟩) ha).mp q)) (fun q => kf (Int.not_lt.mp fun w => q ((iZ_lt (show iR 0 from ⟨by decide, by decide⟩) ha).mpr w)))
theorem ez_icmp_gt {off : Int} {tgt : Nat} (ha : iR a) (hb : iR b) (d : decode M.2.1 pc = .ok (.if_icmp .gt off, 3)) (ht : (pc : Int) + off = (tgt : Int)) (kt : b < a → Ev G M R Q tgt L st h k n) (kf : a ≤ b → Ev G M R Q (pc + 3) L st h k n) : Ev G M R Q pc L (.int (iZ b) :: .int (iZ a) :: st) h k n := ev_icmp_gt d ht (fun q => kt ((iZ_lt hb ha).mp q)) (fun q => kf (Int.not_lt.mp fun w => q ((iZ_lt hb ha).mpr w)))
theorem ez_lif_gt {off : Int} {tgt : Nat} (ha : lR a) (hb : lR b) (d : decode M.2.1 pc = .ok (.ifCond .gt off, 3)) (ht : (pc : Int) + off = (tgt : Int)) (kt : b < a → Ev G M R Q tgt L st h k n) (kf : a ≤ b → Ev G M R Q (pc + 3) L st h k n) : Ev G M R Q pc L (.int (lg_cmp (lZ a) (lZ b)) :: st) h k n := ev_if_gt d ht (fun q => kt (have q := (lg_cmp_gt _ _).mp q; (lZ_lt hb ha).mp q)) (fun q => kf (have q := fun w => q ((lg_cmp_gt _ _).mpr w); Int.not_lt.mp fun w => q ((lZ_lt hb ha).mpr w)))
theorem ez_if_le {off : Int} {tgt : Nat} (ha : iR a) (d : decode M.2.1 pc = .ok (.ifCond .le off, 3)) (ht : (pc : Int) + off = (tgt : Int)) (kt : a ≤ 0 → Ev G M R Q tgt L st h k n) (kf : 0 < a → Ev G M R Q (pc + 3) L st h k n) : Ev G M R Q pc L (.int (iZ a) :: st) h k n := ev_if_le d ht (fun q => kt ((iZ_le ha (show iR 0 from ⟨by decide, by decide⟩)).mp q)) (fun q => kf (Int.not_le.mp fun w => q ((iZ_le ha (show iR 0 from ⟨by decide, by decide⟩)).mpr w)))
theorem ez_icmp_le {off : Int} {tgt : Nat} (ha : iR a) (hb : iR b) (d : decode M.2.1 pc = .ok (.if_icmp .le off, 3)) (ht : (pc : Int) + off = (tgt : Int)) (kt : a ≤ b → Ev G M R Q tgt L st h k n) (kf : b < a → Ev G M R Q (pc + 3) L st h k n) : Ev G M R Q pc L (.int (iZ b) :: .int (iZ a) :: st) h k n := ev_icmp_le d ht (fun q => kt ((iZ_le ha hb).mp q)) (fun q => kf (Int.not_le.mp fun w => q ((iZ_le ha hb).mpr w)))
theorem ez_lif_le {off : Int} {tgt : Nat} (ha : lR a) (hb : lR b) (d : decode M.2.1 pc = .ok (.ifCond .le off, 3)) (ht : (pc : Int) + off = (tgt : Int)) (kt : a ≤ b → Ev G M R Q tgt L st h k n) (kf : b < a → Ev G M R Q (pc + 3) L st h k n) : Ev G M R Q pc L (.int (lg_cmp (lZ a) (lZ b)) :: st) h k n := ev_if_le d ht (fun q => kt (have q := (lg_cmp_le _ _).mp q; (lZ_le ha hb).mp q)) (fun q => kf (have q := fun w => q ((lg_cmp_le _ _).mpr w); Int.not_le.mp fun w => q ((lZ_le ha hb).mpr w)))
theorem ez_iaload {x N : Nat} {F : Nat → Int} (j : Nat) (d : decode M.2.1 pc = .ok (.iaload, 1)) (hx : h x = some (.inl (G_i G, N, .inl (iA F)))) (hj : a = j) (hN : j < N) (hN2 : N ≤ 2147483647) (kk : Ev G M R Q (pc + 1) L (.int (iZ (F j)) :: st) h k n) : Ev G M R Q pc L (.int (iZ a) :: .ref x :: st) h k n :=
  ev_iaload d hx (iZ_in hj hN hN2) (by rw [iZ_cl hj (by omega)]; exact kk)
theorem ez_iastore {x N : Nat} {F F' : Nat → Int} {v : Int} (j : Nat) (d : decode M.2.1 pc = .ok (.iastore, 1)) (hx : h x = some (.inl (G_i G, N, .inl (iA F)))) (hj : a = j) (hN : j < N) (hN2 : N ≤ 2147483647) (hF : zup F j v = F') (kk : ∀ h2 : HM, h2 x = some (.inl (G_i G, N, .inl (iA F'))) → (∀ q, q ≠ x → h2 q = h q) → Ev G M R Q (pc + 1) L st h2 k n) : Ev G M R Q pc L (.int (iZ v) :: .int (iZ a) :: .ref x :: st) h k n :=
  ev_iastore2 d hx (iZ_in hj hN hN2) (by rw [iZ_cl hj (by omega), iA_up, hF]) kk
theorem ez_laload {x N : Nat} {F : Nat → Int} (j : Nat) (d : decode M.2.1 pc = .ok (.laload, 1)) (hx : h x = some (.inl (G_j G, N, .inr (.inl (lA F))))) (hj : a = j) (hN : j < N) (hN2 : N ≤ 2147483647) (kk : Ev G M R Q (pc + 1) L (.long (lZ (F j)) :: st) h k n) : Ev G M R Q pc L (.int (iZ a) :: .ref x :: st) h k n :=
  ev_laload d hx (iZ_in hj hN hN2) (by rw [iZ_cl hj (by omega)]; exact kk)
theorem ez_lastore {x N : Nat} {F F' : Nat → Int} {v : Int} (j : Nat) (d : decode M.2.1 pc = .ok (.lastore, 1)) (hx : h x = some (.inl (G_j G, N, .inr (.inl (lA F))))) (hj : a = j) (hN : j < N) (hN2 : N ≤ 2147483647) (hF : zup F j v = F') (kk : ∀ h2 : HM, h2 x = some (.inl (G_j G, N, .inr (.inl (lA F')))) → (∀ q, q ≠ x → h2 q = h q) → Ev G M R Q (pc + 1) L st h2 k n) : Ev G M R Q pc L (.long (lZ v) :: .int (iZ a) :: .ref x :: st) h k n :=
  ev_lastore2 d hx (iZ_in hj hN hN2) (by rw [iZ_cl hj (by omega), lA_up, hF]) kk
theorem ez_max {idx : Nat} (ha : iR a) (hb : iR b) (d : decode M.2.1 pc = .ok (.invokestatic idx, 3)) (h1 : Cond.methodLink M.1.cls idx Lib.Math.max.name ∈ Wall) (h2 : Cond.static Lib.Math.max.name ∈ Wall) (h3 : Cond.initialized "java/lang/Math" ∈ Wall) (h4 : Cond.code Lib.Math.max.name Lib.Math.max.code 2 (some .int) ∈ Wall) (hf : 1 ≤ R.frames) (hlo : (st.map fun v => v.category).sum + 13 ≤ R.locals) (hk : k ≤ R.cells) (hn : n ≤ R.slots) (kk : Ev G M R Q (pc + 3) L (.int (iZ (max a b)) :: st) h k n) : Ev G M R Q pc L (.int (iZ b) :: .int (iZ a) :: st) h k n := by
  have e : (if iZ a < iZ b then iZ b else iZ a) = iZ (max a b) := by
    by_cases q : a < b
    · rw [if_pos ((iZ_lt ha hb).mpr q), Int.max_eq_right (by omega)]
    · rw [if_neg (fun w => q ((iZ_lt ha hb).mp w)), Int.max_eq_left (by omega)]
  exact ev_max d h1 h2 h3 h4 hf hlo hk hn (by rw [e]; exact kk)
theorem ez_min {idx : Nat} (ha : iR a) (hb : iR b) (d : decode M.2.1 pc = .ok (.invokestatic idx, 3)) (h1 : Cond.methodLink M.1.cls idx Lib.Math.min.name ∈ Wall) (h2 : Cond.static Lib.Math.min.name ∈ Wall) (h3 : Cond.initialized "java/lang/Math" ∈ Wall) (h4 : Cond.code Lib.Math.min.name Lib.Math.min.code 2 (some .int) ∈ Wall) (hf : 1 ≤ R.frames) (hlo : (st.map fun v => v.category).sum + 13 ≤ R.locals) (hk : k ≤ R.cells) (hn : n ≤ R.slots) (kk : Ev G M R Q (pc + 3) L (.int (iZ (min a b)) :: st) h k n) : Ev G M R Q pc L (.int (iZ b) :: .int (iZ a) :: st) h k n := by
  have e : (if iZ b < iZ a then iZ b else iZ a) = iZ (min a b) := by
    by_cases q : b < a
    · rw [if_pos ((iZ_lt hb ha).mpr q), Int.min_eq_right (by omega)]
    · rw [if_neg (fun w => q ((iZ_lt hb ha).mp w)), Int.min_eq_left (by omega)]
  exact ev_min d h1 h2 h3 h4 hf hlo hk hn (by rw [e]; exact kk)
theorem ez_abs {idx : Nat} (ha : iR a) (d : decode M.2.1 pc = .ok (.invokestatic idx, 3)) (h1 : Cond.methodLink M.1.cls idx Lib.Math.abs.name ∈ Wall) (h2 : Cond.static Lib.Math.abs.name ∈ Wall) (h3 : Cond.initialized "java/lang/Math" ∈ Wall) (h4 : Cond.code Lib.Math.abs.name Lib.Math.abs.code 1 (some .int) ∈ Wall) (hf : 1 ≤ R.frames) (hlo : (st.map fun v => v.category).sum + 13 ≤ R.locals) (hk : k ≤ R.cells) (hn : n ≤ R.slots) (kk : Ev G M R Q (pc + 3) L (.int (iZ ((a.natAbs : Int))) :: st) h k n) : Ev G M R Q pc L (.int (iZ a) :: st) h k n := by
  have e : (if (0 : Int32) ≤ iZ a then iZ a else 0 - iZ a) = iZ (a.natAbs : Int) := by
    show (if iZ 0 ≤ iZ a then iZ a else iZ 0 - iZ a) = _
    by_cases q : 0 ≤ a
    · rw [if_pos ((iZ_le (a := 0) ⟨by decide, by decide⟩ ha).mpr q)]
      congr 1
      omega
    · rw [if_neg (fun w => q ((iZ_le (a := 0) ⟨by decide, by decide⟩ ha).mp w)), iZ_sub]
      congr 1
      omega
  exact ev_abs d h1 h2 h3 h4 hf hlo hk hn (by rw [e]; exact kk)
theorem ez_maxl {idx : Nat} (ha : lR a) (hb : lR b) (d : decode M.2.1 pc = .ok (.invokestatic idx, 3)) (h1 : Cond.methodLink M.1.cls idx Lib.MathLoose.max_long.x ∈ Wall) (h2 : Cond.static Lib.MathLoose.max_long.x ∈ Wall) (h3 : Cond.initialized "java/lang/Math" ∈ Wall) (h4 : Cond.code Lib.MathLoose.max_long.x Lib.MathLoose.max_long.code 4 (some .long) ∈ Wall) (hf : 1 ≤ R.frames) (hlo : (st.map fun v => v.category).sum + 15 ≤ R.locals) (hk : k ≤ R.cells) (hn : n ≤ R.slots) (kk : Ev G M R Q (pc + 3) L (.long (lZ (max a b)) :: st) h k n) : Ev G M R Q pc L (.long (lZ b) :: .long (lZ a) :: st) h k n := by
  have e : (if lZ b < lZ a then lZ a else lZ b) = lZ (max a b) := by
    by_cases q : b < a
    · rw [if_pos ((lZ_lt hb ha).mpr q), Int.max_eq_left (by omega)]
    · rw [if_neg (fun w => q ((lZ_lt hb ha).mp w)), Int.max_eq_right (by omega)]
  exact ev_maxl d h1 h2 h3 h4 hf hlo hk hn (by rw [e]; exact kk)
theorem ez_copyi {x x0 N N0 idx : Nat} {F K F' : Nat → Int} {c : Int} (sp dp m : Nat) (d : decode M.2.1 pc = .ok (.invokestatic idx, 3)) (h1 : Cond.methodLink M.1.cls idx arraycopyName ∈ Wall) (h2 : Cond.native arraycopyName ∈ Wall) (h3 : Cond.static arraycopyName ∈ Wall) (h4 : Cond.initialized "java/lang/System" ∈ Wall) (hx0 : h x0 = some (.inl (G_i G, N0, .inl (iA F)))) (hx : h x = some (.inl (G_i G, N, .inl (iA K)))) (ha : a = sp) (hb : b = dp) (hc : c = m) (hs : sp + m ≤ N0) (hd : dp + m ≤ N) (hN0 : N0 ≤ 2147483647) (hN : N ≤ 2147483647) (hf : 1 ≤ R.frames) (hlo : (st.map fun v => v.category).sum + (nativeFrameWords "java/lang/System" "arraycopy" 5 + 11) ≤ R.locals) (hF : va_cpy F K sp dp m = F') (kk : ∀ h2 : HM, h2 x = some (.inl (G_i G, N, .inl (iA F'))) → (∀ q, q ≠ x → h2 q = h q) → Ev G M R Q (pc + 3) L st h2 k n) : Ev G M R Q pc L (.int (iZ c) :: .int (iZ b) :: .ref x :: .int (iZ a) :: .ref x0 :: st) h k n := by
  have nn : ∀ (z : Int) (j : Nat), z = j → j ≤ 2147483647 → ¬ iZ z < 0 := by
    intro z j hz hj q
    rw [show (0 : Int32) = iZ 0 from rfl, iZ_lt ⟨by omega, by omega⟩ ⟨by omega, by omega⟩] at q
    omega
  refine ev_copyi d h1 h2 h3 h4 hx0 hx (nn a sp ha (by omega)) (nn b dp hb (by omega)) (nn c m hc (by omega)) (by rw [iZ_cl ha (by omega), iZ_cl hc (by omega)]; exact hs) (by rw [iZ_cl hb (by omega), iZ_cl hc (by omega)]; exact hd) hf hlo ?_
  exact kk _ (by rw [iZ_cl ha (by omega), iZ_cl hb (by omega), iZ_cl hc (by omega), iA_cpy, hF]; exact hup_s) (fun _ hq => hup_n hq)
theorem ez_copyl {x x0 N N0 idx : Nat} {F K F' : Nat → Int} {c : Int} (sp dp m : Nat) (d : decode M.2.1 pc = .ok (.invokestatic idx, 3)) (h1 : Cond.methodLink M.1.cls idx arraycopyName ∈ Wall) (h2 : Cond.native arraycopyName ∈ Wall) (h3 : Cond.static arraycopyName ∈ Wall) (h4 : Cond.initialized "java/lang/System" ∈ Wall) (hx0 : h x0 = some (.inl (G_j G, N0, .inr (.inl (lA F))))) (hx : h x = some (.inl (G_j G, N, .inr (.inl (lA K))))) (ha : a = sp) (hb : b = dp) (hc : c = m) (hs : sp + m ≤ N0) (hd : dp + m ≤ N) (hN0 : N0 ≤ 2147483647) (hN : N ≤ 2147483647) (hf : 1 ≤ R.frames) (hlo : (st.map fun v => v.category).sum + (nativeFrameWords "java/lang/System" "arraycopy" 5 + 11) ≤ R.locals) (hF : va_cpy F K sp dp m = F') (kk : ∀ h2 : HM, h2 x = some (.inl (G_j G, N, .inr (.inl (lA F')))) → (∀ q, q ≠ x → h2 q = h q) → Ev G M R Q (pc + 3) L st h2 k n) : Ev G M R Q pc L (.int (iZ c) :: .int (iZ b) :: .ref x :: .int (iZ a) :: .ref x0 :: st) h k n := by
  have nn : ∀ (z : Int) (j : Nat), z = j → j ≤ 2147483647 → ¬ iZ z < 0 := by
    intro z j hz hj q
    rw [show (0 : Int32) = iZ 0 from rfl, iZ_lt ⟨by omega, by omega⟩ ⟨by omega, by omega⟩] at q
    omega
  refine ev_copyl d h1 h2 h3 h4 hx0 hx (nn a sp ha (by omega)) (nn b dp hb (by omega)) (nn c m hc (by omega)) (by rw [iZ_cl ha (by omega), iZ_cl hc (by omega)]; exact hs) (by rw [iZ_cl hb (by omega), iZ_cl hc (by omega)]; exact hd) hf hlo ?_
  exact kk _ (by rw [iZ_cl ha (by omega), iZ_cl hb (by omega), iZ_cl hc (by omega), lA_cpy, hF]; exact hup_s) (fun _ hq => hup_n hq)
end EVZ
