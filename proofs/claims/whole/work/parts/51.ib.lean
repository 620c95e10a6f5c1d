def EE (G : GT) (A : Nat → Nat) (V : Nat → Nat → Int) (Z : Nat → Int) (Kp : Nat → Option Nat) (σ : Nat → Value) : Nat → va_E := fun i => match i with
  | 0 => .inr (0, [.ref (A 1), .ref (A 3), .ref (A 4), .ref (A 6), .ref (A 11), .ref (A 13), .ref (A 20), .ref (A 21), .ref (A 22)])
  | 1 => .inr (1, [.ref (A 2), .int (iZ (Z 0))])
  | 2 => .inl (G_i G, 1000, .inl (iA (V 2)))
  | 3 => .inr (5, [.int (iZ (Z 1)), .int (iZ (Z 2)), .long (lZ (Z 3))])
  | 4 => .inr (10, [.int (iZ (Z 4)), .int (iZ (Z 5)), .int (iZ (Z 6)), .int (iZ (Z 7)), .ref (A 5), .int (iZ (Z 8))])
  | 5 => .inl (G_i G, 20, .inl (iA (V 5)))
  | 6 => .inr (2, [.ref (A 7), .ref (A 8), .ref (A 9), .ref (A 10), .int (iZ (Z 9))])
  | 7 => .inl (G_j G, 16, .inr (.inl (lA (V 7))))
  | 8 => .inl (G_j G, 16, .inr (.inl (lA (V 8))))
  | 9 => .inl (G_i G, 16, .inl (iA (V 9)))
  | 10 => .inl (G_i G, 1024, .inl (iA (V 10)))
  | 11 => .inr (7, [.ref (A 12), .int (iZ (Z 10)), .int (iZ (Z 11))])
  | 12 => .inl (G_q G, 10, .inr (.inr (.inr (.inr Kp))))
  | 13 => .inr (3, [.ref (A 1), .ref (A 3), .ref (A 14), .ref (A 19), .int (iZ (Z 12)), .int (iZ (Z 13)), .int (iZ (Z 14)), .long (lZ (Z 15)), .long (lZ (Z 16)), .long (lZ (Z 17))])
  | 14 => .inr (2, [.ref (A 15), .ref (A 16), .ref (A 17), .ref (A 18), .int (iZ (Z 18))])
  | 15 => .inl (G_j G, 16, .inr (.inl (lA (V 15))))
  | 16 => .inl (G_j G, 16, .inr (.inl (lA (V 16))))
  | 17 => .inl (G_i G, 16, .inl (iA (V 17)))
  | 18 => .inl (G_i G, 1024, .inl (iA (V 18)))
  | 19 => .inl (G_i G, 64, .inl (iA (V 19)))
  | 20 => .inr (4, [.ref (A 1), .ref (A 3), .ref (A 6)])
  | 21 => .inr (6, [.ref (A 6), .int (iZ (Z 19)), .int (iZ (Z 20))])
  | 22 => .inr (9, [.ref (A 6), .ref (A 3), .ref (A 4), .ref (A 23), .ref (A 24), .ref (A 25), .ref (A 26), .ref (A 27), .ref (A 28), .ref (A 29)])
  | 23 => .inl (G_i G, 16, .inl (iA (V 23)))
  | 24 => .inl (G_i G, 16, .inl (iA (V 24)))
  | 25 => .inl (G_i G, 16, .inl (iA (V 25)))
  | 26 => .inl (G_i G, 97, .inl (iA (V 26)))
  | 27 => .inl (G_i G, 400, .inl (iA (V 27)))
  | 28 => .inl (G_i G, 400, .inl (iA (V 28)))
  | 29 => .inl (G_i G, 400, .inl (iA (V 29)))
  | 30 => .inr (11, fsN 34 σ)
  | 31 => .inl (G_i G, 1000, .inl (iA (V 31)))
  | 32 => .inl (G_j G, 16, .inr (.inl (lA (V 32))))
  | 33 => .inl (G_j G, 16, .inr (.inl (lA (V 33))))
  | 34 => .inl (G_i G, 16, .inl (iA (V 34)))
  | 35 => .inl (G_i G, 1024, .inl (iA (V 35)))
  | 36 => .inl (G_i G, 10, .inl (iA (V 36)))
  | 37 => .inl (G_j G, 160, .inr (.inl (lA (V 37))))
  | 38 => .inl (G_j G, 160, .inr (.inl (lA (V 38))))
  | 39 => .inl (G_i G, 160, .inl (iA (V 39)))
  | 40 => .inl (G_i G, 10240, .inl (iA (V 40)))
  | 41 => .inl (G_j G, 16, .inr (.inl (lA (V 41))))
  | 42 => .inl (G_j G, 16, .inr (.inl (lA (V 42))))
  | 43 => .inl (G_i G, 16, .inl (iA (V 43)))
  | 44 => .inl (G_i G, 1024, .inl (iA (V 44)))
  | 45 => .inl (G_i G, 20, .inl (iA (V 45)))
  | 46 => .inl (G_i G, 194, .inl (iA (V 46)))
  | 47 => .inl (G_i G, 3104, .inl (iA (V 47)))
  | _ => .inl (G_i G, 65, .inl (iA (V 48)))
def Sg (A : Nat → Nat) (Z : Nat → Int) (σ : Nat → Value) : Prop :=
  σ 0 = .int (iZ (Z 0)) ∧ σ 1 = .ref (A 31) ∧ σ 2 = .int (iZ (Z 1)) ∧ σ 3 = .int (iZ (Z 2)) ∧ σ 4 = .int (iZ (Z 9)) ∧ σ 5 = .ref (A 32) ∧ σ 6 = .ref (A 33) ∧ σ 7 = .ref (A 34) ∧ σ 8 = .ref (A 35) ∧ σ 9 = .int (iZ (Z 21)) ∧ σ 10 = .int (iZ (Z 11)) ∧ σ 11 = .ref (A 36) ∧ σ 12 = .ref (A 37) ∧ σ 13 = .ref (A 38) ∧ σ 14 = .ref (A 39) ∧ σ 15 = .ref (A 40) ∧ σ 19 = .ref (A 41) ∧ σ 20 = .ref (A 42) ∧ σ 21 = .ref (A 43) ∧ σ 22 = .ref (A 44) ∧ σ 25 = .int (iZ (Z 8)) ∧ σ 26 = .ref (A 45) ∧ σ 27 = .int (iZ (Z 4)) ∧ σ 28 = .int (iZ (Z 5)) ∧ σ 29 = .int (iZ (Z 6)) ∧ σ 30 = .int (iZ (Z 7)) ∧ σ 31 = .ref (A 46) ∧ σ 32 = .ref (A 47) ∧ σ 33 = .ref (A 48)
theorem c49 {P : Nat → Prop} (h0 : P 0) (h1 : P 1) (h2 : P 2) (h3 : P 3) (h4 : P 4) (h5 : P 5) (h6 : P 6) (h7 : P 7) (h8 : P 8) (h9 : P 9) (h10 : P 10) (h11 : P 11) (h12 : P 12) (h13 : P 13) (h14 : P 14) (h15 : P 15) (h16 : P 16) (h17 : P 17) (h18 : P 18) (h19 : P 19) (h20 : P 20) (h21 : P 21) (h22 : P 22) (h23 : P 23) (h24 : P 24) (h25 : P 25) (h26 : P 26) (h27 : P 27) (h28 : P 28) (h29 : P 29) (h30 : P 30) (h31 : P 31) (h32 : P 32) (h33 : P 33) (h34 : P 34) (h35 : P 35) (h36 : P 36) (h37 : P 37) (h38 : P 38) (h39 : P 39) (h40 : P 40) (h41 : P 41) (h42 : P 42) (h43 : P 43) (h44 : P 44) (h45 : P 45) (h46 : P 46) (h47 : P 47) (h48 : P 48) : ∀ j, j < 49 → P j := by
  intro j hj
  rcases (show j = 0 ∨ j = 1 ∨ j = 2 ∨ j = 3 ∨ j = 4 ∨ j = 5 ∨ j = 6 ∨ j = 7 ∨ j = 8 ∨ j = 9 ∨ j = 10 ∨ j = 11 ∨ j = 12 ∨ j = 13 ∨ j = 14 ∨ j = 15 ∨ j = 16 ∨ j = 17 ∨ j = 18 ∨ j = 19 ∨ j = 20 ∨ j = 21 ∨ j = 22 ∨ j = 23 ∨ j = 24 ∨ j = 25 ∨ j = 26 ∨ j = 27 ∨ j = 28 ∨ j = 29 ∨ j = 30 ∨ j = 31 ∨ j = 32 ∨ j = 33 ∨ j = 34 ∨ j = 35 ∨ j = 36 ∨ j = 37 ∨ j = 38 ∨ j = 39 ∨ j = 40 ∨ j = 41 ∨ j = 42 ∨ j = 43 ∨ j = 44 ∨ j = 45 ∨ j = 46 ∨ j = 47 ∨ j = 48 by omega) with rfl | rfl | rfl | rfl | rfl | rfl | rfl | rfl | rfl | rfl | rfl | rfl | rfl | rfl | rfl | rfl | rfl | rfl | rfl | rfl | rfl | rfl | rfl | rfl | rfl | rfl | rfl | rfl | rfl | rfl | rfl | rfl | rfl | rfl | rfl | rfl | rfl | rfl | rfl | rfl | rfl | rfl | rfl | rfl | rfl | rfl | rfl | rfl | rfl
  · exact h0
  · exact h1
  · exact h2
  · exact h3
  · exact h4
  · exact h5
  · exact h6
  · exact h7
  · exact h8
  · exact h9
  · exact h10
  · exact h11
  · exact h12
  · exact h13
  · exact h14
  · exact h15
  · exact h16
  · exact h17
  · exact h18
  · exact h19
  · exact h20
  · exact h21
  · exact h22
  · exact h23
  · exact h24
  · exact h25
  · exact h26
  · exact h27
  · exact h28
  · exact h29
  · exact h30
  · exact h31
  · exact h32
  · exact h33
  · exact h34
  · exact h35
  · exact h36
  · exact h37
  · exact h38
  · exact h39
  · exact h40
  · exact h41
  · exact h42
  · exact h43
  · exact h44
  · exact h45
  · exact h46
  · exact h47
  · exact h48
def vu (V : Nat → Nat → Int) (j : Nat) (X : Nat → Int) : Nat → Nat → Int := fun k => if k = j then X else V k
theorem Mo.le {A : Nat → Nat} (h : Mo A) {i : Nat} (hi : i < 49) : A i ≤ A 48 := by
  by_cases q : i = 48
  · subst q; exact Nat.le_refl _
  · exact Nat.le_of_lt (h i 48 (by omega) (by decide))
/-- the cells but those of S are kept -/
def K49 (A : Nat → Nat) (S : List Nat) (h h' : HM) : Prop := ∀ j, j < 49 → j ∉ S → ∀ e, h (A j) = some e → h' (A j) = some e
theorem nmap {A : Nat → Nat} (hM : Mo A) {S : List Nat} (hS : ∀ j ∈ S, j < 49) {j : Nat} (hj : j < 49) (hn : j ∉ S) : A j ∉ S.map A := by
  intro w
  obtain ⟨k, hk, e⟩ := List.mem_map.mp w
  have : k ≠ j := fun q => hn (q ▸ hk)
  exact hM.ne this (hS k hk) hj e
theorem kFm {A : Nat → Nat} {S : List Nat} {h h' : HM} (hM : Mo A) (f : Fm (S.map A) h h') (hS : ∀ j ∈ S, j < 49) : K49 A S h h' := fun _ hj hn _ he => (f _ (nmap hM hS hj hn)).trans he
theorem kFb {A : Nat → Nat} {S : List Nat} {h h' : HM} (hM : Mo A) (f : Fb (A 48) (S.map A) h h') (hS : ∀ j ∈ S, j < 49) : K49 A S h h' := fun _ hj hn _ he => f _ _ he (hM.le hj) (nmap hM hS hj hn)
theorem kFx {A : Nat → Nat} {h h' : HM} (f : Fx [] h h') : K49 A [] h h' := fun _ _ _ _ he => f _ _ he nin0
def AllS (A : Nat → Nat) (E : Nat → va_E) (h : HM) : List Nat → Prop
  | [] => True
  | j :: t => h (A j) = some (E j) ∧ AllS A E h t
theorem allS_m {A : Nat → Nat} {E : Nat → va_E} {h : HM} : ∀ {S : List Nat}, AllS A E h S → ∀ j ∈ S, h (A j) = some (E j)
  | [], _, j, hj => absurd hj List.not_mem_nil
  | k :: t, a, j, hj => by
    rcases List.mem_cons.mp hj with rfl | q
    · exact a.1
    · exact allS_m a.2 j q
theorem WC.up {A : Nat → Nat} {E E' : Nat → va_E} {h h' : HM} {S : List Nat} (hW : WC A E h) (k : K49 A S h h') (a : AllS A E' h' S) (hE : ∀ j, j < 49 → j ∉ S → E' j = E j) : WC A E' h' := by
  intro j hj
  by_cases q : j ∈ S
  · exact allS_m a j q
  · rw [hE j hj q]
    exact k j hj q _ (hW j hj)
theorem pFm {G : GT} {A : Nat → Nat} {S : List Nat} {h h' : HM} {nx ct : Nat} {Kp : Nat → Option Nat} {Ke : Nat → Nat} {C : Nat → Cu} (hM : Mo A) (w : PaW G h (A 48) (A 11) (A 12) nx ct Kp Ke C) (f : Fm (S.map A) h h') (hS : ∀ j ∈ S, j < 49 ∧ j ≠ 11 ∧ j ≠ 12) : PaW G h' (A 48) (A 11) (A 12) nx ct Kp Ke C :=
  w.fm f (fun b hb => by
    obtain ⟨j, hj, rfl⟩ := List.mem_map.mp hb
    obtain ⟨h1, h2, h3⟩ := hS j hj
    exact ⟨hM.le h1, hM.ne h2 h1 (by decide), hM.ne h3 h1 (by decide)⟩)
/-- the kept rows of both sides -/
def rgI (Kp : Nat → Option Nat) (C : Nat → Cu) (B0 B1 B2 B3 B4 : Nat → Int) : Prop := ∀ j, j < 10 → ∀ q, Kp j = some q → (C j).1 ≤ 16 ∧ B0 j = ((C j).1 : Int) ∧ vw (C j).1 (C j).2.1 (C j).2.2.1 (C j).2.2.2.1 (C j).2.2.2.2 (fun k => B1 (16 * j + k)) (fun k => B2 (16 * j + k)) (fun k => B3 (16 * j + k)) (fun k => B4 (1024 * j + k)) ∧ rgs (C j).2.1 (C j).2.2.1 (C j).2.2.2.1 (C j).2.2.2.2 ∧ stE (C j).1 (C j).2.1 (C j).2.2.1
theorem rgI_keep {Kp Kp' : Nat → Option Nat} {C : Nat → Cu} {B0 B1 B2 B3 B4 K1 K2 K3 K4 S1 S2 S3 S4 : Nat → Int} {nx n : Nat} (h : rgI Kp C B0 B1 B2 B3 B4) (hK : ∀ j, j ≠ nx → Kp' j = Kp j) (hn : n ≤ 16) (hv : vw n K1 K2 K3 K4 S1 S2 S3 S4) (hr : rgs K1 K2 K3 K4) (hs : stE n K1 K2) : rgI Kp' (fun j => if j = nx then (n, K1, K2, K3, K4) else C j) (zup B0 nx (n : Int)) (va_cpy S1 B1 0 (16 * nx) 16) (va_cpy S2 B2 0 (16 * nx) 16) (va_cpy S3 B3 0 (16 * nx) 16) (va_cpy S4 B4 0 (1024 * nx) 1024) := by
  intro j hj q hq
  have ci : ∀ (F B : Nat → Int) (w m k : Nat), k < m → va_cpy F B 0 w m (w + k) = F k := by
    intro F B w m k hk
    rw [cpy_i, if_pos (by omega)]
    congr 1
    omega
  have co : ∀ (F B : Nat → Int) (w m k : Nat), (k < w ∨ w + m ≤ k) → va_cpy F B 0 w m k = B k := by
    intro F B w m k hk
    rw [cpy_i, if_neg (by omega)]
  by_cases e : j = nx
  · subst e
    simp only [if_pos]
    refine ⟨hn, zup_s, fun k hk => ?_, hr, hs⟩
    obtain ⟨v1, v2, v3, v4⟩ := hv k hk
    have z := hr.2.2.1 k
    refine ⟨v1.trans (ci _ _ _ _ _ (by omega)).symm, v2.trans (ci _ _ _ _ _ (by omega)).symm, v3.trans (ci _ _ _ _ _ (by omega)).symm, fun i hi => (v4 i hi).trans (ci _ _ _ _ _ ?_).symm⟩
    replace hi : (i : Int) < K3 k := hi
    omega
  · simp only [if_neg e]
    rw [hK j e] at hq
    obtain ⟨h1, h2, h3, h4, h5⟩ := h j hj q hq
    refine ⟨h1, by rw [zup_n e]; exact h2, fun k hk => ?_, h4, h5⟩
    obtain ⟨v1, v2, v3, v4⟩ := h3 k hk
    have z := h4.2.2.1 k
    refine ⟨v1.trans (co _ _ _ _ _ (by omega)).symm, v2.trans (co _ _ _ _ _ (by omega)).symm, v3.trans (co _ _ _ _ _ (by omega)).symm, fun i hi => (v4 i hi).trans (co _ _ _ _ _ (by omega)).symm⟩
def vlS (Kp : Nat → Option Nat) (nx ct : Nat) : Prop := ∀ t, t < ct → ∃ q, Kp ((nx + (9 - t)) % 10) = some q
theorem vlS_keep {Kp Kp' : Nat → Option Nat} {nx ct : Nat} (hc : ct ≤ 10) (hx : nx < 10) (h : vlS Kp nx ct) (hK : ∀ j, j ≠ nx → Kp' j = Kp j) (hs : ∃ q, Kp' nx = some q) : vlS Kp' ((nx + 1) % 10) (min (ct + 1) 10) := by
  intro t ht
  by_cases e : ((nx + 1) % 10 + (9 - t)) % 10 = nx
  · rw [e]; exact hs
  · rw [hK _ e]
    have : t ≠ 0 := fun w => e (by subst w; omega)
    obtain ⟨q, hq⟩ := h (t - 1) (by omega)
    exact ⟨q, by rw [show ((nx + 1) % 10 + (9 - t)) % 10 = (nx + (9 - (t - 1))) % 10 from by omega]; exact hq⟩
theorem vlS_undo {Kp : Nat → Option Nat} {nx ct : Nat} (hc : ct ≤ 10) (h : vlS Kp nx ct) : vlS Kp ((nx + 9) % 10) (ct - 1) := by
  intro t ht
  obtain ⟨q, hq⟩ := h (t + 1) (by omega)
  exact ⟨q, by rw [show ((nx + 9) % 10 + (9 - t)) % 10 = (nx + (9 - (t + 1))) % 10 from by omega]; exact hq⟩
theorem rgs_ring {B1 B2 B3 B4 S1 S2 S3 S4 : Nat → Int} {a : Nat} (h : rgs B1 B2 B3 B4) (g : rgs S1 S2 S3 S4) : rgs (va_cpy S1 B1 0 (16 * a) 16) (va_cpy S2 B2 0 (16 * a) 16) (va_cpy S3 B3 0 (16 * a) 16) (va_cpy S4 B4 0 (1024 * a) 1024) := ⟨cpy_q g.1 h.1, cpy_q g.2.1 h.2.1, cpy_q g.2.2.1 h.2.2.1, cpy_q g.2.2.2 h.2.2.2⟩
theorem rgs_back {B1 B2 B3 B4 S1 S2 S3 S4 : Nat → Int} {a b : Nat} (h : rgs B1 B2 B3 B4) (g : rgs S1 S2 S3 S4) : rgs (va_cpy B1 S1 a 0 16) (va_cpy B2 S2 a 0 16) (va_cpy B3 S3 a 0 16) (va_cpy B4 S4 b 0 1024) := ⟨cpy_q h.1 g.1, cpy_q h.2.1 g.2.1, cpy_q h.2.2.1 g.2.2.1, cpy_q h.2.2.2 g.2.2.2⟩
/-- taken back: both sides alike -/
theorem v_back {c c' : Cu} {B1 B2 B3 B4 S1 S2 S3 S4 F1 F2 F3 F4 : Nat → Int} {j : Nat} (e : CuE c' c) (hn : c.1 ≤ 16) (hv : vw c.1 c.2.1 c.2.2.1 c.2.2.2.1 c.2.2.2.2 (fun k => B1 (16 * j + k)) (fun k => B2 (16 * j + k)) (fun k => B3 (16 * j + k)) (fun k => B4 (1024 * j + k))) (hr : rgs c.2.1 c.2.2.1 c.2.2.2.1 c.2.2.2.2) (hs : stE c.1 c.2.1 c.2.2.1) (g : rgs F1 F2 F3 F4) : vw c'.1 (va_cpy c'.2.1 F1 0 0 c'.1) (va_cpy c'.2.2.1 F2 0 0 c'.1) (va_cpy c'.2.2.2.1 F3 0 0 c'.1) (va_cpy c'.2.2.2.2 F4 0 0 (c'.1 * 64)) (va_cpy B1 S1 (16 * j) 0 16) (va_cpy B2 S2 (16 * j) 0 16) (va_cpy B3 S3 (16 * j) 0 16) (va_cpy B4 S4 (1024 * j) 0 1024) ∧ rgs (va_cpy c'.2.1 F1 0 0 c'.1) (va_cpy c'.2.2.1 F2 0 0 c'.1) (va_cpy c'.2.2.2.1 F3 0 0 c'.1) (va_cpy c'.2.2.2.2 F4 0 0 (c'.1 * 64)) ∧ stE c'.1 (va_cpy c'.2.1 F1 0 0 c'.1) (va_cpy c'.2.2.1 F2 0 0 c'.1) := by
  obtain ⟨e1, e2, e3⟩ := e
  have cb : ∀ (F B : Nat → Int) (w m k : Nat), k < m → va_cpy F B w 0 m k = F (w + k) := by
    intro F B w m k hk
    rw [cpy_i, if_pos (by omega)]
    congr 1
  refine ⟨fun k hk => ?_, ⟨cpy_rr (fun k hk => ?_) g.1, cpy_rr (fun k hk => ?_) g.2.1, cpy_rr (fun k hk => ?_) g.2.2.1, cpy_rr (fun k hk => ?_) g.2.2.2⟩, fun k hk => ?_⟩
  · obtain ⟨a1, a2, a3⟩ := e2 k hk
    obtain ⟨v1, v2, v3, v4⟩ := hv k (by omega)
    have z := hr.2.2.1 k
    rw [cpy_0k hk, cpy_0k hk, cpy_0k hk, cb _ _ _ _ _ (by omega), cb _ _ _ _ _ (by omega), cb _ _ _ _ _ (by omega)]
    refine ⟨a1.trans v1, a2.trans v2, a3.trans v3, fun i hi => ?_⟩
    rw [a3] at hi
    rw [cpy_0k (by omega), cb _ _ _ _ _ (by omega), e3 _ (by omega)]
    exact v4 i hi
  · rw [(e2 k hk).1]; exact hr.1 k
  · rw [(e2 k hk).2.1]; exact hr.2.1 k
  · rw [(e2 k hk).2.2]; exact hr.2.2.1 k
  · rw [e3 k hk]; exact hr.2.2.2 k
  · rw [cpy_0k hk, cpy_0k hk, (e2 k hk).1, (e2 k hk).2.1]; exact hs k (by omega)
def RB (V : Nat → Nat → Int) (Z : Nat → Int) (n0 nu : Nat) : Prop := n0 ≤ 1000 ∧ V 31 = V 2 ∧ (∀ k, 0 ≤ V 2 k ∧ V 2 k ≤ 255) ∧ (1 ≤ Z 1 ∧ Z 1 ≤ 120000) ∧ (1 ≤ Z 2 ∧ Z 2 ≤ 1001) ∧ Z 3 = 705600000 * Z 2 / Z 1 ∧ (11760000 ≤ Z 3 ∧ Z 3 ≤ 705600000) ∧ uOK (Z 4) (Z 5) (Z 6) (Z 7) ∧ nu ≤ 20 ∧ V 45 = V 5 ∧ ∀ k, k < nu → 0 ≤ V 5 k ∧ V 5 k ≤ 216000
def RC (V : Nat → Nat → Int) (n : Nat) : Prop := n ≤ 16 ∧ vw n (V 7) (V 8) (V 9) (V 10) (V 32) (V 33) (V 34) (V 35) ∧ rgs (V 7) (V 8) (V 9) (V 10) ∧ rgs (V 32) (V 33) (V 34) (V 35) ∧ stE n (V 7) (V 8)
def RS (V : Nat → Nat → Int) (Z : Nat → Int) : Prop := rgs (V 15) (V 16) (V 17) (V 18) ∧ iR (Z 19) ∧ iR (Z 20) ∧ (∀ k, -100 ≤ V 23 k ∧ V 23 k ≤ 300000) ∧ (∀ k, -100 ≤ V 24 k ∧ V 24 k ≤ 300000) ∧ (∀ k, 0 ≤ V 25 k ∧ V 25 k ≤ 20000000) ∧ (∀ k, 0 ≤ V 26 k ∧ V 26 k ≤ 2000000) ∧ (∀ k, -300 ≤ V 27 k ∧ V 27 k ≤ 400000) ∧ (∀ k, 0 ≤ V 28 k ∧ V 28 k ≤ 2100000) ∧ (∀ k, 0 ≤ V 29 k ∧ V 29 k ≤ 1000000) ∧ (∀ k, -1 ≤ V 46 k ∧ V 46 k ≤ 100000) ∧ ∀ k, 0 ≤ V 47 k ∧ V 47 k ≤ 100000
def RP (V : Nat → Nat → Int) (Kp : Nat → Option Nat) (C : Nat → Cu) (nx ct c : Nat) : Prop := rgI Kp C (V 36) (V 37) (V 38) (V 39) (V 40) ∧ rgs (V 37) (V 38) (V 39) (V 40) ∧ vlS Kp nx ct ∧ nx = c % 10 ∧ ct ≤ c
def ZN (Z : Nat → Int) (n0 nu n nx ct c : Nat) : Prop := Z 0 = (n0 : Int) ∧ Z 8 = (nu : Int) ∧ Z 9 = (n : Int) ∧ Z 10 = (nx : Int) ∧ Z 11 = (ct : Int) ∧ Z 21 = (c : Int)
def Inv (G : GT) (A : Nat → Nat) (i : Nat) (h : HM) : Prop := Mo A ∧ ∃ (V : Nat → Nat → Int) (Z : Nat → Int) (Kp : Nat → Option Nat) (Ke : Nat → Nat) (C : Nat → Cu) (σ : Nat → Value) (n0 nu n nx ct c : Nat), WC A (EE G A V Z Kp σ) h ∧ Sg A Z σ ∧ PaW G h (A 48) (A 11) (A 12) nx ct Kp Ke C ∧ ZN Z n0 nu n nx ct c ∧ RB V Z n0 nu ∧ RC V n ∧ RS V Z ∧ RP V Kp C nx ct c ∧ c ≤ i
theorem Inv.next {G : GT} {A : Nat → Nat} {i : Nat} {h : HM} (w : Inv G A i h) : Inv G A (i + 1) h := by
  obtain ⟨hM, V, Z, Kp, Ke, C, σ, n0, nu, n, nx, ct, c, h1, h2, h3, h4, h5, h6, h7, h8, h9⟩ := w
  exact ⟨hM, V, Z, Kp, Ke, C, σ, n0, nu, n, nx, ct, c, h1, h2, h3, h4, h5, h6, h7, h8, by omega⟩
set_option maxHeartbeats 4000000 in
set_option maxRecDepth 100000 in
theorem inv_start (G : GT) (A : Nat → Nat) (h : HM) (hF : Fresh G A h) : Inv G A 0 h := by
  obtain ⟨hM, σ, hS, hW⟩ := hF
  obtain ⟨f0, f1, f2, f3, f4, f5, f6, f7, f8, f9, f10, f11, f12, f13, f14, f15, f16, f17, f18, f19, f20, f21, f22, f23, f24, f25, f26, f27, f28, f29, f30, f31, f32, f33⟩ := hS
  have rz : ∀ (a b : Int), a ≤ 0 → 0 ≤ b → ∀ k : Nat, a ≤ (fun _ => (0 : Int)) k ∧ (fun _ => (0 : Int)) k ≤ b := fun a b h1 h2 _ => ⟨h1, h2⟩
  have rg : rgs (fun _ => 0) (fun _ => 0) (fun _ => 0) (fun _ => 0) := ⟨rz _ _ (by decide) (by decide), rz _ _ (by decide) (by decide), rz _ _ (by decide) (by decide), rz _ _ (by decide) (by decide)⟩
  refine ⟨hM, fun _ _ => 0, (fun j => if j = 1 then 25 else if j = 2 then 1 else if j = 3 then 28224000 else if j = 4 then 2 else if j = 5 then 20 else if j = 6 then 168 else if j = 7 then 17 else 0), fun _ => none, fun _ => 0, fun _ => (0, fun _ => 0, fun _ => 0, fun _ => 0, fun _ => 0), σ, 0, 0, 0, 0, 0, 0, c49 (hW 0 (by decide)) (hW 1 (by decide)) (hW 2 (by decide)) (hW 3 (by decide)) (hW 4 (by decide)) (hW 5 (by decide)) (hW 6 (by decide)) (hW 7 (by decide)) (hW 8 (by decide)) (hW 9 (by decide)) (hW 10 (by decide)) (hW 11 (by decide)) (hW 12 (by decide)) (hW 13 (by decide)) (hW 14 (by decide)) (hW 15 (by decide)) (hW 16 (by decide)) (hW 17 (by decide)) (hW 18 (by decide)) (hW 19 (by decide)) (hW 20 (by decide)) (hW 21 (by decide)) (hW 22 (by decide)) (hW 23 (by decide)) (hW 24 (by decide)) (hW 25 (by decide)) (hW 26 (by decide)) (hW 27 (by decide)) (hW 28 (by decide)) (hW 29 (by decide)) (hW 30 (by decide)) (hW 31 (by decide)) (hW 32 (by decide)) (hW 33 (by decide)) (hW 34 (by decide)) (hW 35 (by decide)) (hW 36 (by decide)) (hW 37 (by decide)) (hW 38 (by decide)) (hW 39 (by decide)) (hW 40 (by decide)) (hW 41 (by decide)) (hW 42 (by decide)) (hW 43 (by decide)) (hW 44 (by decide)) (hW 45 (by decide)) (hW 46 (by decide)) (hW 47 (by decide)) (hW 48 (by decide)), ⟨f0, f1, f2, f3, f4, f5, f6, f7, f8, f9, f10, f11, f12, f13, f14, f15, f19, f20, f21, f22, f25, f26, f27, f28, f29, f30, f31, f32, f33⟩, ⟨by decide, by decide, hW 11 (by decide), hW 12 (by decide), fun j _ q w => (by cases w), fun i j _ _ _ q r w => (by cases w)⟩, ⟨rfl, rfl, rfl, rfl, rfl, rfl⟩, ⟨by decide, rfl, rz _ _ (by decide) (by decide), by decide, by decide, by decide, by decide, ⟨by decide, by decide, by decide, by decide, by decide, by decide, by decide, by decide⟩, by decide, rfl, fun k hk => absurd hk (by omega)⟩, ⟨by decide, fun k hk => absurd hk (by omega), rg, rg, fun k hk => absurd hk (by omega)⟩, ⟨rg, by decide, by decide, rz _ _ (by decide) (by decide), rz _ _ (by decide) (by decide), rz _ _ (by decide) (by decide), rz _ _ (by decide) (by decide), rz _ _ (by decide) (by decide), rz _ _ (by decide) (by decide), rz _ _ (by decide) (by decide), rz _ _ (by decide) (by decide), rz _ _ (by decide) (by decide)⟩, ⟨fun j _ q w => (by cases w), rg, fun t ht => absurd ht (by omega), rfl, by decide⟩, by decide⟩
