def inB (L : List Int) : Prop := ∀ x ∈ L, 0 ≤ x ∧ x ≤ 255
theorem inB_a {L M : List Int} (h : inB L) (k : inB M) : inB (L ++ M) := fun x hx => by
  rcases List.mem_append.mp hx with w | w
  · exact h x w
  · exact k x w
theorem inB_1 {c : Int} (h : 0 ≤ c ∧ c ≤ 255) : inB [c] := fun x hx => by
  rw [List.mem_singleton] at hx
  rw [hx]
  exact h
theorem outs_r {f tk : Int} {K1 K2 K3 K4 : Nat → Int} (hZ : ∀ k, 0 ≤ K3 k ∧ K3 k ≤ 64) (hB : ∀ k, 0 ≤ K4 k ∧ K4 k ≤ 255) : ∀ i, inB (outs f tk K1 K2 K3 K4 i)
  | 0 => fun x hx => absurd hx List.not_mem_nil
  | i + 1 => by
    have ti : ∀ t, inB (oTime t) := fun t => by
      unfold oTime
      exact inB_a (dgL_r _ _) (inB_a (inB_1 (by decide)) (inB_a (dgL_r _ _) (inB_a (inB_1 (by decide)) (inB_a (dgL_r _ _) (inB_a (inB_1 (by decide)) (dgL_r _ _))))))
    have fr : ∀ t, inB (oFr tk t) := fun t => by
      unfold oFr
      exact inB_a (inB_1 (by decide)) (inB_a (dgL_r _ _) (inB_1 (by decide)))
    have z := hZ i
    rw [outs]
    refine inB_a (outs_r hZ hB i) ?_
    unfold oCue oBlk oFra oPac
    split
    · exact inB_a (ti _) (inB_a (inB_1 (by decide)) (inB_a (inB_1 (by decide)) (inB_a (inB_1 (by decide)) (inB_a (ti _) (inB_a (inB_1 (by decide)) (inB_a (txL_r hB (by decide) _) (inB_a (inB_1 (by decide)) (inB_1 (by decide)))))))))
    · split
      · exact inB_a (fr _) (inB_a (fr _) (inB_a (txL_r hB (by decide) _) (inB_1 (by decide))))
      · exact inB_a (sixL_r _ _) (inB_a (sixL_r _ _) (inB_a (inB_1 (by omega)) (txL_r hB (by decide) _)))
theorem putF_r {F : Nat → Int} {n0 : Nat} {z : Int} (hF : ∀ k, 0 ≤ F k ∧ F k ≤ 255) : ∀ m k, 0 ≤ putF F n0 z m k ∧ putF F n0 z m k ≤ 255
  | 0, k => hF k
  | m + 1, k => zup_r (fun j => putF_r hF m j) (byteZ_r z m) k
theorem cueV_r {n : Nat} {K1 K2 K3 K4 : Nat → Int} (g : rgs K1 K2 K3 K4) (i w : Int) : lR (cueV K1 K2 K3 K4 n i w) := by
  unfold cueV
  have a := g.1 i.toNat
  have b := g.2.1 i.toNat
  have c := g.2.2.1 i.toNat
  have d := linesN_r K4 (i.toNat * 64) (K3 i.toNat).toNat
  have e := cellsN_r K4 (i.toNat * 64) (K3 i.toNat).toNat
  (repeat' split) <;> (show -9223372036854775808 ≤ _ ∧ _ < 9223372036854775808; omega)
theorem textV_r {n : Nat} {K3 K4 : Nat → Int} (g : ∀ k, 0 ≤ K4 k ∧ K4 k ≤ 255) (i j : Int) : iR (textV K3 K4 n i j) := by
  unfold textV
  have a := g (i.toNat * 64 + j.toNat)
  split <;> (show -2147483648 ≤ _ ∧ _ < 2147483648; omega)
theorem lookZ_r {F : Nat → Int} (g : ∀ k, 0 ≤ F k ∧ F k ≤ 255) (n i : Int) : iR (lookZ F n i) := by
  unfold lookZ
  have a := g i.toNat
  split <;> (show -2147483648 ≤ _ ∧ _ < 2147483648; omega)
theorem rate_ok {a b : Int} (h : rOK a b) : (1 ≤ a ∧ a ≤ 120000) ∧ (1 ≤ b ∧ b ≤ 1001) ∧ (11760000 ≤ 705600000 * b / a ∧ 705600000 * b / a ≤ 705600000) := by
  obtain ⟨h1, h2, h3, h4, _, h6, h7⟩ := h
  refine ⟨⟨h1, h2⟩, ⟨h3, h4⟩, ?_, ?_⟩
  · exact (Int.le_ediv_iff_mul_le (by omega)).mpr (by omega)
  · have : 705600000 * b / a < 705600001 := Int.ediv_lt_of_lt_mul (by omega) (by omega)
    omega
theorem shR_r {f : Int} {n : Nat} {S : Nat → Int} (hn : n ≤ 20) : iR (shR f n S).1 := by
  by_cases h1 : f < 0 ∨ 216000 < f
  · rw [shR_bad h1]; show iR (-2); decide
  · by_cases h2 : shHas S n f
    · rw [shR_has h1 h2]; show iR (n : Int); omega
    · by_cases h3 : n = 20
      · rw [shR_full h1 h2 h3]; show iR (-3); decide
      · rw [shR_new h1 h2 h3]; show iR ((n : Int) + 1); omega
theorem shR_k {f : Int} {n : Nat} {S : Nat → Int} (hn : n ≤ 20) (hS : ∀ k, k < n → 0 ≤ S k ∧ S k ≤ 216000) : (shR f n S).2.1 ≤ 20 ∧ ∀ k, k < (shR f n S).2.1 → 0 ≤ (shR f n S).2.2 k ∧ (shR f n S).2.2 k ≤ 216000 := by
  by_cases h1 : f < 0 ∨ 216000 < f
  · rw [shR_bad h1]; exact ⟨hn, hS⟩
  · by_cases h2 : shHas S n f
    · rw [shR_has h1 h2]; exact ⟨hn, hS⟩
    · by_cases h3 : n = 20
      · rw [shR_full h1 h2 h3]; exact ⟨hn, hS⟩
      · rw [shR_new h1 h2 h3]
        refine ⟨by show n + 1 ≤ 20; omega, fun k hk => ?_⟩
        replace hk : k < n + 1 := hk
        show 0 ≤ zup S n f k ∧ zup S n f k ≤ 216000
        by_cases q : k = n
        · subst q; rw [zup_s]; omega
        · rw [zup_n q]; exact hS k (by omega)
set_option maxHeartbeats 4000000 in
set_option maxRecDepth 100000 in
theorem duo_at (G : GT) (A : Nat → Nat) (i : Nat) (h : HM) (hI : Inv G A i h) (hi : i ≤ 511) : ∀ a0 : Int, iR a0 → Duo G (A 0) (A 30) M_CB_at M_Mo_at [.int (iZ a0)] mI iR h (Inv G A (i + 1)) := by
  intro a0 q0
  obtain ⟨hM, V, Z, Kp, Ke, C, σ, n0, nu, n, nx, ct, c, hW, hSg, hPa, ⟨z0, z8, z9, z10, z11, z21⟩, hRB, hRC, hRS, hRP, hci⟩ := hI
  obtain rfl : nx = c % 10 := hRP.2.2.2.1
  obtain ⟨e0, e1, e2, e3, e4, e5, e6, e7, e8, e9, e10, e11, e12, e13, e14, e15, e19, e20, e21, e22, e25, e26, e27, e28, e29, e30, e31, e32, e33⟩ := id hSg
  have f0 : σ 0 = .int (iZ (n0 : Int)) := by rw [← z0]; exact e0
  have f1 : σ 1 = .ref (A 31) := e1
  have f2 : σ 2 = .int (iZ (Z 1)) := e2
  have f3 : σ 3 = .int (iZ (Z 2)) := e3
  have f4 : σ 4 = .int (iZ (n : Int)) := by rw [← z9]; exact e4
  have f5 : σ 5 = .ref (A 32) := e5
  have f6 : σ 6 = .ref (A 33) := e6
  have f7 : σ 7 = .ref (A 34) := e7
  have f8 : σ 8 = .ref (A 35) := e8
  have f9 : σ 9 = .int (iZ (c : Int)) := by rw [← z21]; exact e9
  have f10 : σ 10 = .int (iZ (ct : Int)) := by rw [← z11]; exact e10
  have f11 : σ 11 = .ref (A 36) := e11
  have f12 : σ 12 = .ref (A 37) := e12
  have f13 : σ 13 = .ref (A 38) := e13
  have f14 : σ 14 = .ref (A 39) := e14
  have f15 : σ 15 = .ref (A 40) := e15
  have f19 : σ 19 = .ref (A 41) := e19
  have f20 : σ 20 = .ref (A 42) := e20
  have f21 : σ 21 = .ref (A 43) := e21
  have f22 : σ 22 = .ref (A 44) := e22
  have f25 : σ 25 = .int (iZ (nu : Int)) := by rw [← z8]; exact e25
  have f26 : σ 26 = .ref (A 45) := e26
  have f27 : σ 27 = .int (iZ (Z 4)) := e27
  have f28 : σ 28 = .int (iZ (Z 5)) := e28
  have f29 : σ 29 = .int (iZ (Z 6)) := e29
  have f30 : σ 30 = .int (iZ (Z 7)) := e30
  have f31 : σ 31 = .ref (A 46) := e31
  have f32 : σ 32 = .ref (A 47) := e32
  have f33 : σ 33 = .ref (A 48) := e33
  have c0 : h (A 0) = some (.inr (0, [.ref (A 1), .ref (A 3), .ref (A 4), .ref (A 6), .ref (A 11), .ref (A 13), .ref (A 20), .ref (A 21), .ref (A 22)])) := hW 0 (by decide)
  have c1 : h (A 1) = some (.inr (1, [.ref (A 2), .int (iZ (n0 : Int))])) := by rw [← z0]; exact hW 1 (by decide)
  have c2 : h (A 2) = some (.inl (G_i G, 1000, .inl (iA (V 2)))) := hW 2 (by decide)
  have c3 : h (A 3) = some (.inr (5, [.int (iZ (Z 1)), .int (iZ (Z 2)), .long (lZ (Z 3))])) := hW 3 (by decide)
  have c4 : h (A 4) = some (.inr (10, [.int (iZ (Z 4)), .int (iZ (Z 5)), .int (iZ (Z 6)), .int (iZ (Z 7)), .ref (A 5), .int (iZ (nu : Int))])) := by rw [← z8]; exact hW 4 (by decide)
  have c5 : h (A 5) = some (.inl (G_i G, 20, .inl (iA (V 5)))) := hW 5 (by decide)
  have c6 : h (A 6) = some (.inr (2, [.ref (A 7), .ref (A 8), .ref (A 9), .ref (A 10), .int (iZ (n : Int))])) := by rw [← z9]; exact hW 6 (by decide)
  have c7 : h (A 7) = some (.inl (G_j G, 16, .inr (.inl (lA (V 7))))) := hW 7 (by decide)
  have c8 : h (A 8) = some (.inl (G_j G, 16, .inr (.inl (lA (V 8))))) := hW 8 (by decide)
  have c9 : h (A 9) = some (.inl (G_i G, 16, .inl (iA (V 9)))) := hW 9 (by decide)
  have c10 : h (A 10) = some (.inl (G_i G, 1024, .inl (iA (V 10)))) := hW 10 (by decide)
  have c11 : h (A 11) = some (.inr (7, [.ref (A 12), .int (iZ ((c % 10 : Nat) : Int)), .int (iZ (ct : Int))])) := by rw [← z10, ← z11]; exact hW 11 (by decide)
  have c12 : h (A 12) = some (.inl (G_q G, 10, .inr (.inr (.inr (.inr Kp))))) := hW 12 (by decide)
  have c13 : h (A 13) = some (.inr (3, [.ref (A 1), .ref (A 3), .ref (A 14), .ref (A 19), .int (iZ (Z 12)), .int (iZ (Z 13)), .int (iZ (Z 14)), .long (lZ (Z 15)), .long (lZ (Z 16)), .long (lZ (Z 17))])) := hW 13 (by decide)
  have c14 : h (A 14) = some (.inr (2, [.ref (A 15), .ref (A 16), .ref (A 17), .ref (A 18), .int (iZ (Z 18))])) := hW 14 (by decide)
  have c15 : h (A 15) = some (.inl (G_j G, 16, .inr (.inl (lA (V 15))))) := hW 15 (by decide)
  have c16 : h (A 16) = some (.inl (G_j G, 16, .inr (.inl (lA (V 16))))) := hW 16 (by decide)
  have c17 : h (A 17) = some (.inl (G_i G, 16, .inl (iA (V 17)))) := hW 17 (by decide)
  have c18 : h (A 18) = some (.inl (G_i G, 1024, .inl (iA (V 18)))) := hW 18 (by decide)
  have c19 : h (A 19) = some (.inl (G_i G, 64, .inl (iA (V 19)))) := hW 19 (by decide)
  have c20 : h (A 20) = some (.inr (4, [.ref (A 1), .ref (A 3), .ref (A 6)])) := hW 20 (by decide)
  have c21 : h (A 21) = some (.inr (6, [.ref (A 6), .int (iZ (Z 19)), .int (iZ (Z 20))])) := hW 21 (by decide)
  have c22 : h (A 22) = some (.inr (9, [.ref (A 6), .ref (A 3), .ref (A 4), .ref (A 23), .ref (A 24), .ref (A 25), .ref (A 26), .ref (A 27), .ref (A 28), .ref (A 29)])) := hW 22 (by decide)
  have c23 : h (A 23) = some (.inl (G_i G, 16, .inl (iA (V 23)))) := hW 23 (by decide)
  have c24 : h (A 24) = some (.inl (G_i G, 16, .inl (iA (V 24)))) := hW 24 (by decide)
  have c25 : h (A 25) = some (.inl (G_i G, 16, .inl (iA (V 25)))) := hW 25 (by decide)
  have c26 : h (A 26) = some (.inl (G_i G, 97, .inl (iA (V 26)))) := hW 26 (by decide)
  have c27 : h (A 27) = some (.inl (G_i G, 400, .inl (iA (V 27)))) := hW 27 (by decide)
  have c28 : h (A 28) = some (.inl (G_i G, 400, .inl (iA (V 28)))) := hW 28 (by decide)
  have c29 : h (A 29) = some (.inl (G_i G, 400, .inl (iA (V 29)))) := hW 29 (by decide)
  have c30 : h (A 30) = some (.inr (11, fsN 34 σ)) := hW 30 (by decide)
  have c31 : h (A 31) = some (.inl (G_i G, 1000, .inl (iA (V 31)))) := hW 31 (by decide)
  have c32 : h (A 32) = some (.inl (G_j G, 16, .inr (.inl (lA (V 32))))) := hW 32 (by decide)
  have c33 : h (A 33) = some (.inl (G_j G, 16, .inr (.inl (lA (V 33))))) := hW 33 (by decide)
  have c34 : h (A 34) = some (.inl (G_i G, 16, .inl (iA (V 34)))) := hW 34 (by decide)
  have c35 : h (A 35) = some (.inl (G_i G, 1024, .inl (iA (V 35)))) := hW 35 (by decide)
  have c36 : h (A 36) = some (.inl (G_i G, 10, .inl (iA (V 36)))) := hW 36 (by decide)
  have c37 : h (A 37) = some (.inl (G_j G, 160, .inr (.inl (lA (V 37))))) := hW 37 (by decide)
  have c38 : h (A 38) = some (.inl (G_j G, 160, .inr (.inl (lA (V 38))))) := hW 38 (by decide)
  have c39 : h (A 39) = some (.inl (G_i G, 160, .inl (iA (V 39)))) := hW 39 (by decide)
  have c40 : h (A 40) = some (.inl (G_i G, 10240, .inl (iA (V 40)))) := hW 40 (by decide)
  have c41 : h (A 41) = some (.inl (G_j G, 16, .inr (.inl (lA (V 41))))) := hW 41 (by decide)
  have c42 : h (A 42) = some (.inl (G_j G, 16, .inr (.inl (lA (V 42))))) := hW 42 (by decide)
  have c43 : h (A 43) = some (.inl (G_i G, 16, .inl (iA (V 43)))) := hW 43 (by decide)
  have c44 : h (A 44) = some (.inl (G_i G, 1024, .inl (iA (V 44)))) := hW 44 (by decide)
  have c45 : h (A 45) = some (.inl (G_i G, 20, .inl (iA (V 45)))) := hW 45 (by decide)
  have c46 : h (A 46) = some (.inl (G_i G, 194, .inl (iA (V 46)))) := hW 46 (by decide)
  have c47 : h (A 47) = some (.inl (G_i G, 3104, .inl (iA (V 47)))) := hW 47 (by decide)
  have c48 : h (A 48) = some (.inl (G_i G, 65, .inl (iA (V 48)))) := hW 48 (by decide)
  obtain ⟨b1, b2, b3, b4, b5, b6, b7, b8, b9, b10, b11⟩ := id hRB
  obtain ⟨u1, u2, u3, u4, u5, u6, u7, u8⟩ := id b8
  obtain ⟨r1, r2, r3, r4, r5⟩ := id hRC
  obtain ⟨t1, t2, t3, t4, t5, t6, t7, t8, t9, t10, t11, t12⟩ := id hRS
  obtain ⟨p1, p2, p3, p4, p5⟩ := id hRP
  have hc1 : c ≤ 1000 := by omega
  have hct := hPa.2.1
  have hct2 : ct ≤ 10 := hPa.2.1
  refine ⟨⟨_, c0⟩, (rm 1 21), ⟨by decide, by decide, by decide, by decide⟩, rn_mono (c_CB_at G h (A 0) (A 1) (A 3) (A 4) (A 6) (A 11) (A 13) (A 20) (A 21) (A 22) (A 2) (V 2) (n0 : Int) a0 c0 c1 c2 (by omega) q0) (fun r h1 q => ?_)⟩
  obtain ⟨rfl, hx9⟩ := q
  have hW1 : WC A (EE G A V Z Kp σ) h1 := by rw [hx9]; exact hW
  have hPa1 : PaW G h1 (A 48) (A 11) (A 12) (c % 10) ct Kp Ke C := by rw [hx9]; exact hPa
  have g30 : h1 (A 30) = some (.inr (11, fsN 34 σ)) := hW1 30 (by decide)
  have g31 : h1 (A 31) = some (.inl (G_i G, 1000, .inl (iA (V 31)))) := hW1 31 (by decide)
  have g32 : h1 (A 32) = some (.inl (G_j G, 16, .inr (.inl (lA (V 32))))) := hW1 32 (by decide)
  have g33 : h1 (A 33) = some (.inl (G_j G, 16, .inr (.inl (lA (V 33))))) := hW1 33 (by decide)
  have g34 : h1 (A 34) = some (.inl (G_i G, 16, .inl (iA (V 34)))) := hW1 34 (by decide)
  have g35 : h1 (A 35) = some (.inl (G_i G, 1024, .inl (iA (V 35)))) := hW1 35 (by decide)
  have g36 : h1 (A 36) = some (.inl (G_i G, 10, .inl (iA (V 36)))) := hW1 36 (by decide)
  have g37 : h1 (A 37) = some (.inl (G_j G, 160, .inr (.inl (lA (V 37))))) := hW1 37 (by decide)
  have g38 : h1 (A 38) = some (.inl (G_j G, 160, .inr (.inl (lA (V 38))))) := hW1 38 (by decide)
  have g39 : h1 (A 39) = some (.inl (G_i G, 160, .inl (iA (V 39)))) := hW1 39 (by decide)
  have g40 : h1 (A 40) = some (.inl (G_i G, 10240, .inl (iA (V 40)))) := hW1 40 (by decide)
  have g41 : h1 (A 41) = some (.inl (G_j G, 16, .inr (.inl (lA (V 41))))) := hW1 41 (by decide)
  have g42 : h1 (A 42) = some (.inl (G_j G, 16, .inr (.inl (lA (V 42))))) := hW1 42 (by decide)
  have g43 : h1 (A 43) = some (.inl (G_i G, 16, .inl (iA (V 43)))) := hW1 43 (by decide)
  have g44 : h1 (A 44) = some (.inl (G_i G, 1024, .inl (iA (V 44)))) := hW1 44 (by decide)
  have g45 : h1 (A 45) = some (.inl (G_i G, 20, .inl (iA (V 45)))) := hW1 45 (by decide)
  have g46 : h1 (A 46) = some (.inl (G_i G, 194, .inl (iA (V 46)))) := hW1 46 (by decide)
  have g47 : h1 (A 47) = some (.inl (G_i G, 3104, .inl (iA (V 47)))) := hW1 47 (by decide)
  have g48 : h1 (A 48) = some (.inl (G_i G, 65, .inl (iA (V 48)))) := hW1 48 (by decide)
  refine ⟨lookZ (V 2) n0 a0, lookZ_r b3 _ _, rfl, ⟨_, g30⟩, (rm 0 0), ⟨by decide, by decide, by decide, by decide⟩, rn_mono (c_Mo_at G h1 σ (A 30) (A 31) (V 31) (n0 : Int) a0 g30 f0 f1 g31 (by omega) q0) (fun r2 h2 q2 => ?_)⟩
  obtain ⟨rfl, hx8⟩ := q2
  rw [hx8]
  exact ⟨by rw [b2], hM, V, Z, Kp, Ke, C, σ, n0, nu, n, (c % 10), ct, c, hW1, hSg, hPa1, ⟨z0, z8, z9, z10, z11, z21⟩, hRB, hRC, hRS, hRP, by omega⟩
set_option maxHeartbeats 4000000 in
set_option maxRecDepth 100000 in
theorem duo_cues (G : GT) (A : Nat → Nat) (i : Nat) (h : HM) (hI : Inv G A i h) (hi : i ≤ 511) : Duo G (A 0) (A 30) M_CB_cues M_Mo_cues [] mI iR h (Inv G A (i + 1)) := by
  obtain ⟨hM, V, Z, Kp, Ke, C, σ, n0, nu, n, nx, ct, c, hW, hSg, hPa, ⟨z0, z8, z9, z10, z11, z21⟩, hRB, hRC, hRS, hRP, hci⟩ := hI
  obtain rfl : nx = c % 10 := hRP.2.2.2.1
  obtain ⟨e0, e1, e2, e3, e4, e5, e6, e7, e8, e9, e10, e11, e12, e13, e14, e15, e19, e20, e21, e22, e25, e26, e27, e28, e29, e30, e31, e32, e33⟩ := id hSg
  have f0 : σ 0 = .int (iZ (n0 : Int)) := by rw [← z0]; exact e0
  have f1 : σ 1 = .ref (A 31) := e1
  have f2 : σ 2 = .int (iZ (Z 1)) := e2
  have f3 : σ 3 = .int (iZ (Z 2)) := e3
  have f4 : σ 4 = .int (iZ (n : Int)) := by rw [← z9]; exact e4
  have f5 : σ 5 = .ref (A 32) := e5
  have f6 : σ 6 = .ref (A 33) := e6
  have f7 : σ 7 = .ref (A 34) := e7
  have f8 : σ 8 = .ref (A 35) := e8
  have f9 : σ 9 = .int (iZ (c : Int)) := by rw [← z21]; exact e9
  have f10 : σ 10 = .int (iZ (ct : Int)) := by rw [← z11]; exact e10
  have f11 : σ 11 = .ref (A 36) := e11
  have f12 : σ 12 = .ref (A 37) := e12
  have f13 : σ 13 = .ref (A 38) := e13
  have f14 : σ 14 = .ref (A 39) := e14
  have f15 : σ 15 = .ref (A 40) := e15
  have f19 : σ 19 = .ref (A 41) := e19
  have f20 : σ 20 = .ref (A 42) := e20
  have f21 : σ 21 = .ref (A 43) := e21
  have f22 : σ 22 = .ref (A 44) := e22
  have f25 : σ 25 = .int (iZ (nu : Int)) := by rw [← z8]; exact e25
  have f26 : σ 26 = .ref (A 45) := e26
  have f27 : σ 27 = .int (iZ (Z 4)) := e27
  have f28 : σ 28 = .int (iZ (Z 5)) := e28
  have f29 : σ 29 = .int (iZ (Z 6)) := e29
  have f30 : σ 30 = .int (iZ (Z 7)) := e30
  have f31 : σ 31 = .ref (A 46) := e31
  have f32 : σ 32 = .ref (A 47) := e32
  have f33 : σ 33 = .ref (A 48) := e33
  have c0 : h (A 0) = some (.inr (0, [.ref (A 1), .ref (A 3), .ref (A 4), .ref (A 6), .ref (A 11), .ref (A 13), .ref (A 20), .ref (A 21), .ref (A 22)])) := hW 0 (by decide)
  have c1 : h (A 1) = some (.inr (1, [.ref (A 2), .int (iZ (n0 : Int))])) := by rw [← z0]; exact hW 1 (by decide)
  have c2 : h (A 2) = some (.inl (G_i G, 1000, .inl (iA (V 2)))) := hW 2 (by decide)
  have c3 : h (A 3) = some (.inr (5, [.int (iZ (Z 1)), .int (iZ (Z 2)), .long (lZ (Z 3))])) := hW 3 (by decide)
  have c4 : h (A 4) = some (.inr (10, [.int (iZ (Z 4)), .int (iZ (Z 5)), .int (iZ (Z 6)), .int (iZ (Z 7)), .ref (A 5), .int (iZ (nu : Int))])) := by rw [← z8]; exact hW 4 (by decide)
  have c5 : h (A 5) = some (.inl (G_i G, 20, .inl (iA (V 5)))) := hW 5 (by decide)
  have c6 : h (A 6) = some (.inr (2, [.ref (A 7), .ref (A 8), .ref (A 9), .ref (A 10), .int (iZ (n : Int))])) := by rw [← z9]; exact hW 6 (by decide)
  have c7 : h (A 7) = some (.inl (G_j G, 16, .inr (.inl (lA (V 7))))) := hW 7 (by decide)
  have c8 : h (A 8) = some (.inl (G_j G, 16, .inr (.inl (lA (V 8))))) := hW 8 (by decide)
  have c9 : h (A 9) = some (.inl (G_i G, 16, .inl (iA (V 9)))) := hW 9 (by decide)
  have c10 : h (A 10) = some (.inl (G_i G, 1024, .inl (iA (V 10)))) := hW 10 (by decide)
  have c11 : h (A 11) = some (.inr (7, [.ref (A 12), .int (iZ ((c % 10 : Nat) : Int)), .int (iZ (ct : Int))])) := by rw [← z10, ← z11]; exact hW 11 (by decide)
  have c12 : h (A 12) = some (.inl (G_q G, 10, .inr (.inr (.inr (.inr Kp))))) := hW 12 (by decide)
  have c13 : h (A 13) = some (.inr (3, [.ref (A 1), .ref (A 3), .ref (A 14), .ref (A 19), .int (iZ (Z 12)), .int (iZ (Z 13)), .int (iZ (Z 14)), .long (lZ (Z 15)), .long (lZ (Z 16)), .long (lZ (Z 17))])) := hW 13 (by decide)
  have c14 : h (A 14) = some (.inr (2, [.ref (A 15), .ref (A 16), .ref (A 17), .ref (A 18), .int (iZ (Z 18))])) := hW 14 (by decide)
  have c15 : h (A 15) = some (.inl (G_j G, 16, .inr (.inl (lA (V 15))))) := hW 15 (by decide)
  have c16 : h (A 16) = some (.inl (G_j G, 16, .inr (.inl (lA (V 16))))) := hW 16 (by decide)
  have c17 : h (A 17) = some (.inl (G_i G, 16, .inl (iA (V 17)))) := hW 17 (by decide)
  have c18 : h (A 18) = some (.inl (G_i G, 1024, .inl (iA (V 18)))) := hW 18 (by decide)
  have c19 : h (A 19) = some (.inl (G_i G, 64, .inl (iA (V 19)))) := hW 19 (by decide)
  have c20 : h (A 20) = some (.inr (4, [.ref (A 1), .ref (A 3), .ref (A 6)])) := hW 20 (by decide)
  have c21 : h (A 21) = some (.inr (6, [.ref (A 6), .int (iZ (Z 19)), .int (iZ (Z 20))])) := hW 21 (by decide)
  have c22 : h (A 22) = some (.inr (9, [.ref (A 6), .ref (A 3), .ref (A 4), .ref (A 23), .ref (A 24), .ref (A 25), .ref (A 26), .ref (A 27), .ref (A 28), .ref (A 29)])) := hW 22 (by decide)
  have c23 : h (A 23) = some (.inl (G_i G, 16, .inl (iA (V 23)))) := hW 23 (by decide)
  have c24 : h (A 24) = some (.inl (G_i G, 16, .inl (iA (V 24)))) := hW 24 (by decide)
  have c25 : h (A 25) = some (.inl (G_i G, 16, .inl (iA (V 25)))) := hW 25 (by decide)
  have c26 : h (A 26) = some (.inl (G_i G, 97, .inl (iA (V 26)))) := hW 26 (by decide)
  have c27 : h (A 27) = some (.inl (G_i G, 400, .inl (iA (V 27)))) := hW 27 (by decide)
  have c28 : h (A 28) = some (.inl (G_i G, 400, .inl (iA (V 28)))) := hW 28 (by decide)
  have c29 : h (A 29) = some (.inl (G_i G, 400, .inl (iA (V 29)))) := hW 29 (by decide)
  have c30 : h (A 30) = some (.inr (11, fsN 34 σ)) := hW 30 (by decide)
  have c31 : h (A 31) = some (.inl (G_i G, 1000, .inl (iA (V 31)))) := hW 31 (by decide)
  have c32 : h (A 32) = some (.inl (G_j G, 16, .inr (.inl (lA (V 32))))) := hW 32 (by decide)
  have c33 : h (A 33) = some (.inl (G_j G, 16, .inr (.inl (lA (V 33))))) := hW 33 (by decide)
  have c34 : h (A 34) = some (.inl (G_i G, 16, .inl (iA (V 34)))) := hW 34 (by decide)
  have c35 : h (A 35) = some (.inl (G_i G, 1024, .inl (iA (V 35)))) := hW 35 (by decide)
  have c36 : h (A 36) = some (.inl (G_i G, 10, .inl (iA (V 36)))) := hW 36 (by decide)
  have c37 : h (A 37) = some (.inl (G_j G, 160, .inr (.inl (lA (V 37))))) := hW 37 (by decide)
  have c38 : h (A 38) = some (.inl (G_j G, 160, .inr (.inl (lA (V 38))))) := hW 38 (by decide)
  have c39 : h (A 39) = some (.inl (G_i G, 160, .inl (iA (V 39)))) := hW 39 (by decide)
  have c40 : h (A 40) = some (.inl (G_i G, 10240, .inl (iA (V 40)))) := hW 40 (by decide)
  have c41 : h (A 41) = some (.inl (G_j G, 16, .inr (.inl (lA (V 41))))) := hW 41 (by decide)
  have c42 : h (A 42) = some (.inl (G_j G, 16, .inr (.inl (lA (V 42))))) := hW 42 (by decide)
  have c43 : h (A 43) = some (.inl (G_i G, 16, .inl (iA (V 43)))) := hW 43 (by decide)
  have c44 : h (A 44) = some (.inl (G_i G, 1024, .inl (iA (V 44)))) := hW 44 (by decide)
  have c45 : h (A 45) = some (.inl (G_i G, 20, .inl (iA (V 45)))) := hW 45 (by decide)
  have c46 : h (A 46) = some (.inl (G_i G, 194, .inl (iA (V 46)))) := hW 46 (by decide)
  have c47 : h (A 47) = some (.inl (G_i G, 3104, .inl (iA (V 47)))) := hW 47 (by decide)
  have c48 : h (A 48) = some (.inl (G_i G, 65, .inl (iA (V 48)))) := hW 48 (by decide)
  obtain ⟨b1, b2, b3, b4, b5, b6, b7, b8, b9, b10, b11⟩ := id hRB
  obtain ⟨u1, u2, u3, u4, u5, u6, u7, u8⟩ := id b8
  obtain ⟨r1, r2, r3, r4, r5⟩ := id hRC
  obtain ⟨t1, t2, t3, t4, t5, t6, t7, t8, t9, t10, t11, t12⟩ := id hRS
  obtain ⟨p1, p2, p3, p4, p5⟩ := id hRP
  have hc1 : c ≤ 1000 := by omega
  have hct := hPa.2.1
  have hct2 : ct ≤ 10 := hPa.2.1
  refine ⟨⟨_, c0⟩, (rm 0 0), ⟨by decide, by decide, by decide, by decide⟩, rn_mono (c_CB_cues G h (A 0) (A 1) (A 3) (A 4) (A 6) (A 11) (A 13) (A 20) (A 21) (A 22) (A 7) (A 8) (A 9) (A 10) (n : Int) c0 c6) (fun r h1 q => ?_)⟩
  obtain ⟨rfl, hx9⟩ := q
  have hW1 : WC A (EE G A V Z Kp σ) h1 := by rw [hx9]; exact hW
  have hPa1 : PaW G h1 (A 48) (A 11) (A 12) (c % 10) ct Kp Ke C := by rw [hx9]; exact hPa
  have g30 : h1 (A 30) = some (.inr (11, fsN 34 σ)) := hW1 30 (by decide)
  have g31 : h1 (A 31) = some (.inl (G_i G, 1000, .inl (iA (V 31)))) := hW1 31 (by decide)
  have g32 : h1 (A 32) = some (.inl (G_j G, 16, .inr (.inl (lA (V 32))))) := hW1 32 (by decide)
  have g33 : h1 (A 33) = some (.inl (G_j G, 16, .inr (.inl (lA (V 33))))) := hW1 33 (by decide)
  have g34 : h1 (A 34) = some (.inl (G_i G, 16, .inl (iA (V 34)))) := hW1 34 (by decide)
  have g35 : h1 (A 35) = some (.inl (G_i G, 1024, .inl (iA (V 35)))) := hW1 35 (by decide)
  have g36 : h1 (A 36) = some (.inl (G_i G, 10, .inl (iA (V 36)))) := hW1 36 (by decide)
  have g37 : h1 (A 37) = some (.inl (G_j G, 160, .inr (.inl (lA (V 37))))) := hW1 37 (by decide)
  have g38 : h1 (A 38) = some (.inl (G_j G, 160, .inr (.inl (lA (V 38))))) := hW1 38 (by decide)
  have g39 : h1 (A 39) = some (.inl (G_i G, 160, .inl (iA (V 39)))) := hW1 39 (by decide)
  have g40 : h1 (A 40) = some (.inl (G_i G, 10240, .inl (iA (V 40)))) := hW1 40 (by decide)
  have g41 : h1 (A 41) = some (.inl (G_j G, 16, .inr (.inl (lA (V 41))))) := hW1 41 (by decide)
  have g42 : h1 (A 42) = some (.inl (G_j G, 16, .inr (.inl (lA (V 42))))) := hW1 42 (by decide)
  have g43 : h1 (A 43) = some (.inl (G_i G, 16, .inl (iA (V 43)))) := hW1 43 (by decide)
  have g44 : h1 (A 44) = some (.inl (G_i G, 1024, .inl (iA (V 44)))) := hW1 44 (by decide)
  have g45 : h1 (A 45) = some (.inl (G_i G, 20, .inl (iA (V 45)))) := hW1 45 (by decide)
  have g46 : h1 (A 46) = some (.inl (G_i G, 194, .inl (iA (V 46)))) := hW1 46 (by decide)
  have g47 : h1 (A 47) = some (.inl (G_i G, 3104, .inl (iA (V 47)))) := hW1 47 (by decide)
  have g48 : h1 (A 48) = some (.inl (G_i G, 65, .inl (iA (V 48)))) := hW1 48 (by decide)
  refine ⟨(n : Int), by omega, rfl, ⟨_, g30⟩, (rm 0 0), ⟨by decide, by decide, by decide, by decide⟩, rn_mono (c_Mo_cues G h1 σ (A 30) (n : Int) g30 f4) (fun r2 h2 q2 => ?_)⟩
  obtain ⟨rfl, hx8⟩ := q2
  rw [hx8]
  exact ⟨rfl, hM, V, Z, Kp, Ke, C, σ, n0, nu, n, (c % 10), ct, c, hW1, hSg, hPa1, ⟨z0, z8, z9, z10, z11, z21⟩, hRB, hRC, hRS, hRP, by omega⟩
set_option maxHeartbeats 4000000 in
set_option maxRecDepth 100000 in
theorem duo_cue (G : GT) (A : Nat → Nat) (i : Nat) (h : HM) (hI : Inv G A i h) (hi : i ≤ 511) : ∀ a0 a1 : Int, iR a0 → iR a1 → Duo G (A 0) (A 30) M_CB_cue M_Mo_cue [.int (iZ a0), .int (iZ a1)] mL lR h (Inv G A (i + 1)) := by
  intro a0 a1 q0 q1
  obtain ⟨hM, V, Z, Kp, Ke, C, σ, n0, nu, n, nx, ct, c, hW, hSg, hPa, ⟨z0, z8, z9, z10, z11, z21⟩, hRB, hRC, hRS, hRP, hci⟩ := hI
  obtain rfl : nx = c % 10 := hRP.2.2.2.1
  obtain ⟨e0, e1, e2, e3, e4, e5, e6, e7, e8, e9, e10, e11, e12, e13, e14, e15, e19, e20, e21, e22, e25, e26, e27, e28, e29, e30, e31, e32, e33⟩ := id hSg
  have f0 : σ 0 = .int (iZ (n0 : Int)) := by rw [← z0]; exact e0
  have f1 : σ 1 = .ref (A 31) := e1
  have f2 : σ 2 = .int (iZ (Z 1)) := e2
  have f3 : σ 3 = .int (iZ (Z 2)) := e3
  have f4 : σ 4 = .int (iZ (n : Int)) := by rw [← z9]; exact e4
  have f5 : σ 5 = .ref (A 32) := e5
  have f6 : σ 6 = .ref (A 33) := e6
  have f7 : σ 7 = .ref (A 34) := e7
  have f8 : σ 8 = .ref (A 35) := e8
  have f9 : σ 9 = .int (iZ (c : Int)) := by rw [← z21]; exact e9
  have f10 : σ 10 = .int (iZ (ct : Int)) := by rw [← z11]; exact e10
  have f11 : σ 11 = .ref (A 36) := e11
  have f12 : σ 12 = .ref (A 37) := e12
  have f13 : σ 13 = .ref (A 38) := e13
  have f14 : σ 14 = .ref (A 39) := e14
  have f15 : σ 15 = .ref (A 40) := e15
  have f19 : σ 19 = .ref (A 41) := e19
  have f20 : σ 20 = .ref (A 42) := e20
  have f21 : σ 21 = .ref (A 43) := e21
  have f22 : σ 22 = .ref (A 44) := e22
  have f25 : σ 25 = .int (iZ (nu : Int)) := by rw [← z8]; exact e25
  have f26 : σ 26 = .ref (A 45) := e26
  have f27 : σ 27 = .int (iZ (Z 4)) := e27
  have f28 : σ 28 = .int (iZ (Z 5)) := e28
  have f29 : σ 29 = .int (iZ (Z 6)) := e29
  have f30 : σ 30 = .int (iZ (Z 7)) := e30
  have f31 : σ 31 = .ref (A 46) := e31
  have f32 : σ 32 = .ref (A 47) := e32
  have f33 : σ 33 = .ref (A 48) := e33
  have c0 : h (A 0) = some (.inr (0, [.ref (A 1), .ref (A 3), .ref (A 4), .ref (A 6), .ref (A 11), .ref (A 13), .ref (A 20), .ref (A 21), .ref (A 22)])) := hW 0 (by decide)
  have c1 : h (A 1) = some (.inr (1, [.ref (A 2), .int (iZ (n0 : Int))])) := by rw [← z0]; exact hW 1 (by decide)
  have c2 : h (A 2) = some (.inl (G_i G, 1000, .inl (iA (V 2)))) := hW 2 (by decide)
  have c3 : h (A 3) = some (.inr (5, [.int (iZ (Z 1)), .int (iZ (Z 2)), .long (lZ (Z 3))])) := hW 3 (by decide)
  have c4 : h (A 4) = some (.inr (10, [.int (iZ (Z 4)), .int (iZ (Z 5)), .int (iZ (Z 6)), .int (iZ (Z 7)), .ref (A 5), .int (iZ (nu : Int))])) := by rw [← z8]; exact hW 4 (by decide)
  have c5 : h (A 5) = some (.inl (G_i G, 20, .inl (iA (V 5)))) := hW 5 (by decide)
  have c6 : h (A 6) = some (.inr (2, [.ref (A 7), .ref (A 8), .ref (A 9), .ref (A 10), .int (iZ (n : Int))])) := by rw [← z9]; exact hW 6 (by decide)
  have c7 : h (A 7) = some (.inl (G_j G, 16, .inr (.inl (lA (V 7))))) := hW 7 (by decide)
  have c8 : h (A 8) = some (.inl (G_j G, 16, .inr (.inl (lA (V 8))))) := hW 8 (by decide)
  have c9 : h (A 9) = some (.inl (G_i G, 16, .inl (iA (V 9)))) := hW 9 (by decide)
  have c10 : h (A 10) = some (.inl (G_i G, 1024, .inl (iA (V 10)))) := hW 10 (by decide)
  have c11 : h (A 11) = some (.inr (7, [.ref (A 12), .int (iZ ((c % 10 : Nat) : Int)), .int (iZ (ct : Int))])) := by rw [← z10, ← z11]; exact hW 11 (by decide)
  have c12 : h (A 12) = some (.inl (G_q G, 10, .inr (.inr (.inr (.inr Kp))))) := hW 12 (by decide)
  have c13 : h (A 13) = some (.inr (3, [.ref (A 1), .ref (A 3), .ref (A 14), .ref (A 19), .int (iZ (Z 12)), .int (iZ (Z 13)), .int (iZ (Z 14)), .long (lZ (Z 15)), .long (lZ (Z 16)), .long (lZ (Z 17))])) := hW 13 (by decide)
  have c14 : h (A 14) = some (.inr (2, [.ref (A 15), .ref (A 16), .ref (A 17), .ref (A 18), .int (iZ (Z 18))])) := hW 14 (by decide)
  have c15 : h (A 15) = some (.inl (G_j G, 16, .inr (.inl (lA (V 15))))) := hW 15 (by decide)
  have c16 : h (A 16) = some (.inl (G_j G, 16, .inr (.inl (lA (V 16))))) := hW 16 (by decide)
  have c17 : h (A 17) = some (.inl (G_i G, 16, .inl (iA (V 17)))) := hW 17 (by decide)
  have c18 : h (A 18) = some (.inl (G_i G, 1024, .inl (iA (V 18)))) := hW 18 (by decide)
  have c19 : h (A 19) = some (.inl (G_i G, 64, .inl (iA (V 19)))) := hW 19 (by decide)
  have c20 : h (A 20) = some (.inr (4, [.ref (A 1), .ref (A 3), .ref (A 6)])) := hW 20 (by decide)
  have c21 : h (A 21) = some (.inr (6, [.ref (A 6), .int (iZ (Z 19)), .int (iZ (Z 20))])) := hW 21 (by decide)
  have c22 : h (A 22) = some (.inr (9, [.ref (A 6), .ref (A 3), .ref (A 4), .ref (A 23), .ref (A 24), .ref (A 25), .ref (A 26), .ref (A 27), .ref (A 28), .ref (A 29)])) := hW 22 (by decide)
  have c23 : h (A 23) = some (.inl (G_i G, 16, .inl (iA (V 23)))) := hW 23 (by decide)
  have c24 : h (A 24) = some (.inl (G_i G, 16, .inl (iA (V 24)))) := hW 24 (by decide)
  have c25 : h (A 25) = some (.inl (G_i G, 16, .inl (iA (V 25)))) := hW 25 (by decide)
  have c26 : h (A 26) = some (.inl (G_i G, 97, .inl (iA (V 26)))) := hW 26 (by decide)
  have c27 : h (A 27) = some (.inl (G_i G, 400, .inl (iA (V 27)))) := hW 27 (by decide)
  have c28 : h (A 28) = some (.inl (G_i G, 400, .inl (iA (V 28)))) := hW 28 (by decide)
  have c29 : h (A 29) = some (.inl (G_i G, 400, .inl (iA (V 29)))) := hW 29 (by decide)
  have c30 : h (A 30) = some (.inr (11, fsN 34 σ)) := hW 30 (by decide)
  have c31 : h (A 31) = some (.inl (G_i G, 1000, .inl (iA (V 31)))) := hW 31 (by decide)
  have c32 : h (A 32) = some (.inl (G_j G, 16, .inr (.inl (lA (V 32))))) := hW 32 (by decide)
  have c33 : h (A 33) = some (.inl (G_j G, 16, .inr (.inl (lA (V 33))))) := hW 33 (by decide)
  have c34 : h (A 34) = some (.inl (G_i G, 16, .inl (iA (V 34)))) := hW 34 (by decide)
  have c35 : h (A 35) = some (.inl (G_i G, 1024, .inl (iA (V 35)))) := hW 35 (by decide)
  have c36 : h (A 36) = some (.inl (G_i G, 10, .inl (iA (V 36)))) := hW 36 (by decide)
  have c37 : h (A 37) = some (.inl (G_j G, 160, .inr (.inl (lA (V 37))))) := hW 37 (by decide)
  have c38 : h (A 38) = some (.inl (G_j G, 160, .inr (.inl (lA (V 38))))) := hW 38 (by decide)
  have c39 : h (A 39) = some (.inl (G_i G, 160, .inl (iA (V 39)))) := hW 39 (by decide)
  have c40 : h (A 40) = some (.inl (G_i G, 10240, .inl (iA (V 40)))) := hW 40 (by decide)
  have c41 : h (A 41) = some (.inl (G_j G, 16, .inr (.inl (lA (V 41))))) := hW 41 (by decide)
  have c42 : h (A 42) = some (.inl (G_j G, 16, .inr (.inl (lA (V 42))))) := hW 42 (by decide)
  have c43 : h (A 43) = some (.inl (G_i G, 16, .inl (iA (V 43)))) := hW 43 (by decide)
  have c44 : h (A 44) = some (.inl (G_i G, 1024, .inl (iA (V 44)))) := hW 44 (by decide)
  have c45 : h (A 45) = some (.inl (G_i G, 20, .inl (iA (V 45)))) := hW 45 (by decide)
  have c46 : h (A 46) = some (.inl (G_i G, 194, .inl (iA (V 46)))) := hW 46 (by decide)
  have c47 : h (A 47) = some (.inl (G_i G, 3104, .inl (iA (V 47)))) := hW 47 (by decide)
  have c48 : h (A 48) = some (.inl (G_i G, 65, .inl (iA (V 48)))) := hW 48 (by decide)
  obtain ⟨b1, b2, b3, b4, b5, b6, b7, b8, b9, b10, b11⟩ := id hRB
  obtain ⟨u1, u2, u3, u4, u5, u6, u7, u8⟩ := id b8
  obtain ⟨r1, r2, r3, r4, r5⟩ := id hRC
  obtain ⟨t1, t2, t3, t4, t5, t6, t7, t8, t9, t10, t11, t12⟩ := id hRS
  obtain ⟨p1, p2, p3, p4, p5⟩ := id hRP
  have hc1 : c ≤ 1000 := by omega
  have hct := hPa.2.1
  have hct2 : ct ≤ 10 := hPa.2.1
  refine ⟨⟨_, c0⟩, (rm 2 50), ⟨by decide, by decide, by decide, by decide⟩, rn_mono (c_CB_cue G h (A 0) (A 1) (A 3) (A 4) (A 6) (A 11) (A 13) (A 20) (A 21) (A 22) (A 7) (A 8) (A 9) (A 10) (n : Int) a0 a1 (V 7) (V 8) (V 9) (V 10) c0 c6 c7 c8 c9 c10 (fun k _ => r3.2.2.1 k) r3.2.2.2 (by omega) q0 q1) (fun r h1 q => ?_)⟩
  obtain ⟨rfl, hx9⟩ := q
  have hW1 : WC A (EE G A V Z Kp σ) h1 := by rw [hx9]; exact hW
  have hPa1 : PaW G h1 (A 48) (A 11) (A 12) (c % 10) ct Kp Ke C := by rw [hx9]; exact hPa
  have g30 : h1 (A 30) = some (.inr (11, fsN 34 σ)) := hW1 30 (by decide)
  have g31 : h1 (A 31) = some (.inl (G_i G, 1000, .inl (iA (V 31)))) := hW1 31 (by decide)
  have g32 : h1 (A 32) = some (.inl (G_j G, 16, .inr (.inl (lA (V 32))))) := hW1 32 (by decide)
  have g33 : h1 (A 33) = some (.inl (G_j G, 16, .inr (.inl (lA (V 33))))) := hW1 33 (by decide)
  have g34 : h1 (A 34) = some (.inl (G_i G, 16, .inl (iA (V 34)))) := hW1 34 (by decide)
  have g35 : h1 (A 35) = some (.inl (G_i G, 1024, .inl (iA (V 35)))) := hW1 35 (by decide)
  have g36 : h1 (A 36) = some (.inl (G_i G, 10, .inl (iA (V 36)))) := hW1 36 (by decide)
  have g37 : h1 (A 37) = some (.inl (G_j G, 160, .inr (.inl (lA (V 37))))) := hW1 37 (by decide)
  have g38 : h1 (A 38) = some (.inl (G_j G, 160, .inr (.inl (lA (V 38))))) := hW1 38 (by decide)
  have g39 : h1 (A 39) = some (.inl (G_i G, 160, .inl (iA (V 39)))) := hW1 39 (by decide)
  have g40 : h1 (A 40) = some (.inl (G_i G, 10240, .inl (iA (V 40)))) := hW1 40 (by decide)
  have g41 : h1 (A 41) = some (.inl (G_j G, 16, .inr (.inl (lA (V 41))))) := hW1 41 (by decide)
  have g42 : h1 (A 42) = some (.inl (G_j G, 16, .inr (.inl (lA (V 42))))) := hW1 42 (by decide)
  have g43 : h1 (A 43) = some (.inl (G_i G, 16, .inl (iA (V 43)))) := hW1 43 (by decide)
  have g44 : h1 (A 44) = some (.inl (G_i G, 1024, .inl (iA (V 44)))) := hW1 44 (by decide)
  have g45 : h1 (A 45) = some (.inl (G_i G, 20, .inl (iA (V 45)))) := hW1 45 (by decide)
  have g46 : h1 (A 46) = some (.inl (G_i G, 194, .inl (iA (V 46)))) := hW1 46 (by decide)
  have g47 : h1 (A 47) = some (.inl (G_i G, 3104, .inl (iA (V 47)))) := hW1 47 (by decide)
  have g48 : h1 (A 48) = some (.inl (G_i G, 65, .inl (iA (V 48)))) := hW1 48 (by decide)
  refine ⟨cueV (V 7) (V 8) (V 9) (V 10) n a0 a1, cueV_r r3 _ _, rfl, ⟨_, g30⟩, (rm 2 50), ⟨by decide, by decide, by decide, by decide⟩, rn_mono (c_Mo_cue G h1 σ (A 30) (A 32) (A 33) (A 34) (A 35) (n : Int) (V 32) (V 33) (V 34) (V 35) a0 a1 g30 f4 f5 f6 f7 f8 g32 g33 g34 g35 (fun k _ => r4.2.2.1 k) r4.2.2.2 (by omega) q0 q1) (fun r2 h2 q2 => ?_)⟩
  obtain ⟨rfl, hx8⟩ := q2
  rw [hx8]
  exact ⟨by rw [v_cue r2], hM, V, Z, Kp, Ke, C, σ, n0, nu, n, (c % 10), ct, c, hW1, hSg, hPa1, ⟨z0, z8, z9, z10, z11, z21⟩, hRB, hRC, hRS, hRP, by omega⟩
set_option maxHeartbeats 4000000 in
set_option maxRecDepth 100000 in
theorem duo_text (G : GT) (A : Nat → Nat) (i : Nat) (h : HM) (hI : Inv G A i h) (hi : i ≤ 511) : ∀ a0 a1 : Int, iR a0 → iR a1 → Duo G (A 0) (A 30) M_CB_text M_Mo_text [.int (iZ a0), .int (iZ a1)] mI iR h (Inv G A (i + 1)) := by
  intro a0 a1 q0 q1
  obtain ⟨hM, V, Z, Kp, Ke, C, σ, n0, nu, n, nx, ct, c, hW, hSg, hPa, ⟨z0, z8, z9, z10, z11, z21⟩, hRB, hRC, hRS, hRP, hci⟩ := hI
  obtain rfl : nx = c % 10 := hRP.2.2.2.1
  obtain ⟨e0, e1, e2, e3, e4, e5, e6, e7, e8, e9, e10, e11, e12, e13, e14, e15, e19, e20, e21, e22, e25, e26, e27, e28, e29, e30, e31, e32, e33⟩ := id hSg
  have f0 : σ 0 = .int (iZ (n0 : Int)) := by rw [← z0]; exact e0
  have f1 : σ 1 = .ref (A 31) := e1
  have f2 : σ 2 = .int (iZ (Z 1)) := e2
  have f3 : σ 3 = .int (iZ (Z 2)) := e3
  have f4 : σ 4 = .int (iZ (n : Int)) := by rw [← z9]; exact e4
  have f5 : σ 5 = .ref (A 32) := e5
  have f6 : σ 6 = .ref (A 33) := e6
  have f7 : σ 7 = .ref (A 34) := e7
  have f8 : σ 8 = .ref (A 35) := e8
  have f9 : σ 9 = .int (iZ (c : Int)) := by rw [← z21]; exact e9
  have f10 : σ 10 = .int (iZ (ct : Int)) := by rw [← z11]; exact e10
  have f11 : σ 11 = .ref (A 36) := e11
  have f12 : σ 12 = .ref (A 37) := e12
  have f13 : σ 13 = .ref (A 38) := e13
  have f14 : σ 14 = .ref (A 39) := e14
  have f15 : σ 15 = .ref (A 40) := e15
  have f19 : σ 19 = .ref (A 41) := e19
  have f20 : σ 20 = .ref (A 42) := e20
  have f21 : σ 21 = .ref (A 43) := e21
  have f22 : σ 22 = .ref (A 44) := e22
  have f25 : σ 25 = .int (iZ (nu : Int)) := by rw [← z8]; exact e25
  have f26 : σ 26 = .ref (A 45) := e26
  have f27 : σ 27 = .int (iZ (Z 4)) := e27
  have f28 : σ 28 = .int (iZ (Z 5)) := e28
  have f29 : σ 29 = .int (iZ (Z 6)) := e29
  have f30 : σ 30 = .int (iZ (Z 7)) := e30
  have f31 : σ 31 = .ref (A 46) := e31
  have f32 : σ 32 = .ref (A 47) := e32
  have f33 : σ 33 = .ref (A 48) := e33
  have c0 : h (A 0) = some (.inr (0, [.ref (A 1), .ref (A 3), .ref (A 4), .ref (A 6), .ref (A 11), .ref (A 13), .ref (A 20), .ref (A 21), .ref (A 22)])) := hW 0 (by decide)
  have c1 : h (A 1) = some (.inr (1, [.ref (A 2), .int (iZ (n0 : Int))])) := by rw [← z0]; exact hW 1 (by decide)
  have c2 : h (A 2) = some (.inl (G_i G, 1000, .inl (iA (V 2)))) := hW 2 (by decide)
  have c3 : h (A 3) = some (.inr (5, [.int (iZ (Z 1)), .int (iZ (Z 2)), .long (lZ (Z 3))])) := hW 3 (by decide)
  have c4 : h (A 4) = some (.inr (10, [.int (iZ (Z 4)), .int (iZ (Z 5)), .int (iZ (Z 6)), .int (iZ (Z 7)), .ref (A 5), .int (iZ (nu : Int))])) := by rw [← z8]; exact hW 4 (by decide)
  have c5 : h (A 5) = some (.inl (G_i G, 20, .inl (iA (V 5)))) := hW 5 (by decide)
  have c6 : h (A 6) = some (.inr (2, [.ref (A 7), .ref (A 8), .ref (A 9), .ref (A 10), .int (iZ (n : Int))])) := by rw [← z9]; exact hW 6 (by decide)
  have c7 : h (A 7) = some (.inl (G_j G, 16, .inr (.inl (lA (V 7))))) := hW 7 (by decide)
  have c8 : h (A 8) = some (.inl (G_j G, 16, .inr (.inl (lA (V 8))))) := hW 8 (by decide)
  have c9 : h (A 9) = some (.inl (G_i G, 16, .inl (iA (V 9)))) := hW 9 (by decide)
  have c10 : h (A 10) = some (.inl (G_i G, 1024, .inl (iA (V 10)))) := hW 10 (by decide)
  have c11 : h (A 11) = some (.inr (7, [.ref (A 12), .int (iZ ((c % 10 : Nat) : Int)), .int (iZ (ct : Int))])) := by rw [← z10, ← z11]; exact hW 11 (by decide)
  have c12 : h (A 12) = some (.inl (G_q G, 10, .inr (.inr (.inr (.inr Kp))))) := hW 12 (by decide)
  have c13 : h (A 13) = some (.inr (3, [.ref (A 1), .ref (A 3), .ref (A 14), .ref (A 19), .int (iZ (Z 12)), .int (iZ (Z 13)), .int (iZ (Z 14)), .long (lZ (Z 15)), .long (lZ (Z 16)), .long (lZ (Z 17))])) := hW 13 (by decide)
  have c14 : h (A 14) = some (.inr (2, [.ref (A 15), .ref (A 16), .ref (A 17), .ref (A 18), .int (iZ (Z 18))])) := hW 14 (by decide)
  have c15 : h (A 15) = some (.inl (G_j G, 16, .inr (.inl (lA (V 15))))) := hW 15 (by decide)
  have c16 : h (A 16) = some (.inl (G_j G, 16, .inr (.inl (lA (V 16))))) := hW 16 (by decide)
  have c17 : h (A 17) = some (.inl (G_i G, 16, .inl (iA (V 17)))) := hW 17 (by decide)
  have c18 : h (A 18) = some (.inl (G_i G, 1024, .inl (iA (V 18)))) := hW 18 (by decide)
  have c19 : h (A 19) = some (.inl (G_i G, 64, .inl (iA (V 19)))) := hW 19 (by decide)
  have c20 : h (A 20) = some (.inr (4, [.ref (A 1), .ref (A 3), .ref (A 6)])) := hW 20 (by decide)
  have c21 : h (A 21) = some (.inr (6, [.ref (A 6), .int (iZ (Z 19)), .int (iZ (Z 20))])) := hW 21 (by decide)
  have c22 : h (A 22) = some (.inr (9, [.ref (A 6), .ref (A 3), .ref (A 4), .ref (A 23), .ref (A 24), .ref (A 25), .ref (A 26), .ref (A 27), .ref (A 28), .ref (A 29)])) := hW 22 (by decide)
  have c23 : h (A 23) = some (.inl (G_i G, 16, .inl (iA (V 23)))) := hW 23 (by decide)
  have c24 : h (A 24) = some (.inl (G_i G, 16, .inl (iA (V 24)))) := hW 24 (by decide)
  have c25 : h (A 25) = some (.inl (G_i G, 16, .inl (iA (V 25)))) := hW 25 (by decide)
  have c26 : h (A 26) = some (.inl (G_i G, 97, .inl (iA (V 26)))) := hW 26 (by decide)
  have c27 : h (A 27) = some (.inl (G_i G, 400, .inl (iA (V 27)))) := hW 27 (by decide)
  have c28 : h (A 28) = some (.inl (G_i G, 400, .inl (iA (V 28)))) := hW 28 (by decide)
  have c29 : h (A 29) = some (.inl (G_i G, 400, .inl (iA (V 29)))) := hW 29 (by decide)
  have c30 : h (A 30) = some (.inr (11, fsN 34 σ)) := hW 30 (by decide)
  have c31 : h (A 31) = some (.inl (G_i G, 1000, .inl (iA (V 31)))) := hW 31 (by decide)
  have c32 : h (A 32) = some (.inl (G_j G, 16, .inr (.inl (lA (V 32))))) := hW 32 (by decide)
  have c33 : h (A 33) = some (.inl (G_j G, 16, .inr (.inl (lA (V 33))))) := hW 33 (by decide)
  have c34 : h (A 34) = some (.inl (G_i G, 16, .inl (iA (V 34)))) := hW 34 (by decide)
  have c35 : h (A 35) = some (.inl (G_i G, 1024, .inl (iA (V 35)))) := hW 35 (by decide)
  have c36 : h (A 36) = some (.inl (G_i G, 10, .inl (iA (V 36)))) := hW 36 (by decide)
  have c37 : h (A 37) = some (.inl (G_j G, 160, .inr (.inl (lA (V 37))))) := hW 37 (by decide)
  have c38 : h (A 38) = some (.inl (G_j G, 160, .inr (.inl (lA (V 38))))) := hW 38 (by decide)
  have c39 : h (A 39) = some (.inl (G_i G, 160, .inl (iA (V 39)))) := hW 39 (by decide)
  have c40 : h (A 40) = some (.inl (G_i G, 10240, .inl (iA (V 40)))) := hW 40 (by decide)
  have c41 : h (A 41) = some (.inl (G_j G, 16, .inr (.inl (lA (V 41))))) := hW 41 (by decide)
  have c42 : h (A 42) = some (.inl (G_j G, 16, .inr (.inl (lA (V 42))))) := hW 42 (by decide)
  have c43 : h (A 43) = some (.inl (G_i G, 16, .inl (iA (V 43)))) := hW 43 (by decide)
  have c44 : h (A 44) = some (.inl (G_i G, 1024, .inl (iA (V 44)))) := hW 44 (by decide)
  have c45 : h (A 45) = some (.inl (G_i G, 20, .inl (iA (V 45)))) := hW 45 (by decide)
  have c46 : h (A 46) = some (.inl (G_i G, 194, .inl (iA (V 46)))) := hW 46 (by decide)
  have c47 : h (A 47) = some (.inl (G_i G, 3104, .inl (iA (V 47)))) := hW 47 (by decide)
  have c48 : h (A 48) = some (.inl (G_i G, 65, .inl (iA (V 48)))) := hW 48 (by decide)
  obtain ⟨b1, b2, b3, b4, b5, b6, b7, b8, b9, b10, b11⟩ := id hRB
  obtain ⟨u1, u2, u3, u4, u5, u6, u7, u8⟩ := id b8
  obtain ⟨r1, r2, r3, r4, r5⟩ := id hRC
  obtain ⟨t1, t2, t3, t4, t5, t6, t7, t8, t9, t10, t11, t12⟩ := id hRS
  obtain ⟨p1, p2, p3, p4, p5⟩ := id hRP
  have hc1 : c ≤ 1000 := by omega
  have hct := hPa.2.1
  have hct2 : ct ≤ 10 := hPa.2.1
  refine ⟨⟨_, c0⟩, (rm 1 30), ⟨by decide, by decide, by decide, by decide⟩, rn_mono (c_CB_text G h (A 0) (A 1) (A 3) (A 4) (A 6) (A 11) (A 13) (A 20) (A 21) (A 22) (A 7) (A 8) (A 9) (A 10) (n : Int) a0 a1 (V 7) (V 8) (V 9) (V 10) c0 c6 c7 c8 c9 c10 (fun k _ => r3.2.2.1 k) r3.2.2.2 (by omega) q0 q1) (fun r h1 q => ?_)⟩
  obtain ⟨rfl, hx9⟩ := q
  have hW1 : WC A (EE G A V Z Kp σ) h1 := by rw [hx9]; exact hW
  have hPa1 : PaW G h1 (A 48) (A 11) (A 12) (c % 10) ct Kp Ke C := by rw [hx9]; exact hPa
  have g30 : h1 (A 30) = some (.inr (11, fsN 34 σ)) := hW1 30 (by decide)
  have g31 : h1 (A 31) = some (.inl (G_i G, 1000, .inl (iA (V 31)))) := hW1 31 (by decide)
  have g32 : h1 (A 32) = some (.inl (G_j G, 16, .inr (.inl (lA (V 32))))) := hW1 32 (by decide)
  have g33 : h1 (A 33) = some (.inl (G_j G, 16, .inr (.inl (lA (V 33))))) := hW1 33 (by decide)
  have g34 : h1 (A 34) = some (.inl (G_i G, 16, .inl (iA (V 34)))) := hW1 34 (by decide)
  have g35 : h1 (A 35) = some (.inl (G_i G, 1024, .inl (iA (V 35)))) := hW1 35 (by decide)
  have g36 : h1 (A 36) = some (.inl (G_i G, 10, .inl (iA (V 36)))) := hW1 36 (by decide)
  have g37 : h1 (A 37) = some (.inl (G_j G, 160, .inr (.inl (lA (V 37))))) := hW1 37 (by decide)
  have g38 : h1 (A 38) = some (.inl (G_j G, 160, .inr (.inl (lA (V 38))))) := hW1 38 (by decide)
  have g39 : h1 (A 39) = some (.inl (G_i G, 160, .inl (iA (V 39)))) := hW1 39 (by decide)
  have g40 : h1 (A 40) = some (.inl (G_i G, 10240, .inl (iA (V 40)))) := hW1 40 (by decide)
  have g41 : h1 (A 41) = some (.inl (G_j G, 16, .inr (.inl (lA (V 41))))) := hW1 41 (by decide)
  have g42 : h1 (A 42) = some (.inl (G_j G, 16, .inr (.inl (lA (V 42))))) := hW1 42 (by decide)
  have g43 : h1 (A 43) = some (.inl (G_i G, 16, .inl (iA (V 43)))) := hW1 43 (by decide)
  have g44 : h1 (A 44) = some (.inl (G_i G, 1024, .inl (iA (V 44)))) := hW1 44 (by decide)
  have g45 : h1 (A 45) = some (.inl (G_i G, 20, .inl (iA (V 45)))) := hW1 45 (by decide)
  have g46 : h1 (A 46) = some (.inl (G_i G, 194, .inl (iA (V 46)))) := hW1 46 (by decide)
  have g47 : h1 (A 47) = some (.inl (G_i G, 3104, .inl (iA (V 47)))) := hW1 47 (by decide)
  have g48 : h1 (A 48) = some (.inl (G_i G, 65, .inl (iA (V 48)))) := hW1 48 (by decide)
  refine ⟨textV (V 9) (V 10) n a0 a1, textV_r r3.2.2.2 _ _, rfl, ⟨_, g30⟩, (rm 1 30), ⟨by decide, by decide, by decide, by decide⟩, rn_mono (c_Mo_text G h1 σ (A 30) (A 32) (A 33) (A 34) (A 35) (n : Int) (V 32) (V 33) (V 34) (V 35) a0 a1 g30 f4 f5 f6 f7 f8 g32 g33 g34 g35 (fun k _ => r4.2.2.1 k) r4.2.2.2 (by omega) q0 q1) (fun r2 h2 q2 => ?_)⟩
  obtain ⟨rfl, hx8⟩ := q2
  rw [hx8]
  exact ⟨by rw [v_text r2], hM, V, Z, Kp, Ke, C, σ, n0, nu, n, (c % 10), ct, c, hW1, hSg, hPa1, ⟨z0, z8, z9, z10, z11, z21⟩, hRB, hRC, hRS, hRP, by omega⟩
set_option maxHeartbeats 4000000 in
set_option maxRecDepth 100000 in
theorem duo_clash (G : GT) (A : Nat → Nat) (i : Nat) (h : HM) (hI : Inv G A i h) (hi : i ≤ 511) : Duo G (A 0) (A 30) M_CB_clash M_Mo_clash [] mI iR h (Inv G A (i + 1)) := by
  obtain ⟨hM, V, Z, Kp, Ke, C, σ, n0, nu, n, nx, ct, c, hW, hSg, hPa, ⟨z0, z8, z9, z10, z11, z21⟩, hRB, hRC, hRS, hRP, hci⟩ := hI
  obtain rfl : nx = c % 10 := hRP.2.2.2.1
  obtain ⟨e0, e1, e2, e3, e4, e5, e6, e7, e8, e9, e10, e11, e12, e13, e14, e15, e19, e20, e21, e22, e25, e26, e27, e28, e29, e30, e31, e32, e33⟩ := id hSg
  have f0 : σ 0 = .int (iZ (n0 : Int)) := by rw [← z0]; exact e0
  have f1 : σ 1 = .ref (A 31) := e1
  have f2 : σ 2 = .int (iZ (Z 1)) := e2
  have f3 : σ 3 = .int (iZ (Z 2)) := e3
  have f4 : σ 4 = .int (iZ (n : Int)) := by rw [← z9]; exact e4
  have f5 : σ 5 = .ref (A 32) := e5
  have f6 : σ 6 = .ref (A 33) := e6
  have f7 : σ 7 = .ref (A 34) := e7
  have f8 : σ 8 = .ref (A 35) := e8
  have f9 : σ 9 = .int (iZ (c : Int)) := by rw [← z21]; exact e9
  have f10 : σ 10 = .int (iZ (ct : Int)) := by rw [← z11]; exact e10
  have f11 : σ 11 = .ref (A 36) := e11
  have f12 : σ 12 = .ref (A 37) := e12
  have f13 : σ 13 = .ref (A 38) := e13
  have f14 : σ 14 = .ref (A 39) := e14
  have f15 : σ 15 = .ref (A 40) := e15
  have f19 : σ 19 = .ref (A 41) := e19
  have f20 : σ 20 = .ref (A 42) := e20
  have f21 : σ 21 = .ref (A 43) := e21
  have f22 : σ 22 = .ref (A 44) := e22
  have f25 : σ 25 = .int (iZ (nu : Int)) := by rw [← z8]; exact e25
  have f26 : σ 26 = .ref (A 45) := e26
  have f27 : σ 27 = .int (iZ (Z 4)) := e27
  have f28 : σ 28 = .int (iZ (Z 5)) := e28
  have f29 : σ 29 = .int (iZ (Z 6)) := e29
  have f30 : σ 30 = .int (iZ (Z 7)) := e30
  have f31 : σ 31 = .ref (A 46) := e31
  have f32 : σ 32 = .ref (A 47) := e32
  have f33 : σ 33 = .ref (A 48) := e33
  have c0 : h (A 0) = some (.inr (0, [.ref (A 1), .ref (A 3), .ref (A 4), .ref (A 6), .ref (A 11), .ref (A 13), .ref (A 20), .ref (A 21), .ref (A 22)])) := hW 0 (by decide)
  have c1 : h (A 1) = some (.inr (1, [.ref (A 2), .int (iZ (n0 : Int))])) := by rw [← z0]; exact hW 1 (by decide)
  have c2 : h (A 2) = some (.inl (G_i G, 1000, .inl (iA (V 2)))) := hW 2 (by decide)
  have c3 : h (A 3) = some (.inr (5, [.int (iZ (Z 1)), .int (iZ (Z 2)), .long (lZ (Z 3))])) := hW 3 (by decide)
  have c4 : h (A 4) = some (.inr (10, [.int (iZ (Z 4)), .int (iZ (Z 5)), .int (iZ (Z 6)), .int (iZ (Z 7)), .ref (A 5), .int (iZ (nu : Int))])) := by rw [← z8]; exact hW 4 (by decide)
  have c5 : h (A 5) = some (.inl (G_i G, 20, .inl (iA (V 5)))) := hW 5 (by decide)
  have c6 : h (A 6) = some (.inr (2, [.ref (A 7), .ref (A 8), .ref (A 9), .ref (A 10), .int (iZ (n : Int))])) := by rw [← z9]; exact hW 6 (by decide)
  have c7 : h (A 7) = some (.inl (G_j G, 16, .inr (.inl (lA (V 7))))) := hW 7 (by decide)
  have c8 : h (A 8) = some (.inl (G_j G, 16, .inr (.inl (lA (V 8))))) := hW 8 (by decide)
  have c9 : h (A 9) = some (.inl (G_i G, 16, .inl (iA (V 9)))) := hW 9 (by decide)
  have c10 : h (A 10) = some (.inl (G_i G, 1024, .inl (iA (V 10)))) := hW 10 (by decide)
  have c11 : h (A 11) = some (.inr (7, [.ref (A 12), .int (iZ ((c % 10 : Nat) : Int)), .int (iZ (ct : Int))])) := by rw [← z10, ← z11]; exact hW 11 (by decide)
  have c12 : h (A 12) = some (.inl (G_q G, 10, .inr (.inr (.inr (.inr Kp))))) := hW 12 (by decide)
  have c13 : h (A 13) = some (.inr (3, [.ref (A 1), .ref (A 3), .ref (A 14), .ref (A 19), .int (iZ (Z 12)), .int (iZ (Z 13)), .int (iZ (Z 14)), .long (lZ (Z 15)), .long (lZ (Z 16)), .long (lZ (Z 17))])) := hW 13 (by decide)
  have c14 : h (A 14) = some (.inr (2, [.ref (A 15), .ref (A 16), .ref (A 17), .ref (A 18), .int (iZ (Z 18))])) := hW 14 (by decide)
  have c15 : h (A 15) = some (.inl (G_j G, 16, .inr (.inl (lA (V 15))))) := hW 15 (by decide)
  have c16 : h (A 16) = some (.inl (G_j G, 16, .inr (.inl (lA (V 16))))) := hW 16 (by decide)
  have c17 : h (A 17) = some (.inl (G_i G, 16, .inl (iA (V 17)))) := hW 17 (by decide)
  have c18 : h (A 18) = some (.inl (G_i G, 1024, .inl (iA (V 18)))) := hW 18 (by decide)
  have c19 : h (A 19) = some (.inl (G_i G, 64, .inl (iA (V 19)))) := hW 19 (by decide)
  have c20 : h (A 20) = some (.inr (4, [.ref (A 1), .ref (A 3), .ref (A 6)])) := hW 20 (by decide)
  have c21 : h (A 21) = some (.inr (6, [.ref (A 6), .int (iZ (Z 19)), .int (iZ (Z 20))])) := hW 21 (by decide)
  have c22 : h (A 22) = some (.inr (9, [.ref (A 6), .ref (A 3), .ref (A 4), .ref (A 23), .ref (A 24), .ref (A 25), .ref (A 26), .ref (A 27), .ref (A 28), .ref (A 29)])) := hW 22 (by decide)
  have c23 : h (A 23) = some (.inl (G_i G, 16, .inl (iA (V 23)))) := hW 23 (by decide)
  have c24 : h (A 24) = some (.inl (G_i G, 16, .inl (iA (V 24)))) := hW 24 (by decide)
  have c25 : h (A 25) = some (.inl (G_i G, 16, .inl (iA (V 25)))) := hW 25 (by decide)
  have c26 : h (A 26) = some (.inl (G_i G, 97, .inl (iA (V 26)))) := hW 26 (by decide)
  have c27 : h (A 27) = some (.inl (G_i G, 400, .inl (iA (V 27)))) := hW 27 (by decide)
  have c28 : h (A 28) = some (.inl (G_i G, 400, .inl (iA (V 28)))) := hW 28 (by decide)
  have c29 : h (A 29) = some (.inl (G_i G, 400, .inl (iA (V 29)))) := hW 29 (by decide)
  have c30 : h (A 30) = some (.inr (11, fsN 34 σ)) := hW 30 (by decide)
  have c31 : h (A 31) = some (.inl (G_i G, 1000, .inl (iA (V 31)))) := hW 31 (by decide)
  have c32 : h (A 32) = some (.inl (G_j G, 16, .inr (.inl (lA (V 32))))) := hW 32 (by decide)
  have c33 : h (A 33) = some (.inl (G_j G, 16, .inr (.inl (lA (V 33))))) := hW 33 (by decide)
  have c34 : h (A 34) = some (.inl (G_i G, 16, .inl (iA (V 34)))) := hW 34 (by decide)
  have c35 : h (A 35) = some (.inl (G_i G, 1024, .inl (iA (V 35)))) := hW 35 (by decide)
  have c36 : h (A 36) = some (.inl (G_i G, 10, .inl (iA (V 36)))) := hW 36 (by decide)
  have c37 : h (A 37) = some (.inl (G_j G, 160, .inr (.inl (lA (V 37))))) := hW 37 (by decide)
  have c38 : h (A 38) = some (.inl (G_j G, 160, .inr (.inl (lA (V 38))))) := hW 38 (by decide)
  have c39 : h (A 39) = some (.inl (G_i G, 160, .inl (iA (V 39)))) := hW 39 (by decide)
  have c40 : h (A 40) = some (.inl (G_i G, 10240, .inl (iA (V 40)))) := hW 40 (by decide)
  have c41 : h (A 41) = some (.inl (G_j G, 16, .inr (.inl (lA (V 41))))) := hW 41 (by decide)
  have c42 : h (A 42) = some (.inl (G_j G, 16, .inr (.inl (lA (V 42))))) := hW 42 (by decide)
  have c43 : h (A 43) = some (.inl (G_i G, 16, .inl (iA (V 43)))) := hW 43 (by decide)
  have c44 : h (A 44) = some (.inl (G_i G, 1024, .inl (iA (V 44)))) := hW 44 (by decide)
  have c45 : h (A 45) = some (.inl (G_i G, 20, .inl (iA (V 45)))) := hW 45 (by decide)
  have c46 : h (A 46) = some (.inl (G_i G, 194, .inl (iA (V 46)))) := hW 46 (by decide)
  have c47 : h (A 47) = some (.inl (G_i G, 3104, .inl (iA (V 47)))) := hW 47 (by decide)
  have c48 : h (A 48) = some (.inl (G_i G, 65, .inl (iA (V 48)))) := hW 48 (by decide)
  obtain ⟨b1, b2, b3, b4, b5, b6, b7, b8, b9, b10, b11⟩ := id hRB
  obtain ⟨u1, u2, u3, u4, u5, u6, u7, u8⟩ := id b8
  obtain ⟨r1, r2, r3, r4, r5⟩ := id hRC
  obtain ⟨t1, t2, t3, t4, t5, t6, t7, t8, t9, t10, t11, t12⟩ := id hRS
  obtain ⟨p1, p2, p3, p4, p5⟩ := id hRP
  have hc1 : c ≤ 1000 := by omega
  have hct := hPa.2.1
  have hct2 : ct ≤ 10 := hPa.2.1
  refine ⟨⟨_, c0⟩, (rm 0 0), ⟨by decide, by decide, by decide, by decide⟩, rn_mono (c_CB_clash G h (A 0) (A 1) (A 3) (A 4) (A 6) (A 11) (A 13) (A 20) (A 21) (A 22) (A 7) (A 8) (A 9) (A 10) n (V 7) (V 8) c0 c6 c7 c8 r3.1 r3.2.1 r1) (fun r h1 q => ?_)⟩
  obtain ⟨hx9, v, hv, rfl⟩ := q
  have hW1 : WC A (EE G A V Z Kp σ) h1 := by rw [hx9]; exact hW
  have hPa1 : PaW G h1 (A 48) (A 11) (A 12) (c % 10) ct Kp Ke C := by rw [hx9]; exact hPa
  have g30 : h1 (A 30) = some (.inr (11, fsN 34 σ)) := hW1 30 (by decide)
  have g31 : h1 (A 31) = some (.inl (G_i G, 1000, .inl (iA (V 31)))) := hW1 31 (by decide)
  have g32 : h1 (A 32) = some (.inl (G_j G, 16, .inr (.inl (lA (V 32))))) := hW1 32 (by decide)
  have g33 : h1 (A 33) = some (.inl (G_j G, 16, .inr (.inl (lA (V 33))))) := hW1 33 (by decide)
  have g34 : h1 (A 34) = some (.inl (G_i G, 16, .inl (iA (V 34)))) := hW1 34 (by decide)
  have g35 : h1 (A 35) = some (.inl (G_i G, 1024, .inl (iA (V 35)))) := hW1 35 (by decide)
  have g36 : h1 (A 36) = some (.inl (G_i G, 10, .inl (iA (V 36)))) := hW1 36 (by decide)
  have g37 : h1 (A 37) = some (.inl (G_j G, 160, .inr (.inl (lA (V 37))))) := hW1 37 (by decide)
  have g38 : h1 (A 38) = some (.inl (G_j G, 160, .inr (.inl (lA (V 38))))) := hW1 38 (by decide)
  have g39 : h1 (A 39) = some (.inl (G_i G, 160, .inl (iA (V 39)))) := hW1 39 (by decide)
  have g40 : h1 (A 40) = some (.inl (G_i G, 10240, .inl (iA (V 40)))) := hW1 40 (by decide)
  have g41 : h1 (A 41) = some (.inl (G_j G, 16, .inr (.inl (lA (V 41))))) := hW1 41 (by decide)
  have g42 : h1 (A 42) = some (.inl (G_j G, 16, .inr (.inl (lA (V 42))))) := hW1 42 (by decide)
  have g43 : h1 (A 43) = some (.inl (G_i G, 16, .inl (iA (V 43)))) := hW1 43 (by decide)
  have g44 : h1 (A 44) = some (.inl (G_i G, 1024, .inl (iA (V 44)))) := hW1 44 (by decide)
  have g45 : h1 (A 45) = some (.inl (G_i G, 20, .inl (iA (V 45)))) := hW1 45 (by decide)
  have g46 : h1 (A 46) = some (.inl (G_i G, 194, .inl (iA (V 46)))) := hW1 46 (by decide)
  have g47 : h1 (A 47) = some (.inl (G_i G, 3104, .inl (iA (V 47)))) := hW1 47 (by decide)
  have g48 : h1 (A 48) = some (.inl (G_i G, 65, .inl (iA (V 48)))) := hW1 48 (by decide)
  refine ⟨v, by rcases hv with ⟨w, _⟩ | ⟨k, w, w2, _⟩ <;> omega, rfl, ⟨_, g30⟩, (rm 0 0), ⟨by decide, by decide, by decide, by decide⟩, rn_mono (c_Mo_clash G h1 σ (A 30) (A 32) (A 33) n (V 32) (V 33) g30 f4 f5 f6 g32 g33 r4.1 r4.2.1 r1) (fun r2 h2 q2 => ?_)⟩
  obtain ⟨hx8, w, hw, rfl⟩ := q2
  rw [hx8]
  exact ⟨by rw [v_clash r2 hv hw], hM, V, Z, Kp, Ke, C, σ, n0, nu, n, (c % 10), ct, c, hW1, hSg, hPa1, ⟨z0, z8, z9, z10, z11, z21⟩, hRB, hRC, hRS, hRP, by omega⟩
set_option maxHeartbeats 4000000 in
set_option maxRecDepth 100000 in
theorem duo_put (G : GT) (A : Nat → Nat) (i : Nat) (h : HM) (hI : Inv G A i h) (hi : i ≤ 511) : ∀ a0 a1 : Int, lR a0 → iR a1 → Duo G (A 0) (A 30) M_CB_put M_Mo_put [.long (lZ a0), .int (iZ a1)] mI iR h (Inv G A (i + 1)) := by
  intro a0 a1 q0 q1
  obtain ⟨hM, V, Z, Kp, Ke, C, σ, n0, nu, n, nx, ct, c, hW, hSg, hPa, ⟨z0, z8, z9, z10, z11, z21⟩, hRB, hRC, hRS, hRP, hci⟩ := hI
  obtain rfl : nx = c % 10 := hRP.2.2.2.1
  obtain ⟨e0, e1, e2, e3, e4, e5, e6, e7, e8, e9, e10, e11, e12, e13, e14, e15, e19, e20, e21, e22, e25, e26, e27, e28, e29, e30, e31, e32, e33⟩ := id hSg
  have f0 : σ 0 = .int (iZ (n0 : Int)) := by rw [← z0]; exact e0
  have f1 : σ 1 = .ref (A 31) := e1
  have f2 : σ 2 = .int (iZ (Z 1)) := e2
  have f3 : σ 3 = .int (iZ (Z 2)) := e3
  have f4 : σ 4 = .int (iZ (n : Int)) := by rw [← z9]; exact e4
  have f5 : σ 5 = .ref (A 32) := e5
  have f6 : σ 6 = .ref (A 33) := e6
  have f7 : σ 7 = .ref (A 34) := e7
  have f8 : σ 8 = .ref (A 35) := e8
  have f9 : σ 9 = .int (iZ (c : Int)) := by rw [← z21]; exact e9
  have f10 : σ 10 = .int (iZ (ct : Int)) := by rw [← z11]; exact e10
  have f11 : σ 11 = .ref (A 36) := e11
  have f12 : σ 12 = .ref (A 37) := e12
  have f13 : σ 13 = .ref (A 38) := e13
  have f14 : σ 14 = .ref (A 39) := e14
  have f15 : σ 15 = .ref (A 40) := e15
  have f19 : σ 19 = .ref (A 41) := e19
  have f20 : σ 20 = .ref (A 42) := e20
  have f21 : σ 21 = .ref (A 43) := e21
  have f22 : σ 22 = .ref (A 44) := e22
  have f25 : σ 25 = .int (iZ (nu : Int)) := by rw [← z8]; exact e25
  have f26 : σ 26 = .ref (A 45) := e26
  have f27 : σ 27 = .int (iZ (Z 4)) := e27
  have f28 : σ 28 = .int (iZ (Z 5)) := e28
  have f29 : σ 29 = .int (iZ (Z 6)) := e29
  have f30 : σ 30 = .int (iZ (Z 7)) := e30
  have f31 : σ 31 = .ref (A 46) := e31
  have f32 : σ 32 = .ref (A 47) := e32
  have f33 : σ 33 = .ref (A 48) := e33
  have c0 : h (A 0) = some (.inr (0, [.ref (A 1), .ref (A 3), .ref (A 4), .ref (A 6), .ref (A 11), .ref (A 13), .ref (A 20), .ref (A 21), .ref (A 22)])) := hW 0 (by decide)
  have c1 : h (A 1) = some (.inr (1, [.ref (A 2), .int (iZ (n0 : Int))])) := by rw [← z0]; exact hW 1 (by decide)
  have c2 : h (A 2) = some (.inl (G_i G, 1000, .inl (iA (V 2)))) := hW 2 (by decide)
  have c3 : h (A 3) = some (.inr (5, [.int (iZ (Z 1)), .int (iZ (Z 2)), .long (lZ (Z 3))])) := hW 3 (by decide)
  have c4 : h (A 4) = some (.inr (10, [.int (iZ (Z 4)), .int (iZ (Z 5)), .int (iZ (Z 6)), .int (iZ (Z 7)), .ref (A 5), .int (iZ (nu : Int))])) := by rw [← z8]; exact hW 4 (by decide)
  have c5 : h (A 5) = some (.inl (G_i G, 20, .inl (iA (V 5)))) := hW 5 (by decide)
  have c6 : h (A 6) = some (.inr (2, [.ref (A 7), .ref (A 8), .ref (A 9), .ref (A 10), .int (iZ (n : Int))])) := by rw [← z9]; exact hW 6 (by decide)
  have c7 : h (A 7) = some (.inl (G_j G, 16, .inr (.inl (lA (V 7))))) := hW 7 (by decide)
  have c8 : h (A 8) = some (.inl (G_j G, 16, .inr (.inl (lA (V 8))))) := hW 8 (by decide)
  have c9 : h (A 9) = some (.inl (G_i G, 16, .inl (iA (V 9)))) := hW 9 (by decide)
  have c10 : h (A 10) = some (.inl (G_i G, 1024, .inl (iA (V 10)))) := hW 10 (by decide)
  have c11 : h (A 11) = some (.inr (7, [.ref (A 12), .int (iZ ((c % 10 : Nat) : Int)), .int (iZ (ct : Int))])) := by rw [← z10, ← z11]; exact hW 11 (by decide)
  have c12 : h (A 12) = some (.inl (G_q G, 10, .inr (.inr (.inr (.inr Kp))))) := hW 12 (by decide)
  have c13 : h (A 13) = some (.inr (3, [.ref (A 1), .ref (A 3), .ref (A 14), .ref (A 19), .int (iZ (Z 12)), .int (iZ (Z 13)), .int (iZ (Z 14)), .long (lZ (Z 15)), .long (lZ (Z 16)), .long (lZ (Z 17))])) := hW 13 (by decide)
  have c14 : h (A 14) = some (.inr (2, [.ref (A 15), .ref (A 16), .ref (A 17), .ref (A 18), .int (iZ (Z 18))])) := hW 14 (by decide)
  have c15 : h (A 15) = some (.inl (G_j G, 16, .inr (.inl (lA (V 15))))) := hW 15 (by decide)
  have c16 : h (A 16) = some (.inl (G_j G, 16, .inr (.inl (lA (V 16))))) := hW 16 (by decide)
  have c17 : h (A 17) = some (.inl (G_i G, 16, .inl (iA (V 17)))) := hW 17 (by decide)
  have c18 : h (A 18) = some (.inl (G_i G, 1024, .inl (iA (V 18)))) := hW 18 (by decide)
  have c19 : h (A 19) = some (.inl (G_i G, 64, .inl (iA (V 19)))) := hW 19 (by decide)
  have c20 : h (A 20) = some (.inr (4, [.ref (A 1), .ref (A 3), .ref (A 6)])) := hW 20 (by decide)
  have c21 : h (A 21) = some (.inr (6, [.ref (A 6), .int (iZ (Z 19)), .int (iZ (Z 20))])) := hW 21 (by decide)
  have c22 : h (A 22) = some (.inr (9, [.ref (A 6), .ref (A 3), .ref (A 4), .ref (A 23), .ref (A 24), .ref (A 25), .ref (A 26), .ref (A 27), .ref (A 28), .ref (A 29)])) := hW 22 (by decide)
  have c23 : h (A 23) = some (.inl (G_i G, 16, .inl (iA (V 23)))) := hW 23 (by decide)
  have c24 : h (A 24) = some (.inl (G_i G, 16, .inl (iA (V 24)))) := hW 24 (by decide)
  have c25 : h (A 25) = some (.inl (G_i G, 16, .inl (iA (V 25)))) := hW 25 (by decide)
  have c26 : h (A 26) = some (.inl (G_i G, 97, .inl (iA (V 26)))) := hW 26 (by decide)
  have c27 : h (A 27) = some (.inl (G_i G, 400, .inl (iA (V 27)))) := hW 27 (by decide)
  have c28 : h (A 28) = some (.inl (G_i G, 400, .inl (iA (V 28)))) := hW 28 (by decide)
  have c29 : h (A 29) = some (.inl (G_i G, 400, .inl (iA (V 29)))) := hW 29 (by decide)
  have c30 : h (A 30) = some (.inr (11, fsN 34 σ)) := hW 30 (by decide)
  have c31 : h (A 31) = some (.inl (G_i G, 1000, .inl (iA (V 31)))) := hW 31 (by decide)
  have c32 : h (A 32) = some (.inl (G_j G, 16, .inr (.inl (lA (V 32))))) := hW 32 (by decide)
  have c33 : h (A 33) = some (.inl (G_j G, 16, .inr (.inl (lA (V 33))))) := hW 33 (by decide)
  have c34 : h (A 34) = some (.inl (G_i G, 16, .inl (iA (V 34)))) := hW 34 (by decide)
  have c35 : h (A 35) = some (.inl (G_i G, 1024, .inl (iA (V 35)))) := hW 35 (by decide)
  have c36 : h (A 36) = some (.inl (G_i G, 10, .inl (iA (V 36)))) := hW 36 (by decide)
  have c37 : h (A 37) = some (.inl (G_j G, 160, .inr (.inl (lA (V 37))))) := hW 37 (by decide)
  have c38 : h (A 38) = some (.inl (G_j G, 160, .inr (.inl (lA (V 38))))) := hW 38 (by decide)
  have c39 : h (A 39) = some (.inl (G_i G, 160, .inl (iA (V 39)))) := hW 39 (by decide)
  have c40 : h (A 40) = some (.inl (G_i G, 10240, .inl (iA (V 40)))) := hW 40 (by decide)
  have c41 : h (A 41) = some (.inl (G_j G, 16, .inr (.inl (lA (V 41))))) := hW 41 (by decide)
  have c42 : h (A 42) = some (.inl (G_j G, 16, .inr (.inl (lA (V 42))))) := hW 42 (by decide)
  have c43 : h (A 43) = some (.inl (G_i G, 16, .inl (iA (V 43)))) := hW 43 (by decide)
  have c44 : h (A 44) = some (.inl (G_i G, 1024, .inl (iA (V 44)))) := hW 44 (by decide)
  have c45 : h (A 45) = some (.inl (G_i G, 20, .inl (iA (V 45)))) := hW 45 (by decide)
  have c46 : h (A 46) = some (.inl (G_i G, 194, .inl (iA (V 46)))) := hW 46 (by decide)
  have c47 : h (A 47) = some (.inl (G_i G, 3104, .inl (iA (V 47)))) := hW 47 (by decide)
  have c48 : h (A 48) = some (.inl (G_i G, 65, .inl (iA (V 48)))) := hW 48 (by decide)
  obtain ⟨b1, b2, b3, b4, b5, b6, b7, b8, b9, b10, b11⟩ := id hRB
  obtain ⟨u1, u2, u3, u4, u5, u6, u7, u8⟩ := id b8
  obtain ⟨r1, r2, r3, r4, r5⟩ := id hRC
  obtain ⟨t1, t2, t3, t4, t5, t6, t7, t8, t9, t10, t11, t12⟩ := id hRS
  obtain ⟨p1, p2, p3, p4, p5⟩ := id hRP
  have hc1 : c ≤ 1000 := by omega
  have hct := hPa.2.1
  have hct2 : ct ≤ 10 := hPa.2.1
  refine ⟨⟨_, c0⟩, (rm 1 22), ⟨by decide, by decide, by decide, by decide⟩, rn_mono (c_CB_put G h (A 0) (A 1) (A 3) (A 4) (A 6) (A 11) (A 13) (A 20) (A 21) (A 22) (A 2) (V 2) n0 a0 a1 c0 c1 c2 b1 q1) (fun r h1 q => ?_)⟩
  by_cases w1 : a1 < 1 ∨ 8 < a1
  · obtain ⟨rfl, hx9⟩ := q.1 w1
    have hW1 : WC A (EE G A V Z Kp σ) h1 := by rw [hx9]; exact hW
    have hPa1 : PaW G h1 (A 48) (A 11) (A 12) (c % 10) ct Kp Ke C := by rw [hx9]; exact hPa
    have g30 : h1 (A 30) = some (.inr (11, fsN 34 σ)) := hW1 30 (by decide)
    have g31 : h1 (A 31) = some (.inl (G_i G, 1000, .inl (iA (V 31)))) := hW1 31 (by decide)
    have g32 : h1 (A 32) = some (.inl (G_j G, 16, .inr (.inl (lA (V 32))))) := hW1 32 (by decide)
    have g33 : h1 (A 33) = some (.inl (G_j G, 16, .inr (.inl (lA (V 33))))) := hW1 33 (by decide)
    have g34 : h1 (A 34) = some (.inl (G_i G, 16, .inl (iA (V 34)))) := hW1 34 (by decide)
    have g35 : h1 (A 35) = some (.inl (G_i G, 1024, .inl (iA (V 35)))) := hW1 35 (by decide)
    have g36 : h1 (A 36) = some (.inl (G_i G, 10, .inl (iA (V 36)))) := hW1 36 (by decide)
    have g37 : h1 (A 37) = some (.inl (G_j G, 160, .inr (.inl (lA (V 37))))) := hW1 37 (by decide)
    have g38 : h1 (A 38) = some (.inl (G_j G, 160, .inr (.inl (lA (V 38))))) := hW1 38 (by decide)
    have g39 : h1 (A 39) = some (.inl (G_i G, 160, .inl (iA (V 39)))) := hW1 39 (by decide)
    have g40 : h1 (A 40) = some (.inl (G_i G, 10240, .inl (iA (V 40)))) := hW1 40 (by decide)
    have g41 : h1 (A 41) = some (.inl (G_j G, 16, .inr (.inl (lA (V 41))))) := hW1 41 (by decide)
    have g42 : h1 (A 42) = some (.inl (G_j G, 16, .inr (.inl (lA (V 42))))) := hW1 42 (by decide)
    have g43 : h1 (A 43) = some (.inl (G_i G, 16, .inl (iA (V 43)))) := hW1 43 (by decide)
    have g44 : h1 (A 44) = some (.inl (G_i G, 1024, .inl (iA (V 44)))) := hW1 44 (by decide)
    have g45 : h1 (A 45) = some (.inl (G_i G, 20, .inl (iA (V 45)))) := hW1 45 (by decide)
    have g46 : h1 (A 46) = some (.inl (G_i G, 194, .inl (iA (V 46)))) := hW1 46 (by decide)
    have g47 : h1 (A 47) = some (.inl (G_i G, 3104, .inl (iA (V 47)))) := hW1 47 (by decide)
    have g48 : h1 (A 48) = some (.inl (G_i G, 65, .inl (iA (V 48)))) := hW1 48 (by decide)
    refine ⟨-2, by decide, rfl, ⟨_, g30⟩, (rm 0 0), ⟨by decide, by decide, by decide, by decide⟩, rn_mono (c_Mo_put G h1 σ (A 30) (A 31) (V 31) n0 a0 a1 g30 f0 f1 g31 b1 q1) (fun r2 h2 q2 => ?_)⟩
    obtain ⟨rfl, hx8⟩ := q2.1 w1
    rw [hx8]
    exact ⟨rfl, hM, V, Z, Kp, Ke, C, σ, n0, nu, n, (c % 10), ct, c, hW1, hSg, hPa1, ⟨z0, z8, z9, z10, z11, z21⟩, hRB, hRC, hRS, hRP, by omega⟩
  · by_cases w2 : 1000 < (n0 : Int) + a1
    · obtain ⟨rfl, hx9⟩ := q.2.1 (by omega) (by omega) w2
      have hW1 : WC A (EE G A V Z Kp σ) h1 := by rw [hx9]; exact hW
      have hPa1 : PaW G h1 (A 48) (A 11) (A 12) (c % 10) ct Kp Ke C := by rw [hx9]; exact hPa
      have g30 : h1 (A 30) = some (.inr (11, fsN 34 σ)) := hW1 30 (by decide)
      have g31 : h1 (A 31) = some (.inl (G_i G, 1000, .inl (iA (V 31)))) := hW1 31 (by decide)
      have g32 : h1 (A 32) = some (.inl (G_j G, 16, .inr (.inl (lA (V 32))))) := hW1 32 (by decide)
      have g33 : h1 (A 33) = some (.inl (G_j G, 16, .inr (.inl (lA (V 33))))) := hW1 33 (by decide)
      have g34 : h1 (A 34) = some (.inl (G_i G, 16, .inl (iA (V 34)))) := hW1 34 (by decide)
      have g35 : h1 (A 35) = some (.inl (G_i G, 1024, .inl (iA (V 35)))) := hW1 35 (by decide)
      have g36 : h1 (A 36) = some (.inl (G_i G, 10, .inl (iA (V 36)))) := hW1 36 (by decide)
      have g37 : h1 (A 37) = some (.inl (G_j G, 160, .inr (.inl (lA (V 37))))) := hW1 37 (by decide)
      have g38 : h1 (A 38) = some (.inl (G_j G, 160, .inr (.inl (lA (V 38))))) := hW1 38 (by decide)
      have g39 : h1 (A 39) = some (.inl (G_i G, 160, .inl (iA (V 39)))) := hW1 39 (by decide)
      have g40 : h1 (A 40) = some (.inl (G_i G, 10240, .inl (iA (V 40)))) := hW1 40 (by decide)
      have g41 : h1 (A 41) = some (.inl (G_j G, 16, .inr (.inl (lA (V 41))))) := hW1 41 (by decide)
      have g42 : h1 (A 42) = some (.inl (G_j G, 16, .inr (.inl (lA (V 42))))) := hW1 42 (by decide)
      have g43 : h1 (A 43) = some (.inl (G_i G, 16, .inl (iA (V 43)))) := hW1 43 (by decide)
      have g44 : h1 (A 44) = some (.inl (G_i G, 1024, .inl (iA (V 44)))) := hW1 44 (by decide)
      have g45 : h1 (A 45) = some (.inl (G_i G, 20, .inl (iA (V 45)))) := hW1 45 (by decide)
      have g46 : h1 (A 46) = some (.inl (G_i G, 194, .inl (iA (V 46)))) := hW1 46 (by decide)
      have g47 : h1 (A 47) = some (.inl (G_i G, 3104, .inl (iA (V 47)))) := hW1 47 (by decide)
      have g48 : h1 (A 48) = some (.inl (G_i G, 65, .inl (iA (V 48)))) := hW1 48 (by decide)
      refine ⟨-3, by decide, rfl, ⟨_, g30⟩, (rm 0 0), ⟨by decide, by decide, by decide, by decide⟩, rn_mono (c_Mo_put G h1 σ (A 30) (A 31) (V 31) n0 a0 a1 g30 f0 f1 g31 b1 q1) (fun r2 h2 q2 => ?_)⟩
      obtain ⟨rfl, hx8⟩ := q2.2.1 (by omega) (by omega) w2
      rw [hx8]
      exact ⟨rfl, hM, V, Z, Kp, Ke, C, σ, n0, nu, n, (c % 10), ct, c, hW1, hSg, hPa1, ⟨z0, z8, z9, z10, z11, z21⟩, hRB, hRC, hRS, hRP, by omega⟩
    · obtain ⟨rfl, k1, k2, fm⟩ := q.2.2 (by omega) (by omega) (by omega)
      obtain ⟨mm, rfl⟩ : ∃ mm : Nat, a1 = (mm : Int) := ⟨a1.toNat, by omega⟩
      have hW1 : WC A (EE G A (vu V 2 (putF (V 2) n0 a0 (mm : Int).toNat)) (zup Z 0 ((n0 : Int) + (mm : Int))) Kp σ) h1 := hW.up (S := [1, 2]) (kFm hM fm (by decide)) ⟨k1, k2, trivial⟩ (c49 (fun _ => rfl) (fun n9 => absurd (by decide) n9) (fun n9 => absurd (by decide) n9) (fun _ => rfl) (fun _ => rfl) (fun _ => rfl) (fun _ => rfl) (fun _ => rfl) (fun _ => rfl) (fun _ => rfl) (fun _ => rfl) (fun _ => rfl) (fun _ => rfl) (fun _ => rfl) (fun _ => rfl) (fun _ => rfl) (fun _ => rfl) (fun _ => rfl) (fun _ => rfl) (fun _ => rfl) (fun _ => rfl) (fun _ => rfl) (fun _ => rfl) (fun _ => rfl) (fun _ => rfl) (fun _ => rfl) (fun _ => rfl) (fun _ => rfl) (fun _ => rfl) (fun _ => rfl) (fun _ => rfl) (fun _ => rfl) (fun _ => rfl) (fun _ => rfl) (fun _ => rfl) (fun _ => rfl) (fun _ => rfl) (fun _ => rfl) (fun _ => rfl) (fun _ => rfl) (fun _ => rfl) (fun _ => rfl) (fun _ => rfl) (fun _ => rfl) (fun _ => rfl) (fun _ => rfl) (fun _ => rfl) (fun _ => rfl) (fun _ => rfl))
      have g30 : h1 (A 30) = some (.inr (11, fsN 34 σ)) := hW1 30 (by decide)
      have g31 : h1 (A 31) = some (.inl (G_i G, 1000, .inl (iA (V 31)))) := hW1 31 (by decide)
      have g32 : h1 (A 32) = some (.inl (G_j G, 16, .inr (.inl (lA (V 32))))) := hW1 32 (by decide)
      have g33 : h1 (A 33) = some (.inl (G_j G, 16, .inr (.inl (lA (V 33))))) := hW1 33 (by decide)
      have g34 : h1 (A 34) = some (.inl (G_i G, 16, .inl (iA (V 34)))) := hW1 34 (by decide)
      have g35 : h1 (A 35) = some (.inl (G_i G, 1024, .inl (iA (V 35)))) := hW1 35 (by decide)
      have g36 : h1 (A 36) = some (.inl (G_i G, 10, .inl (iA (V 36)))) := hW1 36 (by decide)
      have g37 : h1 (A 37) = some (.inl (G_j G, 160, .inr (.inl (lA (V 37))))) := hW1 37 (by decide)
      have g38 : h1 (A 38) = some (.inl (G_j G, 160, .inr (.inl (lA (V 38))))) := hW1 38 (by decide)
      have g39 : h1 (A 39) = some (.inl (G_i G, 160, .inl (iA (V 39)))) := hW1 39 (by decide)
      have g40 : h1 (A 40) = some (.inl (G_i G, 10240, .inl (iA (V 40)))) := hW1 40 (by decide)
      have g41 : h1 (A 41) = some (.inl (G_j G, 16, .inr (.inl (lA (V 41))))) := hW1 41 (by decide)
      have g42 : h1 (A 42) = some (.inl (G_j G, 16, .inr (.inl (lA (V 42))))) := hW1 42 (by decide)
      have g43 : h1 (A 43) = some (.inl (G_i G, 16, .inl (iA (V 43)))) := hW1 43 (by decide)
      have g44 : h1 (A 44) = some (.inl (G_i G, 1024, .inl (iA (V 44)))) := hW1 44 (by decide)
      have g45 : h1 (A 45) = some (.inl (G_i G, 20, .inl (iA (V 45)))) := hW1 45 (by decide)
      have g46 : h1 (A 46) = some (.inl (G_i G, 194, .inl (iA (V 46)))) := hW1 46 (by decide)
      have g47 : h1 (A 47) = some (.inl (G_i G, 3104, .inl (iA (V 47)))) := hW1 47 (by decide)
      have g48 : h1 (A 48) = some (.inl (G_i G, 65, .inl (iA (V 48)))) := hW1 48 (by decide)
      have hPa1 := pFm (S := [1, 2]) hM hPa fm (by decide)
      refine ⟨(n0 : Int) + (mm : Int), by omega, rfl, ⟨_, g30⟩, (rm 0 0), ⟨by decide, by decide, by decide, by decide⟩, rn_mono (c_Mo_put G h1 σ (A 30) (A 31) (V 31) n0 a0 (mm : Int) g30 f0 f1 g31 b1 q1) (fun r2 h2 q2 => ?_)⟩
      obtain ⟨rfl, ⟨σ2, gm, m0, gs⟩, gb, fm2⟩ := q2.2.2 (by omega) (by omega) (by omega)
      have hW2 : WC A (EE G A (vu (vu V 2 (putF (V 2) n0 a0 (mm : Int).toNat)) 31 (putF (V 31) n0 a0 (mm : Int).toNat)) (zup Z 0 ((n0 : Int) + (mm : Int))) Kp σ2) h2 := hW1.up (S := [30, 31]) (kFm hM fm2 (by decide)) ⟨gm, gb, trivial⟩ (c49 (fun _ => rfl) (fun _ => rfl) (fun _ => rfl) (fun _ => rfl) (fun _ => rfl) (fun _ => rfl) (fun _ => rfl) (fun _ => rfl) (fun _ => rfl) (fun _ => rfl) (fun _ => rfl) (fun _ => rfl) (fun _ => rfl) (fun _ => rfl) (fun _ => rfl) (fun _ => rfl) (fun _ => rfl) (fun _ => rfl) (fun _ => rfl) (fun _ => rfl) (fun _ => rfl) (fun _ => rfl) (fun _ => rfl) (fun _ => rfl) (fun _ => rfl) (fun _ => rfl) (fun _ => rfl) (fun _ => rfl) (fun _ => rfl) (fun _ => rfl) (fun n9 => absurd (by decide) n9) (fun n9 => absurd (by decide) n9) (fun _ => rfl) (fun _ => rfl) (fun _ => rfl) (fun _ => rfl) (fun _ => rfl) (fun _ => rfl) (fun _ => rfl) (fun _ => rfl) (fun _ => rfl) (fun _ => rfl) (fun _ => rfl) (fun _ => rfl) (fun _ => rfl) (fun _ => rfl) (fun _ => rfl) (fun _ => rfl) (fun _ => rfl))
      exact ⟨rfl, hM, (vu (vu V 2 (putF (V 2) n0 a0 (mm : Int).toNat)) 31 (putF (V 31) n0 a0 (mm : Int).toNat)), (zup Z 0 ((n0 : Int) + (mm : Int))), Kp, Ke, C, σ2, n0 + mm, nu, n, (c % 10), ct, c, hW2, ⟨m0, (gs 1 (by decide)).trans e1, (gs 2 (by decide)).trans e2, (gs 3 (by decide)).trans e3, (gs 4 (by decide)).trans e4, (gs 5 (by decide)).trans e5, (gs 6 (by decide)).trans e6, (gs 7 (by decide)).trans e7, (gs 8 (by decide)).trans e8, (gs 9 (by decide)).trans e9, (gs 10 (by decide)).trans e10, (gs 11 (by decide)).trans e11, (gs 12 (by decide)).trans e12, (gs 13 (by decide)).trans e13, (gs 14 (by decide)).trans e14, (gs 15 (by decide)).trans e15, (gs 19 (by decide)).trans e19, (gs 20 (by decide)).trans e20, (gs 21 (by decide)).trans e21, (gs 22 (by decide)).trans e22, (gs 25 (by decide)).trans e25, (gs 26 (by decide)).trans e26, (gs 27 (by decide)).trans e27, (gs 28 (by decide)).trans e28, (gs 29 (by decide)).trans e29, (gs 30 (by decide)).trans e30, (gs 31 (by decide)).trans e31, (gs 32 (by decide)).trans e32, (gs 33 (by decide)).trans e33⟩, pFm (S := [30, 31]) hM hPa1 fm2 (by decide), ⟨by show (n0 : Int) + (mm : Int) = ((n0 + mm : Nat) : Int); omega, z8, z9, z10, z11, z21⟩, ⟨by omega, by show putF (V 31) n0 a0 (mm : Int).toNat = putF (V 2) n0 a0 (mm : Int).toNat; rw [b2], putF_r b3 _, b4, b5, b6, b7, b8, b9, b10, b11⟩, hRC, hRS, hRP, by omega⟩
set_option maxHeartbeats 4000000 in
set_option maxRecDepth 100000 in
theorem duo_wipe (G : GT) (A : Nat → Nat) (i : Nat) (h : HM) (hI : Inv G A i h) (hi : i ≤ 511) : Duo G (A 0) (A 30) M_CB_wipe M_Mo_wipe [] mI iR h (Inv G A (i + 1)) := by
  obtain ⟨hM, V, Z, Kp, Ke, C, σ, n0, nu, n, nx, ct, c, hW, hSg, hPa, ⟨z0, z8, z9, z10, z11, z21⟩, hRB, hRC, hRS, hRP, hci⟩ := hI
  obtain rfl : nx = c % 10 := hRP.2.2.2.1
  obtain ⟨e0, e1, e2, e3, e4, e5, e6, e7, e8, e9, e10, e11, e12, e13, e14, e15, e19, e20, e21, e22, e25, e26, e27, e28, e29, e30, e31, e32, e33⟩ := id hSg
  have f0 : σ 0 = .int (iZ (n0 : Int)) := by rw [← z0]; exact e0
  have f1 : σ 1 = .ref (A 31) := e1
  have f2 : σ 2 = .int (iZ (Z 1)) := e2
  have f3 : σ 3 = .int (iZ (Z 2)) := e3
  have f4 : σ 4 = .int (iZ (n : Int)) := by rw [← z9]; exact e4
  have f5 : σ 5 = .ref (A 32) := e5
  have f6 : σ 6 = .ref (A 33) := e6
  have f7 : σ 7 = .ref (A 34) := e7
  have f8 : σ 8 = .ref (A 35) := e8
  have f9 : σ 9 = .int (iZ (c : Int)) := by rw [← z21]; exact e9
  have f10 : σ 10 = .int (iZ (ct : Int)) := by rw [← z11]; exact e10
  have f11 : σ 11 = .ref (A 36) := e11
  have f12 : σ 12 = .ref (A 37) := e12
  have f13 : σ 13 = .ref (A 38) := e13
  have f14 : σ 14 = .ref (A 39) := e14
  have f15 : σ 15 = .ref (A 40) := e15
  have f19 : σ 19 = .ref (A 41) := e19
  have f20 : σ 20 = .ref (A 42) := e20
  have f21 : σ 21 = .ref (A 43) := e21
  have f22 : σ 22 = .ref (A 44) := e22
  have f25 : σ 25 = .int (iZ (nu : Int)) := by rw [← z8]; exact e25
  have f26 : σ 26 = .ref (A 45) := e26
  have f27 : σ 27 = .int (iZ (Z 4)) := e27
  have f28 : σ 28 = .int (iZ (Z 5)) := e28
  have f29 : σ 29 = .int (iZ (Z 6)) := e29
  have f30 : σ 30 = .int (iZ (Z 7)) := e30
  have f31 : σ 31 = .ref (A 46) := e31
  have f32 : σ 32 = .ref (A 47) := e32
  have f33 : σ 33 = .ref (A 48) := e33
  have c0 : h (A 0) = some (.inr (0, [.ref (A 1), .ref (A 3), .ref (A 4), .ref (A 6), .ref (A 11), .ref (A 13), .ref (A 20), .ref (A 21), .ref (A 22)])) := hW 0 (by decide)
  have c1 : h (A 1) = some (.inr (1, [.ref (A 2), .int (iZ (n0 : Int))])) := by rw [← z0]; exact hW 1 (by decide)
  have c2 : h (A 2) = some (.inl (G_i G, 1000, .inl (iA (V 2)))) := hW 2 (by decide)
  have c3 : h (A 3) = some (.inr (5, [.int (iZ (Z 1)), .int (iZ (Z 2)), .long (lZ (Z 3))])) := hW 3 (by decide)
  have c4 : h (A 4) = some (.inr (10, [.int (iZ (Z 4)), .int (iZ (Z 5)), .int (iZ (Z 6)), .int (iZ (Z 7)), .ref (A 5), .int (iZ (nu : Int))])) := by rw [← z8]; exact hW 4 (by decide)
  have c5 : h (A 5) = some (.inl (G_i G, 20, .inl (iA (V 5)))) := hW 5 (by decide)
  have c6 : h (A 6) = some (.inr (2, [.ref (A 7), .ref (A 8), .ref (A 9), .ref (A 10), .int (iZ (n : Int))])) := by rw [← z9]; exact hW 6 (by decide)
  have c7 : h (A 7) = some (.inl (G_j G, 16, .inr (.inl (lA (V 7))))) := hW 7 (by decide)
  have c8 : h (A 8) = some (.inl (G_j G, 16, .inr (.inl (lA (V 8))))) := hW 8 (by decide)
  have c9 : h (A 9) = some (.inl (G_i G, 16, .inl (iA (V 9)))) := hW 9 (by decide)
  have c10 : h (A 10) = some (.inl (G_i G, 1024, .inl (iA (V 10)))) := hW 10 (by decide)
  have c11 : h (A 11) = some (.inr (7, [.ref (A 12), .int (iZ ((c % 10 : Nat) : Int)), .int (iZ (ct : Int))])) := by rw [← z10, ← z11]; exact hW 11 (by decide)
  have c12 : h (A 12) = some (.inl (G_q G, 10, .inr (.inr (.inr (.inr Kp))))) := hW 12 (by decide)
  have c13 : h (A 13) = some (.inr (3, [.ref (A 1), .ref (A 3), .ref (A 14), .ref (A 19), .int (iZ (Z 12)), .int (iZ (Z 13)), .int (iZ (Z 14)), .long (lZ (Z 15)), .long (lZ (Z 16)), .long (lZ (Z 17))])) := hW 13 (by decide)
  have c14 : h (A 14) = some (.inr (2, [.ref (A 15), .ref (A 16), .ref (A 17), .ref (A 18), .int (iZ (Z 18))])) := hW 14 (by decide)
  have c15 : h (A 15) = some (.inl (G_j G, 16, .inr (.inl (lA (V 15))))) := hW 15 (by decide)
  have c16 : h (A 16) = some (.inl (G_j G, 16, .inr (.inl (lA (V 16))))) := hW 16 (by decide)
  have c17 : h (A 17) = some (.inl (G_i G, 16, .inl (iA (V 17)))) := hW 17 (by decide)
  have c18 : h (A 18) = some (.inl (G_i G, 1024, .inl (iA (V 18)))) := hW 18 (by decide)
  have c19 : h (A 19) = some (.inl (G_i G, 64, .inl (iA (V 19)))) := hW 19 (by decide)
  have c20 : h (A 20) = some (.inr (4, [.ref (A 1), .ref (A 3), .ref (A 6)])) := hW 20 (by decide)
  have c21 : h (A 21) = some (.inr (6, [.ref (A 6), .int (iZ (Z 19)), .int (iZ (Z 20))])) := hW 21 (by decide)
  have c22 : h (A 22) = some (.inr (9, [.ref (A 6), .ref (A 3), .ref (A 4), .ref (A 23), .ref (A 24), .ref (A 25), .ref (A 26), .ref (A 27), .ref (A 28), .ref (A 29)])) := hW 22 (by decide)
  have c23 : h (A 23) = some (.inl (G_i G, 16, .inl (iA (V 23)))) := hW 23 (by decide)
  have c24 : h (A 24) = some (.inl (G_i G, 16, .inl (iA (V 24)))) := hW 24 (by decide)
  have c25 : h (A 25) = some (.inl (G_i G, 16, .inl (iA (V 25)))) := hW 25 (by decide)
  have c26 : h (A 26) = some (.inl (G_i G, 97, .inl (iA (V 26)))) := hW 26 (by decide)
  have c27 : h (A 27) = some (.inl (G_i G, 400, .inl (iA (V 27)))) := hW 27 (by decide)
  have c28 : h (A 28) = some (.inl (G_i G, 400, .inl (iA (V 28)))) := hW 28 (by decide)
  have c29 : h (A 29) = some (.inl (G_i G, 400, .inl (iA (V 29)))) := hW 29 (by decide)
  have c30 : h (A 30) = some (.inr (11, fsN 34 σ)) := hW 30 (by decide)
  have c31 : h (A 31) = some (.inl (G_i G, 1000, .inl (iA (V 31)))) := hW 31 (by decide)
  have c32 : h (A 32) = some (.inl (G_j G, 16, .inr (.inl (lA (V 32))))) := hW 32 (by decide)
  have c33 : h (A 33) = some (.inl (G_j G, 16, .inr (.inl (lA (V 33))))) := hW 33 (by decide)
  have c34 : h (A 34) = some (.inl (G_i G, 16, .inl (iA (V 34)))) := hW 34 (by decide)
  have c35 : h (A 35) = some (.inl (G_i G, 1024, .inl (iA (V 35)))) := hW 35 (by decide)
  have c36 : h (A 36) = some (.inl (G_i G, 10, .inl (iA (V 36)))) := hW 36 (by decide)
  have c37 : h (A 37) = some (.inl (G_j G, 160, .inr (.inl (lA (V 37))))) := hW 37 (by decide)
  have c38 : h (A 38) = some (.inl (G_j G, 160, .inr (.inl (lA (V 38))))) := hW 38 (by decide)
  have c39 : h (A 39) = some (.inl (G_i G, 160, .inl (iA (V 39)))) := hW 39 (by decide)
  have c40 : h (A 40) = some (.inl (G_i G, 10240, .inl (iA (V 40)))) := hW 40 (by decide)
  have c41 : h (A 41) = some (.inl (G_j G, 16, .inr (.inl (lA (V 41))))) := hW 41 (by decide)
  have c42 : h (A 42) = some (.inl (G_j G, 16, .inr (.inl (lA (V 42))))) := hW 42 (by decide)
  have c43 : h (A 43) = some (.inl (G_i G, 16, .inl (iA (V 43)))) := hW 43 (by decide)
  have c44 : h (A 44) = some (.inl (G_i G, 1024, .inl (iA (V 44)))) := hW 44 (by decide)
  have c45 : h (A 45) = some (.inl (G_i G, 20, .inl (iA (V 45)))) := hW 45 (by decide)
  have c46 : h (A 46) = some (.inl (G_i G, 194, .inl (iA (V 46)))) := hW 46 (by decide)
  have c47 : h (A 47) = some (.inl (G_i G, 3104, .inl (iA (V 47)))) := hW 47 (by decide)
  have c48 : h (A 48) = some (.inl (G_i G, 65, .inl (iA (V 48)))) := hW 48 (by decide)
  obtain ⟨b1, b2, b3, b4, b5, b6, b7, b8, b9, b10, b11⟩ := id hRB
  obtain ⟨u1, u2, u3, u4, u5, u6, u7, u8⟩ := id b8
  obtain ⟨r1, r2, r3, r4, r5⟩ := id hRC
  obtain ⟨t1, t2, t3, t4, t5, t6, t7, t8, t9, t10, t11, t12⟩ := id hRS
  obtain ⟨p1, p2, p3, p4, p5⟩ := id hRP
  have hc1 : c ≤ 1000 := by omega
  have hct := hPa.2.1
  have hct2 : ct ≤ 10 := hPa.2.1
  refine ⟨⟨_, c0⟩, (rm 0 0), ⟨by decide, by decide, by decide, by decide⟩, rn_mono (c_CB_wipe G h (A 0) (A 1) (A 3) (A 4) (A 6) (A 11) (A 13) (A 20) (A 21) (A 22) (A 2) (n0 : Int) c0 c1) (fun r h1 q => ?_)⟩
  obtain ⟨rfl, k1, fm⟩ := q
  have hW1 : WC A (EE G A V (zup Z 0 (0)) Kp σ) h1 := hW.up (S := [1]) (kFm hM fm (by decide)) ⟨k1, trivial⟩ (c49 (fun _ => rfl) (fun n9 => absurd (by decide) n9) (fun _ => rfl) (fun _ => rfl) (fun _ => rfl) (fun _ => rfl) (fun _ => rfl) (fun _ => rfl) (fun _ => rfl) (fun _ => rfl) (fun _ => rfl) (fun _ => rfl) (fun _ => rfl) (fun _ => rfl) (fun _ => rfl) (fun _ => rfl) (fun _ => rfl) (fun _ => rfl) (fun _ => rfl) (fun _ => rfl) (fun _ => rfl) (fun _ => rfl) (fun _ => rfl) (fun _ => rfl) (fun _ => rfl) (fun _ => rfl) (fun _ => rfl) (fun _ => rfl) (fun _ => rfl) (fun _ => rfl) (fun _ => rfl) (fun _ => rfl) (fun _ => rfl) (fun _ => rfl) (fun _ => rfl) (fun _ => rfl) (fun _ => rfl) (fun _ => rfl) (fun _ => rfl) (fun _ => rfl) (fun _ => rfl) (fun _ => rfl) (fun _ => rfl) (fun _ => rfl) (fun _ => rfl) (fun _ => rfl) (fun _ => rfl) (fun _ => rfl) (fun _ => rfl))
  have g30 : h1 (A 30) = some (.inr (11, fsN 34 σ)) := hW1 30 (by decide)
  have g31 : h1 (A 31) = some (.inl (G_i G, 1000, .inl (iA (V 31)))) := hW1 31 (by decide)
  have g32 : h1 (A 32) = some (.inl (G_j G, 16, .inr (.inl (lA (V 32))))) := hW1 32 (by decide)
  have g33 : h1 (A 33) = some (.inl (G_j G, 16, .inr (.inl (lA (V 33))))) := hW1 33 (by decide)
  have g34 : h1 (A 34) = some (.inl (G_i G, 16, .inl (iA (V 34)))) := hW1 34 (by decide)
  have g35 : h1 (A 35) = some (.inl (G_i G, 1024, .inl (iA (V 35)))) := hW1 35 (by decide)
  have g36 : h1 (A 36) = some (.inl (G_i G, 10, .inl (iA (V 36)))) := hW1 36 (by decide)
  have g37 : h1 (A 37) = some (.inl (G_j G, 160, .inr (.inl (lA (V 37))))) := hW1 37 (by decide)
  have g38 : h1 (A 38) = some (.inl (G_j G, 160, .inr (.inl (lA (V 38))))) := hW1 38 (by decide)
  have g39 : h1 (A 39) = some (.inl (G_i G, 160, .inl (iA (V 39)))) := hW1 39 (by decide)
  have g40 : h1 (A 40) = some (.inl (G_i G, 10240, .inl (iA (V 40)))) := hW1 40 (by decide)
  have g41 : h1 (A 41) = some (.inl (G_j G, 16, .inr (.inl (lA (V 41))))) := hW1 41 (by decide)
  have g42 : h1 (A 42) = some (.inl (G_j G, 16, .inr (.inl (lA (V 42))))) := hW1 42 (by decide)
  have g43 : h1 (A 43) = some (.inl (G_i G, 16, .inl (iA (V 43)))) := hW1 43 (by decide)
  have g44 : h1 (A 44) = some (.inl (G_i G, 1024, .inl (iA (V 44)))) := hW1 44 (by decide)
  have g45 : h1 (A 45) = some (.inl (G_i G, 20, .inl (iA (V 45)))) := hW1 45 (by decide)
  have g46 : h1 (A 46) = some (.inl (G_i G, 194, .inl (iA (V 46)))) := hW1 46 (by decide)
  have g47 : h1 (A 47) = some (.inl (G_i G, 3104, .inl (iA (V 47)))) := hW1 47 (by decide)
  have g48 : h1 (A 48) = some (.inl (G_i G, 65, .inl (iA (V 48)))) := hW1 48 (by decide)
  have hPa1 := pFm (S := [1]) hM hPa fm (by decide)
  refine ⟨(n0 : Int), by omega, rfl, ⟨_, g30⟩, (rm 0 0), ⟨by decide, by decide, by decide, by decide⟩, rn_mono (c_Mo_wipe G h1 σ (A 30) (n0 : Int) g30 f0) (fun r2 h2 q2 => ?_)⟩
  obtain ⟨rfl, ⟨σ2, gm, m0, gs⟩, fm2⟩ := q2
  have hW2 : WC A (EE G A V (zup Z 0 (0)) Kp σ2) h2 := hW1.up (S := [30]) (kFm hM fm2 (by decide)) ⟨gm, trivial⟩ (c49 (fun _ => rfl) (fun _ => rfl) (fun _ => rfl) (fun _ => rfl) (fun _ => rfl) (fun _ => rfl) (fun _ => rfl) (fun _ => rfl) (fun _ => rfl) (fun _ => rfl) (fun _ => rfl) (fun _ => rfl) (fun _ => rfl) (fun _ => rfl) (fun _ => rfl) (fun _ => rfl) (fun _ => rfl) (fun _ => rfl) (fun _ => rfl) (fun _ => rfl) (fun _ => rfl) (fun _ => rfl) (fun _ => rfl) (fun _ => rfl) (fun _ => rfl) (fun _ => rfl) (fun _ => rfl) (fun _ => rfl) (fun _ => rfl) (fun _ => rfl) (fun n9 => absurd (by decide) n9) (fun _ => rfl) (fun _ => rfl) (fun _ => rfl) (fun _ => rfl) (fun _ => rfl) (fun _ => rfl) (fun _ => rfl) (fun _ => rfl) (fun _ => rfl) (fun _ => rfl) (fun _ => rfl) (fun _ => rfl) (fun _ => rfl) (fun _ => rfl) (fun _ => rfl) (fun _ => rfl) (fun _ => rfl) (fun _ => rfl))
  exact ⟨rfl, hM, V, (zup Z 0 (0)), Kp, Ke, C, σ2, 0, nu, n, (c % 10), ct, c, hW2, ⟨m0, (gs 1 (by decide)).trans e1, (gs 2 (by decide)).trans e2, (gs 3 (by decide)).trans e3, (gs 4 (by decide)).trans e4, (gs 5 (by decide)).trans e5, (gs 6 (by decide)).trans e6, (gs 7 (by decide)).trans e7, (gs 8 (by decide)).trans e8, (gs 9 (by decide)).trans e9, (gs 10 (by decide)).trans e10, (gs 11 (by decide)).trans e11, (gs 12 (by decide)).trans e12, (gs 13 (by decide)).trans e13, (gs 14 (by decide)).trans e14, (gs 15 (by decide)).trans e15, (gs 19 (by decide)).trans e19, (gs 20 (by decide)).trans e20, (gs 21 (by decide)).trans e21, (gs 22 (by decide)).trans e22, (gs 25 (by decide)).trans e25, (gs 26 (by decide)).trans e26, (gs 27 (by decide)).trans e27, (gs 28 (by decide)).trans e28, (gs 29 (by decide)).trans e29, (gs 30 (by decide)).trans e30, (gs 31 (by decide)).trans e31, (gs 32 (by decide)).trans e32, (gs 33 (by decide)).trans e33⟩, pFm (S := [30]) hM hPa1 fm2 (by decide), ⟨rfl, z8, z9, z10, z11, z21⟩, ⟨by omega, b2, b3, b4, b5, b6, b7, b8, b9, b10, b11⟩, hRC, hRS, hRP, by omega⟩
set_option maxHeartbeats 4000000 in
set_option maxRecDepth 100000 in
theorem duo_rate (G : GT) (A : Nat → Nat) (i : Nat) (h : HM) (hI : Inv G A i h) (hi : i ≤ 511) : ∀ a0 a1 : Int, iR a0 → iR a1 → Duo G (A 0) (A 30) M_CB_rate M_Mo_rate [.int (iZ a0), .int (iZ a1)] mI iR h (Inv G A (i + 1)) := by
  intro a0 a1 q0 q1
  obtain ⟨hM, V, Z, Kp, Ke, C, σ, n0, nu, n, nx, ct, c, hW, hSg, hPa, ⟨z0, z8, z9, z10, z11, z21⟩, hRB, hRC, hRS, hRP, hci⟩ := hI
  obtain rfl : nx = c % 10 := hRP.2.2.2.1
  obtain ⟨e0, e1, e2, e3, e4, e5, e6, e7, e8, e9, e10, e11, e12, e13, e14, e15, e19, e20, e21, e22, e25, e26, e27, e28, e29, e30, e31, e32, e33⟩ := id hSg
  have f0 : σ 0 = .int (iZ (n0 : Int)) := by rw [← z0]; exact e0
  have f1 : σ 1 = .ref (A 31) := e1
  have f2 : σ 2 = .int (iZ (Z 1)) := e2
  have f3 : σ 3 = .int (iZ (Z 2)) := e3
  have f4 : σ 4 = .int (iZ (n : Int)) := by rw [← z9]; exact e4
  have f5 : σ 5 = .ref (A 32) := e5
  have f6 : σ 6 = .ref (A 33) := e6
  have f7 : σ 7 = .ref (A 34) := e7
  have f8 : σ 8 = .ref (A 35) := e8
  have f9 : σ 9 = .int (iZ (c : Int)) := by rw [← z21]; exact e9
  have f10 : σ 10 = .int (iZ (ct : Int)) := by rw [← z11]; exact e10
  have f11 : σ 11 = .ref (A 36) := e11
  have f12 : σ 12 = .ref (A 37) := e12
  have f13 : σ 13 = .ref (A 38) := e13
  have f14 : σ 14 = .ref (A 39) := e14
  have f15 : σ 15 = .ref (A 40) := e15
  have f19 : σ 19 = .ref (A 41) := e19
  have f20 : σ 20 = .ref (A 42) := e20
  have f21 : σ 21 = .ref (A 43) := e21
  have f22 : σ 22 = .ref (A 44) := e22
  have f25 : σ 25 = .int (iZ (nu : Int)) := by rw [← z8]; exact e25
  have f26 : σ 26 = .ref (A 45) := e26
  have f27 : σ 27 = .int (iZ (Z 4)) := e27
  have f28 : σ 28 = .int (iZ (Z 5)) := e28
  have f29 : σ 29 = .int (iZ (Z 6)) := e29
  have f30 : σ 30 = .int (iZ (Z 7)) := e30
  have f31 : σ 31 = .ref (A 46) := e31
  have f32 : σ 32 = .ref (A 47) := e32
  have f33 : σ 33 = .ref (A 48) := e33
  have c0 : h (A 0) = some (.inr (0, [.ref (A 1), .ref (A 3), .ref (A 4), .ref (A 6), .ref (A 11), .ref (A 13), .ref (A 20), .ref (A 21), .ref (A 22)])) := hW 0 (by decide)
  have c1 : h (A 1) = some (.inr (1, [.ref (A 2), .int (iZ (n0 : Int))])) := by rw [← z0]; exact hW 1 (by decide)
  have c2 : h (A 2) = some (.inl (G_i G, 1000, .inl (iA (V 2)))) := hW 2 (by decide)
  have c3 : h (A 3) = some (.inr (5, [.int (iZ (Z 1)), .int (iZ (Z 2)), .long (lZ (Z 3))])) := hW 3 (by decide)
  have c4 : h (A 4) = some (.inr (10, [.int (iZ (Z 4)), .int (iZ (Z 5)), .int (iZ (Z 6)), .int (iZ (Z 7)), .ref (A 5), .int (iZ (nu : Int))])) := by rw [← z8]; exact hW 4 (by decide)
  have c5 : h (A 5) = some (.inl (G_i G, 20, .inl (iA (V 5)))) := hW 5 (by decide)
  have c6 : h (A 6) = some (.inr (2, [.ref (A 7), .ref (A 8), .ref (A 9), .ref (A 10), .int (iZ (n : Int))])) := by rw [← z9]; exact hW 6 (by decide)
  have c7 : h (A 7) = some (.inl (G_j G, 16, .inr (.inl (lA (V 7))))) := hW 7 (by decide)
  have c8 : h (A 8) = some (.inl (G_j G, 16, .inr (.inl (lA (V 8))))) := hW 8 (by decide)
  have c9 : h (A 9) = some (.inl (G_i G, 16, .inl (iA (V 9)))) := hW 9 (by decide)
  have c10 : h (A 10) = some (.inl (G_i G, 1024, .inl (iA (V 10)))) := hW 10 (by decide)
  have c11 : h (A 11) = some (.inr (7, [.ref (A 12), .int (iZ ((c % 10 : Nat) : Int)), .int (iZ (ct : Int))])) := by rw [← z10, ← z11]; exact hW 11 (by decide)
  have c12 : h (A 12) = some (.inl (G_q G, 10, .inr (.inr (.inr (.inr Kp))))) := hW 12 (by decide)
  have c13 : h (A 13) = some (.inr (3, [.ref (A 1), .ref (A 3), .ref (A 14), .ref (A 19), .int (iZ (Z 12)), .int (iZ (Z 13)), .int (iZ (Z 14)), .long (lZ (Z 15)), .long (lZ (Z 16)), .long (lZ (Z 17))])) := hW 13 (by decide)
  have c14 : h (A 14) = some (.inr (2, [.ref (A 15), .ref (A 16), .ref (A 17), .ref (A 18), .int (iZ (Z 18))])) := hW 14 (by decide)
  have c15 : h (A 15) = some (.inl (G_j G, 16, .inr (.inl (lA (V 15))))) := hW 15 (by decide)
  have c16 : h (A 16) = some (.inl (G_j G, 16, .inr (.inl (lA (V 16))))) := hW 16 (by decide)
  have c17 : h (A 17) = some (.inl (G_i G, 16, .inl (iA (V 17)))) := hW 17 (by decide)
  have c18 : h (A 18) = some (.inl (G_i G, 1024, .inl (iA (V 18)))) := hW 18 (by decide)
  have c19 : h (A 19) = some (.inl (G_i G, 64, .inl (iA (V 19)))) := hW 19 (by decide)
  have c20 : h (A 20) = some (.inr (4, [.ref (A 1), .ref (A 3), .ref (A 6)])) := hW 20 (by decide)
  have c21 : h (A 21) = some (.inr (6, [.ref (A 6), .int (iZ (Z 19)), .int (iZ (Z 20))])) := hW 21 (by decide)
  have c22 : h (A 22) = some (.inr (9, [.ref (A 6), .ref (A 3), .ref (A 4), .ref (A 23), .ref (A 24), .ref (A 25), .ref (A 26), .ref (A 27), .ref (A 28), .ref (A 29)])) := hW 22 (by decide)
  have c23 : h (A 23) = some (.inl (G_i G, 16, .inl (iA (V 23)))) := hW 23 (by decide)
  have c24 : h (A 24) = some (.inl (G_i G, 16, .inl (iA (V 24)))) := hW 24 (by decide)
  have c25 : h (A 25) = some (.inl (G_i G, 16, .inl (iA (V 25)))) := hW 25 (by decide)
  have c26 : h (A 26) = some (.inl (G_i G, 97, .inl (iA (V 26)))) := hW 26 (by decide)
  have c27 : h (A 27) = some (.inl (G_i G, 400, .inl (iA (V 27)))) := hW 27 (by decide)
  have c28 : h (A 28) = some (.inl (G_i G, 400, .inl (iA (V 28)))) := hW 28 (by decide)
  have c29 : h (A 29) = some (.inl (G_i G, 400, .inl (iA (V 29)))) := hW 29 (by decide)
  have c30 : h (A 30) = some (.inr (11, fsN 34 σ)) := hW 30 (by decide)
  have c31 : h (A 31) = some (.inl (G_i G, 1000, .inl (iA (V 31)))) := hW 31 (by decide)
  have c32 : h (A 32) = some (.inl (G_j G, 16, .inr (.inl (lA (V 32))))) := hW 32 (by decide)
  have c33 : h (A 33) = some (.inl (G_j G, 16, .inr (.inl (lA (V 33))))) := hW 33 (by decide)
  have c34 : h (A 34) = some (.inl (G_i G, 16, .inl (iA (V 34)))) := hW 34 (by decide)
  have c35 : h (A 35) = some (.inl (G_i G, 1024, .inl (iA (V 35)))) := hW 35 (by decide)
  have c36 : h (A 36) = some (.inl (G_i G, 10, .inl (iA (V 36)))) := hW 36 (by decide)
  have c37 : h (A 37) = some (.inl (G_j G, 160, .inr (.inl (lA (V 37))))) := hW 37 (by decide)
  have c38 : h (A 38) = some (.inl (G_j G, 160, .inr (.inl (lA (V 38))))) := hW 38 (by decide)
  have c39 : h (A 39) = some (.inl (G_i G, 160, .inl (iA (V 39)))) := hW 39 (by decide)
  have c40 : h (A 40) = some (.inl (G_i G, 10240, .inl (iA (V 40)))) := hW 40 (by decide)
  have c41 : h (A 41) = some (.inl (G_j G, 16, .inr (.inl (lA (V 41))))) := hW 41 (by decide)
  have c42 : h (A 42) = some (.inl (G_j G, 16, .inr (.inl (lA (V 42))))) := hW 42 (by decide)
  have c43 : h (A 43) = some (.inl (G_i G, 16, .inl (iA (V 43)))) := hW 43 (by decide)
  have c44 : h (A 44) = some (.inl (G_i G, 1024, .inl (iA (V 44)))) := hW 44 (by decide)
  have c45 : h (A 45) = some (.inl (G_i G, 20, .inl (iA (V 45)))) := hW 45 (by decide)
  have c46 : h (A 46) = some (.inl (G_i G, 194, .inl (iA (V 46)))) := hW 46 (by decide)
  have c47 : h (A 47) = some (.inl (G_i G, 3104, .inl (iA (V 47)))) := hW 47 (by decide)
  have c48 : h (A 48) = some (.inl (G_i G, 65, .inl (iA (V 48)))) := hW 48 (by decide)
  obtain ⟨b1, b2, b3, b4, b5, b6, b7, b8, b9, b10, b11⟩ := id hRB
  obtain ⟨u1, u2, u3, u4, u5, u6, u7, u8⟩ := id b8
  obtain ⟨r1, r2, r3, r4, r5⟩ := id hRC
  obtain ⟨t1, t2, t3, t4, t5, t6, t7, t8, t9, t10, t11, t12⟩ := id hRS
  obtain ⟨p1, p2, p3, p4, p5⟩ := id hRP
  have hc1 : c ≤ 1000 := by omega
  have hct := hPa.2.1
  have hct2 : ct ≤ 10 := hPa.2.1
  refine ⟨⟨_, c0⟩, (rm 1 30), ⟨by decide, by decide, by decide, by decide⟩, rn_mono (c_CB_rate G h (A 0) (A 1) (A 3) (A 4) (A 6) (A 11) (A 13) (A 20) (A 21) (A 22) (Z 1) (Z 2) (Z 3) a0 a1 c0 c3 q0 q1) (fun r h1 q => ?_)⟩
  by_cases w1 : rOK a0 a1
  · obtain ⟨rfl, k1, fm⟩ := q.2 w1
    have hW1 : WC A (EE G A V (zup (zup (zup Z 1 (a0)) 2 (a1)) 3 (705600000 * a1 / a0)) Kp σ) h1 := hW.up (S := [3]) (kFm hM fm (by decide)) ⟨k1, trivial⟩ (c49 (fun _ => rfl) (fun _ => rfl) (fun _ => rfl) (fun n9 => absurd (by decide) n9) (fun _ => rfl) (fun _ => rfl) (fun _ => rfl) (fun _ => rfl) (fun _ => rfl) (fun _ => rfl) (fun _ => rfl) (fun _ => rfl) (fun _ => rfl) (fun _ => rfl) (fun _ => rfl) (fun _ => rfl) (fun _ => rfl) (fun _ => rfl) (fun _ => rfl) (fun _ => rfl) (fun _ => rfl) (fun _ => rfl) (fun _ => rfl) (fun _ => rfl) (fun _ => rfl) (fun _ => rfl) (fun _ => rfl) (fun _ => rfl) (fun _ => rfl) (fun _ => rfl) (fun _ => rfl) (fun _ => rfl) (fun _ => rfl) (fun _ => rfl) (fun _ => rfl) (fun _ => rfl) (fun _ => rfl) (fun _ => rfl) (fun _ => rfl) (fun _ => rfl) (fun _ => rfl) (fun _ => rfl) (fun _ => rfl) (fun _ => rfl) (fun _ => rfl) (fun _ => rfl) (fun _ => rfl) (fun _ => rfl) (fun _ => rfl))
    have g30 : h1 (A 30) = some (.inr (11, fsN 34 σ)) := hW1 30 (by decide)
    have g31 : h1 (A 31) = some (.inl (G_i G, 1000, .inl (iA (V 31)))) := hW1 31 (by decide)
    have g32 : h1 (A 32) = some (.inl (G_j G, 16, .inr (.inl (lA (V 32))))) := hW1 32 (by decide)
    have g33 : h1 (A 33) = some (.inl (G_j G, 16, .inr (.inl (lA (V 33))))) := hW1 33 (by decide)
    have g34 : h1 (A 34) = some (.inl (G_i G, 16, .inl (iA (V 34)))) := hW1 34 (by decide)
    have g35 : h1 (A 35) = some (.inl (G_i G, 1024, .inl (iA (V 35)))) := hW1 35 (by decide)
    have g36 : h1 (A 36) = some (.inl (G_i G, 10, .inl (iA (V 36)))) := hW1 36 (by decide)
    have g37 : h1 (A 37) = some (.inl (G_j G, 160, .inr (.inl (lA (V 37))))) := hW1 37 (by decide)
    have g38 : h1 (A 38) = some (.inl (G_j G, 160, .inr (.inl (lA (V 38))))) := hW1 38 (by decide)
    have g39 : h1 (A 39) = some (.inl (G_i G, 160, .inl (iA (V 39)))) := hW1 39 (by decide)
    have g40 : h1 (A 40) = some (.inl (G_i G, 10240, .inl (iA (V 40)))) := hW1 40 (by decide)
    have g41 : h1 (A 41) = some (.inl (G_j G, 16, .inr (.inl (lA (V 41))))) := hW1 41 (by decide)
    have g42 : h1 (A 42) = some (.inl (G_j G, 16, .inr (.inl (lA (V 42))))) := hW1 42 (by decide)
    have g43 : h1 (A 43) = some (.inl (G_i G, 16, .inl (iA (V 43)))) := hW1 43 (by decide)
    have g44 : h1 (A 44) = some (.inl (G_i G, 1024, .inl (iA (V 44)))) := hW1 44 (by decide)
    have g45 : h1 (A 45) = some (.inl (G_i G, 20, .inl (iA (V 45)))) := hW1 45 (by decide)
    have g46 : h1 (A 46) = some (.inl (G_i G, 194, .inl (iA (V 46)))) := hW1 46 (by decide)
    have g47 : h1 (A 47) = some (.inl (G_i G, 3104, .inl (iA (V 47)))) := hW1 47 (by decide)
    have g48 : h1 (A 48) = some (.inl (G_i G, 65, .inl (iA (V 48)))) := hW1 48 (by decide)
    have hPa1 := pFm (S := [3]) hM hPa fm (by decide)
    refine ⟨1, by decide, rfl, ⟨_, g30⟩, (rm 0 0), ⟨by decide, by decide, by decide, by decide⟩, rn_mono (c_Mo_rate G h1 σ (A 30) (Z 1) (Z 2) a0 a1 g30 f2 f3 q0 q1) (fun r2 h2 q2 => ?_)⟩
    obtain ⟨rfl, ⟨σ2, gm, m2, m3, gs⟩, fm2⟩ := q2.2 w1
    obtain ⟨y1, y2, y3⟩ := rate_ok w1
    have hW2 : WC A (EE G A V (zup (zup (zup Z 1 (a0)) 2 (a1)) 3 (705600000 * a1 / a0)) Kp σ2) h2 := hW1.up (S := [30]) (kFm hM fm2 (by decide)) ⟨gm, trivial⟩ (c49 (fun _ => rfl) (fun _ => rfl) (fun _ => rfl) (fun _ => rfl) (fun _ => rfl) (fun _ => rfl) (fun _ => rfl) (fun _ => rfl) (fun _ => rfl) (fun _ => rfl) (fun _ => rfl) (fun _ => rfl) (fun _ => rfl) (fun _ => rfl) (fun _ => rfl) (fun _ => rfl) (fun _ => rfl) (fun _ => rfl) (fun _ => rfl) (fun _ => rfl) (fun _ => rfl) (fun _ => rfl) (fun _ => rfl) (fun _ => rfl) (fun _ => rfl) (fun _ => rfl) (fun _ => rfl) (fun _ => rfl) (fun _ => rfl) (fun _ => rfl) (fun n9 => absurd (by decide) n9) (fun _ => rfl) (fun _ => rfl) (fun _ => rfl) (fun _ => rfl) (fun _ => rfl) (fun _ => rfl) (fun _ => rfl) (fun _ => rfl) (fun _ => rfl) (fun _ => rfl) (fun _ => rfl) (fun _ => rfl) (fun _ => rfl) (fun _ => rfl) (fun _ => rfl) (fun _ => rfl) (fun _ => rfl) (fun _ => rfl))
    exact ⟨rfl, hM, V, (zup (zup (zup Z 1 (a0)) 2 (a1)) 3 (705600000 * a1 / a0)), Kp, Ke, C, σ2, n0, nu, n, (c % 10), ct, c, hW2, ⟨(gs 0 (by decide)).trans e0, (gs 1 (by decide)).trans e1, m2, m3, (gs 4 (by decide)).trans e4, (gs 5 (by decide)).trans e5, (gs 6 (by decide)).trans e6, (gs 7 (by decide)).trans e7, (gs 8 (by decide)).trans e8, (gs 9 (by decide)).trans e9, (gs 10 (by decide)).trans e10, (gs 11 (by decide)).trans e11, (gs 12 (by decide)).trans e12, (gs 13 (by decide)).trans e13, (gs 14 (by decide)).trans e14, (gs 15 (by decide)).trans e15, (gs 19 (by decide)).trans e19, (gs 20 (by decide)).trans e20, (gs 21 (by decide)).trans e21, (gs 22 (by decide)).trans e22, (gs 25 (by decide)).trans e25, (gs 26 (by decide)).trans e26, (gs 27 (by decide)).trans e27, (gs 28 (by decide)).trans e28, (gs 29 (by decide)).trans e29, (gs 30 (by decide)).trans e30, (gs 31 (by decide)).trans e31, (gs 32 (by decide)).trans e32, (gs 33 (by decide)).trans e33⟩, pFm (S := [30]) hM hPa1 fm2 (by decide), ⟨z0, z8, z9, z10, z11, z21⟩, ⟨b1, b2, b3, y1, y2, rfl, y3, b8, b9, b10, b11⟩, hRC, hRS, hRP, by omega⟩
  · obtain ⟨rfl, hx9⟩ := q.1 w1
    have hW1 : WC A (EE G A V Z Kp σ) h1 := by rw [hx9]; exact hW
    have hPa1 : PaW G h1 (A 48) (A 11) (A 12) (c % 10) ct Kp Ke C := by rw [hx9]; exact hPa
    have g30 : h1 (A 30) = some (.inr (11, fsN 34 σ)) := hW1 30 (by decide)
    have g31 : h1 (A 31) = some (.inl (G_i G, 1000, .inl (iA (V 31)))) := hW1 31 (by decide)
    have g32 : h1 (A 32) = some (.inl (G_j G, 16, .inr (.inl (lA (V 32))))) := hW1 32 (by decide)
    have g33 : h1 (A 33) = some (.inl (G_j G, 16, .inr (.inl (lA (V 33))))) := hW1 33 (by decide)
    have g34 : h1 (A 34) = some (.inl (G_i G, 16, .inl (iA (V 34)))) := hW1 34 (by decide)
    have g35 : h1 (A 35) = some (.inl (G_i G, 1024, .inl (iA (V 35)))) := hW1 35 (by decide)
    have g36 : h1 (A 36) = some (.inl (G_i G, 10, .inl (iA (V 36)))) := hW1 36 (by decide)
    have g37 : h1 (A 37) = some (.inl (G_j G, 160, .inr (.inl (lA (V 37))))) := hW1 37 (by decide)
    have g38 : h1 (A 38) = some (.inl (G_j G, 160, .inr (.inl (lA (V 38))))) := hW1 38 (by decide)
    have g39 : h1 (A 39) = some (.inl (G_i G, 160, .inl (iA (V 39)))) := hW1 39 (by decide)
    have g40 : h1 (A 40) = some (.inl (G_i G, 10240, .inl (iA (V 40)))) := hW1 40 (by decide)
    have g41 : h1 (A 41) = some (.inl (G_j G, 16, .inr (.inl (lA (V 41))))) := hW1 41 (by decide)
    have g42 : h1 (A 42) = some (.inl (G_j G, 16, .inr (.inl (lA (V 42))))) := hW1 42 (by decide)
    have g43 : h1 (A 43) = some (.inl (G_i G, 16, .inl (iA (V 43)))) := hW1 43 (by decide)
    have g44 : h1 (A 44) = some (.inl (G_i G, 1024, .inl (iA (V 44)))) := hW1 44 (by decide)
    have g45 : h1 (A 45) = some (.inl (G_i G, 20, .inl (iA (V 45)))) := hW1 45 (by decide)
    have g46 : h1 (A 46) = some (.inl (G_i G, 194, .inl (iA (V 46)))) := hW1 46 (by decide)
    have g47 : h1 (A 47) = some (.inl (G_i G, 3104, .inl (iA (V 47)))) := hW1 47 (by decide)
    have g48 : h1 (A 48) = some (.inl (G_i G, 65, .inl (iA (V 48)))) := hW1 48 (by decide)
    refine ⟨0, by decide, rfl, ⟨_, g30⟩, (rm 0 0), ⟨by decide, by decide, by decide, by decide⟩, rn_mono (c_Mo_rate G h1 σ (A 30) (Z 1) (Z 2) a0 a1 g30 f2 f3 q0 q1) (fun r2 h2 q2 => ?_)⟩
    obtain ⟨rfl, hx8⟩ := q2.1 w1
    rw [hx8]
    exact ⟨rfl, hM, V, Z, Kp, Ke, C, σ, n0, nu, n, (c % 10), ct, c, hW1, hSg, hPa1, ⟨z0, z8, z9, z10, z11, z21⟩, hRB, hRC, hRS, hRP, by omega⟩
set_option maxHeartbeats 4000000 in
set_option maxRecDepth 100000 in
theorem duo_rules (G : GT) (A : Nat → Nat) (i : Nat) (h : HM) (hI : Inv G A i h) (hi : i ≤ 511) : ∀ a0 a1 a2 a3 : Int, iR a0 → iR a1 → iR a2 → iR a3 → Duo G (A 0) (A 30) M_CB_rules M_Mo_rules [.int (iZ a0), .int (iZ a1), .int (iZ a2), .int (iZ a3)] mI iR h (Inv G A (i + 1)) := by
  intro a0 a1 a2 a3 q0 q1 q2 q3
  obtain ⟨hM, V, Z, Kp, Ke, C, σ, n0, nu, n, nx, ct, c, hW, hSg, hPa, ⟨z0, z8, z9, z10, z11, z21⟩, hRB, hRC, hRS, hRP, hci⟩ := hI
  obtain rfl : nx = c % 10 := hRP.2.2.2.1
  obtain ⟨e0, e1, e2, e3, e4, e5, e6, e7, e8, e9, e10, e11, e12, e13, e14, e15, e19, e20, e21, e22, e25, e26, e27, e28, e29, e30, e31, e32, e33⟩ := id hSg
  have f0 : σ 0 = .int (iZ (n0 : Int)) := by rw [← z0]; exact e0
  have f1 : σ 1 = .ref (A 31) := e1
  have f2 : σ 2 = .int (iZ (Z 1)) := e2
  have f3 : σ 3 = .int (iZ (Z 2)) := e3
  have f4 : σ 4 = .int (iZ (n : Int)) := by rw [← z9]; exact e4
  have f5 : σ 5 = .ref (A 32) := e5
  have f6 : σ 6 = .ref (A 33) := e6
  have f7 : σ 7 = .ref (A 34) := e7
  have f8 : σ 8 = .ref (A 35) := e8
  have f9 : σ 9 = .int (iZ (c : Int)) := by rw [← z21]; exact e9
  have f10 : σ 10 = .int (iZ (ct : Int)) := by rw [← z11]; exact e10
  have f11 : σ 11 = .ref (A 36) := e11
  have f12 : σ 12 = .ref (A 37) := e12
  have f13 : σ 13 = .ref (A 38) := e13
  have f14 : σ 14 = .ref (A 39) := e14
  have f15 : σ 15 = .ref (A 40) := e15
  have f19 : σ 19 = .ref (A 41) := e19
  have f20 : σ 20 = .ref (A 42) := e20
  have f21 : σ 21 = .ref (A 43) := e21
  have f22 : σ 22 = .ref (A 44) := e22
  have f25 : σ 25 = .int (iZ (nu : Int)) := by rw [← z8]; exact e25
  have f26 : σ 26 = .ref (A 45) := e26
  have f27 : σ 27 = .int (iZ (Z 4)) := e27
  have f28 : σ 28 = .int (iZ (Z 5)) := e28
  have f29 : σ 29 = .int (iZ (Z 6)) := e29
  have f30 : σ 30 = .int (iZ (Z 7)) := e30
  have f31 : σ 31 = .ref (A 46) := e31
  have f32 : σ 32 = .ref (A 47) := e32
  have f33 : σ 33 = .ref (A 48) := e33
  have c0 : h (A 0) = some (.inr (0, [.ref (A 1), .ref (A 3), .ref (A 4), .ref (A 6), .ref (A 11), .ref (A 13), .ref (A 20), .ref (A 21), .ref (A 22)])) := hW 0 (by decide)
  have c1 : h (A 1) = some (.inr (1, [.ref (A 2), .int (iZ (n0 : Int))])) := by rw [← z0]; exact hW 1 (by decide)
  have c2 : h (A 2) = some (.inl (G_i G, 1000, .inl (iA (V 2)))) := hW 2 (by decide)
  have c3 : h (A 3) = some (.inr (5, [.int (iZ (Z 1)), .int (iZ (Z 2)), .long (lZ (Z 3))])) := hW 3 (by decide)
  have c4 : h (A 4) = some (.inr (10, [.int (iZ (Z 4)), .int (iZ (Z 5)), .int (iZ (Z 6)), .int (iZ (Z 7)), .ref (A 5), .int (iZ (nu : Int))])) := by rw [← z8]; exact hW 4 (by decide)
  have c5 : h (A 5) = some (.inl (G_i G, 20, .inl (iA (V 5)))) := hW 5 (by decide)
  have c6 : h (A 6) = some (.inr (2, [.ref (A 7), .ref (A 8), .ref (A 9), .ref (A 10), .int (iZ (n : Int))])) := by rw [← z9]; exact hW 6 (by decide)
  have c7 : h (A 7) = some (.inl (G_j G, 16, .inr (.inl (lA (V 7))))) := hW 7 (by decide)
  have c8 : h (A 8) = some (.inl (G_j G, 16, .inr (.inl (lA (V 8))))) := hW 8 (by decide)
  have c9 : h (A 9) = some (.inl (G_i G, 16, .inl (iA (V 9)))) := hW 9 (by decide)
  have c10 : h (A 10) = some (.inl (G_i G, 1024, .inl (iA (V 10)))) := hW 10 (by decide)
  have c11 : h (A 11) = some (.inr (7, [.ref (A 12), .int (iZ ((c % 10 : Nat) : Int)), .int (iZ (ct : Int))])) := by rw [← z10, ← z11]; exact hW 11 (by decide)
  have c12 : h (A 12) = some (.inl (G_q G, 10, .inr (.inr (.inr (.inr Kp))))) := hW 12 (by decide)
  have c13 : h (A 13) = some (.inr (3, [.ref (A 1), .ref (A 3), .ref (A 14), .ref (A 19), .int (iZ (Z 12)), .int (iZ (Z 13)), .int (iZ (Z 14)), .long (lZ (Z 15)), .long (lZ (Z 16)), .long (lZ (Z 17))])) := hW 13 (by decide)
  have c14 : h (A 14) = some (.inr (2, [.ref (A 15), .ref (A 16), .ref (A 17), .ref (A 18), .int (iZ (Z 18))])) := hW 14 (by decide)
  have c15 : h (A 15) = some (.inl (G_j G, 16, .inr (.inl (lA (V 15))))) := hW 15 (by decide)
  have c16 : h (A 16) = some (.inl (G_j G, 16, .inr (.inl (lA (V 16))))) := hW 16 (by decide)
  have c17 : h (A 17) = some (.inl (G_i G, 16, .inl (iA (V 17)))) := hW 17 (by decide)
  have c18 : h (A 18) = some (.inl (G_i G, 1024, .inl (iA (V 18)))) := hW 18 (by decide)
  have c19 : h (A 19) = some (.inl (G_i G, 64, .inl (iA (V 19)))) := hW 19 (by decide)
  have c20 : h (A 20) = some (.inr (4, [.ref (A 1), .ref (A 3), .ref (A 6)])) := hW 20 (by decide)
  have c21 : h (A 21) = some (.inr (6, [.ref (A 6), .int (iZ (Z 19)), .int (iZ (Z 20))])) := hW 21 (by decide)
  have c22 : h (A 22) = some (.inr (9, [.ref (A 6), .ref (A 3), .ref (A 4), .ref (A 23), .ref (A 24), .ref (A 25), .ref (A 26), .ref (A 27), .ref (A 28), .ref (A 29)])) := hW 22 (by decide)
  have c23 : h (A 23) = some (.inl (G_i G, 16, .inl (iA (V 23)))) := hW 23 (by decide)
  have c24 : h (A 24) = some (.inl (G_i G, 16, .inl (iA (V 24)))) := hW 24 (by decide)
  have c25 : h (A 25) = some (.inl (G_i G, 16, .inl (iA (V 25)))) := hW 25 (by decide)
  have c26 : h (A 26) = some (.inl (G_i G, 97, .inl (iA (V 26)))) := hW 26 (by decide)
  have c27 : h (A 27) = some (.inl (G_i G, 400, .inl (iA (V 27)))) := hW 27 (by decide)
  have c28 : h (A 28) = some (.inl (G_i G, 400, .inl (iA (V 28)))) := hW 28 (by decide)
  have c29 : h (A 29) = some (.inl (G_i G, 400, .inl (iA (V 29)))) := hW 29 (by decide)
  have c30 : h (A 30) = some (.inr (11, fsN 34 σ)) := hW 30 (by decide)
  have c31 : h (A 31) = some (.inl (G_i G, 1000, .inl (iA (V 31)))) := hW 31 (by decide)
  have c32 : h (A 32) = some (.inl (G_j G, 16, .inr (.inl (lA (V 32))))) := hW 32 (by decide)
  have c33 : h (A 33) = some (.inl (G_j G, 16, .inr (.inl (lA (V 33))))) := hW 33 (by decide)
  have c34 : h (A 34) = some (.inl (G_i G, 16, .inl (iA (V 34)))) := hW 34 (by decide)
  have c35 : h (A 35) = some (.inl (G_i G, 1024, .inl (iA (V 35)))) := hW 35 (by decide)
  have c36 : h (A 36) = some (.inl (G_i G, 10, .inl (iA (V 36)))) := hW 36 (by decide)
  have c37 : h (A 37) = some (.inl (G_j G, 160, .inr (.inl (lA (V 37))))) := hW 37 (by decide)
  have c38 : h (A 38) = some (.inl (G_j G, 160, .inr (.inl (lA (V 38))))) := hW 38 (by decide)
  have c39 : h (A 39) = some (.inl (G_i G, 160, .inl (iA (V 39)))) := hW 39 (by decide)
  have c40 : h (A 40) = some (.inl (G_i G, 10240, .inl (iA (V 40)))) := hW 40 (by decide)
  have c41 : h (A 41) = some (.inl (G_j G, 16, .inr (.inl (lA (V 41))))) := hW 41 (by decide)
  have c42 : h (A 42) = some (.inl (G_j G, 16, .inr (.inl (lA (V 42))))) := hW 42 (by decide)
  have c43 : h (A 43) = some (.inl (G_i G, 16, .inl (iA (V 43)))) := hW 43 (by decide)
  have c44 : h (A 44) = some (.inl (G_i G, 1024, .inl (iA (V 44)))) := hW 44 (by decide)
  have c45 : h (A 45) = some (.inl (G_i G, 20, .inl (iA (V 45)))) := hW 45 (by decide)
  have c46 : h (A 46) = some (.inl (G_i G, 194, .inl (iA (V 46)))) := hW 46 (by decide)
  have c47 : h (A 47) = some (.inl (G_i G, 3104, .inl (iA (V 47)))) := hW 47 (by decide)
  have c48 : h (A 48) = some (.inl (G_i G, 65, .inl (iA (V 48)))) := hW 48 (by decide)
  obtain ⟨b1, b2, b3, b4, b5, b6, b7, b8, b9, b10, b11⟩ := id hRB
  obtain ⟨u1, u2, u3, u4, u5, u6, u7, u8⟩ := id b8
  obtain ⟨r1, r2, r3, r4, r5⟩ := id hRC
  obtain ⟨t1, t2, t3, t4, t5, t6, t7, t8, t9, t10, t11, t12⟩ := id hRS
  obtain ⟨p1, p2, p3, p4, p5⟩ := id hRP
  have hc1 : c ≤ 1000 := by omega
  have hct := hPa.2.1
  have hct2 : ct ≤ 10 := hPa.2.1
  refine ⟨⟨_, c0⟩, (rm 1 30), ⟨by decide, by decide, by decide, by decide⟩, rn_mono (c_CB_rules G h (A 0) (A 1) (A 3) (A 4) (A 6) (A 11) (A 13) (A 20) (A 21) (A 22) (A 5) (Z 4) (Z 5) (Z 6) (Z 7) (nu : Int) a0 a1 a2 a3 c0 c4 q0 q1 q2 q3) (fun r h1 q => ?_)⟩
  by_cases w1 : uOK a0 a1 a2 a3
  · obtain ⟨rfl, k1, fm⟩ := q.2 w1
    have hW1 : WC A (EE G A V (zup (zup (zup (zup Z 4 (a0)) 5 (a1)) 6 (a2)) 7 (a3)) Kp σ) h1 := hW.up (S := [4]) (kFm hM fm (by decide)) ⟨by rw [← z8] at k1; exact k1, trivial⟩ (c49 (fun _ => rfl) (fun _ => rfl) (fun _ => rfl) (fun _ => rfl) (fun n9 => absurd (by decide) n9) (fun _ => rfl) (fun _ => rfl) (fun _ => rfl) (fun _ => rfl) (fun _ => rfl) (fun _ => rfl) (fun _ => rfl) (fun _ => rfl) (fun _ => rfl) (fun _ => rfl) (fun _ => rfl) (fun _ => rfl) (fun _ => rfl) (fun _ => rfl) (fun _ => rfl) (fun _ => rfl) (fun _ => rfl) (fun _ => rfl) (fun _ => rfl) (fun _ => rfl) (fun _ => rfl) (fun _ => rfl) (fun _ => rfl) (fun _ => rfl) (fun _ => rfl) (fun _ => rfl) (fun _ => rfl) (fun _ => rfl) (fun _ => rfl) (fun _ => rfl) (fun _ => rfl) (fun _ => rfl) (fun _ => rfl) (fun _ => rfl) (fun _ => rfl) (fun _ => rfl) (fun _ => rfl) (fun _ => rfl) (fun _ => rfl) (fun _ => rfl) (fun _ => rfl) (fun _ => rfl) (fun _ => rfl) (fun _ => rfl))
    have g30 : h1 (A 30) = some (.inr (11, fsN 34 σ)) := hW1 30 (by decide)
    have g31 : h1 (A 31) = some (.inl (G_i G, 1000, .inl (iA (V 31)))) := hW1 31 (by decide)
    have g32 : h1 (A 32) = some (.inl (G_j G, 16, .inr (.inl (lA (V 32))))) := hW1 32 (by decide)
    have g33 : h1 (A 33) = some (.inl (G_j G, 16, .inr (.inl (lA (V 33))))) := hW1 33 (by decide)
    have g34 : h1 (A 34) = some (.inl (G_i G, 16, .inl (iA (V 34)))) := hW1 34 (by decide)
    have g35 : h1 (A 35) = some (.inl (G_i G, 1024, .inl (iA (V 35)))) := hW1 35 (by decide)
    have g36 : h1 (A 36) = some (.inl (G_i G, 10, .inl (iA (V 36)))) := hW1 36 (by decide)
    have g37 : h1 (A 37) = some (.inl (G_j G, 160, .inr (.inl (lA (V 37))))) := hW1 37 (by decide)
    have g38 : h1 (A 38) = some (.inl (G_j G, 160, .inr (.inl (lA (V 38))))) := hW1 38 (by decide)
    have g39 : h1 (A 39) = some (.inl (G_i G, 160, .inl (iA (V 39)))) := hW1 39 (by decide)
    have g40 : h1 (A 40) = some (.inl (G_i G, 10240, .inl (iA (V 40)))) := hW1 40 (by decide)
    have g41 : h1 (A 41) = some (.inl (G_j G, 16, .inr (.inl (lA (V 41))))) := hW1 41 (by decide)
    have g42 : h1 (A 42) = some (.inl (G_j G, 16, .inr (.inl (lA (V 42))))) := hW1 42 (by decide)
    have g43 : h1 (A 43) = some (.inl (G_i G, 16, .inl (iA (V 43)))) := hW1 43 (by decide)
    have g44 : h1 (A 44) = some (.inl (G_i G, 1024, .inl (iA (V 44)))) := hW1 44 (by decide)
    have g45 : h1 (A 45) = some (.inl (G_i G, 20, .inl (iA (V 45)))) := hW1 45 (by decide)
    have g46 : h1 (A 46) = some (.inl (G_i G, 194, .inl (iA (V 46)))) := hW1 46 (by decide)
    have g47 : h1 (A 47) = some (.inl (G_i G, 3104, .inl (iA (V 47)))) := hW1 47 (by decide)
    have g48 : h1 (A 48) = some (.inl (G_i G, 65, .inl (iA (V 48)))) := hW1 48 (by decide)
    have hPa1 := pFm (S := [4]) hM hPa fm (by decide)
    refine ⟨1, by decide, rfl, ⟨_, g30⟩, (rm 0 0), ⟨by decide, by decide, by decide, by decide⟩, rn_mono (c_Mo_rules G h1 σ (A 30) (Z 4) (Z 5) (Z 6) (Z 7) a0 a1 a2 a3 g30 f27 f28 f29 f30 q0 q1 q2 q3) (fun r2 h2 q2 => ?_)⟩
    obtain ⟨rfl, ⟨σ2, gm, m4, m5, m6, m7, gs⟩, fm2⟩ := q2.2 w1
    have hW2 : WC A (EE G A V (zup (zup (zup (zup Z 4 (a0)) 5 (a1)) 6 (a2)) 7 (a3)) Kp σ2) h2 := hW1.up (S := [30]) (kFm hM fm2 (by decide)) ⟨gm, trivial⟩ (c49 (fun _ => rfl) (fun _ => rfl) (fun _ => rfl) (fun _ => rfl) (fun _ => rfl) (fun _ => rfl) (fun _ => rfl) (fun _ => rfl) (fun _ => rfl) (fun _ => rfl) (fun _ => rfl) (fun _ => rfl) (fun _ => rfl) (fun _ => rfl) (fun _ => rfl) (fun _ => rfl) (fun _ => rfl) (fun _ => rfl) (fun _ => rfl) (fun _ => rfl) (fun _ => rfl) (fun _ => rfl) (fun _ => rfl) (fun _ => rfl) (fun _ => rfl) (fun _ => rfl) (fun _ => rfl) (fun _ => rfl) (fun _ => rfl) (fun _ => rfl) (fun n9 => absurd (by decide) n9) (fun _ => rfl) (fun _ => rfl) (fun _ => rfl) (fun _ => rfl) (fun _ => rfl) (fun _ => rfl) (fun _ => rfl) (fun _ => rfl) (fun _ => rfl) (fun _ => rfl) (fun _ => rfl) (fun _ => rfl) (fun _ => rfl) (fun _ => rfl) (fun _ => rfl) (fun _ => rfl) (fun _ => rfl) (fun _ => rfl))
    exact ⟨rfl, hM, V, (zup (zup (zup (zup Z 4 (a0)) 5 (a1)) 6 (a2)) 7 (a3)), Kp, Ke, C, σ2, n0, nu, n, (c % 10), ct, c, hW2, ⟨(gs 0 (by decide)).trans e0, (gs 1 (by decide)).trans e1, (gs 2 (by decide)).trans e2, (gs 3 (by decide)).trans e3, (gs 4 (by decide)).trans e4, (gs 5 (by decide)).trans e5, (gs 6 (by decide)).trans e6, (gs 7 (by decide)).trans e7, (gs 8 (by decide)).trans e8, (gs 9 (by decide)).trans e9, (gs 10 (by decide)).trans e10, (gs 11 (by decide)).trans e11, (gs 12 (by decide)).trans e12, (gs 13 (by decide)).trans e13, (gs 14 (by decide)).trans e14, (gs 15 (by decide)).trans e15, (gs 19 (by decide)).trans e19, (gs 20 (by decide)).trans e20, (gs 21 (by decide)).trans e21, (gs 22 (by decide)).trans e22, (gs 25 (by decide)).trans e25, (gs 26 (by decide)).trans e26, m4, m5, m6, m7, (gs 31 (by decide)).trans e31, (gs 32 (by decide)).trans e32, (gs 33 (by decide)).trans e33⟩, pFm (S := [30]) hM hPa1 fm2 (by decide), ⟨z0, z8, z9, z10, z11, z21⟩, ⟨b1, b2, b3, b4, b5, b6, b7, w1, b9, b10, b11⟩, hRC, hRS, hRP, by omega⟩
  · obtain ⟨rfl, hx9⟩ := q.1 w1
    have hW1 : WC A (EE G A V Z Kp σ) h1 := by rw [hx9]; exact hW
    have hPa1 : PaW G h1 (A 48) (A 11) (A 12) (c % 10) ct Kp Ke C := by rw [hx9]; exact hPa
    have g30 : h1 (A 30) = some (.inr (11, fsN 34 σ)) := hW1 30 (by decide)
    have g31 : h1 (A 31) = some (.inl (G_i G, 1000, .inl (iA (V 31)))) := hW1 31 (by decide)
    have g32 : h1 (A 32) = some (.inl (G_j G, 16, .inr (.inl (lA (V 32))))) := hW1 32 (by decide)
    have g33 : h1 (A 33) = some (.inl (G_j G, 16, .inr (.inl (lA (V 33))))) := hW1 33 (by decide)
    have g34 : h1 (A 34) = some (.inl (G_i G, 16, .inl (iA (V 34)))) := hW1 34 (by decide)
    have g35 : h1 (A 35) = some (.inl (G_i G, 1024, .inl (iA (V 35)))) := hW1 35 (by decide)
    have g36 : h1 (A 36) = some (.inl (G_i G, 10, .inl (iA (V 36)))) := hW1 36 (by decide)
    have g37 : h1 (A 37) = some (.inl (G_j G, 160, .inr (.inl (lA (V 37))))) := hW1 37 (by decide)
    have g38 : h1 (A 38) = some (.inl (G_j G, 160, .inr (.inl (lA (V 38))))) := hW1 38 (by decide)
    have g39 : h1 (A 39) = some (.inl (G_i G, 160, .inl (iA (V 39)))) := hW1 39 (by decide)
    have g40 : h1 (A 40) = some (.inl (G_i G, 10240, .inl (iA (V 40)))) := hW1 40 (by decide)
    have g41 : h1 (A 41) = some (.inl (G_j G, 16, .inr (.inl (lA (V 41))))) := hW1 41 (by decide)
    have g42 : h1 (A 42) = some (.inl (G_j G, 16, .inr (.inl (lA (V 42))))) := hW1 42 (by decide)
    have g43 : h1 (A 43) = some (.inl (G_i G, 16, .inl (iA (V 43)))) := hW1 43 (by decide)
    have g44 : h1 (A 44) = some (.inl (G_i G, 1024, .inl (iA (V 44)))) := hW1 44 (by decide)
    have g45 : h1 (A 45) = some (.inl (G_i G, 20, .inl (iA (V 45)))) := hW1 45 (by decide)
    have g46 : h1 (A 46) = some (.inl (G_i G, 194, .inl (iA (V 46)))) := hW1 46 (by decide)
    have g47 : h1 (A 47) = some (.inl (G_i G, 3104, .inl (iA (V 47)))) := hW1 47 (by decide)
    have g48 : h1 (A 48) = some (.inl (G_i G, 65, .inl (iA (V 48)))) := hW1 48 (by decide)
    refine ⟨0, by decide, rfl, ⟨_, g30⟩, (rm 0 0), ⟨by decide, by decide, by decide, by decide⟩, rn_mono (c_Mo_rules G h1 σ (A 30) (Z 4) (Z 5) (Z 6) (Z 7) a0 a1 a2 a3 g30 f27 f28 f29 f30 q0 q1 q2 q3) (fun r2 h2 q2 => ?_)⟩
    obtain ⟨rfl, hx8⟩ := q2.1 w1
    rw [hx8]
    exact ⟨rfl, hM, V, Z, Kp, Ke, C, σ, n0, nu, n, (c % 10), ct, c, hW1, hSg, hPa1, ⟨z0, z8, z9, z10, z11, z21⟩, hRB, hRC, hRS, hRP, by omega⟩
set_option maxHeartbeats 4000000 in
set_option maxRecDepth 100000 in
theorem duo_shot (G : GT) (A : Nat → Nat) (i : Nat) (h : HM) (hI : Inv G A i h) (hi : i ≤ 511) : ∀ a0 : Int, iR a0 → Duo G (A 0) (A 30) M_CB_shot M_Mo_shot [.int (iZ a0)] mI iR h (Inv G A (i + 1)) := by
  intro a0 q0
  obtain ⟨hM, V, Z, Kp, Ke, C, σ, n0, nu, n, nx, ct, c, hW, hSg, hPa, ⟨z0, z8, z9, z10, z11, z21⟩, hRB, hRC, hRS, hRP, hci⟩ := hI
  obtain rfl : nx = c % 10 := hRP.2.2.2.1
  obtain ⟨e0, e1, e2, e3, e4, e5, e6, e7, e8, e9, e10, e11, e12, e13, e14, e15, e19, e20, e21, e22, e25, e26, e27, e28, e29, e30, e31, e32, e33⟩ := id hSg
  have f0 : σ 0 = .int (iZ (n0 : Int)) := by rw [← z0]; exact e0
  have f1 : σ 1 = .ref (A 31) := e1
  have f2 : σ 2 = .int (iZ (Z 1)) := e2
  have f3 : σ 3 = .int (iZ (Z 2)) := e3
  have f4 : σ 4 = .int (iZ (n : Int)) := by rw [← z9]; exact e4
  have f5 : σ 5 = .ref (A 32) := e5
  have f6 : σ 6 = .ref (A 33) := e6
  have f7 : σ 7 = .ref (A 34) := e7
  have f8 : σ 8 = .ref (A 35) := e8
  have f9 : σ 9 = .int (iZ (c : Int)) := by rw [← z21]; exact e9
  have f10 : σ 10 = .int (iZ (ct : Int)) := by rw [← z11]; exact e10
  have f11 : σ 11 = .ref (A 36) := e11
  have f12 : σ 12 = .ref (A 37) := e12
  have f13 : σ 13 = .ref (A 38) := e13
  have f14 : σ 14 = .ref (A 39) := e14
  have f15 : σ 15 = .ref (A 40) := e15
  have f19 : σ 19 = .ref (A 41) := e19
  have f20 : σ 20 = .ref (A 42) := e20
  have f21 : σ 21 = .ref (A 43) := e21
  have f22 : σ 22 = .ref (A 44) := e22
  have f25 : σ 25 = .int (iZ (nu : Int)) := by rw [← z8]; exact e25
  have f26 : σ 26 = .ref (A 45) := e26
  have f27 : σ 27 = .int (iZ (Z 4)) := e27
  have f28 : σ 28 = .int (iZ (Z 5)) := e28
  have f29 : σ 29 = .int (iZ (Z 6)) := e29
  have f30 : σ 30 = .int (iZ (Z 7)) := e30
  have f31 : σ 31 = .ref (A 46) := e31
  have f32 : σ 32 = .ref (A 47) := e32
  have f33 : σ 33 = .ref (A 48) := e33
  have c0 : h (A 0) = some (.inr (0, [.ref (A 1), .ref (A 3), .ref (A 4), .ref (A 6), .ref (A 11), .ref (A 13), .ref (A 20), .ref (A 21), .ref (A 22)])) := hW 0 (by decide)
  have c1 : h (A 1) = some (.inr (1, [.ref (A 2), .int (iZ (n0 : Int))])) := by rw [← z0]; exact hW 1 (by decide)
  have c2 : h (A 2) = some (.inl (G_i G, 1000, .inl (iA (V 2)))) := hW 2 (by decide)
  have c3 : h (A 3) = some (.inr (5, [.int (iZ (Z 1)), .int (iZ (Z 2)), .long (lZ (Z 3))])) := hW 3 (by decide)
  have c4 : h (A 4) = some (.inr (10, [.int (iZ (Z 4)), .int (iZ (Z 5)), .int (iZ (Z 6)), .int (iZ (Z 7)), .ref (A 5), .int (iZ (nu : Int))])) := by rw [← z8]; exact hW 4 (by decide)
  have c5 : h (A 5) = some (.inl (G_i G, 20, .inl (iA (V 5)))) := hW 5 (by decide)
  have c6 : h (A 6) = some (.inr (2, [.ref (A 7), .ref (A 8), .ref (A 9), .ref (A 10), .int (iZ (n : Int))])) := by rw [← z9]; exact hW 6 (by decide)
  have c7 : h (A 7) = some (.inl (G_j G, 16, .inr (.inl (lA (V 7))))) := hW 7 (by decide)
  have c8 : h (A 8) = some (.inl (G_j G, 16, .inr (.inl (lA (V 8))))) := hW 8 (by decide)
  have c9 : h (A 9) = some (.inl (G_i G, 16, .inl (iA (V 9)))) := hW 9 (by decide)
  have c10 : h (A 10) = some (.inl (G_i G, 1024, .inl (iA (V 10)))) := hW 10 (by decide)
  have c11 : h (A 11) = some (.inr (7, [.ref (A 12), .int (iZ ((c % 10 : Nat) : Int)), .int (iZ (ct : Int))])) := by rw [← z10, ← z11]; exact hW 11 (by decide)
  have c12 : h (A 12) = some (.inl (G_q G, 10, .inr (.inr (.inr (.inr Kp))))) := hW 12 (by decide)
  have c13 : h (A 13) = some (.inr (3, [.ref (A 1), .ref (A 3), .ref (A 14), .ref (A 19), .int (iZ (Z 12)), .int (iZ (Z 13)), .int (iZ (Z 14)), .long (lZ (Z 15)), .long (lZ (Z 16)), .long (lZ (Z 17))])) := hW 13 (by decide)
  have c14 : h (A 14) = some (.inr (2, [.ref (A 15), .ref (A 16), .ref (A 17), .ref (A 18), .int (iZ (Z 18))])) := hW 14 (by decide)
  have c15 : h (A 15) = some (.inl (G_j G, 16, .inr (.inl (lA (V 15))))) := hW 15 (by decide)
  have c16 : h (A 16) = some (.inl (G_j G, 16, .inr (.inl (lA (V 16))))) := hW 16 (by decide)
  have c17 : h (A 17) = some (.inl (G_i G, 16, .inl (iA (V 17)))) := hW 17 (by decide)
  have c18 : h (A 18) = some (.inl (G_i G, 1024, .inl (iA (V 18)))) := hW 18 (by decide)
  have c19 : h (A 19) = some (.inl (G_i G, 64, .inl (iA (V 19)))) := hW 19 (by decide)
  have c20 : h (A 20) = some (.inr (4, [.ref (A 1), .ref (A 3), .ref (A 6)])) := hW 20 (by decide)
  have c21 : h (A 21) = some (.inr (6, [.ref (A 6), .int (iZ (Z 19)), .int (iZ (Z 20))])) := hW 21 (by decide)
  have c22 : h (A 22) = some (.inr (9, [.ref (A 6), .ref (A 3), .ref (A 4), .ref (A 23), .ref (A 24), .ref (A 25), .ref (A 26), .ref (A 27), .ref (A 28), .ref (A 29)])) := hW 22 (by decide)
  have c23 : h (A 23) = some (.inl (G_i G, 16, .inl (iA (V 23)))) := hW 23 (by decide)
  have c24 : h (A 24) = some (.inl (G_i G, 16, .inl (iA (V 24)))) := hW 24 (by decide)
  have c25 : h (A 25) = some (.inl (G_i G, 16, .inl (iA (V 25)))) := hW 25 (by decide)
  have c26 : h (A 26) = some (.inl (G_i G, 97, .inl (iA (V 26)))) := hW 26 (by decide)
  have c27 : h (A 27) = some (.inl (G_i G, 400, .inl (iA (V 27)))) := hW 27 (by decide)
  have c28 : h (A 28) = some (.inl (G_i G, 400, .inl (iA (V 28)))) := hW 28 (by decide)
  have c29 : h (A 29) = some (.inl (G_i G, 400, .inl (iA (V 29)))) := hW 29 (by decide)
  have c30 : h (A 30) = some (.inr (11, fsN 34 σ)) := hW 30 (by decide)
  have c31 : h (A 31) = some (.inl (G_i G, 1000, .inl (iA (V 31)))) := hW 31 (by decide)
  have c32 : h (A 32) = some (.inl (G_j G, 16, .inr (.inl (lA (V 32))))) := hW 32 (by decide)
  have c33 : h (A 33) = some (.inl (G_j G, 16, .inr (.inl (lA (V 33))))) := hW 33 (by decide)
  have c34 : h (A 34) = some (.inl (G_i G, 16, .inl (iA (V 34)))) := hW 34 (by decide)
  have c35 : h (A 35) = some (.inl (G_i G, 1024, .inl (iA (V 35)))) := hW 35 (by decide)
  have c36 : h (A 36) = some (.inl (G_i G, 10, .inl (iA (V 36)))) := hW 36 (by decide)
  have c37 : h (A 37) = some (.inl (G_j G, 160, .inr (.inl (lA (V 37))))) := hW 37 (by decide)
  have c38 : h (A 38) = some (.inl (G_j G, 160, .inr (.inl (lA (V 38))))) := hW 38 (by decide)
  have c39 : h (A 39) = some (.inl (G_i G, 160, .inl (iA (V 39)))) := hW 39 (by decide)
  have c40 : h (A 40) = some (.inl (G_i G, 10240, .inl (iA (V 40)))) := hW 40 (by decide)
  have c41 : h (A 41) = some (.inl (G_j G, 16, .inr (.inl (lA (V 41))))) := hW 41 (by decide)
  have c42 : h (A 42) = some (.inl (G_j G, 16, .inr (.inl (lA (V 42))))) := hW 42 (by decide)
  have c43 : h (A 43) = some (.inl (G_i G, 16, .inl (iA (V 43)))) := hW 43 (by decide)
  have c44 : h (A 44) = some (.inl (G_i G, 1024, .inl (iA (V 44)))) := hW 44 (by decide)
  have c45 : h (A 45) = some (.inl (G_i G, 20, .inl (iA (V 45)))) := hW 45 (by decide)
  have c46 : h (A 46) = some (.inl (G_i G, 194, .inl (iA (V 46)))) := hW 46 (by decide)
  have c47 : h (A 47) = some (.inl (G_i G, 3104, .inl (iA (V 47)))) := hW 47 (by decide)
  have c48 : h (A 48) = some (.inl (G_i G, 65, .inl (iA (V 48)))) := hW 48 (by decide)
  obtain ⟨b1, b2, b3, b4, b5, b6, b7, b8, b9, b10, b11⟩ := id hRB
  obtain ⟨u1, u2, u3, u4, u5, u6, u7, u8⟩ := id b8
  obtain ⟨r1, r2, r3, r4, r5⟩ := id hRC
  obtain ⟨t1, t2, t3, t4, t5, t6, t7, t8, t9, t10, t11, t12⟩ := id hRS
  obtain ⟨p1, p2, p3, p4, p5⟩ := id hRP
  have hc1 : c ≤ 1000 := by omega
  have hct := hPa.2.1
  have hct2 : ct ≤ 10 := hPa.2.1
  refine ⟨⟨_, c0⟩, (rm 1 30), ⟨by decide, by decide, by decide, by decide⟩, rn_mono (c_CB_shot G h (A 0) (A 1) (A 3) (A 4) (A 6) (A 11) (A 13) (A 20) (A 21) (A 22) (A 5) (Z 4) (Z 5) (Z 6) (Z 7) a0 nu (V 5) c0 c4 c5 b9 b11 q0) (fun r h1 q => ?_)⟩
  obtain ⟨rfl, k1, k2, fm⟩ := q
  have hW1 : WC A (EE G A (vu V 5 ((shR a0 nu (V 5)).2.2)) (zup Z 8 (((shR a0 nu (V 5)).2.1 : Int))) Kp σ) h1 := hW.up (S := [4, 5]) (kFm hM fm (by decide)) ⟨k1, k2, trivial⟩ (c49 (fun _ => rfl) (fun _ => rfl) (fun _ => rfl) (fun _ => rfl) (fun n9 => absurd (by decide) n9) (fun n9 => absurd (by decide) n9) (fun _ => rfl) (fun _ => rfl) (fun _ => rfl) (fun _ => rfl) (fun _ => rfl) (fun _ => rfl) (fun _ => rfl) (fun _ => rfl) (fun _ => rfl) (fun _ => rfl) (fun _ => rfl) (fun _ => rfl) (fun _ => rfl) (fun _ => rfl) (fun _ => rfl) (fun _ => rfl) (fun _ => rfl) (fun _ => rfl) (fun _ => rfl) (fun _ => rfl) (fun _ => rfl) (fun _ => rfl) (fun _ => rfl) (fun _ => rfl) (fun _ => rfl) (fun _ => rfl) (fun _ => rfl) (fun _ => rfl) (fun _ => rfl) (fun _ => rfl) (fun _ => rfl) (fun _ => rfl) (fun _ => rfl) (fun _ => rfl) (fun _ => rfl) (fun _ => rfl) (fun _ => rfl) (fun _ => rfl) (fun _ => rfl) (fun _ => rfl) (fun _ => rfl) (fun _ => rfl) (fun _ => rfl))
  have g30 : h1 (A 30) = some (.inr (11, fsN 34 σ)) := hW1 30 (by decide)
  have g31 : h1 (A 31) = some (.inl (G_i G, 1000, .inl (iA (V 31)))) := hW1 31 (by decide)
  have g32 : h1 (A 32) = some (.inl (G_j G, 16, .inr (.inl (lA (V 32))))) := hW1 32 (by decide)
  have g33 : h1 (A 33) = some (.inl (G_j G, 16, .inr (.inl (lA (V 33))))) := hW1 33 (by decide)
  have g34 : h1 (A 34) = some (.inl (G_i G, 16, .inl (iA (V 34)))) := hW1 34 (by decide)
  have g35 : h1 (A 35) = some (.inl (G_i G, 1024, .inl (iA (V 35)))) := hW1 35 (by decide)
  have g36 : h1 (A 36) = some (.inl (G_i G, 10, .inl (iA (V 36)))) := hW1 36 (by decide)
  have g37 : h1 (A 37) = some (.inl (G_j G, 160, .inr (.inl (lA (V 37))))) := hW1 37 (by decide)
  have g38 : h1 (A 38) = some (.inl (G_j G, 160, .inr (.inl (lA (V 38))))) := hW1 38 (by decide)
  have g39 : h1 (A 39) = some (.inl (G_i G, 160, .inl (iA (V 39)))) := hW1 39 (by decide)
  have g40 : h1 (A 40) = some (.inl (G_i G, 10240, .inl (iA (V 40)))) := hW1 40 (by decide)
  have g41 : h1 (A 41) = some (.inl (G_j G, 16, .inr (.inl (lA (V 41))))) := hW1 41 (by decide)
  have g42 : h1 (A 42) = some (.inl (G_j G, 16, .inr (.inl (lA (V 42))))) := hW1 42 (by decide)
  have g43 : h1 (A 43) = some (.inl (G_i G, 16, .inl (iA (V 43)))) := hW1 43 (by decide)
  have g44 : h1 (A 44) = some (.inl (G_i G, 1024, .inl (iA (V 44)))) := hW1 44 (by decide)
  have g45 : h1 (A 45) = some (.inl (G_i G, 20, .inl (iA (V 45)))) := hW1 45 (by decide)
  have g46 : h1 (A 46) = some (.inl (G_i G, 194, .inl (iA (V 46)))) := hW1 46 (by decide)
  have g47 : h1 (A 47) = some (.inl (G_i G, 3104, .inl (iA (V 47)))) := hW1 47 (by decide)
  have g48 : h1 (A 48) = some (.inl (G_i G, 65, .inl (iA (V 48)))) := hW1 48 (by decide)
  have hPa1 := pFm (S := [4, 5]) hM hPa fm (by decide)
  refine ⟨(shR a0 nu (V 5)).1, shR_r b9, rfl, ⟨_, g30⟩, (rm 0 0), ⟨by decide, by decide, by decide, by decide⟩, rn_mono (c_Mo_shot G h1 σ (A 30) (A 45) a0 nu (V 5) g30 f25 f26 (by rw [← b10]; exact g45) b9 b11 q0) (fun r2 h2 q2 => ?_)⟩
  obtain ⟨rfl, ⟨σ2, gm, m25, gs⟩, gu, fm2⟩ := q2
  obtain ⟨y1, y2⟩ := shR_k (f := a0) b9 b11
  have hW2 : WC A (EE G A (vu (vu V 5 ((shR a0 nu (V 5)).2.2)) 45 ((shR a0 nu (V 5)).2.2)) (zup Z 8 (((shR a0 nu (V 5)).2.1 : Int))) Kp σ2) h2 := hW1.up (S := [30, 45]) (kFm hM fm2 (by decide)) ⟨gm, gu, trivial⟩ (c49 (fun _ => rfl) (fun _ => rfl) (fun _ => rfl) (fun _ => rfl) (fun _ => rfl) (fun _ => rfl) (fun _ => rfl) (fun _ => rfl) (fun _ => rfl) (fun _ => rfl) (fun _ => rfl) (fun _ => rfl) (fun _ => rfl) (fun _ => rfl) (fun _ => rfl) (fun _ => rfl) (fun _ => rfl) (fun _ => rfl) (fun _ => rfl) (fun _ => rfl) (fun _ => rfl) (fun _ => rfl) (fun _ => rfl) (fun _ => rfl) (fun _ => rfl) (fun _ => rfl) (fun _ => rfl) (fun _ => rfl) (fun _ => rfl) (fun _ => rfl) (fun n9 => absurd (by decide) n9) (fun _ => rfl) (fun _ => rfl) (fun _ => rfl) (fun _ => rfl) (fun _ => rfl) (fun _ => rfl) (fun _ => rfl) (fun _ => rfl) (fun _ => rfl) (fun _ => rfl) (fun _ => rfl) (fun _ => rfl) (fun _ => rfl) (fun _ => rfl) (fun n9 => absurd (by decide) n9) (fun _ => rfl) (fun _ => rfl) (fun _ => rfl))
  exact ⟨rfl, hM, (vu (vu V 5 ((shR a0 nu (V 5)).2.2)) 45 ((shR a0 nu (V 5)).2.2)), (zup Z 8 (((shR a0 nu (V 5)).2.1 : Int))), Kp, Ke, C, σ2, n0, (shR a0 nu (V 5)).2.1, n, (c % 10), ct, c, hW2, ⟨(gs 0 (by decide)).trans e0, (gs 1 (by decide)).trans e1, (gs 2 (by decide)).trans e2, (gs 3 (by decide)).trans e3, (gs 4 (by decide)).trans e4, (gs 5 (by decide)).trans e5, (gs 6 (by decide)).trans e6, (gs 7 (by decide)).trans e7, (gs 8 (by decide)).trans e8, (gs 9 (by decide)).trans e9, (gs 10 (by decide)).trans e10, (gs 11 (by decide)).trans e11, (gs 12 (by decide)).trans e12, (gs 13 (by decide)).trans e13, (gs 14 (by decide)).trans e14, (gs 15 (by decide)).trans e15, (gs 19 (by decide)).trans e19, (gs 20 (by decide)).trans e20, (gs 21 (by decide)).trans e21, (gs 22 (by decide)).trans e22, m25, (gs 26 (by decide)).trans e26, (gs 27 (by decide)).trans e27, (gs 28 (by decide)).trans e28, (gs 29 (by decide)).trans e29, (gs 30 (by decide)).trans e30, (gs 31 (by decide)).trans e31, (gs 32 (by decide)).trans e32, (gs 33 (by decide)).trans e33⟩, pFm (S := [30, 45]) hM hPa1 fm2 (by decide), ⟨z0, rfl, z9, z10, z11, z21⟩, ⟨b1, b2, b3, b4, b5, b6, b7, b8, y1, rfl, y2⟩, hRC, hRS, hRP, by omega⟩
set_option maxHeartbeats 4000000 in
set_option maxRecDepth 100000 in
theorem duo_write (G : GT) (A : Nat → Nat) (i : Nat) (h : HM) (hI : Inv G A i h) (hi : i ≤ 511) : ∀ a0 : Int, iR a0 → Duo G (A 0) (A 30) M_CB_write M_Mo_write [.int (iZ a0)] mI iR h (Inv G A (i + 1)) := by
  intro a0 q0
  obtain ⟨hM, V, Z, Kp, Ke, C, σ, n0, nu, n, nx, ct, c, hW, hSg, hPa, ⟨z0, z8, z9, z10, z11, z21⟩, hRB, hRC, hRS, hRP, hci⟩ := hI
  obtain rfl : nx = c % 10 := hRP.2.2.2.1
  obtain ⟨e0, e1, e2, e3, e4, e5, e6, e7, e8, e9, e10, e11, e12, e13, e14, e15, e19, e20, e21, e22, e25, e26, e27, e28, e29, e30, e31, e32, e33⟩ := id hSg
  have f0 : σ 0 = .int (iZ (n0 : Int)) := by rw [← z0]; exact e0
  have f1 : σ 1 = .ref (A 31) := e1
  have f2 : σ 2 = .int (iZ (Z 1)) := e2
  have f3 : σ 3 = .int (iZ (Z 2)) := e3
  have f4 : σ 4 = .int (iZ (n : Int)) := by rw [← z9]; exact e4
  have f5 : σ 5 = .ref (A 32) := e5
  have f6 : σ 6 = .ref (A 33) := e6
  have f7 : σ 7 = .ref (A 34) := e7
  have f8 : σ 8 = .ref (A 35) := e8
  have f9 : σ 9 = .int (iZ (c : Int)) := by rw [← z21]; exact e9
  have f10 : σ 10 = .int (iZ (ct : Int)) := by rw [← z11]; exact e10
  have f11 : σ 11 = .ref (A 36) := e11
  have f12 : σ 12 = .ref (A 37) := e12
  have f13 : σ 13 = .ref (A 38) := e13
  have f14 : σ 14 = .ref (A 39) := e14
  have f15 : σ 15 = .ref (A 40) := e15
  have f19 : σ 19 = .ref (A 41) := e19
  have f20 : σ 20 = .ref (A 42) := e20
  have f21 : σ 21 = .ref (A 43) := e21
  have f22 : σ 22 = .ref (A 44) := e22
  have f25 : σ 25 = .int (iZ (nu : Int)) := by rw [← z8]; exact e25
  have f26 : σ 26 = .ref (A 45) := e26
  have f27 : σ 27 = .int (iZ (Z 4)) := e27
  have f28 : σ 28 = .int (iZ (Z 5)) := e28
  have f29 : σ 29 = .int (iZ (Z 6)) := e29
  have f30 : σ 30 = .int (iZ (Z 7)) := e30
  have f31 : σ 31 = .ref (A 46) := e31
  have f32 : σ 32 = .ref (A 47) := e32
  have f33 : σ 33 = .ref (A 48) := e33
  have c0 : h (A 0) = some (.inr (0, [.ref (A 1), .ref (A 3), .ref (A 4), .ref (A 6), .ref (A 11), .ref (A 13), .ref (A 20), .ref (A 21), .ref (A 22)])) := hW 0 (by decide)
  have c1 : h (A 1) = some (.inr (1, [.ref (A 2), .int (iZ (n0 : Int))])) := by rw [← z0]; exact hW 1 (by decide)
  have c2 : h (A 2) = some (.inl (G_i G, 1000, .inl (iA (V 2)))) := hW 2 (by decide)
  have c3 : h (A 3) = some (.inr (5, [.int (iZ (Z 1)), .int (iZ (Z 2)), .long (lZ (Z 3))])) := hW 3 (by decide)
  have c4 : h (A 4) = some (.inr (10, [.int (iZ (Z 4)), .int (iZ (Z 5)), .int (iZ (Z 6)), .int (iZ (Z 7)), .ref (A 5), .int (iZ (nu : Int))])) := by rw [← z8]; exact hW 4 (by decide)
  have c5 : h (A 5) = some (.inl (G_i G, 20, .inl (iA (V 5)))) := hW 5 (by decide)
  have c6 : h (A 6) = some (.inr (2, [.ref (A 7), .ref (A 8), .ref (A 9), .ref (A 10), .int (iZ (n : Int))])) := by rw [← z9]; exact hW 6 (by decide)
  have c7 : h (A 7) = some (.inl (G_j G, 16, .inr (.inl (lA (V 7))))) := hW 7 (by decide)
  have c8 : h (A 8) = some (.inl (G_j G, 16, .inr (.inl (lA (V 8))))) := hW 8 (by decide)
  have c9 : h (A 9) = some (.inl (G_i G, 16, .inl (iA (V 9)))) := hW 9 (by decide)
  have c10 : h (A 10) = some (.inl (G_i G, 1024, .inl (iA (V 10)))) := hW 10 (by decide)
  have c11 : h (A 11) = some (.inr (7, [.ref (A 12), .int (iZ ((c % 10 : Nat) : Int)), .int (iZ (ct : Int))])) := by rw [← z10, ← z11]; exact hW 11 (by decide)
  have c12 : h (A 12) = some (.inl (G_q G, 10, .inr (.inr (.inr (.inr Kp))))) := hW 12 (by decide)
  have c13 : h (A 13) = some (.inr (3, [.ref (A 1), .ref (A 3), .ref (A 14), .ref (A 19), .int (iZ (Z 12)), .int (iZ (Z 13)), .int (iZ (Z 14)), .long (lZ (Z 15)), .long (lZ (Z 16)), .long (lZ (Z 17))])) := hW 13 (by decide)
  have c14 : h (A 14) = some (.inr (2, [.ref (A 15), .ref (A 16), .ref (A 17), .ref (A 18), .int (iZ (Z 18))])) := hW 14 (by decide)
  have c15 : h (A 15) = some (.inl (G_j G, 16, .inr (.inl (lA (V 15))))) := hW 15 (by decide)
  have c16 : h (A 16) = some (.inl (G_j G, 16, .inr (.inl (lA (V 16))))) := hW 16 (by decide)
  have c17 : h (A 17) = some (.inl (G_i G, 16, .inl (iA (V 17)))) := hW 17 (by decide)
  have c18 : h (A 18) = some (.inl (G_i G, 1024, .inl (iA (V 18)))) := hW 18 (by decide)
  have c19 : h (A 19) = some (.inl (G_i G, 64, .inl (iA (V 19)))) := hW 19 (by decide)
  have c20 : h (A 20) = some (.inr (4, [.ref (A 1), .ref (A 3), .ref (A 6)])) := hW 20 (by decide)
  have c21 : h (A 21) = some (.inr (6, [.ref (A 6), .int (iZ (Z 19)), .int (iZ (Z 20))])) := hW 21 (by decide)
  have c22 : h (A 22) = some (.inr (9, [.ref (A 6), .ref (A 3), .ref (A 4), .ref (A 23), .ref (A 24), .ref (A 25), .ref (A 26), .ref (A 27), .ref (A 28), .ref (A 29)])) := hW 22 (by decide)
  have c23 : h (A 23) = some (.inl (G_i G, 16, .inl (iA (V 23)))) := hW 23 (by decide)
  have c24 : h (A 24) = some (.inl (G_i G, 16, .inl (iA (V 24)))) := hW 24 (by decide)
  have c25 : h (A 25) = some (.inl (G_i G, 16, .inl (iA (V 25)))) := hW 25 (by decide)
  have c26 : h (A 26) = some (.inl (G_i G, 97, .inl (iA (V 26)))) := hW 26 (by decide)
  have c27 : h (A 27) = some (.inl (G_i G, 400, .inl (iA (V 27)))) := hW 27 (by decide)
  have c28 : h (A 28) = some (.inl (G_i G, 400, .inl (iA (V 28)))) := hW 28 (by decide)
  have c29 : h (A 29) = some (.inl (G_i G, 400, .inl (iA (V 29)))) := hW 29 (by decide)
  have c30 : h (A 30) = some (.inr (11, fsN 34 σ)) := hW 30 (by decide)
  have c31 : h (A 31) = some (.inl (G_i G, 1000, .inl (iA (V 31)))) := hW 31 (by decide)
  have c32 : h (A 32) = some (.inl (G_j G, 16, .inr (.inl (lA (V 32))))) := hW 32 (by decide)
  have c33 : h (A 33) = some (.inl (G_j G, 16, .inr (.inl (lA (V 33))))) := hW 33 (by decide)
  have c34 : h (A 34) = some (.inl (G_i G, 16, .inl (iA (V 34)))) := hW 34 (by decide)
  have c35 : h (A 35) = some (.inl (G_i G, 1024, .inl (iA (V 35)))) := hW 35 (by decide)
  have c36 : h (A 36) = some (.inl (G_i G, 10, .inl (iA (V 36)))) := hW 36 (by decide)
  have c37 : h (A 37) = some (.inl (G_j G, 160, .inr (.inl (lA (V 37))))) := hW 37 (by decide)
  have c38 : h (A 38) = some (.inl (G_j G, 160, .inr (.inl (lA (V 38))))) := hW 38 (by decide)
  have c39 : h (A 39) = some (.inl (G_i G, 160, .inl (iA (V 39)))) := hW 39 (by decide)
  have c40 : h (A 40) = some (.inl (G_i G, 10240, .inl (iA (V 40)))) := hW 40 (by decide)
  have c41 : h (A 41) = some (.inl (G_j G, 16, .inr (.inl (lA (V 41))))) := hW 41 (by decide)
  have c42 : h (A 42) = some (.inl (G_j G, 16, .inr (.inl (lA (V 42))))) := hW 42 (by decide)
  have c43 : h (A 43) = some (.inl (G_i G, 16, .inl (iA (V 43)))) := hW 43 (by decide)
  have c44 : h (A 44) = some (.inl (G_i G, 1024, .inl (iA (V 44)))) := hW 44 (by decide)
  have c45 : h (A 45) = some (.inl (G_i G, 20, .inl (iA (V 45)))) := hW 45 (by decide)
  have c46 : h (A 46) = some (.inl (G_i G, 194, .inl (iA (V 46)))) := hW 46 (by decide)
  have c47 : h (A 47) = some (.inl (G_i G, 3104, .inl (iA (V 47)))) := hW 47 (by decide)
  have c48 : h (A 48) = some (.inl (G_i G, 65, .inl (iA (V 48)))) := hW 48 (by decide)
  obtain ⟨b1, b2, b3, b4, b5, b6, b7, b8, b9, b10, b11⟩ := id hRB
  obtain ⟨u1, u2, u3, u4, u5, u6, u7, u8⟩ := id b8
  obtain ⟨r1, r2, r3, r4, r5⟩ := id hRC
  obtain ⟨t1, t2, t3, t4, t5, t6, t7, t8, t9, t10, t11, t12⟩ := id hRS
  obtain ⟨p1, p2, p3, p4, p5⟩ := id hRP
  have hc1 : c ≤ 1000 := by omega
  have hct := hPa.2.1
  have hct2 : ct ≤ 10 := hPa.2.1
  by_cases w1 : a0 = 0 ∨ a0 = 1 ∨ a0 = 2
  ·
    refine ⟨⟨_, c0⟩, (rm 6 180), ⟨by decide, by decide, by decide, by decide⟩, rn_mono (c_CB_write G h (A 0) (A 1) (A 3) (A 4) (A 6) (A 11) (A 13) (A 20) (A 21) (A 22) (A 2) (V 2) (A 7) (A 8) (A 9) (A 10) n (V 7) (V 8) (V 9) (V 10) (Z 1) (Z 2) (Z 3) a0 (n0 : Int) c0 c20 c3 c6 c7 c8 c9 c10 c1 c2 b7 r3.1 r3.2.1 r3.2.2.1 r3.2.2.2 r1 w1) (fun r h1 q => ?_)⟩
    have eo : outs a0 (Z 3) (V 7) (V 8) (V 9) (V 10) n = outs a0 (Z 3) (V 32) (V 33) (V 34) (V 35) n := v_outs r2 n (Nat.le_refl _)
    by_cases w2 : (outs a0 (Z 3) (V 7) (V 8) (V 9) (V 10) n).length ≤ 1000
    · obtain ⟨rfl, k1, k2, fm⟩ := q.2 w2
      have hW1 : WC A (EE G A (vu V 2 (pL (V 2) (outs a0 (Z 3) (V 7) (V 8) (V 9) (V 10) n))) (zup Z 0 (((outs a0 (Z 3) (V 7) (V 8) (V 9) (V 10) n).length : Int))) Kp σ) h1 := hW.up (S := [1, 2]) (kFm hM fm (by decide)) ⟨k1, k2, trivial⟩ (c49 (fun _ => rfl) (fun n9 => absurd (by decide) n9) (fun n9 => absurd (by decide) n9) (fun _ => rfl) (fun _ => rfl) (fun _ => rfl) (fun _ => rfl) (fun _ => rfl) (fun _ => rfl) (fun _ => rfl) (fun _ => rfl) (fun _ => rfl) (fun _ => rfl) (fun _ => rfl) (fun _ => rfl) (fun _ => rfl) (fun _ => rfl) (fun _ => rfl) (fun _ => rfl) (fun _ => rfl) (fun _ => rfl) (fun _ => rfl) (fun _ => rfl) (fun _ => rfl) (fun _ => rfl) (fun _ => rfl) (fun _ => rfl) (fun _ => rfl) (fun _ => rfl) (fun _ => rfl) (fun _ => rfl) (fun _ => rfl) (fun _ => rfl) (fun _ => rfl) (fun _ => rfl) (fun _ => rfl) (fun _ => rfl) (fun _ => rfl) (fun _ => rfl) (fun _ => rfl) (fun _ => rfl) (fun _ => rfl) (fun _ => rfl) (fun _ => rfl) (fun _ => rfl) (fun _ => rfl) (fun _ => rfl) (fun _ => rfl) (fun _ => rfl))
      have g30 : h1 (A 30) = some (.inr (11, fsN 34 σ)) := hW1 30 (by decide)
      have g31 : h1 (A 31) = some (.inl (G_i G, 1000, .inl (iA (V 31)))) := hW1 31 (by decide)
      have g32 : h1 (A 32) = some (.inl (G_j G, 16, .inr (.inl (lA (V 32))))) := hW1 32 (by decide)
      have g33 : h1 (A 33) = some (.inl (G_j G, 16, .inr (.inl (lA (V 33))))) := hW1 33 (by decide)
      have g34 : h1 (A 34) = some (.inl (G_i G, 16, .inl (iA (V 34)))) := hW1 34 (by decide)
      have g35 : h1 (A 35) = some (.inl (G_i G, 1024, .inl (iA (V 35)))) := hW1 35 (by decide)
      have g36 : h1 (A 36) = some (.inl (G_i G, 10, .inl (iA (V 36)))) := hW1 36 (by decide)
      have g37 : h1 (A 37) = some (.inl (G_j G, 160, .inr (.inl (lA (V 37))))) := hW1 37 (by decide)
      have g38 : h1 (A 38) = some (.inl (G_j G, 160, .inr (.inl (lA (V 38))))) := hW1 38 (by decide)
      have g39 : h1 (A 39) = some (.inl (G_i G, 160, .inl (iA (V 39)))) := hW1 39 (by decide)
      have g40 : h1 (A 40) = some (.inl (G_i G, 10240, .inl (iA (V 40)))) := hW1 40 (by decide)
      have g41 : h1 (A 41) = some (.inl (G_j G, 16, .inr (.inl (lA (V 41))))) := hW1 41 (by decide)
      have g42 : h1 (A 42) = some (.inl (G_j G, 16, .inr (.inl (lA (V 42))))) := hW1 42 (by decide)
      have g43 : h1 (A 43) = some (.inl (G_i G, 16, .inl (iA (V 43)))) := hW1 43 (by decide)
      have g44 : h1 (A 44) = some (.inl (G_i G, 1024, .inl (iA (V 44)))) := hW1 44 (by decide)
      have g45 : h1 (A 45) = some (.inl (G_i G, 20, .inl (iA (V 45)))) := hW1 45 (by decide)
      have g46 : h1 (A 46) = some (.inl (G_i G, 194, .inl (iA (V 46)))) := hW1 46 (by decide)
      have g47 : h1 (A 47) = some (.inl (G_i G, 3104, .inl (iA (V 47)))) := hW1 47 (by decide)
      have g48 : h1 (A 48) = some (.inl (G_i G, 65, .inl (iA (V 48)))) := hW1 48 (by decide)
      have hPa1 := pFm (S := [1, 2]) hM hPa fm (by decide)
      refine ⟨((outs a0 (Z 3) (V 7) (V 8) (V 9) (V 10) n).length : Int), by omega, rfl, ⟨_, g30⟩, (rm 4 120), ⟨by decide, by decide, by decide, by decide⟩, rn_mono (c_Mo_write G h1 σ (A 30) (A 31) (V 31) n (A 32) (A 33) (A 34) (A 35) (V 32) (V 33) (V 34) (V 35) (Z 1) (Z 2) (Z 3) a0 g30 f1 f4 f2 f3 f5 f6 f7 f8 g31 g32 g33 g34 g35 b4 b5 b6 b7 r4.1 r4.2.1 r4.2.2.1 r4.2.2.2 r1 w1 (hM.ne (i := 32) (j := 33) (by decide) (by decide) (by decide))) (fun r2 h2 q2 => ?_)⟩
      rw [← eo] at q2
      obtain ⟨rfl, ⟨σ2, gm, m0, gs⟩, gu, fm2⟩ := q2.2 w2
      have hW2 : WC A (EE G A (vu (vu V 2 (pL (V 2) (outs a0 (Z 3) (V 7) (V 8) (V 9) (V 10) n))) 31 (pL (V 31) (outs a0 (Z 3) (V 7) (V 8) (V 9) (V 10) n))) (zup Z 0 (((outs a0 (Z 3) (V 7) (V 8) (V 9) (V 10) n).length : Int))) Kp σ2) h2 := hW1.up (S := [30, 31]) (kFm hM fm2 (by decide)) ⟨gm, gu, trivial⟩ (c49 (fun _ => rfl) (fun _ => rfl) (fun _ => rfl) (fun _ => rfl) (fun _ => rfl) (fun _ => rfl) (fun _ => rfl) (fun _ => rfl) (fun _ => rfl) (fun _ => rfl) (fun _ => rfl) (fun _ => rfl) (fun _ => rfl) (fun _ => rfl) (fun _ => rfl) (fun _ => rfl) (fun _ => rfl) (fun _ => rfl) (fun _ => rfl) (fun _ => rfl) (fun _ => rfl) (fun _ => rfl) (fun _ => rfl) (fun _ => rfl) (fun _ => rfl) (fun _ => rfl) (fun _ => rfl) (fun _ => rfl) (fun _ => rfl) (fun _ => rfl) (fun n9 => absurd (by decide) n9) (fun n9 => absurd (by decide) n9) (fun _ => rfl) (fun _ => rfl) (fun _ => rfl) (fun _ => rfl) (fun _ => rfl) (fun _ => rfl) (fun _ => rfl) (fun _ => rfl) (fun _ => rfl) (fun _ => rfl) (fun _ => rfl) (fun _ => rfl) (fun _ => rfl) (fun _ => rfl) (fun _ => rfl) (fun _ => rfl) (fun _ => rfl))
      exact ⟨rfl, hM, (vu (vu V 2 (pL (V 2) (outs a0 (Z 3) (V 7) (V 8) (V 9) (V 10) n))) 31 (pL (V 31) (outs a0 (Z 3) (V 7) (V 8) (V 9) (V 10) n))), (zup Z 0 (((outs a0 (Z 3) (V 7) (V 8) (V 9) (V 10) n).length : Int))), Kp, Ke, C, σ2, (outs a0 (Z 3) (V 7) (V 8) (V 9) (V 10) n).length, nu, n, (c % 10), ct, c, hW2, ⟨m0, (gs 1 (by decide)).trans e1, (gs 2 (by decide)).trans e2, (gs 3 (by decide)).trans e3, (gs 4 (by decide)).trans e4, (gs 5 (by decide)).trans e5, (gs 6 (by decide)).trans e6, (gs 7 (by decide)).trans e7, (gs 8 (by decide)).trans e8, (gs 9 (by decide)).trans e9, (gs 10 (by decide)).trans e10, (gs 11 (by decide)).trans e11, (gs 12 (by decide)).trans e12, (gs 13 (by decide)).trans e13, (gs 14 (by decide)).trans e14, (gs 15 (by decide)).trans e15, (gs 19 (by decide)).trans e19, (gs 20 (by decide)).trans e20, (gs 21 (by decide)).trans e21, (gs 22 (by decide)).trans e22, (gs 25 (by decide)).trans e25, (gs 26 (by decide)).trans e26, (gs 27 (by decide)).trans e27, (gs 28 (by decide)).trans e28, (gs 29 (by decide)).trans e29, (gs 30 (by decide)).trans e30, (gs 31 (by decide)).trans e31, (gs 32 (by decide)).trans e32, (gs 33 (by decide)).trans e33⟩, pFm (S := [30, 31]) hM hPa1 fm2 (by decide), ⟨rfl, z8, z9, z10, z11, z21⟩, ⟨w2, by show pL (V 31) _ = pL (V 2) _; rw [b2], pL_r b3 (outs_r r3.2.2.1 r3.2.2.2 n), b4, b5, b6, b7, b8, b9, b10, b11⟩, hRC, hRS, hRP, by omega⟩
    · obtain ⟨rfl, hx9⟩ := q.1 (by omega)
      have hW1 : WC A (EE G A V Z Kp σ) h1 := by rw [hx9]; exact hW
      have hPa1 : PaW G h1 (A 48) (A 11) (A 12) (c % 10) ct Kp Ke C := by rw [hx9]; exact hPa
      have g30 : h1 (A 30) = some (.inr (11, fsN 34 σ)) := hW1 30 (by decide)
      have g31 : h1 (A 31) = some (.inl (G_i G, 1000, .inl (iA (V 31)))) := hW1 31 (by decide)
      have g32 : h1 (A 32) = some (.inl (G_j G, 16, .inr (.inl (lA (V 32))))) := hW1 32 (by decide)
      have g33 : h1 (A 33) = some (.inl (G_j G, 16, .inr (.inl (lA (V 33))))) := hW1 33 (by decide)
      have g34 : h1 (A 34) = some (.inl (G_i G, 16, .inl (iA (V 34)))) := hW1 34 (by decide)
      have g35 : h1 (A 35) = some (.inl (G_i G, 1024, .inl (iA (V 35)))) := hW1 35 (by decide)
      have g36 : h1 (A 36) = some (.inl (G_i G, 10, .inl (iA (V 36)))) := hW1 36 (by decide)
      have g37 : h1 (A 37) = some (.inl (G_j G, 160, .inr (.inl (lA (V 37))))) := hW1 37 (by decide)
      have g38 : h1 (A 38) = some (.inl (G_j G, 160, .inr (.inl (lA (V 38))))) := hW1 38 (by decide)
      have g39 : h1 (A 39) = some (.inl (G_i G, 160, .inl (iA (V 39)))) := hW1 39 (by decide)
      have g40 : h1 (A 40) = some (.inl (G_i G, 10240, .inl (iA (V 40)))) := hW1 40 (by decide)
      have g41 : h1 (A 41) = some (.inl (G_j G, 16, .inr (.inl (lA (V 41))))) := hW1 41 (by decide)
      have g42 : h1 (A 42) = some (.inl (G_j G, 16, .inr (.inl (lA (V 42))))) := hW1 42 (by decide)
      have g43 : h1 (A 43) = some (.inl (G_i G, 16, .inl (iA (V 43)))) := hW1 43 (by decide)
      have g44 : h1 (A 44) = some (.inl (G_i G, 1024, .inl (iA (V 44)))) := hW1 44 (by decide)
      have g45 : h1 (A 45) = some (.inl (G_i G, 20, .inl (iA (V 45)))) := hW1 45 (by decide)
      have g46 : h1 (A 46) = some (.inl (G_i G, 194, .inl (iA (V 46)))) := hW1 46 (by decide)
      have g47 : h1 (A 47) = some (.inl (G_i G, 3104, .inl (iA (V 47)))) := hW1 47 (by decide)
      have g48 : h1 (A 48) = some (.inl (G_i G, 65, .inl (iA (V 48)))) := hW1 48 (by decide)
      refine ⟨-3, by decide, rfl, ⟨_, g30⟩, (rm 4 120), ⟨by decide, by decide, by decide, by decide⟩, rn_mono (c_Mo_write G h1 σ (A 30) (A 31) (V 31) n (A 32) (A 33) (A 34) (A 35) (V 32) (V 33) (V 34) (V 35) (Z 1) (Z 2) (Z 3) a0 g30 f1 f4 f2 f3 f5 f6 f7 f8 g31 g32 g33 g34 g35 b4 b5 b6 b7 r4.1 r4.2.1 r4.2.2.1 r4.2.2.2 r1 w1 (hM.ne (i := 32) (j := 33) (by decide) (by decide) (by decide))) (fun r2 h2 q2 => ?_)⟩
      rw [← eo] at q2
      obtain ⟨rfl, ⟨σ2, gm, gs⟩, gu, fm2⟩ := q2.1 (by omega)
      have hW2 : WC A (EE G A V Z Kp σ2) h2 := hW1.up (S := [30, 31]) (kFm hM fm2 (by decide)) ⟨gm, gu, trivial⟩ (c49 (fun _ => rfl) (fun _ => rfl) (fun _ => rfl) (fun _ => rfl) (fun _ => rfl) (fun _ => rfl) (fun _ => rfl) (fun _ => rfl) (fun _ => rfl) (fun _ => rfl) (fun _ => rfl) (fun _ => rfl) (fun _ => rfl) (fun _ => rfl) (fun _ => rfl) (fun _ => rfl) (fun _ => rfl) (fun _ => rfl) (fun _ => rfl) (fun _ => rfl) (fun _ => rfl) (fun _ => rfl) (fun _ => rfl) (fun _ => rfl) (fun _ => rfl) (fun _ => rfl) (fun _ => rfl) (fun _ => rfl) (fun _ => rfl) (fun _ => rfl) (fun n9 => absurd (by decide) n9) (fun n9 => absurd (by decide) n9) (fun _ => rfl) (fun _ => rfl) (fun _ => rfl) (fun _ => rfl) (fun _ => rfl) (fun _ => rfl) (fun _ => rfl) (fun _ => rfl) (fun _ => rfl) (fun _ => rfl) (fun _ => rfl) (fun _ => rfl) (fun _ => rfl) (fun _ => rfl) (fun _ => rfl) (fun _ => rfl) (fun _ => rfl))
      exact ⟨rfl, hM, V, Z, Kp, Ke, C, σ2, n0, nu, n, (c % 10), ct, c, hW2, ⟨(gs 0 (by decide)).trans e0, (gs 1 (by decide)).trans e1, (gs 2 (by decide)).trans e2, (gs 3 (by decide)).trans e3, (gs 4 (by decide)).trans e4, (gs 5 (by decide)).trans e5, (gs 6 (by decide)).trans e6, (gs 7 (by decide)).trans e7, (gs 8 (by decide)).trans e8, (gs 9 (by decide)).trans e9, (gs 10 (by decide)).trans e10, (gs 11 (by decide)).trans e11, (gs 12 (by decide)).trans e12, (gs 13 (by decide)).trans e13, (gs 14 (by decide)).trans e14, (gs 15 (by decide)).trans e15, (gs 19 (by decide)).trans e19, (gs 20 (by decide)).trans e20, (gs 21 (by decide)).trans e21, (gs 22 (by decide)).trans e22, (gs 25 (by decide)).trans e25, (gs 26 (by decide)).trans e26, (gs 27 (by decide)).trans e27, (gs 28 (by decide)).trans e28, (gs 29 (by decide)).trans e29, (gs 30 (by decide)).trans e30, (gs 31 (by decide)).trans e31, (gs 32 (by decide)).trans e32, (gs 33 (by decide)).trans e33⟩, pFm (S := [30, 31]) hM hPa1 fm2 (by decide), ⟨z0, z8, z9, z10, z11, z21⟩, hRB, hRC, hRS, hRP, by omega⟩
  ·
    refine ⟨⟨_, c0⟩, (rm 1 30), ⟨by decide, by decide, by decide, by decide⟩, rn_mono (c_CB_writeB G h (A 0) a0 q0 w1) (fun r h1 q => ?_)⟩
    obtain ⟨rfl, hx9⟩ := q
    have hW1 : WC A (EE G A V Z Kp σ) h1 := by rw [hx9]; exact hW
    have hPa1 : PaW G h1 (A 48) (A 11) (A 12) (c % 10) ct Kp Ke C := by rw [hx9]; exact hPa
    have g30 : h1 (A 30) = some (.inr (11, fsN 34 σ)) := hW1 30 (by decide)
    have g31 : h1 (A 31) = some (.inl (G_i G, 1000, .inl (iA (V 31)))) := hW1 31 (by decide)
    have g32 : h1 (A 32) = some (.inl (G_j G, 16, .inr (.inl (lA (V 32))))) := hW1 32 (by decide)
    have g33 : h1 (A 33) = some (.inl (G_j G, 16, .inr (.inl (lA (V 33))))) := hW1 33 (by decide)
    have g34 : h1 (A 34) = some (.inl (G_i G, 16, .inl (iA (V 34)))) := hW1 34 (by decide)
    have g35 : h1 (A 35) = some (.inl (G_i G, 1024, .inl (iA (V 35)))) := hW1 35 (by decide)
    have g36 : h1 (A 36) = some (.inl (G_i G, 10, .inl (iA (V 36)))) := hW1 36 (by decide)
    have g37 : h1 (A 37) = some (.inl (G_j G, 160, .inr (.inl (lA (V 37))))) := hW1 37 (by decide)
    have g38 : h1 (A 38) = some (.inl (G_j G, 160, .inr (.inl (lA (V 38))))) := hW1 38 (by decide)
    have g39 : h1 (A 39) = some (.inl (G_i G, 160, .inl (iA (V 39)))) := hW1 39 (by decide)
    have g40 : h1 (A 40) = some (.inl (G_i G, 10240, .inl (iA (V 40)))) := hW1 40 (by decide)
    have g41 : h1 (A 41) = some (.inl (G_j G, 16, .inr (.inl (lA (V 41))))) := hW1 41 (by decide)
    have g42 : h1 (A 42) = some (.inl (G_j G, 16, .inr (.inl (lA (V 42))))) := hW1 42 (by decide)
    have g43 : h1 (A 43) = some (.inl (G_i G, 16, .inl (iA (V 43)))) := hW1 43 (by decide)
    have g44 : h1 (A 44) = some (.inl (G_i G, 1024, .inl (iA (V 44)))) := hW1 44 (by decide)
    have g45 : h1 (A 45) = some (.inl (G_i G, 20, .inl (iA (V 45)))) := hW1 45 (by decide)
    have g46 : h1 (A 46) = some (.inl (G_i G, 194, .inl (iA (V 46)))) := hW1 46 (by decide)
    have g47 : h1 (A 47) = some (.inl (G_i G, 3104, .inl (iA (V 47)))) := hW1 47 (by decide)
    have g48 : h1 (A 48) = some (.inl (G_i G, 65, .inl (iA (V 48)))) := hW1 48 (by decide)
    refine ⟨-2, by decide, rfl, ⟨_, g30⟩, (rm 1 30), ⟨by decide, by decide, by decide, by decide⟩, rn_mono (c_Mo_writeB G h1 (A 30) a0 q0 w1) (fun r2 h2 q2 => ?_)⟩
    obtain ⟨rfl, hx8⟩ := q2
    rw [hx8]
    exact ⟨rfl, hM, V, Z, Kp, Ke, C, σ, n0, nu, n, (c % 10), ct, c, hW1, hSg, hPa1, ⟨z0, z8, z9, z10, z11, z21⟩, hRB, hRC, hRS, hRP, by omega⟩
