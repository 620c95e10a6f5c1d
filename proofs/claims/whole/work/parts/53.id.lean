theorem nbig {A : Nat → Nat} (hM : Mo A) {S : List Nat} (hS : ∀ j ∈ S, j < 49) {b : Nat} (hb : A 48 < b) : b ∉ S.map A := by
  intro w
  obtain ⟨k, hk, e⟩ := List.mem_map.mp w
  have := hM.le (hS k hk)
  omega
set_option maxHeartbeats 4000000 in
set_option maxRecDepth 100000 in
theorem duo_shift (G : GT) (A : Nat → Nat) (i : Nat) (h : HM) (hI : Inv G A i h) (hi : i ≤ 511) : ∀ a0 : Int, lR a0 → Duo G (A 0) (A 30) M_CB_shift M_Mo_shift [.long (lZ a0)] mI iR h (Inv G A (i + 1)) := by
  intro a0 q0
  obtain ⟨hM, V, Z, Kp, Ke, C, σ, n0, nu, n, nx, ct, c, hW, hSg, hPa, ⟨z0, z8, z9, z10, z11, z21⟩, hRB, hRC, hRS, hRP, hci⟩ := hI
  obtain rfl : nx = c % 10 := hRP.2.2.2.1
  obtain ⟨e0, e1, e2, e3, e4, e5, e6, e7, e8, e9, e10, e11, e12, e13, e14, e15, e19, e20, e21, e22, e25, e26, e27, e28, e29, e30, e31, e32, e33⟩ := id hSg
  have f0 : σ 0 = .int (iZ (n0 : Int)) := by rw [← z0]; exact e0
  have f1 : σ 1 = .ref (A 31) := e1
  have f2 : σ 2 = .int (iZ (Z 1)) := e2
  have f3 : σ 3 = .int (iZ (Z 2)) := e3
  have f4 : σ 4 = .int (iZ (n : Int)) := by rw [← z9]; exact e4
  have f5 : σ 5 = .ref (A 32) := e5
  have f6 : σ 6 = .ref (A 33) := e6
  have f7 : σ 7 = .ref (A 34) := e7
  have f8 : σ 8 = .ref (A 35) := e8
  have f9 : σ 9 = .int (iZ (c : Int)) := by rw [← z21]; exact e9
  have f10 : σ 10 = .int (iZ (ct : Int)) := by rw [← z11]; exact e10
  have f11 : σ 11 = .ref (A 36) := e11
  have f12 : σ 12 = .ref (A 37) := e12
  have f13 : σ 13 = .ref (A 38) := e13
  have f14 : σ 14 = .ref (A 39) := e14
  have f15 : σ 15 = .ref (A 40) := e15
  have f19 : σ 19 = .ref (A 41) := e19
  have f20 : σ 20 = .ref (A 42) := e20
  have f21 : σ 21 = .ref (A 43) := e21
  have f22 : σ 22 = .ref (A 44) := e22
  have f25 : σ 25 = .int (iZ (nu : Int)) := by rw [← z8]; exact e25
  have f26 : σ 26 = .ref (A 45) := e26
  have f27 : σ 27 = .int (iZ (Z 4)) := e27
  have f28 : σ 28 = .int (iZ (Z 5)) := e28
  have f29 : σ 29 = .int (iZ (Z 6)) := e29
  have f30 : σ 30 = .int (iZ (Z 7)) := e30
  have f31 : σ 31 = .ref (A 46) := e31
  have f32 : σ 32 = .ref (A 47) := e32
  have f33 : σ 33 = .ref (A 48) := e33
  have c0 : h (A 0) = some (.inr (0, [.ref (A 1), .ref (A 3), .ref (A 4), .ref (A 6), .ref (A 11), .ref (A 13), .ref (A 20), .ref (A 21), .ref (A 22)])) := hW 0 (by decide)
  have c1 : h (A 1) = some (.inr (1, [.ref (A 2), .int (iZ (n0 : Int))])) := by rw [← z0]; exact hW 1 (by decide)
  have c2 : h (A 2) = some (.inl (G_i G, 1000, .inl (iA (V 2)))) := hW 2 (by decide)
  have c3 : h (A 3) = some (.inr (5, [.int (iZ (Z 1)), .int (iZ (Z 2)), .long (lZ (Z 3))])) := hW 3 (by decide)
  have c4 : h (A 4) = some (.inr (10, [.int (iZ (Z 4)), .int (iZ (Z 5)), .int (iZ (Z 6)), .int (iZ (Z 7)), .ref (A 5), .int (iZ (nu : Int))])) := by rw [← z8]; exact hW 4 (by decide)
  have c5 : h (A 5) = some (.inl (G_i G, 20, .inl (iA (V 5)))) := hW 5 (by decide)
  have c6 : h (A 6) = some (.inr (2, [.ref (A 7), .ref (A 8), .ref (A 9), .ref (A 10), .int (iZ (n : Int))])) := by rw [← z9]; exact hW 6 (by decide)
  have c7 : h (A 7) = some (.inl (G_j G, 16, .inr (.inl (lA (V 7))))) := hW 7 (by decide)
  have c8 : h (A 8) = some (.inl (G_j G, 16, .inr (.inl (lA (V 8))))) := hW 8 (by decide)
  have c9 : h (A 9) = some (.inl (G_i G, 16, .inl (iA (V 9)))) := hW 9 (by decide)
  have c10 : h (A 10) = some (.inl (G_i G, 1024, .inl (iA (V 10)))) := hW 10 (by decide)
  have c11 : h (A 11) = some (.inr (7, [.ref (A 12), .int (iZ ((c % 10 : Nat) : Int)), .int (iZ (ct : Int))])) := by rw [← z10, ← z11]; exact hW 11 (by decide)
  have c12 : h (A 12) = some (.inl (G_q G, 10, .inr (.inr (.inr (.inr Kp))))) := hW 12 (by decide)
  have c13 : h (A 13) = some (.inr (3, [.ref (A 1), .ref (A 3), .ref (A 14), .ref (A 19), .int (iZ (Z 12)), .int (iZ (Z 13)), .int (iZ (Z 14)), .long (lZ (Z 15)), .long (lZ (Z 16)), .long (lZ (Z 17))])) := hW 13 (by decide)
  have c14 : h (A 14) = some (.inr (2, [.ref (A 15), .ref (A 16), .ref (A 17), .ref (A 18), .int (iZ (Z 18))])) := hW 14 (by decide)
  have c15 : h (A 15) = some (.inl (G_j G, 16, .inr (.inl (lA (V 15))))) := hW 15 (by decide)
  have c16 : h (A 16) = some (.inl (G_j G, 16, .inr (.inl (lA (V 16))))) := hW 16 (by decide)
  have c17 : h (A 17) = some (.inl (G_i G, 16, .inl (iA (V 17)))) := hW 17 (by decide)
  have c18 : h (A 18) = some (.inl (G_i G, 1024, .inl (iA (V 18)))) := hW 18 (by decide)
  have c19 : h (A 19) = some (.inl (G_i G, 64, .inl (iA (V 19)))) := hW 19 (by decide)
  have c20 : h (A 20) = some (.inr (4, [.ref (A 1), .ref (A 3), .ref (A 6)])) := hW 20 (by decide)
  have c21 : h (A 21) = some (.inr (6, [.ref (A 6), .int (iZ (Z 19)), .int (iZ (Z 20))])) := hW 21 (by decide)
  have c22 : h (A 22) = some (.inr (9, [.ref (A 6), .ref (A 3), .ref (A 4), .ref (A 23), .ref (A 24), .ref (A 25), .ref (A 26), .ref (A 27), .ref (A 28), .ref (A 29)])) := hW 22 (by decide)
  have c23 : h (A 23) = some (.inl (G_i G, 16, .inl (iA (V 23)))) := hW 23 (by decide)
  have c24 : h (A 24) = some (.inl (G_i G, 16, .inl (iA (V 24)))) := hW 24 (by decide)
  have c25 : h (A 25) = some (.inl (G_i G, 16, .inl (iA (V 25)))) := hW 25 (by decide)
  have c26 : h (A 26) = some (.inl (G_i G, 97, .inl (iA (V 26)))) := hW 26 (by decide)
  have c27 : h (A 27) = some (.inl (G_i G, 400, .inl (iA (V 27)))) := hW 27 (by decide)
  have c28 : h (A 28) = some (.inl (G_i G, 400, .inl (iA (V 28)))) := hW 28 (by decide)
  have c29 : h (A 29) = some (.inl (G_i G, 400, .inl (iA (V 29)))) := hW 29 (by decide)
  have c30 : h (A 30) = some (.inr (11, fsN 34 σ)) := hW 30 (by decide)
  have c31 : h (A 31) = some (.inl (G_i G, 1000, .inl (iA (V 31)))) := hW 31 (by decide)
  have c32 : h (A 32) = some (.inl (G_j G, 16, .inr (.inl (lA (V 32))))) := hW 32 (by decide)
  have c33 : h (A 33) = some (.inl (G_j G, 16, .inr (.inl (lA (V 33))))) := hW 33 (by decide)
  have c34 : h (A 34) = some (.inl (G_i G, 16, .inl (iA (V 34)))) := hW 34 (by decide)
  have c35 : h (A 35) = some (.inl (G_i G, 1024, .inl (iA (V 35)))) := hW 35 (by decide)
  have c36 : h (A 36) = some (.inl (G_i G, 10, .inl (iA (V 36)))) := hW 36 (by decide)
  have c37 : h (A 37) = some (.inl (G_j G, 160, .inr (.inl (lA (V 37))))) := hW 37 (by decide)
  have c38 : h (A 38) = some (.inl (G_j G, 160, .inr (.inl (lA (V 38))))) := hW 38 (by decide)
  have c39 : h (A 39) = some (.inl (G_i G, 160, .inl (iA (V 39)))) := hW 39 (by decide)
  have c40 : h (A 40) = some (.inl (G_i G, 10240, .inl (iA (V 40)))) := hW 40 (by decide)
  have c41 : h (A 41) = some (.inl (G_j G, 16, .inr (.inl (lA (V 41))))) := hW 41 (by decide)
  have c42 : h (A 42) = some (.inl (G_j G, 16, .inr (.inl (lA (V 42))))) := hW 42 (by decide)
  have c43 : h (A 43) = some (.inl (G_i G, 16, .inl (iA (V 43)))) := hW 43 (by decide)
  have c44 : h (A 44) = some (.inl (G_i G, 1024, .inl (iA (V 44)))) := hW 44 (by decide)
  have c45 : h (A 45) = some (.inl (G_i G, 20, .inl (iA (V 45)))) := hW 45 (by decide)
  have c46 : h (A 46) = some (.inl (G_i G, 194, .inl (iA (V 46)))) := hW 46 (by decide)
  have c47 : h (A 47) = some (.inl (G_i G, 3104, .inl (iA (V 47)))) := hW 47 (by decide)
  have c48 : h (A 48) = some (.inl (G_i G, 65, .inl (iA (V 48)))) := hW 48 (by decide)
  obtain ⟨b1, b2, b3, b4, b5, b6, b7, b8, b9, b10, b11⟩ := id hRB
  obtain ⟨u1, u2, u3, u4, u5, u6, u7, u8⟩ := id b8
  obtain ⟨r1, r2, r3, r4, r5⟩ := id hRC
  obtain ⟨t1, t2, t3, t4, t5, t6, t7, t8, t9, t10, t11, t12⟩ := id hRS
  obtain ⟨p1, p2, p3, p4, p5⟩ := id hRP
  have hc1 : c ≤ 1000 := by omega
  have hct := hPa.2.1
  have hct2 : ct ≤ 10 := hPa.2.1
  refine ⟨⟨_, c0⟩, ({ frames := 3, cells := 5, slots := 1077, locals := 82 }), ⟨by decide, by decide, by decide, by decide⟩, rn_mono (c_CB_shift G h (A 0) (A 1) (A 3) (A 4) (A 6) (A 11) (A 13) (A 20) (A 21) (A 22) (A 7) (A 8) (A 9) (A 10) (A 12) (A 48) (c % 10) ct n Kp Ke C (V 7) (V 8) (V 9) (V 10) a0 c0 c6 c7 c8 c9 c10 hPa r3.1 r3.2.1 r1 (hM.le (i := 0) (by decide)) ⟨hM.le (i := 11) (by decide), hM.le (i := 12) (by decide), hM.le (i := 6) (by decide), hM.le (i := 7) (by decide), hM.le (i := 8) (by decide), hM.le (i := 9) (by decide), hM.le (i := 10) (by decide)⟩ ⟨_, c48⟩ (hM.ne (i := 7) (j := 8) (by decide) (by decide) (by decide)) q0) (fun r h1 q => ?_)⟩
  by_cases w1 : shOK (V 7) (V 8) n a0
  · obtain ⟨rfl, k7, k8, ⟨Kp', Ke', hPa1, hks, hkk⟩, fb⟩ := q.2 w1
    have hW1 : WC A (EE G A (vu (vu V 7 (addU (V 7) a0 n)) 8 (addU (V 8) a0 n)) (zup (zup Z 10 ((((c % 10 + 1) % 10 : Nat) : Int))) 11 (((min (ct + 1) 10 : Nat) : Int))) Kp' σ) h1 := hW.up (S := [7, 8, 11, 12]) (kFb hM fb (by decide)) ⟨k7, k8, hPa1.2.2.1, hPa1.2.2.2.1, trivial⟩ (c49 (fun _ => rfl) (fun _ => rfl) (fun _ => rfl) (fun _ => rfl) (fun _ => rfl) (fun _ => rfl) (fun _ => rfl) (fun n9 => absurd (by decide) n9) (fun n9 => absurd (by decide) n9) (fun _ => rfl) (fun _ => rfl) (fun n9 => absurd (by decide) n9) (fun n9 => absurd (by decide) n9) (fun _ => rfl) (fun _ => rfl) (fun _ => rfl) (fun _ => rfl) (fun _ => rfl) (fun _ => rfl) (fun _ => rfl) (fun _ => rfl) (fun _ => rfl) (fun _ => rfl) (fun _ => rfl) (fun _ => rfl) (fun _ => rfl) (fun _ => rfl) (fun _ => rfl) (fun _ => rfl) (fun _ => rfl) (fun _ => rfl) (fun _ => rfl) (fun _ => rfl) (fun _ => rfl) (fun _ => rfl) (fun _ => rfl) (fun _ => rfl) (fun _ => rfl) (fun _ => rfl) (fun _ => rfl) (fun _ => rfl) (fun _ => rfl) (fun _ => rfl) (fun _ => rfl) (fun _ => rfl) (fun _ => rfl) (fun _ => rfl) (fun _ => rfl) (fun _ => rfl))
    have g30 : h1 (A 30) = some (.inr (11, fsN 34 σ)) := hW1 30 (by decide)
    have g31 : h1 (A 31) = some (.inl (G_i G, 1000, .inl (iA (V 31)))) := hW1 31 (by decide)
    have g32 : h1 (A 32) = some (.inl (G_j G, 16, .inr (.inl (lA (V 32))))) := hW1 32 (by decide)
    have g33 : h1 (A 33) = some (.inl (G_j G, 16, .inr (.inl (lA (V 33))))) := hW1 33 (by decide)
    have g34 : h1 (A 34) = some (.inl (G_i G, 16, .inl (iA (V 34)))) := hW1 34 (by decide)
    have g35 : h1 (A 35) = some (.inl (G_i G, 1024, .inl (iA (V 35)))) := hW1 35 (by decide)
    have g36 : h1 (A 36) = some (.inl (G_i G, 10, .inl (iA (V 36)))) := hW1 36 (by decide)
    have g37 : h1 (A 37) = some (.inl (G_j G, 160, .inr (.inl (lA (V 37))))) := hW1 37 (by decide)
    have g38 : h1 (A 38) = some (.inl (G_j G, 160, .inr (.inl (lA (V 38))))) := hW1 38 (by decide)
    have g39 : h1 (A 39) = some (.inl (G_i G, 160, .inl (iA (V 39)))) := hW1 39 (by decide)
    have g40 : h1 (A 40) = some (.inl (G_i G, 10240, .inl (iA (V 40)))) := hW1 40 (by decide)
    have g41 : h1 (A 41) = some (.inl (G_j G, 16, .inr (.inl (lA (V 41))))) := hW1 41 (by decide)
    have g42 : h1 (A 42) = some (.inl (G_j G, 16, .inr (.inl (lA (V 42))))) := hW1 42 (by decide)
    have g43 : h1 (A 43) = some (.inl (G_i G, 16, .inl (iA (V 43)))) := hW1 43 (by decide)
    have g44 : h1 (A 44) = some (.inl (G_i G, 1024, .inl (iA (V 44)))) := hW1 44 (by decide)
    have g45 : h1 (A 45) = some (.inl (G_i G, 20, .inl (iA (V 45)))) := hW1 45 (by decide)
    have g46 : h1 (A 46) = some (.inl (G_i G, 194, .inl (iA (V 46)))) := hW1 46 (by decide)
    have g47 : h1 (A 47) = some (.inl (G_i G, 3104, .inl (iA (V 47)))) := hW1 47 (by decide)
    have g48 : h1 (A 48) = some (.inl (G_i G, 65, .inl (iA (V 48)))) := hW1 48 (by decide)
    have w2 := (v_shift r2 r5).mp w1
    refine ⟨1, by decide, rfl, ⟨_, g30⟩, (rm 1 30), ⟨by decide, by decide, by decide, by decide⟩, rn_mono (c_Mo_shift G h1 σ (A 30) (A 32) (A 33) (A 34) (A 35) (A 36) (A 37) (A 38) (A 39) (A 40) n c ct (V 32) (V 33) (V 34) (V 35) (V 36) (V 37) (V 38) (V 39) (V 40) a0 g30 f4 f5 f6 f7 f8 f9 f10 f11 f12 f13 f14 f15 g32 g33 g34 g35 g36 g37 g38 g39 g40 r4.1 r4.2.1 r1 hc1 hct2 (hM.ne (i := 32) (j := 33) (by decide) (by decide) (by decide)) (hM.ne (i := 37) (j := 38) (by decide) (by decide) (by decide)) q0) (fun rr h2 qq => ?_)⟩
    obtain ⟨rfl, ⟨σ2, gm, m9, m10, gs⟩, m32, m33, m36, m37, m38, m39, m40, fm2⟩ := qq.2 w2
    have xs : ∀ k, k < n → (0 ≤ V 7 k + a0 ∧ V 7 k + a0 ≤ 2540160000000) ∧ (0 ≤ V 8 k + a0 ∧ V 8 k + a0 ≤ 2540160000000) := fun k hk => by have x1 := w1.2 k hk; have x2 := r5 k hk; omega
    have xr := w2.2
    have hW2 : WC A (EE G A (vu (vu (vu (vu (vu (vu (vu (vu (vu V 7 (addU (V 7) a0 n)) 8 (addU (V 8) a0 n)) 32 (addU (V 32) a0 n)) 33 (addU (V 33) a0 n)) 36 (zup (V 36) (c % 10) (n : Int))) 37 (va_cpy (V 32) (V 37) 0 (16 * (c % 10)) 16)) 38 (va_cpy (V 33) (V 38) 0 (16 * (c % 10)) 16)) 39 (va_cpy (V 34) (V 39) 0 (16 * (c % 10)) 16)) 40 (va_cpy (V 35) (V 40) 0 (1024 * (c % 10)) 1024)) (zup (zup (zup Z 10 ((((c % 10 + 1) % 10 : Nat) : Int))) 11 (((min (ct + 1) 10 : Nat) : Int))) 21 ((c : Int) + 1)) Kp' σ2) h2 := hW1.up (S := [30, 32, 33, 36, 37, 38, 39, 40]) (kFm hM fm2 (by decide)) ⟨gm, m32, m33, m36, m37, m38, m39, m40, trivial⟩ (c49 (fun _ => rfl) (fun _ => rfl) (fun _ => rfl) (fun _ => rfl) (fun _ => rfl) (fun _ => rfl) (fun _ => rfl) (fun _ => rfl) (fun _ => rfl) (fun _ => rfl) (fun _ => rfl) (fun _ => rfl) (fun _ => rfl) (fun _ => rfl) (fun _ => rfl) (fun _ => rfl) (fun _ => rfl) (fun _ => rfl) (fun _ => rfl) (fun _ => rfl) (fun _ => rfl) (fun _ => rfl) (fun _ => rfl) (fun _ => rfl) (fun _ => rfl) (fun _ => rfl) (fun _ => rfl) (fun _ => rfl) (fun _ => rfl) (fun _ => rfl) (fun n9 => absurd (by decide) n9) (fun _ => rfl) (fun n9 => absurd (by decide) n9) (fun n9 => absurd (by decide) n9) (fun _ => rfl) (fun _ => rfl) (fun n9 => absurd (by decide) n9) (fun n9 => absurd (by decide) n9) (fun n9 => absurd (by decide) n9) (fun n9 => absurd (by decide) n9) (fun n9 => absurd (by decide) n9) (fun _ => rfl) (fun _ => rfl) (fun _ => rfl) (fun _ => rfl) (fun _ => rfl) (fun _ => rfl) (fun _ => rfl) (fun _ => rfl))
    exact ⟨rfl, hM, (vu (vu (vu (vu (vu (vu (vu (vu (vu V 7 (addU (V 7) a0 n)) 8 (addU (V 8) a0 n)) 32 (addU (V 32) a0 n)) 33 (addU (V 33) a0 n)) 36 (zup (V 36) (c % 10) (n : Int))) 37 (va_cpy (V 32) (V 37) 0 (16 * (c % 10)) 16)) 38 (va_cpy (V 33) (V 38) 0 (16 * (c % 10)) 16)) 39 (va_cpy (V 34) (V 39) 0 (16 * (c % 10)) 16)) 40 (va_cpy (V 35) (V 40) 0 (1024 * (c % 10)) 1024)), (zup (zup (zup Z 10 ((((c % 10 + 1) % 10 : Nat) : Int))) 11 (((min (ct + 1) 10 : Nat) : Int))) 21 ((c : Int) + 1)), Kp', Ke', (fun j => if j = c % 10 then (n, V 7, V 8, V 9, V 10) else C j), σ2, n0, nu, n, ((c % 10 + 1) % 10), (min (ct + 1) 10), c + 1, hW2, ⟨(gs 0 (by decide)).trans e0, (gs 1 (by decide)).trans e1, (gs 2 (by decide)).trans e2, (gs 3 (by decide)).trans e3, (gs 4 (by decide)).trans e4, (gs 5 (by decide)).trans e5, (gs 6 (by decide)).trans e6, (gs 7 (by decide)).trans e7, (gs 8 (by decide)).trans e8, m9, m10, (gs 11 (by decide)).trans e11, (gs 12 (by decide)).trans e12, (gs 13 (by decide)).trans e13, (gs 14 (by decide)).trans e14, (gs 15 (by decide)).trans e15, (gs 19 (by decide)).trans e19, (gs 20 (by decide)).trans e20, (gs 21 (by decide)).trans e21, (gs 22 (by decide)).trans e22, (gs 25 (by decide)).trans e25, (gs 26 (by decide)).trans e26, (gs 27 (by decide)).trans e27, (gs 28 (by decide)).trans e28, (gs 29 (by decide)).trans e29, (gs 30 (by decide)).trans e30, (gs 31 (by decide)).trans e31, (gs 32 (by decide)).trans e32, (gs 33 (by decide)).trans e33⟩, pFm (S := [30, 32, 33, 36, 37, 38, 39, 40]) hM hPa1 fm2 (by decide), ⟨z0, z8, z9, rfl, rfl, by show (c : Int) + 1 = ((c + 1 : Nat) : Int); omega⟩, hRB, ⟨r1, v_fU (f := fun x => x + a0) r2, ⟨fU_r (f := fun x => x + a0) (fun k hk => (xs k hk).1) r3.1, fU_r (f := fun x => x + a0) (fun k hk => (xs k hk).2) r3.2.1, r3.2.2⟩, ⟨fU_r (f := fun x => x + a0) (fun k hk => (xr k hk).1) r4.1, fU_r (f := fun x => x + a0) (fun k hk => (xr k hk).2) r4.2.1, r4.2.2⟩, fU_st (f := fun x => x + a0) (fun k hk => by have x2 := r5 k hk; omega)⟩, hRS, ⟨rgI_keep p1 hkk r1 r2 r3 r5, rgs_ring p2 r4, vlS_keep hct2 (by omega) p3 hkk hks, by omega, by omega⟩, by omega⟩
  · obtain ⟨rfl, hx9⟩ := q.1 w1
    have hW1 : WC A (EE G A V Z Kp σ) h1 := by rw [hx9]; exact hW
    have hPa1 : PaW G h1 (A 48) (A 11) (A 12) (c % 10) ct Kp Ke C := by rw [hx9]; exact hPa
    have g30 : h1 (A 30) = some (.inr (11, fsN 34 σ)) := hW1 30 (by decide)
    have g31 : h1 (A 31) = some (.inl (G_i G, 1000, .inl (iA (V 31)))) := hW1 31 (by decide)
    have g32 : h1 (A 32) = some (.inl (G_j G, 16, .inr (.inl (lA (V 32))))) := hW1 32 (by decide)
    have g33 : h1 (A 33) = some (.inl (G_j G, 16, .inr (.inl (lA (V 33))))) := hW1 33 (by decide)
    have g34 : h1 (A 34) = some (.inl (G_i G, 16, .inl (iA (V 34)))) := hW1 34 (by decide)
    have g35 : h1 (A 35) = some (.inl (G_i G, 1024, .inl (iA (V 35)))) := hW1 35 (by decide)
    have g36 : h1 (A 36) = some (.inl (G_i G, 10, .inl (iA (V 36)))) := hW1 36 (by decide)
    have g37 : h1 (A 37) = some (.inl (G_j G, 160, .inr (.inl (lA (V 37))))) := hW1 37 (by decide)
    have g38 : h1 (A 38) = some (.inl (G_j G, 160, .inr (.inl (lA (V 38))))) := hW1 38 (by decide)
    have g39 : h1 (A 39) = some (.inl (G_i G, 160, .inl (iA (V 39)))) := hW1 39 (by decide)
    have g40 : h1 (A 40) = some (.inl (G_i G, 10240, .inl (iA (V 40)))) := hW1 40 (by decide)
    have g41 : h1 (A 41) = some (.inl (G_j G, 16, .inr (.inl (lA (V 41))))) := hW1 41 (by decide)
    have g42 : h1 (A 42) = some (.inl (G_j G, 16, .inr (.inl (lA (V 42))))) := hW1 42 (by decide)
    have g43 : h1 (A 43) = some (.inl (G_i G, 16, .inl (iA (V 43)))) := hW1 43 (by decide)
    have g44 : h1 (A 44) = some (.inl (G_i G, 1024, .inl (iA (V 44)))) := hW1 44 (by decide)
    have g45 : h1 (A 45) = some (.inl (G_i G, 20, .inl (iA (V 45)))) := hW1 45 (by decide)
    have g46 : h1 (A 46) = some (.inl (G_i G, 194, .inl (iA (V 46)))) := hW1 46 (by decide)
    have g47 : h1 (A 47) = some (.inl (G_i G, 3104, .inl (iA (V 47)))) := hW1 47 (by decide)
    have g48 : h1 (A 48) = some (.inl (G_i G, 65, .inl (iA (V 48)))) := hW1 48 (by decide)
    refine ⟨0, by decide, rfl, ⟨_, g30⟩, (rm 1 30), ⟨by decide, by decide, by decide, by decide⟩, rn_mono (c_Mo_shift G h1 σ (A 30) (A 32) (A 33) (A 34) (A 35) (A 36) (A 37) (A 38) (A 39) (A 40) n c ct (V 32) (V 33) (V 34) (V 35) (V 36) (V 37) (V 38) (V 39) (V 40) a0 g30 f4 f5 f6 f7 f8 f9 f10 f11 f12 f13 f14 f15 g32 g33 g34 g35 g36 g37 g38 g39 g40 r4.1 r4.2.1 r1 hc1 hct2 (hM.ne (i := 32) (j := 33) (by decide) (by decide) (by decide)) (hM.ne (i := 37) (j := 38) (by decide) (by decide) (by decide)) q0) (fun rr h2 qq => ?_)⟩
    obtain ⟨rfl, hx8⟩ := qq.1 (fun w => w1 ((v_shift r2 r5).mpr w))
    rw [hx8]
    exact ⟨rfl, hM, V, Z, Kp, Ke, C, σ, n0, nu, n, (c % 10), ct, c, hW1, hSg, hPa1, ⟨z0, z8, z9, z10, z11, z21⟩, hRB, hRC, hRS, hRP, by omega⟩
set_option maxHeartbeats 4000000 in
set_option maxRecDepth 100000 in
theorem duo_twoPoint (G : GT) (A : Nat → Nat) (i : Nat) (h : HM) (hI : Inv G A i h) (hi : i ≤ 511) : ∀ a0 a1 a2 a3 : Int, iR a0 → iR a1 → iR a2 → iR a3 → Duo G (A 0) (A 30) M_CB_twoPoint M_Mo_twoPoint [.int (iZ a0), .int (iZ a1), .int (iZ a2), .int (iZ a3)] mI iR h (Inv G A (i + 1)) := by
  intro a0 a1 a2 a3 q0 q1 q2 q3
  obtain ⟨hM, V, Z, Kp, Ke, C, σ, n0, nu, n, nx, ct, c, hW, hSg, hPa, ⟨z0, z8, z9, z10, z11, z21⟩, hRB, hRC, hRS, hRP, hci⟩ := hI
  obtain rfl : nx = c % 10 := hRP.2.2.2.1
  obtain ⟨e0, e1, e2, e3, e4, e5, e6, e7, e8, e9, e10, e11, e12, e13, e14, e15, e19, e20, e21, e22, e25, e26, e27, e28, e29, e30, e31, e32, e33⟩ := id hSg
  have f0 : σ 0 = .int (iZ (n0 : Int)) := by rw [← z0]; exact e0
  have f1 : σ 1 = .ref (A 31) := e1
  have f2 : σ 2 = .int (iZ (Z 1)) := e2
  have f3 : σ 3 = .int (iZ (Z 2)) := e3
  have f4 : σ 4 = .int (iZ (n : Int)) := by rw [← z9]; exact e4
  have f5 : σ 5 = .ref (A 32) := e5
  have f6 : σ 6 = .ref (A 33) := e6
  have f7 : σ 7 = .ref (A 34) := e7
  have f8 : σ 8 = .ref (A 35) := e8
  have f9 : σ 9 = .int (iZ (c : Int)) := by rw [← z21]; exact e9
  have f10 : σ 10 = .int (iZ (ct : Int)) := by rw [← z11]; exact e10
  have f11 : σ 11 = .ref (A 36) := e11
  have f12 : σ 12 = .ref (A 37) := e12
  have f13 : σ 13 = .ref (A 38) := e13
  have f14 : σ 14 = .ref (A 39) := e14
  have f15 : σ 15 = .ref (A 40) := e15
  have f19 : σ 19 = .ref (A 41) := e19
  have f20 : σ 20 = .ref (A 42) := e20
  have f21 : σ 21 = .ref (A 43) := e21
  have f22 : σ 22 = .ref (A 44) := e22
  have f25 : σ 25 = .int (iZ (nu : Int)) := by rw [← z8]; exact e25
  have f26 : σ 26 = .ref (A 45) := e26
  have f27 : σ 27 = .int (iZ (Z 4)) := e27
  have f28 : σ 28 = .int (iZ (Z 5)) := e28
  have f29 : σ 29 = .int (iZ (Z 6)) := e29
  have f30 : σ 30 = .int (iZ (Z 7)) := e30
  have f31 : σ 31 = .ref (A 46) := e31
  have f32 : σ 32 = .ref (A 47) := e32
  have f33 : σ 33 = .ref (A 48) := e33
  have c0 : h (A 0) = some (.inr (0, [.ref (A 1), .ref (A 3), .ref (A 4), .ref (A 6), .ref (A 11), .ref (A 13), .ref (A 20), .ref (A 21), .ref (A 22)])) := hW 0 (by decide)
  have c1 : h (A 1) = some (.inr (1, [.ref (A 2), .int (iZ (n0 : Int))])) := by rw [← z0]; exact hW 1 (by decide)
  have c2 : h (A 2) = some (.inl (G_i G, 1000, .inl (iA (V 2)))) := hW 2 (by decide)
  have c3 : h (A 3) = some (.inr (5, [.int (iZ (Z 1)), .int (iZ (Z 2)), .long (lZ (Z 3))])) := hW 3 (by decide)
  have c4 : h (A 4) = some (.inr (10, [.int (iZ (Z 4)), .int (iZ (Z 5)), .int (iZ (Z 6)), .int (iZ (Z 7)), .ref (A 5), .int (iZ (nu : Int))])) := by rw [← z8]; exact hW 4 (by decide)
  have c5 : h (A 5) = some (.inl (G_i G, 20, .inl (iA (V 5)))) := hW 5 (by decide)
  have c6 : h (A 6) = some (.inr (2, [.ref (A 7), .ref (A 8), .ref (A 9), .ref (A 10), .int (iZ (n : Int))])) := by rw [← z9]; exact hW 6 (by decide)
  have c7 : h (A 7) = some (.inl (G_j G, 16, .inr (.inl (lA (V 7))))) := hW 7 (by decide)
  have c8 : h (A 8) = some (.inl (G_j G, 16, .inr (.inl (lA (V 8))))) := hW 8 (by decide)
  have c9 : h (A 9) = some (.inl (G_i G, 16, .inl (iA (V 9)))) := hW 9 (by decide)
  have c10 : h (A 10) = some (.inl (G_i G, 1024, .inl (iA (V 10)))) := hW 10 (by decide)
  have c11 : h (A 11) = some (.inr (7, [.ref (A 12), .int (iZ ((c % 10 : Nat) : Int)), .int (iZ (ct : Int))])) := by rw [← z10, ← z11]; exact hW 11 (by decide)
  have c12 : h (A 12) = some (.inl (G_q G, 10, .inr (.inr (.inr (.inr Kp))))) := hW 12 (by decide)
  have c13 : h (A 13) = some (.inr (3, [.ref (A 1), .ref (A 3), .ref (A 14), .ref (A 19), .int (iZ (Z 12)), .int (iZ (Z 13)), .int (iZ (Z 14)), .long (lZ (Z 15)), .long (lZ (Z 16)), .long (lZ (Z 17))])) := hW 13 (by decide)
  have c14 : h (A 14) = some (.inr (2, [.ref (A 15), .ref (A 16), .ref (A 17), .ref (A 18), .int (iZ (Z 18))])) := hW 14 (by decide)
  have c15 : h (A 15) = some (.inl (G_j G, 16, .inr (.inl (lA (V 15))))) := hW 15 (by decide)
  have c16 : h (A 16) = some (.inl (G_j G, 16, .inr (.inl (lA (V 16))))) := hW 16 (by decide)
  have c17 : h (A 17) = some (.inl (G_i G, 16, .inl (iA (V 17)))) := hW 17 (by decide)
  have c18 : h (A 18) = some (.inl (G_i G, 1024, .inl (iA (V 18)))) := hW 18 (by decide)
  have c19 : h (A 19) = some (.inl (G_i G, 64, .inl (iA (V 19)))) := hW 19 (by decide)
  have c20 : h (A 20) = some (.inr (4, [.ref (A 1), .ref (A 3), .ref (A 6)])) := hW 20 (by decide)
  have c21 : h (A 21) = some (.inr (6, [.ref (A 6), .int (iZ (Z 19)), .int (iZ (Z 20))])) := hW 21 (by decide)
  have c22 : h (A 22) = some (.inr (9, [.ref (A 6), .ref (A 3), .ref (A 4), .ref (A 23), .ref (A 24), .ref (A 25), .ref (A 26), .ref (A 27), .ref (A 28), .ref (A 29)])) := hW 22 (by decide)
  have c23 : h (A 23) = some (.inl (G_i G, 16, .inl (iA (V 23)))) := hW 23 (by decide)
  have c24 : h (A 24) = some (.inl (G_i G, 16, .inl (iA (V 24)))) := hW 24 (by decide)
  have c25 : h (A 25) = some (.inl (G_i G, 16, .inl (iA (V 25)))) := hW 25 (by decide)
  have c26 : h (A 26) = some (.inl (G_i G, 97, .inl (iA (V 26)))) := hW 26 (by decide)
  have c27 : h (A 27) = some (.inl (G_i G, 400, .inl (iA (V 27)))) := hW 27 (by decide)
  have c28 : h (A 28) = some (.inl (G_i G, 400, .inl (iA (V 28)))) := hW 28 (by decide)
  have c29 : h (A 29) = some (.inl (G_i G, 400, .inl (iA (V 29)))) := hW 29 (by decide)
  have c30 : h (A 30) = some (.inr (11, fsN 34 σ)) := hW 30 (by decide)
  have c31 : h (A 31) = some (.inl (G_i G, 1000, .inl (iA (V 31)))) := hW 31 (by decide)
  have c32 : h (A 32) = some (.inl (G_j G, 16, .inr (.inl (lA (V 32))))) := hW 32 (by decide)
  have c33 : h (A 33) = some (.inl (G_j G, 16, .inr (.inl (lA (V 33))))) := hW 33 (by decide)
  have c34 : h (A 34) = some (.inl (G_i G, 16, .inl (iA (V 34)))) := hW 34 (by decide)
  have c35 : h (A 35) = some (.inl (G_i G, 1024, .inl (iA (V 35)))) := hW 35 (by decide)
  have c36 : h (A 36) = some (.inl (G_i G, 10, .inl (iA (V 36)))) := hW 36 (by decide)
  have c37 : h (A 37) = some (.inl (G_j G, 160, .inr (.inl (lA (V 37))))) := hW 37 (by decide)
  have c38 : h (A 38) = some (.inl (G_j G, 160, .inr (.inl (lA (V 38))))) := hW 38 (by decide)
  have c39 : h (A 39) = some (.inl (G_i G, 160, .inl (iA (V 39)))) := hW 39 (by decide)
  have c40 : h (A 40) = some (.inl (G_i G, 10240, .inl (iA (V 40)))) := hW 40 (by decide)
  have c41 : h (A 41) = some (.inl (G_j G, 16, .inr (.inl (lA (V 41))))) := hW 41 (by decide)
  have c42 : h (A 42) = some (.inl (G_j G, 16, .inr (.inl (lA (V 42))))) := hW 42 (by decide)
  have c43 : h (A 43) = some (.inl (G_i G, 16, .inl (iA (V 43)))) := hW 43 (by decide)
  have c44 : h (A 44) = some (.inl (G_i G, 1024, .inl (iA (V 44)))) := hW 44 (by decide)
  have c45 : h (A 45) = some (.inl (G_i G, 20, .inl (iA (V 45)))) := hW 45 (by decide)
  have c46 : h (A 46) = some (.inl (G_i G, 194, .inl (iA (V 46)))) := hW 46 (by decide)
  have c47 : h (A 47) = some (.inl (G_i G, 3104, .inl (iA (V 47)))) := hW 47 (by decide)
  have c48 : h (A 48) = some (.inl (G_i G, 65, .inl (iA (V 48)))) := hW 48 (by decide)
  obtain ⟨b1, b2, b3, b4, b5, b6, b7, b8, b9, b10, b11⟩ := id hRB
  obtain ⟨u1, u2, u3, u4, u5, u6, u7, u8⟩ := id b8
  obtain ⟨r1, r2, r3, r4, r5⟩ := id hRC
  obtain ⟨t1, t2, t3, t4, t5, t6, t7, t8, t9, t10, t11, t12⟩ := id hRS
  obtain ⟨p1, p2, p3, p4, p5⟩ := id hRP
  have hc1 : c ≤ 1000 := by omega
  have hct := hPa.2.1
  have hct2 : ct ≤ 10 := hPa.2.1
  refine ⟨⟨_, c0⟩, ({ frames := 4, cells := 6, slots := 1082, locals := 142 }), ⟨by decide, by decide, by decide, by decide⟩, rn_mono (c_CB_twoPoint G h (A 0) (A 1) (A 3) (A 4) (A 6) (A 11) (A 13) (A 20) (A 21) (A 22) (A 7) (A 8) (A 9) (A 10) (A 12) (A 48) (c % 10) ct n Kp Ke C (V 7) (V 8) (V 9) (V 10) (Z 1) (Z 2) (Z 3) a0 a1 a2 a3 c0 c6 c7 c8 c9 c10 c3 hPa r3.1 r3.2.1 r1 ⟨hM.le (i := 0) (by decide), hM.le (i := 3) (by decide)⟩ ⟨hM.le (i := 11) (by decide), hM.le (i := 12) (by decide), hM.le (i := 6) (by decide), hM.le (i := 7) (by decide), hM.le (i := 8) (by decide), hM.le (i := 9) (by decide), hM.le (i := 10) (by decide)⟩ ⟨_, c48⟩ (hM.ne (i := 7) (j := 8) (by decide) (by decide) (by decide)) b7 q0 q1 q2 q3) (fun r h1 q => ?_)⟩
  have tk0 : 0 < Z 3 := by omega
  by_cases w1 : tpOK (Z 3) a0 a1 a2 a3 (V 7) (V 8) n
  · obtain ⟨rfl, k7, k8, ⟨Kp', Ke', hPa1, hks, hkk⟩, fb⟩ := q.2 w1
    have hW1 : WC A (EE G A (vu (vu V 7 (fU (fun t => mp (Z 3) a0 a1 a2 a3 t * (Z 3)) (V 7) n)) 8 (fU (fun t => mp (Z 3) a0 a1 a2 a3 t * (Z 3)) (V 8) n)) (zup (zup Z 10 ((((c % 10 + 1) % 10 : Nat) : Int))) 11 (((min (ct + 1) 10 : Nat) : Int))) Kp' σ) h1 := hW.up (S := [7, 8, 11, 12]) (kFb hM fb (by decide)) ⟨k7, k8, hPa1.2.2.1, hPa1.2.2.2.1, trivial⟩ (c49 (fun _ => rfl) (fun _ => rfl) (fun _ => rfl) (fun _ => rfl) (fun _ => rfl) (fun _ => rfl) (fun _ => rfl) (fun n9 => absurd (by decide) n9) (fun n9 => absurd (by decide) n9) (fun _ => rfl) (fun _ => rfl) (fun n9 => absurd (by decide) n9) (fun n9 => absurd (by decide) n9) (fun _ => rfl) (fun _ => rfl) (fun _ => rfl) (fun _ => rfl) (fun _ => rfl) (fun _ => rfl) (fun _ => rfl) (fun _ => rfl) (fun _ => rfl) (fun _ => rfl) (fun _ => rfl) (fun _ => rfl) (fun _ => rfl) (fun _ => rfl) (fun _ => rfl) (fun _ => rfl) (fun _ => rfl) (fun _ => rfl) (fun _ => rfl) (fun _ => rfl) (fun _ => rfl) (fun _ => rfl) (fun _ => rfl) (fun _ => rfl) (fun _ => rfl) (fun _ => rfl) (fun _ => rfl) (fun _ => rfl) (fun _ => rfl) (fun _ => rfl) (fun _ => rfl) (fun _ => rfl) (fun _ => rfl) (fun _ => rfl) (fun _ => rfl) (fun _ => rfl))
    have g30 : h1 (A 30) = some (.inr (11, fsN 34 σ)) := hW1 30 (by decide)
    have g31 : h1 (A 31) = some (.inl (G_i G, 1000, .inl (iA (V 31)))) := hW1 31 (by decide)
    have g32 : h1 (A 32) = some (.inl (G_j G, 16, .inr (.inl (lA (V 32))))) := hW1 32 (by decide)
    have g33 : h1 (A 33) = some (.inl (G_j G, 16, .inr (.inl (lA (V 33))))) := hW1 33 (by decide)
    have g34 : h1 (A 34) = some (.inl (G_i G, 16, .inl (iA (V 34)))) := hW1 34 (by decide)
    have g35 : h1 (A 35) = some (.inl (G_i G, 1024, .inl (iA (V 35)))) := hW1 35 (by decide)
    have g36 : h1 (A 36) = some (.inl (G_i G, 10, .inl (iA (V 36)))) := hW1 36 (by decide)
    have g37 : h1 (A 37) = some (.inl (G_j G, 160, .inr (.inl (lA (V 37))))) := hW1 37 (by decide)
    have g38 : h1 (A 38) = some (.inl (G_j G, 160, .inr (.inl (lA (V 38))))) := hW1 38 (by decide)
    have g39 : h1 (A 39) = some (.inl (G_i G, 160, .inl (iA (V 39)))) := hW1 39 (by decide)
    have g40 : h1 (A 40) = some (.inl (G_i G, 10240, .inl (iA (V 40)))) := hW1 40 (by decide)
    have g41 : h1 (A 41) = some (.inl (G_j G, 16, .inr (.inl (lA (V 41))))) := hW1 41 (by decide)
    have g42 : h1 (A 42) = some (.inl (G_j G, 16, .inr (.inl (lA (V 42))))) := hW1 42 (by decide)
    have g43 : h1 (A 43) = some (.inl (G_i G, 16, .inl (iA (V 43)))) := hW1 43 (by decide)
    have g44 : h1 (A 44) = some (.inl (G_i G, 1024, .inl (iA (V 44)))) := hW1 44 (by decide)
    have g45 : h1 (A 45) = some (.inl (G_i G, 20, .inl (iA (V 45)))) := hW1 45 (by decide)
    have g46 : h1 (A 46) = some (.inl (G_i G, 194, .inl (iA (V 46)))) := hW1 46 (by decide)
    have g47 : h1 (A 47) = some (.inl (G_i G, 3104, .inl (iA (V 47)))) := hW1 47 (by decide)
    have g48 : h1 (A 48) = some (.inl (G_i G, 65, .inl (iA (V 48)))) := hW1 48 (by decide)
    have w2 := (v_tp tk0 r2).mp w1
    refine ⟨1, by decide, rfl, ⟨_, g30⟩, (rm 2 90), ⟨by decide, by decide, by decide, by decide⟩, rn_mono (c_Mo_twoPoint G h1 σ (A 30) (A 32) (A 33) (A 34) (A 35) (A 36) (A 37) (A 38) (A 39) (A 40) n c ct (V 32) (V 33) (V 34) (V 35) (V 36) (V 37) (V 38) (V 39) (V 40) (Z 1) (Z 2) (Z 3) a0 a1 a2 a3 g30 f4 f5 f6 f7 f8 f9 f10 f11 f12 f13 f14 f15 f2 f3 g32 g33 g34 g35 g36 g37 g38 g39 g40 b4 b5 b6 b7 q0 q1 q2 q3 r4.1 r4.2.1 r1 hc1 hct2 (hM.ne (i := 32) (j := 33) (by decide) (by decide) (by decide)) (hM.ne (i := 37) (j := 38) (by decide) (by decide) (by decide))) (fun rr h2 qq => ?_)⟩
    obtain ⟨rfl, ⟨σ2, gm, m9, m10, gs⟩, m32, m33, m36, m37, m38, m39, m40, fm2⟩ := qq.2 w2
    have xs : ∀ k, k < n → (0 ≤ mp (Z 3) a0 a1 a2 a3 (V 7 k) * (Z 3) ∧ mp (Z 3) a0 a1 a2 a3 (V 7 k) * (Z 3) ≤ 2540160000000) ∧ (0 ≤ mp (Z 3) a0 a1 a2 a3 (V 8 k) * (Z 3) ∧ mp (Z 3) a0 a1 a2 a3 (V 8 k) * (Z 3) ≤ 2540160000000) := fun k hk => by have x1 := w1.2 k hk; omega
    have xr : ∀ k, k < n → (0 ≤ mp (Z 3) a0 a1 a2 a3 (V 32 k) * (Z 3) ∧ mp (Z 3) a0 a1 a2 a3 (V 32 k) * (Z 3) ≤ 2540160000000) ∧ (0 ≤ mp (Z 3) a0 a1 a2 a3 (V 33 k) * (Z 3) ∧ mp (Z 3) a0 a1 a2 a3 (V 33 k) * (Z 3) ≤ 2540160000000) := fun k hk => by rw [← (r2 k hk).1, ← (r2 k hk).2.1]; exact xs k hk
    have hW2 : WC A (EE G A (vu (vu (vu (vu (vu (vu (vu (vu (vu V 7 (fU (fun t => mp (Z 3) a0 a1 a2 a3 t * (Z 3)) (V 7) n)) 8 (fU (fun t => mp (Z 3) a0 a1 a2 a3 t * (Z 3)) (V 8) n)) 32 (fU (fun t => mp (Z 3) a0 a1 a2 a3 t * (Z 3)) (V 32) n)) 33 (fU (fun t => mp (Z 3) a0 a1 a2 a3 t * (Z 3)) (V 33) n)) 36 (zup (V 36) (c % 10) (n : Int))) 37 (va_cpy (V 32) (V 37) 0 (16 * (c % 10)) 16)) 38 (va_cpy (V 33) (V 38) 0 (16 * (c % 10)) 16)) 39 (va_cpy (V 34) (V 39) 0 (16 * (c % 10)) 16)) 40 (va_cpy (V 35) (V 40) 0 (1024 * (c % 10)) 1024)) (zup (zup (zup Z 10 ((((c % 10 + 1) % 10 : Nat) : Int))) 11 (((min (ct + 1) 10 : Nat) : Int))) 21 ((c : Int) + 1)) Kp' σ2) h2 := hW1.up (S := [30, 32, 33, 36, 37, 38, 39, 40]) (kFm hM fm2 (by decide)) ⟨gm, m32, m33, m36, m37, m38, m39, m40, trivial⟩ (c49 (fun _ => rfl) (fun _ => rfl) (fun _ => rfl) (fun _ => rfl) (fun _ => rfl) (fun _ => rfl) (fun _ => rfl) (fun _ => rfl) (fun _ => rfl) (fun _ => rfl) (fun _ => rfl) (fun _ => rfl) (fun _ => rfl) (fun _ => rfl) (fun _ => rfl) (fun _ => rfl) (fun _ => rfl) (fun _ => rfl) (fun _ => rfl) (fun _ => rfl) (fun _ => rfl) (fun _ => rfl) (fun _ => rfl) (fun _ => rfl) (fun _ => rfl) (fun _ => rfl) (fun _ => rfl) (fun _ => rfl) (fun _ => rfl) (fun _ => rfl) (fun n9 => absurd (by decide) n9) (fun _ => rfl) (fun n9 => absurd (by decide) n9) (fun n9 => absurd (by decide) n9) (fun _ => rfl) (fun _ => rfl) (fun n9 => absurd (by decide) n9) (fun n9 => absurd (by decide) n9) (fun n9 => absurd (by decide) n9) (fun n9 => absurd (by decide) n9) (fun n9 => absurd (by decide) n9) (fun _ => rfl) (fun _ => rfl) (fun _ => rfl) (fun _ => rfl) (fun _ => rfl) (fun _ => rfl) (fun _ => rfl) (fun _ => rfl))
    exact ⟨rfl, hM, (vu (vu (vu (vu (vu (vu (vu (vu (vu V 7 (fU (fun t => mp (Z 3) a0 a1 a2 a3 t * (Z 3)) (V 7) n)) 8 (fU (fun t => mp (Z 3) a0 a1 a2 a3 t * (Z 3)) (V 8) n)) 32 (fU (fun t => mp (Z 3) a0 a1 a2 a3 t * (Z 3)) (V 32) n)) 33 (fU (fun t => mp (Z 3) a0 a1 a2 a3 t * (Z 3)) (V 33) n)) 36 (zup (V 36) (c % 10) (n : Int))) 37 (va_cpy (V 32) (V 37) 0 (16 * (c % 10)) 16)) 38 (va_cpy (V 33) (V 38) 0 (16 * (c % 10)) 16)) 39 (va_cpy (V 34) (V 39) 0 (16 * (c % 10)) 16)) 40 (va_cpy (V 35) (V 40) 0 (1024 * (c % 10)) 1024)), (zup (zup (zup Z 10 ((((c % 10 + 1) % 10 : Nat) : Int))) 11 (((min (ct + 1) 10 : Nat) : Int))) 21 ((c : Int) + 1)), Kp', Ke', (fun j => if j = c % 10 then (n, V 7, V 8, V 9, V 10) else C j), σ2, n0, nu, n, ((c % 10 + 1) % 10), (min (ct + 1) 10), c + 1, hW2, ⟨(gs 0 (by decide)).trans e0, (gs 1 (by decide)).trans e1, (gs 2 (by decide)).trans e2, (gs 3 (by decide)).trans e3, (gs 4 (by decide)).trans e4, (gs 5 (by decide)).trans e5, (gs 6 (by decide)).trans e6, (gs 7 (by decide)).trans e7, (gs 8 (by decide)).trans e8, m9, m10, (gs 11 (by decide)).trans e11, (gs 12 (by decide)).trans e12, (gs 13 (by decide)).trans e13, (gs 14 (by decide)).trans e14, (gs 15 (by decide)).trans e15, (gs 19 (by decide)).trans e19, (gs 20 (by decide)).trans e20, (gs 21 (by decide)).trans e21, (gs 22 (by decide)).trans e22, (gs 25 (by decide)).trans e25, (gs 26 (by decide)).trans e26, (gs 27 (by decide)).trans e27, (gs 28 (by decide)).trans e28, (gs 29 (by decide)).trans e29, (gs 30 (by decide)).trans e30, (gs 31 (by decide)).trans e31, (gs 32 (by decide)).trans e32, (gs 33 (by decide)).trans e33⟩, pFm (S := [30, 32, 33, 36, 37, 38, 39, 40]) hM hPa1 fm2 (by decide), ⟨z0, z8, z9, rfl, rfl, by show (c : Int) + 1 = ((c + 1 : Nat) : Int); omega⟩, hRB, ⟨r1, v_fU (f := (fun t => mp (Z 3) a0 a1 a2 a3 t * (Z 3))) r2, ⟨fU_r (f := (fun t => mp (Z 3) a0 a1 a2 a3 t * (Z 3))) (fun k hk => (xs k hk).1) r3.1, fU_r (f := (fun t => mp (Z 3) a0 a1 a2 a3 t * (Z 3))) (fun k hk => (xs k hk).2) r3.2.1, r3.2.2⟩, ⟨fU_r (f := (fun t => mp (Z 3) a0 a1 a2 a3 t * (Z 3))) (fun k hk => (xr k hk).1) r4.1, fU_r (f := (fun t => mp (Z 3) a0 a1 a2 a3 t * (Z 3))) (fun k hk => (xr k hk).2) r4.2.1, r4.2.2⟩, fU_st (f := (fun t => mp (Z 3) a0 a1 a2 a3 t * (Z 3))) (fun k hk => (w1.2 k hk).2.2)⟩, hRS, ⟨rgI_keep p1 hkk r1 r2 r3 r5, rgs_ring p2 r4, vlS_keep hct2 (by omega) p3 hkk hks, by omega, by omega⟩, by omega⟩
  · obtain ⟨rfl, fx⟩ := q.1 w1
    have hW1 : WC A (EE G A V Z Kp σ) h1 := hW.up (S := []) (kFx fx) trivial (c49 (fun _ => rfl) (fun _ => rfl) (fun _ => rfl) (fun _ => rfl) (fun _ => rfl) (fun _ => rfl) (fun _ => rfl) (fun _ => rfl) (fun _ => rfl) (fun _ => rfl) (fun _ => rfl) (fun _ => rfl) (fun _ => rfl) (fun _ => rfl) (fun _ => rfl) (fun _ => rfl) (fun _ => rfl) (fun _ => rfl) (fun _ => rfl) (fun _ => rfl) (fun _ => rfl) (fun _ => rfl) (fun _ => rfl) (fun _ => rfl) (fun _ => rfl) (fun _ => rfl) (fun _ => rfl) (fun _ => rfl) (fun _ => rfl) (fun _ => rfl) (fun _ => rfl) (fun _ => rfl) (fun _ => rfl) (fun _ => rfl) (fun _ => rfl) (fun _ => rfl) (fun _ => rfl) (fun _ => rfl) (fun _ => rfl) (fun _ => rfl) (fun _ => rfl) (fun _ => rfl) (fun _ => rfl) (fun _ => rfl) (fun _ => rfl) (fun _ => rfl) (fun _ => rfl) (fun _ => rfl) (fun _ => rfl))
    have g30 : h1 (A 30) = some (.inr (11, fsN 34 σ)) := hW1 30 (by decide)
    have g31 : h1 (A 31) = some (.inl (G_i G, 1000, .inl (iA (V 31)))) := hW1 31 (by decide)
    have g32 : h1 (A 32) = some (.inl (G_j G, 16, .inr (.inl (lA (V 32))))) := hW1 32 (by decide)
    have g33 : h1 (A 33) = some (.inl (G_j G, 16, .inr (.inl (lA (V 33))))) := hW1 33 (by decide)
    have g34 : h1 (A 34) = some (.inl (G_i G, 16, .inl (iA (V 34)))) := hW1 34 (by decide)
    have g35 : h1 (A 35) = some (.inl (G_i G, 1024, .inl (iA (V 35)))) := hW1 35 (by decide)
    have g36 : h1 (A 36) = some (.inl (G_i G, 10, .inl (iA (V 36)))) := hW1 36 (by decide)
    have g37 : h1 (A 37) = some (.inl (G_j G, 160, .inr (.inl (lA (V 37))))) := hW1 37 (by decide)
    have g38 : h1 (A 38) = some (.inl (G_j G, 160, .inr (.inl (lA (V 38))))) := hW1 38 (by decide)
    have g39 : h1 (A 39) = some (.inl (G_i G, 160, .inl (iA (V 39)))) := hW1 39 (by decide)
    have g40 : h1 (A 40) = some (.inl (G_i G, 10240, .inl (iA (V 40)))) := hW1 40 (by decide)
    have g41 : h1 (A 41) = some (.inl (G_j G, 16, .inr (.inl (lA (V 41))))) := hW1 41 (by decide)
    have g42 : h1 (A 42) = some (.inl (G_j G, 16, .inr (.inl (lA (V 42))))) := hW1 42 (by decide)
    have g43 : h1 (A 43) = some (.inl (G_i G, 16, .inl (iA (V 43)))) := hW1 43 (by decide)
    have g44 : h1 (A 44) = some (.inl (G_i G, 1024, .inl (iA (V 44)))) := hW1 44 (by decide)
    have g45 : h1 (A 45) = some (.inl (G_i G, 20, .inl (iA (V 45)))) := hW1 45 (by decide)
    have g46 : h1 (A 46) = some (.inl (G_i G, 194, .inl (iA (V 46)))) := hW1 46 (by decide)
    have g47 : h1 (A 47) = some (.inl (G_i G, 3104, .inl (iA (V 47)))) := hW1 47 (by decide)
    have g48 : h1 (A 48) = some (.inl (G_i G, 65, .inl (iA (V 48)))) := hW1 48 (by decide)
    have hPa1 : PaW G h1 (A 48) (A 11) (A 12) (c % 10) ct Kp Ke C := hPa.mv (fun b e hb _ => fx b e hb nin0)
    refine ⟨0, by decide, rfl, ⟨_, g30⟩, (rm 2 90), ⟨by decide, by decide, by decide, by decide⟩, rn_mono (c_Mo_twoPoint G h1 σ (A 30) (A 32) (A 33) (A 34) (A 35) (A 36) (A 37) (A 38) (A 39) (A 40) n c ct (V 32) (V 33) (V 34) (V 35) (V 36) (V 37) (V 38) (V 39) (V 40) (Z 1) (Z 2) (Z 3) a0 a1 a2 a3 g30 f4 f5 f6 f7 f8 f9 f10 f11 f12 f13 f14 f15 f2 f3 g32 g33 g34 g35 g36 g37 g38 g39 g40 b4 b5 b6 b7 q0 q1 q2 q3 r4.1 r4.2.1 r1 hc1 hct2 (hM.ne (i := 32) (j := 33) (by decide) (by decide) (by decide)) (hM.ne (i := 37) (j := 38) (by decide) (by decide) (by decide))) (fun rr h2 qq => ?_)⟩
    obtain ⟨rfl, hx8⟩ := qq.1 (fun w => w1 ((v_tp tk0 r2).mpr w))
    rw [hx8]
    exact ⟨rfl, hM, V, Z, Kp, Ke, C, σ, n0, nu, n, (c % 10), ct, c, hW1, hSg, hPa1, ⟨z0, z8, z9, z10, z11, z21⟩, hRB, hRC, hRS, hRP, by omega⟩
set_option maxHeartbeats 4000000 in
set_option maxRecDepth 100000 in
theorem duo_merge (G : GT) (A : Nat → Nat) (i : Nat) (h : HM) (hI : Inv G A i h) (hi : i ≤ 511) : ∀ a0 : Int, iR a0 → Duo G (A 0) (A 30) M_CB_merge M_Mo_merge [.int (iZ a0)] mI iR h (Inv G A (i + 1)) := by
  intro a0 q0
  obtain ⟨hM, V, Z, Kp, Ke, C, σ, n0, nu, n, nx, ct, c, hW, hSg, hPa, ⟨z0, z8, z9, z10, z11, z21⟩, hRB, hRC, hRS, hRP, hci⟩ := hI
  obtain rfl : nx = c % 10 := hRP.2.2.2.1
  obtain ⟨e0, e1, e2, e3, e4, e5, e6, e7, e8, e9, e10, e11, e12, e13, e14, e15, e19, e20, e21, e22, e25, e26, e27, e28, e29, e30, e31, e32, e33⟩ := id hSg
  have f0 : σ 0 = .int (iZ (n0 : Int)) := by rw [← z0]; exact e0
  have f1 : σ 1 = .ref (A 31) := e1
  have f2 : σ 2 = .int (iZ (Z 1)) := e2
  have f3 : σ 3 = .int (iZ (Z 2)) := e3
  have f4 : σ 4 = .int (iZ (n : Int)) := by rw [← z9]; exact e4
  have f5 : σ 5 = .ref (A 32) := e5
  have f6 : σ 6 = .ref (A 33) := e6
  have f7 : σ 7 = .ref (A 34) := e7
  have f8 : σ 8 = .ref (A 35) := e8
  have f9 : σ 9 = .int (iZ (c : Int)) := by rw [← z21]; exact e9
  have f10 : σ 10 = .int (iZ (ct : Int)) := by rw [← z11]; exact e10
  have f11 : σ 11 = .ref (A 36) := e11
  have f12 : σ 12 = .ref (A 37) := e12
  have f13 : σ 13 = .ref (A 38) := e13
  have f14 : σ 14 = .ref (A 39) := e14
  have f15 : σ 15 = .ref (A 40) := e15
  have f19 : σ 19 = .ref (A 41) := e19
  have f20 : σ 20 = .ref (A 42) := e20
  have f21 : σ 21 = .ref (A 43) := e21
  have f22 : σ 22 = .ref (A 44) := e22
  have f25 : σ 25 = .int (iZ (nu : Int)) := by rw [← z8]; exact e25
  have f26 : σ 26 = .ref (A 45) := e26
  have f27 : σ 27 = .int (iZ (Z 4)) := e27
  have f28 : σ 28 = .int (iZ (Z 5)) := e28
  have f29 : σ 29 = .int (iZ (Z 6)) := e29
  have f30 : σ 30 = .int (iZ (Z 7)) := e30
  have f31 : σ 31 = .ref (A 46) := e31
  have f32 : σ 32 = .ref (A 47) := e32
  have f33 : σ 33 = .ref (A 48) := e33
  have c0 : h (A 0) = some (.inr (0, [.ref (A 1), .ref (A 3), .ref (A 4), .ref (A 6), .ref (A 11), .ref (A 13), .ref (A 20), .ref (A 21), .ref (A 22)])) := hW 0 (by decide)
  have c1 : h (A 1) = some (.inr (1, [.ref (A 2), .int (iZ (n0 : Int))])) := by rw [← z0]; exact hW 1 (by decide)
  have c2 : h (A 2) = some (.inl (G_i G, 1000, .inl (iA (V 2)))) := hW 2 (by decide)
  have c3 : h (A 3) = some (.inr (5, [.int (iZ (Z 1)), .int (iZ (Z 2)), .long (lZ (Z 3))])) := hW 3 (by decide)
  have c4 : h (A 4) = some (.inr (10, [.int (iZ (Z 4)), .int (iZ (Z 5)), .int (iZ (Z 6)), .int (iZ (Z 7)), .ref (A 5), .int (iZ (nu : Int))])) := by rw [← z8]; exact hW 4 (by decide)
  have c5 : h (A 5) = some (.inl (G_i G, 20, .inl (iA (V 5)))) := hW 5 (by decide)
  have c6 : h (A 6) = some (.inr (2, [.ref (A 7), .ref (A 8), .ref (A 9), .ref (A 10), .int (iZ (n : Int))])) := by rw [← z9]; exact hW 6 (by decide)
  have c7 : h (A 7) = some (.inl (G_j G, 16, .inr (.inl (lA (V 7))))) := hW 7 (by decide)
  have c8 : h (A 8) = some (.inl (G_j G, 16, .inr (.inl (lA (V 8))))) := hW 8 (by decide)
  have c9 : h (A 9) = some (.inl (G_i G, 16, .inl (iA (V 9)))) := hW 9 (by decide)
  have c10 : h (A 10) = some (.inl (G_i G, 1024, .inl (iA (V 10)))) := hW 10 (by decide)
  have c11 : h (A 11) = some (.inr (7, [.ref (A 12), .int (iZ ((c % 10 : Nat) : Int)), .int (iZ (ct : Int))])) := by rw [← z10, ← z11]; exact hW 11 (by decide)
  have c12 : h (A 12) = some (.inl (G_q G, 10, .inr (.inr (.inr (.inr Kp))))) := hW 12 (by decide)
  have c13 : h (A 13) = some (.inr (3, [.ref (A 1), .ref (A 3), .ref (A 14), .ref (A 19), .int (iZ (Z 12)), .int (iZ (Z 13)), .int (iZ (Z 14)), .long (lZ (Z 15)), .long (lZ (Z 16)), .long (lZ (Z 17))])) := hW 13 (by decide)
  have c14 : h (A 14) = some (.inr (2, [.ref (A 15), .ref (A 16), .ref (A 17), .ref (A 18), .int (iZ (Z 18))])) := hW 14 (by decide)
  have c15 : h (A 15) = some (.inl (G_j G, 16, .inr (.inl (lA (V 15))))) := hW 15 (by decide)
  have c16 : h (A 16) = some (.inl (G_j G, 16, .inr (.inl (lA (V 16))))) := hW 16 (by decide)
  have c17 : h (A 17) = some (.inl (G_i G, 16, .inl (iA (V 17)))) := hW 17 (by decide)
  have c18 : h (A 18) = some (.inl (G_i G, 1024, .inl (iA (V 18)))) := hW 18 (by decide)
  have c19 : h (A 19) = some (.inl (G_i G, 64, .inl (iA (V 19)))) := hW 19 (by decide)
  have c20 : h (A 20) = some (.inr (4, [.ref (A 1), .ref (A 3), .ref (A 6)])) := hW 20 (by decide)
  have c21 : h (A 21) = some (.inr (6, [.ref (A 6), .int (iZ (Z 19)), .int (iZ (Z 20))])) := hW 21 (by decide)
  have c22 : h (A 22) = some (.inr (9, [.ref (A 6), .ref (A 3), .ref (A 4), .ref (A 23), .ref (A 24), .ref (A 25), .ref (A 26), .ref (A 27), .ref (A 28), .ref (A 29)])) := hW 22 (by decide)
  have c23 : h (A 23) = some (.inl (G_i G, 16, .inl (iA (V 23)))) := hW 23 (by decide)
  have c24 : h (A 24) = some (.inl (G_i G, 16, .inl (iA (V 24)))) := hW 24 (by decide)
  have c25 : h (A 25) = some (.inl (G_i G, 16, .inl (iA (V 25)))) := hW 25 (by decide)
  have c26 : h (A 26) = some (.inl (G_i G, 97, .inl (iA (V 26)))) := hW 26 (by decide)
  have c27 : h (A 27) = some (.inl (G_i G, 400, .inl (iA (V 27)))) := hW 27 (by decide)
  have c28 : h (A 28) = some (.inl (G_i G, 400, .inl (iA (V 28)))) := hW 28 (by decide)
  have c29 : h (A 29) = some (.inl (G_i G, 400, .inl (iA (V 29)))) := hW 29 (by decide)
  have c30 : h (A 30) = some (.inr (11, fsN 34 σ)) := hW 30 (by decide)
  have c31 : h (A 31) = some (.inl (G_i G, 1000, .inl (iA (V 31)))) := hW 31 (by decide)
  have c32 : h (A 32) = some (.inl (G_j G, 16, .inr (.inl (lA (V 32))))) := hW 32 (by decide)
  have c33 : h (A 33) = some (.inl (G_j G, 16, .inr (.inl (lA (V 33))))) := hW 33 (by decide)
  have c34 : h (A 34) = some (.inl (G_i G, 16, .inl (iA (V 34)))) := hW 34 (by decide)
  have c35 : h (A 35) = some (.inl (G_i G, 1024, .inl (iA (V 35)))) := hW 35 (by decide)
  have c36 : h (A 36) = some (.inl (G_i G, 10, .inl (iA (V 36)))) := hW 36 (by decide)
  have c37 : h (A 37) = some (.inl (G_j G, 160, .inr (.inl (lA (V 37))))) := hW 37 (by decide)
  have c38 : h (A 38) = some (.inl (G_j G, 160, .inr (.inl (lA (V 38))))) := hW 38 (by decide)
  have c39 : h (A 39) = some (.inl (G_i G, 160, .inl (iA (V 39)))) := hW 39 (by decide)
  have c40 : h (A 40) = some (.inl (G_i G, 10240, .inl (iA (V 40)))) := hW 40 (by decide)
  have c41 : h (A 41) = some (.inl (G_j G, 16, .inr (.inl (lA (V 41))))) := hW 41 (by decide)
  have c42 : h (A 42) = some (.inl (G_j G, 16, .inr (.inl (lA (V 42))))) := hW 42 (by decide)
  have c43 : h (A 43) = some (.inl (G_i G, 16, .inl (iA (V 43)))) := hW 43 (by decide)
  have c44 : h (A 44) = some (.inl (G_i G, 1024, .inl (iA (V 44)))) := hW 44 (by decide)
  have c45 : h (A 45) = some (.inl (G_i G, 20, .inl (iA (V 45)))) := hW 45 (by decide)
  have c46 : h (A 46) = some (.inl (G_i G, 194, .inl (iA (V 46)))) := hW 46 (by decide)
  have c47 : h (A 47) = some (.inl (G_i G, 3104, .inl (iA (V 47)))) := hW 47 (by decide)
  have c48 : h (A 48) = some (.inl (G_i G, 65, .inl (iA (V 48)))) := hW 48 (by decide)
  obtain ⟨b1, b2, b3, b4, b5, b6, b7, b8, b9, b10, b11⟩ := id hRB
  obtain ⟨u1, u2, u3, u4, u5, u6, u7, u8⟩ := id b8
  obtain ⟨r1, r2, r3, r4, r5⟩ := id hRC
  obtain ⟨t1, t2, t3, t4, t5, t6, t7, t8, t9, t10, t11, t12⟩ := id hRS
  obtain ⟨p1, p2, p3, p4, p5⟩ := id hRP
  have hc1 : c ≤ 1000 := by omega
  have hct := hPa.2.1
  have hct2 : ct ≤ 10 := hPa.2.1
  by_cases w0 : 0 ≤ a0 ∧ a0 + 1 < n
  ·
    obtain ⟨ii, rfl⟩ : ∃ z : Nat, a0 = (z : Int) := ⟨a0.toNat, by omega⟩
    have hii : ii + 1 < n := by omega
    refine ⟨⟨_, c0⟩, ({ frames := 4, cells := 5, slots := 1077, locals := 112 }), ⟨by decide, by decide, by decide, by decide⟩, rn_mono (c_CB_merge G h (A 0) (A 1) (A 3) (A 4) (A 6) (A 11) (A 13) (A 20) (A 21) (A 22) (A 7) (A 8) (A 9) (A 10) (A 12) (A 48) (c % 10) ct n Kp Ke C (V 7) (V 8) (V 9) (V 10) ii c0 c6 c7 c8 c9 c10 hPa r1 r3.2.1 r3.2.2.1 (hM.le (i := 0) (by decide)) ⟨hM.le (i := 11) (by decide), hM.le (i := 12) (by decide), hM.le (i := 6) (by decide), hM.le (i := 7) (by decide), hM.le (i := 8) (by decide), hM.le (i := 9) (by decide), hM.le (i := 10) (by decide)⟩ ⟨_, c48⟩ (hM.ne (i := 7) (j := 8) (by decide) (by decide) (by decide)) hii) (fun r h1 q => ?_)⟩
    have x3 := (r2 ii (by omega)).2.2.1
    have x4 := (r2 (ii + 1) hii).2.2.1
    by_cases w1 : V 9 ii + 1 + V 9 (ii + 1) ≤ 64
    · obtain ⟨rfl, k6, k7, k8, k9, k10, ⟨Kp', Ke', hPa1, hks, hkk⟩, fb⟩ := q.2 w1
      have hW1 : WC A (EE G A (vu (vu (vu (vu V 7 ((jnC (n, V 7, V 8, V 9, V 10) ii).2.1)) 8 ((jnC (n, V 7, V 8, V 9, V 10) ii).2.2.1)) 9 ((jnC (n, V 7, V 8, V 9, V 10) ii).2.2.2.1)) 10 ((jnC (n, V 7, V 8, V 9, V 10) ii).2.2.2.2)) (zup (zup (zup Z 9 (((n - 1 : Nat) : Int))) 10 ((((c % 10 + 1) % 10 : Nat) : Int))) 11 (((min (ct + 1) 10 : Nat) : Int))) Kp' σ) h1 := hW.up (S := [6, 7, 8, 9, 10, 11, 12]) (kFb hM fb (by decide)) ⟨k6, k7, k8, k9, k10, hPa1.2.2.1, hPa1.2.2.2.1, trivial⟩ (c49 (fun _ => rfl) (fun _ => rfl) (fun _ => rfl) (fun _ => rfl) (fun _ => rfl) (fun _ => rfl) (fun n9 => absurd (by decide) n9) (fun n9 => absurd (by decide) n9) (fun n9 => absurd (by decide) n9) (fun n9 => absurd (by decide) n9) (fun n9 => absurd (by decide) n9) (fun n9 => absurd (by decide) n9) (fun n9 => absurd (by decide) n9) (fun _ => rfl) (fun _ => rfl) (fun _ => rfl) (fun _ => rfl) (fun _ => rfl) (fun _ => rfl) (fun _ => rfl) (fun _ => rfl) (fun _ => rfl) (fun _ => rfl) (fun _ => rfl) (fun _ => rfl) (fun _ => rfl) (fun _ => rfl) (fun _ => rfl) (fun _ => rfl) (fun _ => rfl) (fun _ => rfl) (fun _ => rfl) (fun _ => rfl) (fun _ => rfl) (fun _ => rfl) (fun _ => rfl) (fun _ => rfl) (fun _ => rfl) (fun _ => rfl) (fun _ => rfl) (fun _ => rfl) (fun _ => rfl) (fun _ => rfl) (fun _ => rfl) (fun _ => rfl) (fun _ => rfl) (fun _ => rfl) (fun _ => rfl) (fun _ => rfl))
      have g30 : h1 (A 30) = some (.inr (11, fsN 34 σ)) := hW1 30 (by decide)
      have g31 : h1 (A 31) = some (.inl (G_i G, 1000, .inl (iA (V 31)))) := hW1 31 (by decide)
      have g32 : h1 (A 32) = some (.inl (G_j G, 16, .inr (.inl (lA (V 32))))) := hW1 32 (by decide)
      have g33 : h1 (A 33) = some (.inl (G_j G, 16, .inr (.inl (lA (V 33))))) := hW1 33 (by decide)
      have g34 : h1 (A 34) = some (.inl (G_i G, 16, .inl (iA (V 34)))) := hW1 34 (by decide)
      have g35 : h1 (A 35) = some (.inl (G_i G, 1024, .inl (iA (V 35)))) := hW1 35 (by decide)
      have g36 : h1 (A 36) = some (.inl (G_i G, 10, .inl (iA (V 36)))) := hW1 36 (by decide)
      have g37 : h1 (A 37) = some (.inl (G_j G, 160, .inr (.inl (lA (V 37))))) := hW1 37 (by decide)
      have g38 : h1 (A 38) = some (.inl (G_j G, 160, .inr (.inl (lA (V 38))))) := hW1 38 (by decide)
      have g39 : h1 (A 39) = some (.inl (G_i G, 160, .inl (iA (V 39)))) := hW1 39 (by decide)
      have g40 : h1 (A 40) = some (.inl (G_i G, 10240, .inl (iA (V 40)))) := hW1 40 (by decide)
      have g41 : h1 (A 41) = some (.inl (G_j G, 16, .inr (.inl (lA (V 41))))) := hW1 41 (by decide)
      have g42 : h1 (A 42) = some (.inl (G_j G, 16, .inr (.inl (lA (V 42))))) := hW1 42 (by decide)
      have g43 : h1 (A 43) = some (.inl (G_i G, 16, .inl (iA (V 43)))) := hW1 43 (by decide)
      have g44 : h1 (A 44) = some (.inl (G_i G, 1024, .inl (iA (V 44)))) := hW1 44 (by decide)
      have g45 : h1 (A 45) = some (.inl (G_i G, 20, .inl (iA (V 45)))) := hW1 45 (by decide)
      have g46 : h1 (A 46) = some (.inl (G_i G, 194, .inl (iA (V 46)))) := hW1 46 (by decide)
      have g47 : h1 (A 47) = some (.inl (G_i G, 3104, .inl (iA (V 47)))) := hW1 47 (by decide)
      have g48 : h1 (A 48) = some (.inl (G_i G, 65, .inl (iA (V 48)))) := hW1 48 (by decide)
      refine ⟨((n - 1 : Nat) : Int), by omega, rfl, ⟨_, g30⟩, (rm 1 30), ⟨by decide, by decide, by decide, by decide⟩, rn_mono (c_Mo_merge G h1 σ (A 30) (A 32) (A 33) (A 34) (A 35) (A 36) (A 37) (A 38) (A 39) (A 40) n c ct (V 32) (V 33) (V 34) (V 35) (V 36) (V 37) (V 38) (V 39) (V 40) ii g30 f4 f5 f6 f7 f8 f9 f10 f11 f12 f13 f14 f15 g32 g33 g34 g35 g36 g37 g38 g39 g40 r1 r4.2.1 r4.2.2.1 hii hc1 hct2 (hM.ne (i := 32) (j := 33) (by decide) (by decide) (by decide)) (hM.ne (i := 37) (j := 38) (by decide) (by decide) (by decide))) (fun rr h2 qq => ?_)⟩
      obtain ⟨rfl, ⟨σ2, gm, m4, m9, m10, gs⟩, m32, m33, m34, m35, m36, m37, m38, m39, m40, fm2⟩ := qq.2 (by omega)
      have hW2 : WC A (EE G A (vu (vu (vu (vu (vu (vu (vu (vu (vu (vu (vu (vu (vu V 7 ((jnC (n, V 7, V 8, V 9, V 10) ii).2.1)) 8 ((jnC (n, V 7, V 8, V 9, V 10) ii).2.2.1)) 9 ((jnC (n, V 7, V 8, V 9, V 10) ii).2.2.2.1)) 10 ((jnC (n, V 7, V 8, V 9, V 10) ii).2.2.2.2)) 32 ((jnC (n, V 32, V 33, V 34, V 35) ii).2.1)) 33 ((jnC (n, V 32, V 33, V 34, V 35) ii).2.2.1)) 34 ((jnC (n, V 32, V 33, V 34, V 35) ii).2.2.2.1)) 35 ((jnC (n, V 32, V 33, V 34, V 35) ii).2.2.2.2)) 36 (zup (V 36) (c % 10) (n : Int))) 37 (va_cpy (V 32) (V 37) 0 (16 * (c % 10)) 16)) 38 (va_cpy (V 33) (V 38) 0 (16 * (c % 10)) 16)) 39 (va_cpy (V 34) (V 39) 0 (16 * (c % 10)) 16)) 40 (va_cpy (V 35) (V 40) 0 (1024 * (c % 10)) 1024)) (zup (zup (zup (zup Z 9 (((n - 1 : Nat) : Int))) 10 ((((c % 10 + 1) % 10 : Nat) : Int))) 11 (((min (ct + 1) 10 : Nat) : Int))) 21 ((c : Int) + 1)) Kp' σ2) h2 := hW1.up (S := [30, 32, 33, 34, 35, 36, 37, 38, 39, 40]) (kFm hM fm2 (by decide)) ⟨gm, m32, m33, m34, m35, m36, m37, m38, m39, m40, trivial⟩ (c49 (fun _ => rfl) (fun _ => rfl) (fun _ => rfl) (fun _ => rfl) (fun _ => rfl) (fun _ => rfl) (fun _ => rfl) (fun _ => rfl) (fun _ => rfl) (fun _ => rfl) (fun _ => rfl) (fun _ => rfl) (fun _ => rfl) (fun _ => rfl) (fun _ => rfl) (fun _ => rfl) (fun _ => rfl) (fun _ => rfl) (fun _ => rfl) (fun _ => rfl) (fun _ => rfl) (fun _ => rfl) (fun _ => rfl) (fun _ => rfl) (fun _ => rfl) (fun _ => rfl) (fun _ => rfl) (fun _ => rfl) (fun _ => rfl) (fun _ => rfl) (fun n9 => absurd (by decide) n9) (fun _ => rfl) (fun n9 => absurd (by decide) n9) (fun n9 => absurd (by decide) n9) (fun n9 => absurd (by decide) n9) (fun n9 => absurd (by decide) n9) (fun n9 => absurd (by decide) n9) (fun n9 => absurd (by decide) n9) (fun n9 => absurd (by decide) n9) (fun n9 => absurd (by decide) n9) (fun n9 => absurd (by decide) n9) (fun _ => rfl) (fun _ => rfl) (fun _ => rfl) (fun _ => rfl) (fun _ => rfl) (fun _ => rfl) (fun _ => rfl) (fun _ => rfl))
      exact ⟨rfl, hM, (vu (vu (vu (vu (vu (vu (vu (vu (vu (vu (vu (vu (vu V 7 ((jnC (n, V 7, V 8, V 9, V 10) ii).2.1)) 8 ((jnC (n, V 7, V 8, V 9, V 10) ii).2.2.1)) 9 ((jnC (n, V 7, V 8, V 9, V 10) ii).2.2.2.1)) 10 ((jnC (n, V 7, V 8, V 9, V 10) ii).2.2.2.2)) 32 ((jnC (n, V 32, V 33, V 34, V 35) ii).2.1)) 33 ((jnC (n, V 32, V 33, V 34, V 35) ii).2.2.1)) 34 ((jnC (n, V 32, V 33, V 34, V 35) ii).2.2.2.1)) 35 ((jnC (n, V 32, V 33, V 34, V 35) ii).2.2.2.2)) 36 (zup (V 36) (c % 10) (n : Int))) 37 (va_cpy (V 32) (V 37) 0 (16 * (c % 10)) 16)) 38 (va_cpy (V 33) (V 38) 0 (16 * (c % 10)) 16)) 39 (va_cpy (V 34) (V 39) 0 (16 * (c % 10)) 16)) 40 (va_cpy (V 35) (V 40) 0 (1024 * (c % 10)) 1024)), (zup (zup (zup (zup Z 9 (((n - 1 : Nat) : Int))) 10 ((((c % 10 + 1) % 10 : Nat) : Int))) 11 (((min (ct + 1) 10 : Nat) : Int))) 21 ((c : Int) + 1)), Kp', Ke', (fun j => if j = c % 10 then (n, V 7, V 8, V 9, V 10) else C j), σ2, n0, nu, (n - 1), ((c % 10 + 1) % 10), (min (ct + 1) 10), c + 1, hW2, ⟨(gs 0 (by decide)).trans e0, (gs 1 (by decide)).trans e1, (gs 2 (by decide)).trans e2, (gs 3 (by decide)).trans e3, m4, (gs 5 (by decide)).trans e5, (gs 6 (by decide)).trans e6, (gs 7 (by decide)).trans e7, (gs 8 (by decide)).trans e8, m9, m10, (gs 11 (by decide)).trans e11, (gs 12 (by decide)).trans e12, (gs 13 (by decide)).trans e13, (gs 14 (by decide)).trans e14, (gs 15 (by decide)).trans e15, (gs 19 (by decide)).trans e19, (gs 20 (by decide)).trans e20, (gs 21 (by decide)).trans e21, (gs 22 (by decide)).trans e22, (gs 25 (by decide)).trans e25, (gs 26 (by decide)).trans e26, (gs 27 (by decide)).trans e27, (gs 28 (by decide)).trans e28, (gs 29 (by decide)).trans e29, (gs 30 (by decide)).trans e30, (gs 31 (by decide)).trans e31, (gs 32 (by decide)).trans e32, (gs 33 (by decide)).trans e33⟩, pFm (S := [30, 32, 33, 34, 35, 36, 37, 38, 39, 40]) hM hPa1 fm2 (by decide), ⟨z0, z8, rfl, rfl, rfl, by show (c : Int) + 1 = ((c + 1 : Nat) : Int); omega⟩, hRB, ⟨by omega, v_jn r2 r1 hii r3.2.2.1 w1, rgs_jn r3 w1, rgs_jn r4 (by omega), st_jn r5 hii⟩, hRS, ⟨rgI_keep p1 hkk r1 r2 r3 r5, rgs_ring p2 r4, vlS_keep hct2 (by omega) p3 hkk hks, by omega, by omega⟩, by omega⟩
    · obtain ⟨rfl, hx9⟩ := q.1 (by omega)
      have hW1 : WC A (EE G A V Z Kp σ) h1 := by rw [hx9]; exact hW
      have hPa1 : PaW G h1 (A 48) (A 11) (A 12) (c % 10) ct Kp Ke C := by rw [hx9]; exact hPa
      have g30 : h1 (A 30) = some (.inr (11, fsN 34 σ)) := hW1 30 (by decide)
      have g31 : h1 (A 31) = some (.inl (G_i G, 1000, .inl (iA (V 31)))) := hW1 31 (by decide)
      have g32 : h1 (A 32) = some (.inl (G_j G, 16, .inr (.inl (lA (V 32))))) := hW1 32 (by decide)
      have g33 : h1 (A 33) = some (.inl (G_j G, 16, .inr (.inl (lA (V 33))))) := hW1 33 (by decide)
      have g34 : h1 (A 34) = some (.inl (G_i G, 16, .inl (iA (V 34)))) := hW1 34 (by decide)
      have g35 : h1 (A 35) = some (.inl (G_i G, 1024, .inl (iA (V 35)))) := hW1 35 (by decide)
      have g36 : h1 (A 36) = some (.inl (G_i G, 10, .inl (iA (V 36)))) := hW1 36 (by decide)
      have g37 : h1 (A 37) = some (.inl (G_j G, 160, .inr (.inl (lA (V 37))))) := hW1 37 (by decide)
      have g38 : h1 (A 38) = some (.inl (G_j G, 160, .inr (.inl (lA (V 38))))) := hW1 38 (by decide)
      have g39 : h1 (A 39) = some (.inl (G_i G, 160, .inl (iA (V 39)))) := hW1 39 (by decide)
      have g40 : h1 (A 40) = some (.inl (G_i G, 10240, .inl (iA (V 40)))) := hW1 40 (by decide)
      have g41 : h1 (A 41) = some (.inl (G_j G, 16, .inr (.inl (lA (V 41))))) := hW1 41 (by decide)
      have g42 : h1 (A 42) = some (.inl (G_j G, 16, .inr (.inl (lA (V 42))))) := hW1 42 (by decide)
      have g43 : h1 (A 43) = some (.inl (G_i G, 16, .inl (iA (V 43)))) := hW1 43 (by decide)
      have g44 : h1 (A 44) = some (.inl (G_i G, 1024, .inl (iA (V 44)))) := hW1 44 (by decide)
      have g45 : h1 (A 45) = some (.inl (G_i G, 20, .inl (iA (V 45)))) := hW1 45 (by decide)
      have g46 : h1 (A 46) = some (.inl (G_i G, 194, .inl (iA (V 46)))) := hW1 46 (by decide)
      have g47 : h1 (A 47) = some (.inl (G_i G, 3104, .inl (iA (V 47)))) := hW1 47 (by decide)
      have g48 : h1 (A 48) = some (.inl (G_i G, 65, .inl (iA (V 48)))) := hW1 48 (by decide)
      refine ⟨-3, by decide, rfl, ⟨_, g30⟩, (rm 1 30), ⟨by decide, by decide, by decide, by decide⟩, rn_mono (c_Mo_merge G h1 σ (A 30) (A 32) (A 33) (A 34) (A 35) (A 36) (A 37) (A 38) (A 39) (A 40) n c ct (V 32) (V 33) (V 34) (V 35) (V 36) (V 37) (V 38) (V 39) (V 40) ii g30 f4 f5 f6 f7 f8 f9 f10 f11 f12 f13 f14 f15 g32 g33 g34 g35 g36 g37 g38 g39 g40 r1 r4.2.1 r4.2.2.1 hii hc1 hct2 (hM.ne (i := 32) (j := 33) (by decide) (by decide) (by decide)) (hM.ne (i := 37) (j := 38) (by decide) (by decide) (by decide))) (fun rr h2 qq => ?_)⟩
      obtain ⟨rfl, hx8⟩ := qq.1 (by omega)
      rw [hx8]
      exact ⟨rfl, hM, V, Z, Kp, Ke, C, σ, n0, nu, n, (c % 10), ct, c, hW1, hSg, hPa1, ⟨z0, z8, z9, z10, z11, z21⟩, hRB, hRC, hRS, hRP, by omega⟩
  ·
    refine ⟨⟨_, c0⟩, (rm 1 40), ⟨by decide, by decide, by decide, by decide⟩, rn_mono (c_CB_mergeB G h (A 0) (A 1) (A 3) (A 4) (A 6) (A 11) (A 13) (A 20) (A 21) (A 22) (A 7) (A 8) (A 9) (A 10) n a0 c0 c6 r1 q0 w0) (fun r h1 q => ?_)⟩
    obtain ⟨rfl, hx9⟩ := q
    have hW1 : WC A (EE G A V Z Kp σ) h1 := by rw [hx9]; exact hW
    have hPa1 : PaW G h1 (A 48) (A 11) (A 12) (c % 10) ct Kp Ke C := by rw [hx9]; exact hPa
    have g30 : h1 (A 30) = some (.inr (11, fsN 34 σ)) := hW1 30 (by decide)
    have g31 : h1 (A 31) = some (.inl (G_i G, 1000, .inl (iA (V 31)))) := hW1 31 (by decide)
    have g32 : h1 (A 32) = some (.inl (G_j G, 16, .inr (.inl (lA (V 32))))) := hW1 32 (by decide)
    have g33 : h1 (A 33) = some (.inl (G_j G, 16, .inr (.inl (lA (V 33))))) := hW1 33 (by decide)
    have g34 : h1 (A 34) = some (.inl (G_i G, 16, .inl (iA (V 34)))) := hW1 34 (by decide)
    have g35 : h1 (A 35) = some (.inl (G_i G, 1024, .inl (iA (V 35)))) := hW1 35 (by decide)
    have g36 : h1 (A 36) = some (.inl (G_i G, 10, .inl (iA (V 36)))) := hW1 36 (by decide)
    have g37 : h1 (A 37) = some (.inl (G_j G, 160, .inr (.inl (lA (V 37))))) := hW1 37 (by decide)
    have g38 : h1 (A 38) = some (.inl (G_j G, 160, .inr (.inl (lA (V 38))))) := hW1 38 (by decide)
    have g39 : h1 (A 39) = some (.inl (G_i G, 160, .inl (iA (V 39)))) := hW1 39 (by decide)
    have g40 : h1 (A 40) = some (.inl (G_i G, 10240, .inl (iA (V 40)))) := hW1 40 (by decide)
    have g41 : h1 (A 41) = some (.inl (G_j G, 16, .inr (.inl (lA (V 41))))) := hW1 41 (by decide)
    have g42 : h1 (A 42) = some (.inl (G_j G, 16, .inr (.inl (lA (V 42))))) := hW1 42 (by decide)
    have g43 : h1 (A 43) = some (.inl (G_i G, 16, .inl (iA (V 43)))) := hW1 43 (by decide)
    have g44 : h1 (A 44) = some (.inl (G_i G, 1024, .inl (iA (V 44)))) := hW1 44 (by decide)
    have g45 : h1 (A 45) = some (.inl (G_i G, 20, .inl (iA (V 45)))) := hW1 45 (by decide)
    have g46 : h1 (A 46) = some (.inl (G_i G, 194, .inl (iA (V 46)))) := hW1 46 (by decide)
    have g47 : h1 (A 47) = some (.inl (G_i G, 3104, .inl (iA (V 47)))) := hW1 47 (by decide)
    have g48 : h1 (A 48) = some (.inl (G_i G, 65, .inl (iA (V 48)))) := hW1 48 (by decide)
    refine ⟨-2, by decide, rfl, ⟨_, g30⟩, (rm 1 40), ⟨by decide, by decide, by decide, by decide⟩, rn_mono (c_Mo_mergeB G h1 σ (A 30) n a0 g30 f4 r1 q0 w0) (fun rr h2 qq => ?_)⟩
    obtain ⟨rfl, hx8⟩ := qq
    rw [hx8]
    exact ⟨rfl, hM, V, Z, Kp, Ke, C, σ, n0, nu, n, (c % 10), ct, c, hW1, hSg, hPa1, ⟨z0, z8, z9, z10, z11, z21⟩, hRB, hRC, hRS, hRP, by omega⟩
set_option maxHeartbeats 4000000 in
set_option maxRecDepth 100000 in
theorem duo_split (G : GT) (A : Nat → Nat) (i : Nat) (h : HM) (hI : Inv G A i h) (hi : i ≤ 511) : ∀ a0 a1 : Int, iR a0 → iR a1 → Duo G (A 0) (A 30) M_CB_split M_Mo_split [.int (iZ a0), .int (iZ a1)] mI iR h (Inv G A (i + 1)) := by
  intro a0 a1 q0 q1
  obtain ⟨hM, V, Z, Kp, Ke, C, σ, n0, nu, n, nx, ct, c, hW, hSg, hPa, ⟨z0, z8, z9, z10, z11, z21⟩, hRB, hRC, hRS, hRP, hci⟩ := hI
  obtain rfl : nx = c % 10 := hRP.2.2.2.1
  obtain ⟨e0, e1, e2, e3, e4, e5, e6, e7, e8, e9, e10, e11, e12, e13, e14, e15, e19, e20, e21, e22, e25, e26, e27, e28, e29, e30, e31, e32, e33⟩ := id hSg
  have f0 : σ 0 = .int (iZ (n0 : Int)) := by rw [← z0]; exact e0
  have f1 : σ 1 = .ref (A 31) := e1
  have f2 : σ 2 = .int (iZ (Z 1)) := e2
  have f3 : σ 3 = .int (iZ (Z 2)) := e3
  have f4 : σ 4 = .int (iZ (n : Int)) := by rw [← z9]; exact e4
  have f5 : σ 5 = .ref (A 32) := e5
  have f6 : σ 6 = .ref (A 33) := e6
  have f7 : σ 7 = .ref (A 34) := e7
  have f8 : σ 8 = .ref (A 35) := e8
  have f9 : σ 9 = .int (iZ (c : Int)) := by rw [← z21]; exact e9
  have f10 : σ 10 = .int (iZ (ct : Int)) := by rw [← z11]; exact e10
  have f11 : σ 11 = .ref (A 36) := e11
  have f12 : σ 12 = .ref (A 37) := e12
  have f13 : σ 13 = .ref (A 38) := e13
  have f14 : σ 14 = .ref (A 39) := e14
  have f15 : σ 15 = .ref (A 40) := e15
  have f19 : σ 19 = .ref (A 41) := e19
  have f20 : σ 20 = .ref (A 42) := e20
  have f21 : σ 21 = .ref (A 43) := e21
  have f22 : σ 22 = .ref (A 44) := e22
  have f25 : σ 25 = .int (iZ (nu : Int)) := by rw [← z8]; exact e25
  have f26 : σ 26 = .ref (A 45) := e26
  have f27 : σ 27 = .int (iZ (Z 4)) := e27
  have f28 : σ 28 = .int (iZ (Z 5)) := e28
  have f29 : σ 29 = .int (iZ (Z 6)) := e29
  have f30 : σ 30 = .int (iZ (Z 7)) := e30
  have f31 : σ 31 = .ref (A 46) := e31
  have f32 : σ 32 = .ref (A 47) := e32
  have f33 : σ 33 = .ref (A 48) := e33
  have c0 : h (A 0) = some (.inr (0, [.ref (A 1), .ref (A 3), .ref (A 4), .ref (A 6), .ref (A 11), .ref (A 13), .ref (A 20), .ref (A 21), .ref (A 22)])) := hW 0 (by decide)
  have c1 : h (A 1) = some (.inr (1, [.ref (A 2), .int (iZ (n0 : Int))])) := by rw [← z0]; exact hW 1 (by decide)
  have c2 : h (A 2) = some (.inl (G_i G, 1000, .inl (iA (V 2)))) := hW 2 (by decide)
  have c3 : h (A 3) = some (.inr (5, [.int (iZ (Z 1)), .int (iZ (Z 2)), .long (lZ (Z 3))])) := hW 3 (by decide)
  have c4 : h (A 4) = some (.inr (10, [.int (iZ (Z 4)), .int (iZ (Z 5)), .int (iZ (Z 6)), .int (iZ (Z 7)), .ref (A 5), .int (iZ (nu : Int))])) := by rw [← z8]; exact hW 4 (by decide)
  have c5 : h (A 5) = some (.inl (G_i G, 20, .inl (iA (V 5)))) := hW 5 (by decide)
  have c6 : h (A 6) = some (.inr (2, [.ref (A 7), .ref (A 8), .ref (A 9), .ref (A 10), .int (iZ (n : Int))])) := by rw [← z9]; exact hW 6 (by decide)
  have c7 : h (A 7) = some (.inl (G_j G, 16, .inr (.inl (lA (V 7))))) := hW 7 (by decide)
  have c8 : h (A 8) = some (.inl (G_j G, 16, .inr (.inl (lA (V 8))))) := hW 8 (by decide)
  have c9 : h (A 9) = some (.inl (G_i G, 16, .inl (iA (V 9)))) := hW 9 (by decide)
  have c10 : h (A 10) = some (.inl (G_i G, 1024, .inl (iA (V 10)))) := hW 10 (by decide)
  have c11 : h (A 11) = some (.inr (7, [.ref (A 12), .int (iZ ((c % 10 : Nat) : Int)), .int (iZ (ct : Int))])) := by rw [← z10, ← z11]; exact hW 11 (by decide)
  have c12 : h (A 12) = some (.inl (G_q G, 10, .inr (.inr (.inr (.inr Kp))))) := hW 12 (by decide)
  have c13 : h (A 13) = some (.inr (3, [.ref (A 1), .ref (A 3), .ref (A 14), .ref (A 19), .int (iZ (Z 12)), .int (iZ (Z 13)), .int (iZ (Z 14)), .long (lZ (Z 15)), .long (lZ (Z 16)), .long (lZ (Z 17))])) := hW 13 (by decide)
  have c14 : h (A 14) = some (.inr (2, [.ref (A 15), .ref (A 16), .ref (A 17), .ref (A 18), .int (iZ (Z 18))])) := hW 14 (by decide)
  have c15 : h (A 15) = some (.inl (G_j G, 16, .inr (.inl (lA (V 15))))) := hW 15 (by decide)
  have c16 : h (A 16) = some (.inl (G_j G, 16, .inr (.inl (lA (V 16))))) := hW 16 (by decide)
  have c17 : h (A 17) = some (.inl (G_i G, 16, .inl (iA (V 17)))) := hW 17 (by decide)
  have c18 : h (A 18) = some (.inl (G_i G, 1024, .inl (iA (V 18)))) := hW 18 (by decide)
  have c19 : h (A 19) = some (.inl (G_i G, 64, .inl (iA (V 19)))) := hW 19 (by decide)
  have c20 : h (A 20) = some (.inr (4, [.ref (A 1), .ref (A 3), .ref (A 6)])) := hW 20 (by decide)
  have c21 : h (A 21) = some (.inr (6, [.ref (A 6), .int (iZ (Z 19)), .int (iZ (Z 20))])) := hW 21 (by decide)
  have c22 : h (A 22) = some (.inr (9, [.ref (A 6), .ref (A 3), .ref (A 4), .ref (A 23), .ref (A 24), .ref (A 25), .ref (A 26), .ref (A 27), .ref (A 28), .ref (A 29)])) := hW 22 (by decide)
  have c23 : h (A 23) = some (.inl (G_i G, 16, .inl (iA (V 23)))) := hW 23 (by decide)
  have c24 : h (A 24) = some (.inl (G_i G, 16, .inl (iA (V 24)))) := hW 24 (by decide)
  have c25 : h (A 25) = some (.inl (G_i G, 16, .inl (iA (V 25)))) := hW 25 (by decide)
  have c26 : h (A 26) = some (.inl (G_i G, 97, .inl (iA (V 26)))) := hW 26 (by decide)
  have c27 : h (A 27) = some (.inl (G_i G, 400, .inl (iA (V 27)))) := hW 27 (by decide)
  have c28 : h (A 28) = some (.inl (G_i G, 400, .inl (iA (V 28)))) := hW 28 (by decide)
  have c29 : h (A 29) = some (.inl (G_i G, 400, .inl (iA (V 29)))) := hW 29 (by decide)
  have c30 : h (A 30) = some (.inr (11, fsN 34 σ)) := hW 30 (by decide)
  have c31 : h (A 31) = some (.inl (G_i G, 1000, .inl (iA (V 31)))) := hW 31 (by decide)
  have c32 : h (A 32) = some (.inl (G_j G, 16, .inr (.inl (lA (V 32))))) := hW 32 (by decide)
  have c33 : h (A 33) = some (.inl (G_j G, 16, .inr (.inl (lA (V 33))))) := hW 33 (by decide)
  have c34 : h (A 34) = some (.inl (G_i G, 16, .inl (iA (V 34)))) := hW 34 (by decide)
  have c35 : h (A 35) = some (.inl (G_i G, 1024, .inl (iA (V 35)))) := hW 35 (by decide)
  have c36 : h (A 36) = some (.inl (G_i G, 10, .inl (iA (V 36)))) := hW 36 (by decide)
  have c37 : h (A 37) = some (.inl (G_j G, 160, .inr (.inl (lA (V 37))))) := hW 37 (by decide)
  have c38 : h (A 38) = some (.inl (G_j G, 160, .inr (.inl (lA (V 38))))) := hW 38 (by decide)
  have c39 : h (A 39) = some (.inl (G_i G, 160, .inl (iA (V 39)))) := hW 39 (by decide)
  have c40 : h (A 40) = some (.inl (G_i G, 10240, .inl (iA (V 40)))) := hW 40 (by decide)
  have c41 : h (A 41) = some (.inl (G_j G, 16, .inr (.inl (lA (V 41))))) := hW 41 (by decide)
  have c42 : h (A 42) = some (.inl (G_j G, 16, .inr (.inl (lA (V 42))))) := hW 42 (by decide)
  have c43 : h (A 43) = some (.inl (G_i G, 16, .inl (iA (V 43)))) := hW 43 (by decide)
  have c44 : h (A 44) = some (.inl (G_i G, 1024, .inl (iA (V 44)))) := hW 44 (by decide)
  have c45 : h (A 45) = some (.inl (G_i G, 20, .inl (iA (V 45)))) := hW 45 (by decide)
  have c46 : h (A 46) = some (.inl (G_i G, 194, .inl (iA (V 46)))) := hW 46 (by decide)
  have c47 : h (A 47) = some (.inl (G_i G, 3104, .inl (iA (V 47)))) := hW 47 (by decide)
  have c48 : h (A 48) = some (.inl (G_i G, 65, .inl (iA (V 48)))) := hW 48 (by decide)
  obtain ⟨b1, b2, b3, b4, b5, b6, b7, b8, b9, b10, b11⟩ := id hRB
  obtain ⟨u1, u2, u3, u4, u5, u6, u7, u8⟩ := id b8
  obtain ⟨r1, r2, r3, r4, r5⟩ := id hRC
  obtain ⟨t1, t2, t3, t4, t5, t6, t7, t8, t9, t10, t11, t12⟩ := id hRS
  obtain ⟨p1, p2, p3, p4, p5⟩ := id hRP
  have hc1 : c ≤ 1000 := by omega
  have hct := hPa.2.1
  have hct2 : ct ≤ 10 := hPa.2.1
  by_cases w0 : 0 ≤ a0 ∧ a0 < n ∧ 1 ≤ a1 ∧ a1 < V 9 a0.toNat
  ·
    obtain ⟨ii, rfl⟩ : ∃ z : Nat, a0 = (z : Int) := ⟨a0.toNat, by omega⟩
    obtain ⟨jj, rfl⟩ : ∃ z : Nat, a1 = (z : Int) := ⟨a1.toNat, by omega⟩
    rw [Int.toNat_natCast] at w0
    have hii : ii < n := by omega
    have hjj : 1 ≤ jj ∧ (jj : Int) < V 9 ii := ⟨by omega, w0.2.2.2⟩
    have x3 := (r2 ii hii).2.2.1
    have hjm : 1 ≤ jj ∧ (jj : Int) < V 34 ii := by rw [← x3]; exact hjj
    refine ⟨⟨_, c0⟩, ({ frames := 4, cells := 5, slots := 1077, locals := 112 }), ⟨by decide, by decide, by decide, by decide⟩, rn_mono (c_CB_split G h (A 0) (A 1) (A 3) (A 4) (A 6) (A 11) (A 13) (A 20) (A 21) (A 22) (A 7) (A 8) (A 9) (A 10) (A 12) (A 48) (c % 10) ct n Kp Ke C (V 7) (V 8) (V 9) (V 10) ii jj c0 c6 c7 c8 c9 c10 hPa r1 r3.1 r3.2.1 r3.2.2.1 r3.2.2.2 (hM.le (i := 0) (by decide)) ⟨hM.le (i := 11) (by decide), hM.le (i := 12) (by decide), hM.le (i := 6) (by decide), hM.le (i := 7) (by decide), hM.le (i := 8) (by decide), hM.le (i := 9) (by decide), hM.le (i := 10) (by decide)⟩ ⟨_, c48⟩ (hM.ne (i := 7) (j := 8) (by decide) (by decide) (by decide)) hii hjj) (fun r h1 q => ?_)⟩
    have xb := v_spB r2 hii hjj
    have xt := v_spT r2 hii hjj.2
    by_cases w1 : spBad (V 7) (V 8) (V 9) (V 10) n ii jj
    · obtain ⟨rfl, hx9⟩ := q.1 w1
      have hW1 : WC A (EE G A V Z Kp σ) h1 := by rw [hx9]; exact hW
      have hPa1 : PaW G h1 (A 48) (A 11) (A 12) (c % 10) ct Kp Ke C := by rw [hx9]; exact hPa
      have g30 : h1 (A 30) = some (.inr (11, fsN 34 σ)) := hW1 30 (by decide)
      have g31 : h1 (A 31) = some (.inl (G_i G, 1000, .inl (iA (V 31)))) := hW1 31 (by decide)
      have g32 : h1 (A 32) = some (.inl (G_j G, 16, .inr (.inl (lA (V 32))))) := hW1 32 (by decide)
      have g33 : h1 (A 33) = some (.inl (G_j G, 16, .inr (.inl (lA (V 33))))) := hW1 33 (by decide)
      have g34 : h1 (A 34) = some (.inl (G_i G, 16, .inl (iA (V 34)))) := hW1 34 (by decide)
      have g35 : h1 (A 35) = some (.inl (G_i G, 1024, .inl (iA (V 35)))) := hW1 35 (by decide)
      have g36 : h1 (A 36) = some (.inl (G_i G, 10, .inl (iA (V 36)))) := hW1 36 (by decide)
      have g37 : h1 (A 37) = some (.inl (G_j G, 160, .inr (.inl (lA (V 37))))) := hW1 37 (by decide)
      have g38 : h1 (A 38) = some (.inl (G_j G, 160, .inr (.inl (lA (V 38))))) := hW1 38 (by decide)
      have g39 : h1 (A 39) = some (.inl (G_i G, 160, .inl (iA (V 39)))) := hW1 39 (by decide)
      have g40 : h1 (A 40) = some (.inl (G_i G, 10240, .inl (iA (V 40)))) := hW1 40 (by decide)
      have g41 : h1 (A 41) = some (.inl (G_j G, 16, .inr (.inl (lA (V 41))))) := hW1 41 (by decide)
      have g42 : h1 (A 42) = some (.inl (G_j G, 16, .inr (.inl (lA (V 42))))) := hW1 42 (by decide)
      have g43 : h1 (A 43) = some (.inl (G_i G, 16, .inl (iA (V 43)))) := hW1 43 (by decide)
      have g44 : h1 (A 44) = some (.inl (G_i G, 1024, .inl (iA (V 44)))) := hW1 44 (by decide)
      have g45 : h1 (A 45) = some (.inl (G_i G, 20, .inl (iA (V 45)))) := hW1 45 (by decide)
      have g46 : h1 (A 46) = some (.inl (G_i G, 194, .inl (iA (V 46)))) := hW1 46 (by decide)
      have g47 : h1 (A 47) = some (.inl (G_i G, 3104, .inl (iA (V 47)))) := hW1 47 (by decide)
      have g48 : h1 (A 48) = some (.inl (G_i G, 65, .inl (iA (V 48)))) := hW1 48 (by decide)
      refine ⟨-2, by decide, rfl, ⟨_, g30⟩, (rm 2 60), ⟨by decide, by decide, by decide, by decide⟩, rn_mono (c_Mo_split G h1 σ (A 30) (A 32) (A 33) (A 34) (A 35) (A 36) (A 37) (A 38) (A 39) (A 40) n c ct (V 32) (V 33) (V 34) (V 35) (V 36) (V 37) (V 38) (V 39) (V 40) ii jj g30 f4 f5 f6 f7 f8 f9 f10 f11 f12 f13 f14 f15 g32 g33 g34 g35 g36 g37 g38 g39 g40 r1 r4.1 r4.2.1 r4.2.2.1 r4.2.2.2 hii hjm hc1 hct2 (hM.ne (i := 32) (j := 33) (by decide) (by decide) (by decide)) (hM.ne (i := 37) (j := 38) (by decide) (by decide) (by decide))) (fun rr h2 qq => ?_)⟩
      obtain ⟨rfl, hx8⟩ := qq.1 (xb.mp w1)
      rw [hx8]
      exact ⟨rfl, hM, V, Z, Kp, Ke, C, σ, n0, nu, n, (c % 10), ct, c, hW1, hSg, hPa1, ⟨z0, z8, z9, z10, z11, z21⟩, hRB, hRC, hRS, hRP, by omega⟩
    · have w2 := fun w => w1 (xb.mpr w)
      by_cases w3 : n < 16
      · obtain ⟨rfl, k6, k7, k8, k9, k10, ⟨Kp', Ke', hPa1, hks, hkk⟩, fb⟩ := q.2.2 w1 w3
        have hW1 : WC A (EE G A (vu (vu (vu (vu V 7 ((spC (n, V 7, V 8, V 9, V 10) ii jj (spTm (V 7) (V 8) (V 9) (V 10) ii jj)).2.1)) 8 ((spC (n, V 7, V 8, V 9, V 10) ii jj (spTm (V 7) (V 8) (V 9) (V 10) ii jj)).2.2.1)) 9 ((spC (n, V 7, V 8, V 9, V 10) ii jj (spTm (V 7) (V 8) (V 9) (V 10) ii jj)).2.2.2.1)) 10 ((spC (n, V 7, V 8, V 9, V 10) ii jj (spTm (V 7) (V 8) (V 9) (V 10) ii jj)).2.2.2.2)) (zup (zup (zup Z 9 (((n + 1 : Nat) : Int))) 10 ((((c % 10 + 1) % 10 : Nat) : Int))) 11 (((min (ct + 1) 10 : Nat) : Int))) Kp' σ) h1 := hW.up (S := [6, 7, 8, 9, 10, 11, 12]) (kFb hM fb (by decide)) ⟨k6, k7, k8, k9, k10, hPa1.2.2.1, hPa1.2.2.2.1, trivial⟩ (c49 (fun _ => rfl) (fun _ => rfl) (fun _ => rfl) (fun _ => rfl) (fun _ => rfl) (fun _ => rfl) (fun n9 => absurd (by decide) n9) (fun n9 => absurd (by decide) n9) (fun n9 => absurd (by decide) n9) (fun n9 => absurd (by decide) n9) (fun n9 => absurd (by decide) n9) (fun n9 => absurd (by decide) n9) (fun n9 => absurd (by decide) n9) (fun _ => rfl) (fun _ => rfl) (fun _ => rfl) (fun _ => rfl) (fun _ => rfl) (fun _ => rfl) (fun _ => rfl) (fun _ => rfl) (fun _ => rfl) (fun _ => rfl) (fun _ => rfl) (fun _ => rfl) (fun _ => rfl) (fun _ => rfl) (fun _ => rfl) (fun _ => rfl) (fun _ => rfl) (fun _ => rfl) (fun _ => rfl) (fun _ => rfl) (fun _ => rfl) (fun _ => rfl) (fun _ => rfl) (fun _ => rfl) (fun _ => rfl) (fun _ => rfl) (fun _ => rfl) (fun _ => rfl) (fun _ => rfl) (fun _ => rfl) (fun _ => rfl) (fun _ => rfl) (fun _ => rfl) (fun _ => rfl) (fun _ => rfl) (fun _ => rfl))
        have g30 : h1 (A 30) = some (.inr (11, fsN 34 σ)) := hW1 30 (by decide)
        have g31 : h1 (A 31) = some (.inl (G_i G, 1000, .inl (iA (V 31)))) := hW1 31 (by decide)
        have g32 : h1 (A 32) = some (.inl (G_j G, 16, .inr (.inl (lA (V 32))))) := hW1 32 (by decide)
        have g33 : h1 (A 33) = some (.inl (G_j G, 16, .inr (.inl (lA (V 33))))) := hW1 33 (by decide)
        have g34 : h1 (A 34) = some (.inl (G_i G, 16, .inl (iA (V 34)))) := hW1 34 (by decide)
        have g35 : h1 (A 35) = some (.inl (G_i G, 1024, .inl (iA (V 35)))) := hW1 35 (by decide)
        have g36 : h1 (A 36) = some (.inl (G_i G, 10, .inl (iA (V 36)))) := hW1 36 (by decide)
        have g37 : h1 (A 37) = some (.inl (G_j G, 160, .inr (.inl (lA (V 37))))) := hW1 37 (by decide)
        have g38 : h1 (A 38) = some (.inl (G_j G, 160, .inr (.inl (lA (V 38))))) := hW1 38 (by decide)
        have g39 : h1 (A 39) = some (.inl (G_i G, 160, .inl (iA (V 39)))) := hW1 39 (by decide)
        have g40 : h1 (A 40) = some (.inl (G_i G, 10240, .inl (iA (V 40)))) := hW1 40 (by decide)
        have g41 : h1 (A 41) = some (.inl (G_j G, 16, .inr (.inl (lA (V 41))))) := hW1 41 (by decide)
        have g42 : h1 (A 42) = some (.inl (G_j G, 16, .inr (.inl (lA (V 42))))) := hW1 42 (by decide)
        have g43 : h1 (A 43) = some (.inl (G_i G, 16, .inl (iA (V 43)))) := hW1 43 (by decide)
        have g44 : h1 (A 44) = some (.inl (G_i G, 1024, .inl (iA (V 44)))) := hW1 44 (by decide)
        have g45 : h1 (A 45) = some (.inl (G_i G, 20, .inl (iA (V 45)))) := hW1 45 (by decide)
        have g46 : h1 (A 46) = some (.inl (G_i G, 194, .inl (iA (V 46)))) := hW1 46 (by decide)
        have g47 : h1 (A 47) = some (.inl (G_i G, 3104, .inl (iA (V 47)))) := hW1 47 (by decide)
        have g48 : h1 (A 48) = some (.inl (G_i G, 65, .inl (iA (V 48)))) := hW1 48 (by decide)
        refine ⟨((n + 1 : Nat) : Int), by omega, rfl, ⟨_, g30⟩, (rm 2 60), ⟨by decide, by decide, by decide, by decide⟩, rn_mono (c_Mo_split G h1 σ (A 30) (A 32) (A 33) (A 34) (A 35) (A 36) (A 37) (A 38) (A 39) (A 40) n c ct (V 32) (V 33) (V 34) (V 35) (V 36) (V 37) (V 38) (V 39) (V 40) ii jj g30 f4 f5 f6 f7 f8 f9 f10 f11 f12 f13 f14 f15 g32 g33 g34 g35 g36 g37 g38 g39 g40 r1 r4.1 r4.2.1 r4.2.2.1 r4.2.2.2 hii hjm hc1 hct2 (hM.ne (i := 32) (j := 33) (by decide) (by decide) (by decide)) (hM.ne (i := 37) (j := 38) (by decide) (by decide) (by decide))) (fun rr h2 qq => ?_)⟩
        rw [← xt] at qq
        obtain ⟨rfl, ⟨σ2, gm, m4, m9, m10, gs⟩, m32, m33, m34, m35, m36, m37, m38, m39, m40, fm2⟩ := qq.2.2 w2 w3
        have y1 : V 7 ii < (spTm (V 7) (V 8) (V 9) (V 10) ii jj) := by rcases Int.lt_or_le (V 7 ii) (spTm (V 7) (V 8) (V 9) (V 10) ii jj) with w | w; exact w; exact absurd (Or.inr (Or.inl w)) w1
        have y2 : (spTm (V 7) (V 8) (V 9) (V 10) ii jj) < V 8 ii := by rcases Int.lt_or_le (spTm (V 7) (V 8) (V 9) (V 10) ii jj) (V 8 ii) with w | w; exact w; exact absurd (Or.inr (Or.inr (Or.inl w))) w1
        have y3 := r3.1 ii
        have y4 := r3.2.1 ii
        have hW2 : WC A (EE G A (vu (vu (vu (vu (vu (vu (vu (vu (vu (vu (vu (vu (vu V 7 ((spC (n, V 7, V 8, V 9, V 10) ii jj (spTm (V 7) (V 8) (V 9) (V 10) ii jj)).2.1)) 8 ((spC (n, V 7, V 8, V 9, V 10) ii jj (spTm (V 7) (V 8) (V 9) (V 10) ii jj)).2.2.1)) 9 ((spC (n, V 7, V 8, V 9, V 10) ii jj (spTm (V 7) (V 8) (V 9) (V 10) ii jj)).2.2.2.1)) 10 ((spC (n, V 7, V 8, V 9, V 10) ii jj (spTm (V 7) (V 8) (V 9) (V 10) ii jj)).2.2.2.2)) 32 ((spM (n, V 32, V 33, V 34, V 35) ii jj (spTm (V 7) (V 8) (V 9) (V 10) ii jj)).2.1)) 33 ((spM (n, V 32, V 33, V 34, V 35) ii jj (spTm (V 7) (V 8) (V 9) (V 10) ii jj)).2.2.1)) 34 ((spM (n, V 32, V 33, V 34, V 35) ii jj (spTm (V 7) (V 8) (V 9) (V 10) ii jj)).2.2.2.1)) 35 ((spM (n, V 32, V 33, V 34, V 35) ii jj (spTm (V 7) (V 8) (V 9) (V 10) ii jj)).2.2.2.2)) 36 (zup (V 36) (c % 10) (n : Int))) 37 (va_cpy (V 32) (V 37) 0 (16 * (c % 10)) 16)) 38 (va_cpy (V 33) (V 38) 0 (16 * (c % 10)) 16)) 39 (va_cpy (V 34) (V 39) 0 (16 * (c % 10)) 16)) 40 (va_cpy (V 35) (V 40) 0 (1024 * (c % 10)) 1024)) (zup (zup (zup (zup Z 9 (((n + 1 : Nat) : Int))) 10 ((((c % 10 + 1) % 10 : Nat) : Int))) 11 (((min (ct + 1) 10 : Nat) : Int))) 21 ((c : Int) + 1)) Kp' σ2) h2 := hW1.up (S := [30, 32, 33, 34, 35, 36, 37, 38, 39, 40]) (kFm hM fm2 (by decide)) ⟨gm, m32, m33, m34, m35, m36, m37, m38, m39, m40, trivial⟩ (c49 (fun _ => rfl) (fun _ => rfl) (fun _ => rfl) (fun _ => rfl) (fun _ => rfl) (fun _ => rfl) (fun _ => rfl) (fun _ => rfl) (fun _ => rfl) (fun _ => rfl) (fun _ => rfl) (fun _ => rfl) (fun _ => rfl) (fun _ => rfl) (fun _ => rfl) (fun _ => rfl) (fun _ => rfl) (fun _ => rfl) (fun _ => rfl) (fun _ => rfl) (fun _ => rfl) (fun _ => rfl) (fun _ => rfl) (fun _ => rfl) (fun _ => rfl) (fun _ => rfl) (fun _ => rfl) (fun _ => rfl) (fun _ => rfl) (fun _ => rfl) (fun n9 => absurd (by decide) n9) (fun _ => rfl) (fun n9 => absurd (by decide) n9) (fun n9 => absurd (by decide) n9) (fun n9 => absurd (by decide) n9) (fun n9 => absurd (by decide) n9) (fun n9 => absurd (by decide) n9) (fun n9 => absurd (by decide) n9) (fun n9 => absurd (by decide) n9) (fun n9 => absurd (by decide) n9) (fun n9 => absurd (by decide) n9) (fun _ => rfl) (fun _ => rfl) (fun _ => rfl) (fun _ => rfl) (fun _ => rfl) (fun _ => rfl) (fun _ => rfl) (fun _ => rfl))
        exact ⟨rfl, hM, (vu (vu (vu (vu (vu (vu (vu (vu (vu (vu (vu (vu (vu V 7 ((spC (n, V 7, V 8, V 9, V 10) ii jj (spTm (V 7) (V 8) (V 9) (V 10) ii jj)).2.1)) 8 ((spC (n, V 7, V 8, V 9, V 10) ii jj (spTm (V 7) (V 8) (V 9) (V 10) ii jj)).2.2.1)) 9 ((spC (n, V 7, V 8, V 9, V 10) ii jj (spTm (V 7) (V 8) (V 9) (V 10) ii jj)).2.2.2.1)) 10 ((spC (n, V 7, V 8, V 9, V 10) ii jj (spTm (V 7) (V 8) (V 9) (V 10) ii jj)).2.2.2.2)) 32 ((spM (n, V 32, V 33, V 34, V 35) ii jj (spTm (V 7) (V 8) (V 9) (V 10) ii jj)).2.1)) 33 ((spM (n, V 32, V 33, V 34, V 35) ii jj (spTm (V 7) (V 8) (V 9) (V 10) ii jj)).2.2.1)) 34 ((spM (n, V 32, V 33, V 34, V 35) ii jj (spTm (V 7) (V 8) (V 9) (V 10) ii jj)).2.2.2.1)) 35 ((spM (n, V 32, V 33, V 34, V 35) ii jj (spTm (V 7) (V 8) (V 9) (V 10) ii jj)).2.2.2.2)) 36 (zup (V 36) (c % 10) (n : Int))) 37 (va_cpy (V 32) (V 37) 0 (16 * (c % 10)) 16)) 38 (va_cpy (V 33) (V 38) 0 (16 * (c % 10)) 16)) 39 (va_cpy (V 34) (V 39) 0 (16 * (c % 10)) 16)) 40 (va_cpy (V 35) (V 40) 0 (1024 * (c % 10)) 1024)), (zup (zup (zup (zup Z 9 (((n + 1 : Nat) : Int))) 10 ((((c % 10 + 1) % 10 : Nat) : Int))) 11 (((min (ct + 1) 10 : Nat) : Int))) 21 ((c : Int) + 1)), Kp', Ke', (fun j => if j = c % 10 then (n, V 7, V 8, V 9, V 10) else C j), σ2, n0, nu, (n + 1), ((c % 10 + 1) % 10), (min (ct + 1) 10), c + 1, hW2, ⟨(gs 0 (by decide)).trans e0, (gs 1 (by decide)).trans e1, (gs 2 (by decide)).trans e2, (gs 3 (by decide)).trans e3, m4, (gs 5 (by decide)).trans e5, (gs 6 (by decide)).trans e6, (gs 7 (by decide)).trans e7, (gs 8 (by decide)).trans e8, m9, m10, (gs 11 (by decide)).trans e11, (gs 12 (by decide)).trans e12, (gs 13 (by decide)).trans e13, (gs 14 (by decide)).trans e14, (gs 15 (by decide)).trans e15, (gs 19 (by decide)).trans e19, (gs 20 (by decide)).trans e20, (gs 21 (by decide)).trans e21, (gs 22 (by decide)).trans e22, (gs 25 (by decide)).trans e25, (gs 26 (by decide)).trans e26, (gs 27 (by decide)).trans e27, (gs 28 (by decide)).trans e28, (gs 29 (by decide)).trans e29, (gs 30 (by decide)).trans e30, (gs 31 (by decide)).trans e31, (gs 32 (by decide)).trans e32, (gs 33 (by decide)).trans e33⟩, pFm (S := [30, 32, 33, 34, 35, 36, 37, 38, 39, 40]) hM hPa1 fm2 (by decide), ⟨z0, z8, rfl, rfl, rfl, by show (c : Int) + 1 = ((c + 1 : Nat) : Int); omega⟩, hRB, ⟨by omega, v_sp r2 w3 hii hjj r3.2.2.1, rgs_spC r3 hjj.2 (by omega), rgs_spM r4 hjm.2 (by omega), st_sp r5 hii y1 y2⟩, hRS, ⟨rgI_keep p1 hkk r1 r2 r3 r5, rgs_ring p2 r4, vlS_keep hct2 (by omega) p3 hkk hks, by omega, by omega⟩, by omega⟩
      · obtain ⟨rfl, hx9⟩ := q.2.1 w1 (by omega)
        have hW1 : WC A (EE G A V Z Kp σ) h1 := by rw [hx9]; exact hW
        have hPa1 : PaW G h1 (A 48) (A 11) (A 12) (c % 10) ct Kp Ke C := by rw [hx9]; exact hPa
        have g30 : h1 (A 30) = some (.inr (11, fsN 34 σ)) := hW1 30 (by decide)
        have g31 : h1 (A 31) = some (.inl (G_i G, 1000, .inl (iA (V 31)))) := hW1 31 (by decide)
        have g32 : h1 (A 32) = some (.inl (G_j G, 16, .inr (.inl (lA (V 32))))) := hW1 32 (by decide)
        have g33 : h1 (A 33) = some (.inl (G_j G, 16, .inr (.inl (lA (V 33))))) := hW1 33 (by decide)
        have g34 : h1 (A 34) = some (.inl (G_i G, 16, .inl (iA (V 34)))) := hW1 34 (by decide)
        have g35 : h1 (A 35) = some (.inl (G_i G, 1024, .inl (iA (V 35)))) := hW1 35 (by decide)
        have g36 : h1 (A 36) = some (.inl (G_i G, 10, .inl (iA (V 36)))) := hW1 36 (by decide)
        have g37 : h1 (A 37) = some (.inl (G_j G, 160, .inr (.inl (lA (V 37))))) := hW1 37 (by decide)
        have g38 : h1 (A 38) = some (.inl (G_j G, 160, .inr (.inl (lA (V 38))))) := hW1 38 (by decide)
        have g39 : h1 (A 39) = some (.inl (G_i G, 160, .inl (iA (V 39)))) := hW1 39 (by decide)
        have g40 : h1 (A 40) = some (.inl (G_i G, 10240, .inl (iA (V 40)))) := hW1 40 (by decide)
        have g41 : h1 (A 41) = some (.inl (G_j G, 16, .inr (.inl (lA (V 41))))) := hW1 41 (by decide)
        have g42 : h1 (A 42) = some (.inl (G_j G, 16, .inr (.inl (lA (V 42))))) := hW1 42 (by decide)
        have g43 : h1 (A 43) = some (.inl (G_i G, 16, .inl (iA (V 43)))) := hW1 43 (by decide)
        have g44 : h1 (A 44) = some (.inl (G_i G, 1024, .inl (iA (V 44)))) := hW1 44 (by decide)
        have g45 : h1 (A 45) = some (.inl (G_i G, 20, .inl (iA (V 45)))) := hW1 45 (by decide)
        have g46 : h1 (A 46) = some (.inl (G_i G, 194, .inl (iA (V 46)))) := hW1 46 (by decide)
        have g47 : h1 (A 47) = some (.inl (G_i G, 3104, .inl (iA (V 47)))) := hW1 47 (by decide)
        have g48 : h1 (A 48) = some (.inl (G_i G, 65, .inl (iA (V 48)))) := hW1 48 (by decide)
        refine ⟨-3, by decide, rfl, ⟨_, g30⟩, (rm 2 60), ⟨by decide, by decide, by decide, by decide⟩, rn_mono (c_Mo_split G h1 σ (A 30) (A 32) (A 33) (A 34) (A 35) (A 36) (A 37) (A 38) (A 39) (A 40) n c ct (V 32) (V 33) (V 34) (V 35) (V 36) (V 37) (V 38) (V 39) (V 40) ii jj g30 f4 f5 f6 f7 f8 f9 f10 f11 f12 f13 f14 f15 g32 g33 g34 g35 g36 g37 g38 g39 g40 r1 r4.1 r4.2.1 r4.2.2.1 r4.2.2.2 hii hjm hc1 hct2 (hM.ne (i := 32) (j := 33) (by decide) (by decide) (by decide)) (hM.ne (i := 37) (j := 38) (by decide) (by decide) (by decide))) (fun rr h2 qq => ?_)⟩
        obtain ⟨rfl, hx8⟩ := qq.2.1 w2 (by omega)
        rw [hx8]
        exact ⟨rfl, hM, V, Z, Kp, Ke, C, σ, n0, nu, n, (c % 10), ct, c, hW1, hSg, hPa1, ⟨z0, z8, z9, z10, z11, z21⟩, hRB, hRC, hRS, hRP, by omega⟩
  ·
    refine ⟨⟨_, c0⟩, (rm 1 40), ⟨by decide, by decide, by decide, by decide⟩, rn_mono (c_CB_splitB G h (A 0) (A 1) (A 3) (A 4) (A 6) (A 11) (A 13) (A 20) (A 21) (A 22) (A 7) (A 8) (A 9) (A 10) n (V 9) a0 a1 c0 c6 c9 r1 r3.2.2.1 q0 q1 w0) (fun r h1 q => ?_)⟩
    obtain ⟨rfl, hx9⟩ := q
    have hW1 : WC A (EE G A V Z Kp σ) h1 := by rw [hx9]; exact hW
    have hPa1 : PaW G h1 (A 48) (A 11) (A 12) (c % 10) ct Kp Ke C := by rw [hx9]; exact hPa
    have g30 : h1 (A 30) = some (.inr (11, fsN 34 σ)) := hW1 30 (by decide)
    have g31 : h1 (A 31) = some (.inl (G_i G, 1000, .inl (iA (V 31)))) := hW1 31 (by decide)
    have g32 : h1 (A 32) = some (.inl (G_j G, 16, .inr (.inl (lA (V 32))))) := hW1 32 (by decide)
    have g33 : h1 (A 33) = some (.inl (G_j G, 16, .inr (.inl (lA (V 33))))) := hW1 33 (by decide)
    have g34 : h1 (A 34) = some (.inl (G_i G, 16, .inl (iA (V 34)))) := hW1 34 (by decide)
    have g35 : h1 (A 35) = some (.inl (G_i G, 1024, .inl (iA (V 35)))) := hW1 35 (by decide)
    have g36 : h1 (A 36) = some (.inl (G_i G, 10, .inl (iA (V 36)))) := hW1 36 (by decide)
    have g37 : h1 (A 37) = some (.inl (G_j G, 160, .inr (.inl (lA (V 37))))) := hW1 37 (by decide)
    have g38 : h1 (A 38) = some (.inl (G_j G, 160, .inr (.inl (lA (V 38))))) := hW1 38 (by decide)
    have g39 : h1 (A 39) = some (.inl (G_i G, 160, .inl (iA (V 39)))) := hW1 39 (by decide)
    have g40 : h1 (A 40) = some (.inl (G_i G, 10240, .inl (iA (V 40)))) := hW1 40 (by decide)
    have g41 : h1 (A 41) = some (.inl (G_j G, 16, .inr (.inl (lA (V 41))))) := hW1 41 (by decide)
    have g42 : h1 (A 42) = some (.inl (G_j G, 16, .inr (.inl (lA (V 42))))) := hW1 42 (by decide)
    have g43 : h1 (A 43) = some (.inl (G_i G, 16, .inl (iA (V 43)))) := hW1 43 (by decide)
    have g44 : h1 (A 44) = some (.inl (G_i G, 1024, .inl (iA (V 44)))) := hW1 44 (by decide)
    have g45 : h1 (A 45) = some (.inl (G_i G, 20, .inl (iA (V 45)))) := hW1 45 (by decide)
    have g46 : h1 (A 46) = some (.inl (G_i G, 194, .inl (iA (V 46)))) := hW1 46 (by decide)
    have g47 : h1 (A 47) = some (.inl (G_i G, 3104, .inl (iA (V 47)))) := hW1 47 (by decide)
    have g48 : h1 (A 48) = some (.inl (G_i G, 65, .inl (iA (V 48)))) := hW1 48 (by decide)
    refine ⟨-2, by decide, rfl, ⟨_, g30⟩, (rm 1 40), ⟨by decide, by decide, by decide, by decide⟩, rn_mono (c_Mo_splitB G h1 σ (A 30) (A 34) n (V 34) a0 a1 g30 f4 f7 g34 r1 r4.2.2.1 q0 q1 (fun w => w0 ⟨w.1, w.2.1, w.2.2.1, by rw [(r2 a0.toNat (by omega)).2.2.1]; exact w.2.2.2⟩)) (fun rr h2 qq => ?_)⟩
    obtain ⟨rfl, hx8⟩ := qq
    rw [hx8]
    exact ⟨rfl, hM, V, Z, Kp, Ke, C, σ, n0, nu, n, (c % 10), ct, c, hW1, hSg, hPa1, ⟨z0, z8, z9, z10, z11, z21⟩, hRB, hRC, hRS, hRP, by omega⟩
set_option maxHeartbeats 4000000 in
set_option maxRecDepth 100000 in
theorem duo_breakLines (G : GT) (A : Nat → Nat) (i : Nat) (h : HM) (hI : Inv G A i h) (hi : i ≤ 511) : ∀ a0 : Int, iR a0 → Duo G (A 0) (A 30) M_CB_breakLines M_Mo_breakLines [.int (iZ a0)] mI iR h (Inv G A (i + 1)) := by
  intro a0 q0
  obtain ⟨hM, V, Z, Kp, Ke, C, σ, n0, nu, n, nx, ct, c, hW, hSg, hPa, ⟨z0, z8, z9, z10, z11, z21⟩, hRB, hRC, hRS, hRP, hci⟩ := hI
  obtain rfl : nx = c % 10 := hRP.2.2.2.1
  obtain ⟨e0, e1, e2, e3, e4, e5, e6, e7, e8, e9, e10, e11, e12, e13, e14, e15, e19, e20, e21, e22, e25, e26, e27, e28, e29, e30, e31, e32, e33⟩ := id hSg
  have f0 : σ 0 = .int (iZ (n0 : Int)) := by rw [← z0]; exact e0
  have f1 : σ 1 = .ref (A 31) := e1
  have f2 : σ 2 = .int (iZ (Z 1)) := e2
  have f3 : σ 3 = .int (iZ (Z 2)) := e3
  have f4 : σ 4 = .int (iZ (n : Int)) := by rw [← z9]; exact e4
  have f5 : σ 5 = .ref (A 32) := e5
  have f6 : σ 6 = .ref (A 33) := e6
  have f7 : σ 7 = .ref (A 34) := e7
  have f8 : σ 8 = .ref (A 35) := e8
  have f9 : σ 9 = .int (iZ (c : Int)) := by rw [← z21]; exact e9
  have f10 : σ 10 = .int (iZ (ct : Int)) := by rw [← z11]; exact e10
  have f11 : σ 11 = .ref (A 36) := e11
  have f12 : σ 12 = .ref (A 37) := e12
  have f13 : σ 13 = .ref (A 38) := e13
  have f14 : σ 14 = .ref (A 39) := e14
  have f15 : σ 15 = .ref (A 40) := e15
  have f19 : σ 19 = .ref (A 41) := e19
  have f20 : σ 20 = .ref (A 42) := e20
  have f21 : σ 21 = .ref (A 43) := e21
  have f22 : σ 22 = .ref (A 44) := e22
  have f25 : σ 25 = .int (iZ (nu : Int)) := by rw [← z8]; exact e25
  have f26 : σ 26 = .ref (A 45) := e26
  have f27 : σ 27 = .int (iZ (Z 4)) := e27
  have f28 : σ 28 = .int (iZ (Z 5)) := e28
  have f29 : σ 29 = .int (iZ (Z 6)) := e29
  have f30 : σ 30 = .int (iZ (Z 7)) := e30
  have f31 : σ 31 = .ref (A 46) := e31
  have f32 : σ 32 = .ref (A 47) := e32
  have f33 : σ 33 = .ref (A 48) := e33
  have c0 : h (A 0) = some (.inr (0, [.ref (A 1), .ref (A 3), .ref (A 4), .ref (A 6), .ref (A 11), .ref (A 13), .ref (A 20), .ref (A 21), .ref (A 22)])) := hW 0 (by decide)
  have c1 : h (A 1) = some (.inr (1, [.ref (A 2), .int (iZ (n0 : Int))])) := by rw [← z0]; exact hW 1 (by decide)
  have c2 : h (A 2) = some (.inl (G_i G, 1000, .inl (iA (V 2)))) := hW 2 (by decide)
  have c3 : h (A 3) = some (.inr (5, [.int (iZ (Z 1)), .int (iZ (Z 2)), .long (lZ (Z 3))])) := hW 3 (by decide)
  have c4 : h (A 4) = some (.inr (10, [.int (iZ (Z 4)), .int (iZ (Z 5)), .int (iZ (Z 6)), .int (iZ (Z 7)), .ref (A 5), .int (iZ (nu : Int))])) := by rw [← z8]; exact hW 4 (by decide)
  have c5 : h (A 5) = some (.inl (G_i G, 20, .inl (iA (V 5)))) := hW 5 (by decide)
  have c6 : h (A 6) = some (.inr (2, [.ref (A 7), .ref (A 8), .ref (A 9), .ref (A 10), .int (iZ (n : Int))])) := by rw [← z9]; exact hW 6 (by decide)
  have c7 : h (A 7) = some (.inl (G_j G, 16, .inr (.inl (lA (V 7))))) := hW 7 (by decide)
  have c8 : h (A 8) = some (.inl (G_j G, 16, .inr (.inl (lA (V 8))))) := hW 8 (by decide)
  have c9 : h (A 9) = some (.inl (G_i G, 16, .inl (iA (V 9)))) := hW 9 (by decide)
  have c10 : h (A 10) = some (.inl (G_i G, 1024, .inl (iA (V 10)))) := hW 10 (by decide)
  have c11 : h (A 11) = some (.inr (7, [.ref (A 12), .int (iZ ((c % 10 : Nat) : Int)), .int (iZ (ct : Int))])) := by rw [← z10, ← z11]; exact hW 11 (by decide)
  have c12 : h (A 12) = some (.inl (G_q G, 10, .inr (.inr (.inr (.inr Kp))))) := hW 12 (by decide)
  have c13 : h (A 13) = some (.inr (3, [.ref (A 1), .ref (A 3), .ref (A 14), .ref (A 19), .int (iZ (Z 12)), .int (iZ (Z 13)), .int (iZ (Z 14)), .long (lZ (Z 15)), .long (lZ (Z 16)), .long (lZ (Z 17))])) := hW 13 (by decide)
  have c14 : h (A 14) = some (.inr (2, [.ref (A 15), .ref (A 16), .ref (A 17), .ref (A 18), .int (iZ (Z 18))])) := hW 14 (by decide)
  have c15 : h (A 15) = some (.inl (G_j G, 16, .inr (.inl (lA (V 15))))) := hW 15 (by decide)
  have c16 : h (A 16) = some (.inl (G_j G, 16, .inr (.inl (lA (V 16))))) := hW 16 (by decide)
  have c17 : h (A 17) = some (.inl (G_i G, 16, .inl (iA (V 17)))) := hW 17 (by decide)
  have c18 : h (A 18) = some (.inl (G_i G, 1024, .inl (iA (V 18)))) := hW 18 (by decide)
  have c19 : h (A 19) = some (.inl (G_i G, 64, .inl (iA (V 19)))) := hW 19 (by decide)
  have c20 : h (A 20) = some (.inr (4, [.ref (A 1), .ref (A 3), .ref (A 6)])) := hW 20 (by decide)
  have c21 : h (A 21) = some (.inr (6, [.ref (A 6), .int (iZ (Z 19)), .int (iZ (Z 20))])) := hW 21 (by decide)
  have c22 : h (A 22) = some (.inr (9, [.ref (A 6), .ref (A 3), .ref (A 4), .ref (A 23), .ref (A 24), .ref (A 25), .ref (A 26), .ref (A 27), .ref (A 28), .ref (A 29)])) := hW 22 (by decide)
  have c23 : h (A 23) = some (.inl (G_i G, 16, .inl (iA (V 23)))) := hW 23 (by decide)
  have c24 : h (A 24) = some (.inl (G_i G, 16, .inl (iA (V 24)))) := hW 24 (by decide)
  have c25 : h (A 25) = some (.inl (G_i G, 16, .inl (iA (V 25)))) := hW 25 (by decide)
  have c26 : h (A 26) = some (.inl (G_i G, 97, .inl (iA (V 26)))) := hW 26 (by decide)
  have c27 : h (A 27) = some (.inl (G_i G, 400, .inl (iA (V 27)))) := hW 27 (by decide)
  have c28 : h (A 28) = some (.inl (G_i G, 400, .inl (iA (V 28)))) := hW 28 (by decide)
  have c29 : h (A 29) = some (.inl (G_i G, 400, .inl (iA (V 29)))) := hW 29 (by decide)
  have c30 : h (A 30) = some (.inr (11, fsN 34 σ)) := hW 30 (by decide)
  have c31 : h (A 31) = some (.inl (G_i G, 1000, .inl (iA (V 31)))) := hW 31 (by decide)
  have c32 : h (A 32) = some (.inl (G_j G, 16, .inr (.inl (lA (V 32))))) := hW 32 (by decide)
  have c33 : h (A 33) = some (.inl (G_j G, 16, .inr (.inl (lA (V 33))))) := hW 33 (by decide)
  have c34 : h (A 34) = some (.inl (G_i G, 16, .inl (iA (V 34)))) := hW 34 (by decide)
  have c35 : h (A 35) = some (.inl (G_i G, 1024, .inl (iA (V 35)))) := hW 35 (by decide)
  have c36 : h (A 36) = some (.inl (G_i G, 10, .inl (iA (V 36)))) := hW 36 (by decide)
  have c37 : h (A 37) = some (.inl (G_j G, 160, .inr (.inl (lA (V 37))))) := hW 37 (by decide)
  have c38 : h (A 38) = some (.inl (G_j G, 160, .inr (.inl (lA (V 38))))) := hW 38 (by decide)
  have c39 : h (A 39) = some (.inl (G_i G, 160, .inl (iA (V 39)))) := hW 39 (by decide)
  have c40 : h (A 40) = some (.inl (G_i G, 10240, .inl (iA (V 40)))) := hW 40 (by decide)
  have c41 : h (A 41) = some (.inl (G_j G, 16, .inr (.inl (lA (V 41))))) := hW 41 (by decide)
  have c42 : h (A 42) = some (.inl (G_j G, 16, .inr (.inl (lA (V 42))))) := hW 42 (by decide)
  have c43 : h (A 43) = some (.inl (G_i G, 16, .inl (iA (V 43)))) := hW 43 (by decide)
  have c44 : h (A 44) = some (.inl (G_i G, 1024, .inl (iA (V 44)))) := hW 44 (by decide)
  have c45 : h (A 45) = some (.inl (G_i G, 20, .inl (iA (V 45)))) := hW 45 (by decide)
  have c46 : h (A 46) = some (.inl (G_i G, 194, .inl (iA (V 46)))) := hW 46 (by decide)
  have c47 : h (A 47) = some (.inl (G_i G, 3104, .inl (iA (V 47)))) := hW 47 (by decide)
  have c48 : h (A 48) = some (.inl (G_i G, 65, .inl (iA (V 48)))) := hW 48 (by decide)
  obtain ⟨b1, b2, b3, b4, b5, b6, b7, b8, b9, b10, b11⟩ := id hRB
  obtain ⟨u1, u2, u3, u4, u5, u6, u7, u8⟩ := id b8
  obtain ⟨r1, r2, r3, r4, r5⟩ := id hRC
  obtain ⟨t1, t2, t3, t4, t5, t6, t7, t8, t9, t10, t11, t12⟩ := id hRS
  obtain ⟨p1, p2, p3, p4, p5⟩ := id hRP
  have hc1 : c ≤ 1000 := by omega
  have hct := hPa.2.1
  have hct2 : ct ≤ 10 := hPa.2.1
  by_cases w0 : 0 ≤ a0 ∧ a0 < n
  ·
    obtain ⟨ii, rfl⟩ : ∃ z : Nat, a0 = (z : Int) := ⟨a0.toNat, by omega⟩
    have hii : ii < n := by omega
    have x3 := (r2 ii hii).2.2.1
    have xd := v_drf r2 hii
    refine ⟨⟨_, c0⟩, ({ frames := 4, cells := 5, slots := 1077, locals := 112 }), ⟨by decide, by decide, by decide, by decide⟩, rn_mono (c_CB_break G h (A 0) (A 1) (A 3) (A 4) (A 6) (A 11) (A 13) (A 20) (A 21) (A 22) (A 7) (A 8) (A 9) (A 10) (A 12) (A 48) (c % 10) ct n Kp Ke C (V 7) (V 8) (V 9) (V 10) ii (Z 19) (Z 20) c0 c6 c7 c8 c9 c10 c21 hPa r1 r3.2.2.1 r3.2.2.2 t2 t3 ⟨hM.le (i := 0) (by decide), hM.le (i := 21) (by decide)⟩ ⟨(hM.ne (i := 21) (j := 11) (by decide) (by decide) (by decide)), (hM.ne (i := 21) (j := 12) (by decide) (by decide) (by decide))⟩ ⟨hM.le (i := 11) (by decide), hM.le (i := 12) (by decide), hM.le (i := 6) (by decide), hM.le (i := 7) (by decide), hM.le (i := 8) (by decide), hM.le (i := 9) (by decide), hM.le (i := 10) (by decide)⟩ ⟨_, c48⟩ (hM.ne (i := 7) (j := 8) (by decide) (by decide) (by decide)) hii) (fun r h1 q => ?_)⟩
    have xc : cellsN (drf (V 10) (ii * 64)) 0 (V 9 ii).toNat = cellsN (drf (V 35) (ii * 64)) 0 (V 9 ii).toNat := cells0_e xd
    have xb : bestS (drf (V 10) (ii * 64)) (V 9 ii).toNat (V 9 ii).toNat = bestS (drf (V 35) (ii * 64)) (V 9 ii).toNat (V 9 ii).toNat := bestS_e xd _ (Nat.le_refl _)
    by_cases w1 : 28 < cellsN (drf (V 10) (ii * 64)) 0 (V 9 ii).toNat ∧ bestS (drf (V 10) (ii * 64)) (V 9 ii).toNat (V 9 ii).toNat = -1
    · obtain ⟨rfl, ⟨xv, xv1, xv2, k21⟩, fm⟩ := q.1 w1
      have hW1 : WC A (EE G A V (zup (zup Z 19 (xv.1)) 20 (xv.2)) Kp σ) h1 := hW.up (S := [21]) (kFm hM fm (by decide)) ⟨k21, trivial⟩ (c49 (fun _ => rfl) (fun _ => rfl) (fun _ => rfl) (fun _ => rfl) (fun _ => rfl) (fun _ => rfl) (fun _ => rfl) (fun _ => rfl) (fun _ => rfl) (fun _ => rfl) (fun _ => rfl) (fun _ => rfl) (fun _ => rfl) (fun _ => rfl) (fun _ => rfl) (fun _ => rfl) (fun _ => rfl) (fun _ => rfl) (fun _ => rfl) (fun _ => rfl) (fun _ => rfl) (fun n9 => absurd (by decide) n9) (fun _ => rfl) (fun _ => rfl) (fun _ => rfl) (fun _ => rfl) (fun _ => rfl) (fun _ => rfl) (fun _ => rfl) (fun _ => rfl) (fun _ => rfl) (fun _ => rfl) (fun _ => rfl) (fun _ => rfl) (fun _ => rfl) (fun _ => rfl) (fun _ => rfl) (fun _ => rfl) (fun _ => rfl) (fun _ => rfl) (fun _ => rfl) (fun _ => rfl) (fun _ => rfl) (fun _ => rfl) (fun _ => rfl) (fun _ => rfl) (fun _ => rfl) (fun _ => rfl) (fun _ => rfl))
      have g30 : h1 (A 30) = some (.inr (11, fsN 34 σ)) := hW1 30 (by decide)
      have g31 : h1 (A 31) = some (.inl (G_i G, 1000, .inl (iA (V 31)))) := hW1 31 (by decide)
      have g32 : h1 (A 32) = some (.inl (G_j G, 16, .inr (.inl (lA (V 32))))) := hW1 32 (by decide)
      have g33 : h1 (A 33) = some (.inl (G_j G, 16, .inr (.inl (lA (V 33))))) := hW1 33 (by decide)
      have g34 : h1 (A 34) = some (.inl (G_i G, 16, .inl (iA (V 34)))) := hW1 34 (by decide)
      have g35 : h1 (A 35) = some (.inl (G_i G, 1024, .inl (iA (V 35)))) := hW1 35 (by decide)
      have g36 : h1 (A 36) = some (.inl (G_i G, 10, .inl (iA (V 36)))) := hW1 36 (by decide)
      have g37 : h1 (A 37) = some (.inl (G_j G, 160, .inr (.inl (lA (V 37))))) := hW1 37 (by decide)
      have g38 : h1 (A 38) = some (.inl (G_j G, 160, .inr (.inl (lA (V 38))))) := hW1 38 (by decide)
      have g39 : h1 (A 39) = some (.inl (G_i G, 160, .inl (iA (V 39)))) := hW1 39 (by decide)
      have g40 : h1 (A 40) = some (.inl (G_i G, 10240, .inl (iA (V 40)))) := hW1 40 (by decide)
      have g41 : h1 (A 41) = some (.inl (G_j G, 16, .inr (.inl (lA (V 41))))) := hW1 41 (by decide)
      have g42 : h1 (A 42) = some (.inl (G_j G, 16, .inr (.inl (lA (V 42))))) := hW1 42 (by decide)
      have g43 : h1 (A 43) = some (.inl (G_i G, 16, .inl (iA (V 43)))) := hW1 43 (by decide)
      have g44 : h1 (A 44) = some (.inl (G_i G, 1024, .inl (iA (V 44)))) := hW1 44 (by decide)
      have g45 : h1 (A 45) = some (.inl (G_i G, 20, .inl (iA (V 45)))) := hW1 45 (by decide)
      have g46 : h1 (A 46) = some (.inl (G_i G, 194, .inl (iA (V 46)))) := hW1 46 (by decide)
      have g47 : h1 (A 47) = some (.inl (G_i G, 3104, .inl (iA (V 47)))) := hW1 47 (by decide)
      have g48 : h1 (A 48) = some (.inl (G_i G, 65, .inl (iA (V 48)))) := hW1 48 (by decide)
      have hPa1 := pFm (S := [21]) hM hPa fm (by decide)
      refine ⟨-1, by decide, rfl, ⟨_, g30⟩, (rm 2 70), ⟨by decide, by decide, by decide, by decide⟩, rn_mono (c_Mo_break G h1 σ (A 30) (A 32) (A 33) (A 34) (A 35) (A 36) (A 37) (A 38) (A 39) (A 40) n c ct (V 32) (V 33) (V 34) (V 35) (V 36) (V 37) (V 38) (V 39) (V 40) ii (A 48) (V 48) g30 f4 f5 f6 f7 f8 f9 f10 f11 f12 f13 f14 f15 f33 g32 g33 g34 g35 g36 g37 g38 g39 g40 g48 r1 r4.2.2.1 r4.2.2.2 hii hc1 hct2 (hM.ne (i := 32) (j := 33) (by decide) (by decide) (by decide)) (hM.ne (i := 37) (j := 38) (by decide) (by decide) (by decide))) (fun rr h2 qq => ?_)⟩
      rw [← x3, ← xc, ← xb] at qq
      obtain ⟨rfl, ⟨xe, k48⟩, fm2⟩ := qq.1 w1
      have hW2 : WC A (EE G A (vu V 48 (xe)) (zup (zup Z 19 (xv.1)) 20 (xv.2)) Kp σ) h2 := hW1.up (S := [48]) (kFm hM fm2 (by decide)) ⟨k48, trivial⟩ (c49 (fun _ => rfl) (fun _ => rfl) (fun _ => rfl) (fun _ => rfl) (fun _ => rfl) (fun _ => rfl) (fun _ => rfl) (fun _ => rfl) (fun _ => rfl) (fun _ => rfl) (fun _ => rfl) (fun _ => rfl) (fun _ => rfl) (fun _ => rfl) (fun _ => rfl) (fun _ => rfl) (fun _ => rfl) (fun _ => rfl) (fun _ => rfl) (fun _ => rfl) (fun _ => rfl) (fun _ => rfl) (fun _ => rfl) (fun _ => rfl) (fun _ => rfl) (fun _ => rfl) (fun _ => rfl) (fun _ => rfl) (fun _ => rfl) (fun _ => rfl) (fun _ => rfl) (fun _ => rfl) (fun _ => rfl) (fun _ => rfl) (fun _ => rfl) (fun _ => rfl) (fun _ => rfl) (fun _ => rfl) (fun _ => rfl) (fun _ => rfl) (fun _ => rfl) (fun _ => rfl) (fun _ => rfl) (fun _ => rfl) (fun _ => rfl) (fun _ => rfl) (fun _ => rfl) (fun _ => rfl) (fun n9 => absurd (by decide) n9))
      exact ⟨rfl, hM, (vu V 48 (xe)), (zup (zup Z 19 (xv.1)) 20 (xv.2)), Kp, Ke, C, σ, n0, nu, n, (c % 10), ct, c, hW2, hSg, pFm (S := [48]) hM hPa1 fm2 (by decide), ⟨z0, z8, z9, z10, z11, z21⟩, hRB, hRC, ⟨t1, xv1, xv2, t4, t5, t6, t7, t8, t9, t10, t11, t12⟩, hRP, by omega⟩
    · obtain ⟨rfl, ⟨xf, k10, xn⟩, k9, ⟨xv, xv1, xv2, k21⟩, ⟨Kp', Ke', hPa1, hks, hkk⟩, fb⟩ := q.2 w1
      have hW1 : WC A (EE G A (vu (vu V 9 (zup (V 9) ii ((ntl (drf (V 10) (ii * 64)) (brP (drf (V 10) (ii * 64)) (V 9 ii).toNat) (V 9 ii).toNat : Nat) : Int))) 10 (xf)) (zup (zup (zup (zup Z 10 ((((c % 10 + 1) % 10 : Nat) : Int))) 11 (((min (ct + 1) 10 : Nat) : Int))) 19 (xv.1)) 20 (xv.2)) Kp' σ) h1 := hW.up (S := [9, 10, 21, 11, 12]) (kFb hM fb (by decide)) ⟨k9, k10, k21, hPa1.2.2.1, hPa1.2.2.2.1, trivial⟩ (c49 (fun _ => rfl) (fun _ => rfl) (fun _ => rfl) (fun _ => rfl) (fun _ => rfl) (fun _ => rfl) (fun _ => rfl) (fun _ => rfl) (fun _ => rfl) (fun n9 => absurd (by decide) n9) (fun n9 => absurd (by decide) n9) (fun n9 => absurd (by decide) n9) (fun n9 => absurd (by decide) n9) (fun _ => rfl) (fun _ => rfl) (fun _ => rfl) (fun _ => rfl) (fun _ => rfl) (fun _ => rfl) (fun _ => rfl) (fun _ => rfl) (fun n9 => absurd (by decide) n9) (fun _ => rfl) (fun _ => rfl) (fun _ => rfl) (fun _ => rfl) (fun _ => rfl) (fun _ => rfl) (fun _ => rfl) (fun _ => rfl) (fun _ => rfl) (fun _ => rfl) (fun _ => rfl) (fun _ => rfl) (fun _ => rfl) (fun _ => rfl) (fun _ => rfl) (fun _ => rfl) (fun _ => rfl) (fun _ => rfl) (fun _ => rfl) (fun _ => rfl) (fun _ => rfl) (fun _ => rfl) (fun _ => rfl) (fun _ => rfl) (fun _ => rfl) (fun _ => rfl) (fun _ => rfl))
      have g30 : h1 (A 30) = some (.inr (11, fsN 34 σ)) := hW1 30 (by decide)
      have g31 : h1 (A 31) = some (.inl (G_i G, 1000, .inl (iA (V 31)))) := hW1 31 (by decide)
      have g32 : h1 (A 32) = some (.inl (G_j G, 16, .inr (.inl (lA (V 32))))) := hW1 32 (by decide)
      have g33 : h1 (A 33) = some (.inl (G_j G, 16, .inr (.inl (lA (V 33))))) := hW1 33 (by decide)
      have g34 : h1 (A 34) = some (.inl (G_i G, 16, .inl (iA (V 34)))) := hW1 34 (by decide)
      have g35 : h1 (A 35) = some (.inl (G_i G, 1024, .inl (iA (V 35)))) := hW1 35 (by decide)
      have g36 : h1 (A 36) = some (.inl (G_i G, 10, .inl (iA (V 36)))) := hW1 36 (by decide)
      have g37 : h1 (A 37) = some (.inl (G_j G, 160, .inr (.inl (lA (V 37))))) := hW1 37 (by decide)
      have g38 : h1 (A 38) = some (.inl (G_j G, 160, .inr (.inl (lA (V 38))))) := hW1 38 (by decide)
      have g39 : h1 (A 39) = some (.inl (G_i G, 160, .inl (iA (V 39)))) := hW1 39 (by decide)
      have g40 : h1 (A 40) = some (.inl (G_i G, 10240, .inl (iA (V 40)))) := hW1 40 (by decide)
      have g41 : h1 (A 41) = some (.inl (G_j G, 16, .inr (.inl (lA (V 41))))) := hW1 41 (by decide)
      have g42 : h1 (A 42) = some (.inl (G_j G, 16, .inr (.inl (lA (V 42))))) := hW1 42 (by decide)
      have g43 : h1 (A 43) = some (.inl (G_i G, 16, .inl (iA (V 43)))) := hW1 43 (by decide)
      have g44 : h1 (A 44) = some (.inl (G_i G, 1024, .inl (iA (V 44)))) := hW1 44 (by decide)
      have g45 : h1 (A 45) = some (.inl (G_i G, 20, .inl (iA (V 45)))) := hW1 45 (by decide)
      have g46 : h1 (A 46) = some (.inl (G_i G, 194, .inl (iA (V 46)))) := hW1 46 (by decide)
      have g47 : h1 (A 47) = some (.inl (G_i G, 3104, .inl (iA (V 47)))) := hW1 47 (by decide)
      have g48 : h1 (A 48) = some (.inl (G_i G, 65, .inl (iA (V 48)))) := hW1 48 (by decide)
      refine ⟨(if cellsN (drf (V 10) (ii * 64)) 0 (V 9 ii).toNat ≤ 28 then 1 else 2), by split <;> decide, rfl, ⟨_, g30⟩, (rm 2 70), ⟨by decide, by decide, by decide, by decide⟩, rn_mono (c_Mo_break G h1 σ (A 30) (A 32) (A 33) (A 34) (A 35) (A 36) (A 37) (A 38) (A 39) (A 40) n c ct (V 32) (V 33) (V 34) (V 35) (V 36) (V 37) (V 38) (V 39) (V 40) ii (A 48) (V 48) g30 f4 f5 f6 f7 f8 f9 f10 f11 f12 f13 f14 f15 f33 g32 g33 g34 g35 g36 g37 g38 g39 g40 g48 r1 r4.2.2.1 r4.2.2.2 hii hc1 hct2 (hM.ne (i := 32) (j := 33) (by decide) (by decide) (by decide)) (hM.ne (i := 37) (j := 38) (by decide) (by decide) (by decide))) (fun rr h2 qq => ?_)⟩
      obtain ⟨xa, ⟨σ2, gm, m9, m10, gs⟩, ⟨xg, m35, xm⟩, m34, ⟨xe, m48⟩, m36, m37, m38, m39, m40, fm2⟩ := qq.2 (by rw [← x3, ← xc, ← xb]; exact w1)
      have y1 := ntl_64 (d := (drf (V 10) (ii * 64))) (z := (V 9 ii).toNat) (by have := r3.2.2.1 ii; omega)
      have y2 := ntl_64 (d := (drf (V 35) (ii * 64))) (z := (V 34 ii).toNat) (by have := r4.2.2.1 ii; omega)
      have hW2 : WC A (EE G A (vu (vu (vu (vu (vu (vu (vu (vu (vu (vu V 9 (zup (V 9) ii ((ntl (drf (V 10) (ii * 64)) (brP (drf (V 10) (ii * 64)) (V 9 ii).toNat) (V 9 ii).toNat : Nat) : Int))) 10 (xf)) 34 (zup (V 34) ii ((ntl (drf (V 35) (ii * 64)) (brP (drf (V 35) (ii * 64)) (V 34 ii).toNat) (V 34 ii).toNat : Nat) : Int))) 35 (xg)) 36 (zup (V 36) (c % 10) (n : Int))) 37 (va_cpy (V 32) (V 37) 0 (16 * (c % 10)) 16)) 38 (va_cpy (V 33) (V 38) 0 (16 * (c % 10)) 16)) 39 (va_cpy (V 34) (V 39) 0 (16 * (c % 10)) 16)) 40 (va_cpy (V 35) (V 40) 0 (1024 * (c % 10)) 1024)) 48 (xe)) (zup (zup (zup (zup (zup Z 10 ((((c % 10 + 1) % 10 : Nat) : Int))) 11 (((min (ct + 1) 10 : Nat) : Int))) 19 (xv.1)) 20 (xv.2)) 21 ((c : Int) + 1)) Kp' σ2) h2 := hW1.up (S := [30, 34, 35, 36, 37, 38, 39, 40, 48]) (kFm hM fm2 (by decide)) ⟨gm, m34, m35, m36, m37, m38, m39, m40, m48, trivial⟩ (c49 (fun _ => rfl) (fun _ => rfl) (fun _ => rfl) (fun _ => rfl) (fun _ => rfl) (fun _ => rfl) (fun _ => rfl) (fun _ => rfl) (fun _ => rfl) (fun _ => rfl) (fun _ => rfl) (fun _ => rfl) (fun _ => rfl) (fun _ => rfl) (fun _ => rfl) (fun _ => rfl) (fun _ => rfl) (fun _ => rfl) (fun _ => rfl) (fun _ => rfl) (fun _ => rfl) (fun _ => rfl) (fun _ => rfl) (fun _ => rfl) (fun _ => rfl) (fun _ => rfl) (fun _ => rfl) (fun _ => rfl) (fun _ => rfl) (fun _ => rfl) (fun n9 => absurd (by decide) n9) (fun _ => rfl) (fun _ => rfl) (fun _ => rfl) (fun n9 => absurd (by decide) n9) (fun n9 => absurd (by decide) n9) (fun n9 => absurd (by decide) n9) (fun n9 => absurd (by decide) n9) (fun n9 => absurd (by decide) n9) (fun n9 => absurd (by decide) n9) (fun n9 => absurd (by decide) n9) (fun _ => rfl) (fun _ => rfl) (fun _ => rfl) (fun _ => rfl) (fun _ => rfl) (fun _ => rfl) (fun _ => rfl) (fun n9 => absurd (by decide) n9))
      exact ⟨by rw [xa, ← x3, ← xc], hM, (vu (vu (vu (vu (vu (vu (vu (vu (vu (vu V 9 (zup (V 9) ii ((ntl (drf (V 10) (ii * 64)) (brP (drf (V 10) (ii * 64)) (V 9 ii).toNat) (V 9 ii).toNat : Nat) : Int))) 10 (xf)) 34 (zup (V 34) ii ((ntl (drf (V 35) (ii * 64)) (brP (drf (V 35) (ii * 64)) (V 34 ii).toNat) (V 34 ii).toNat : Nat) : Int))) 35 (xg)) 36 (zup (V 36) (c % 10) (n : Int))) 37 (va_cpy (V 32) (V 37) 0 (16 * (c % 10)) 16)) 38 (va_cpy (V 33) (V 38) 0 (16 * (c % 10)) 16)) 39 (va_cpy (V 34) (V 39) 0 (16 * (c % 10)) 16)) 40 (va_cpy (V 35) (V 40) 0 (1024 * (c % 10)) 1024)) 48 (xe)), (zup (zup (zup (zup (zup Z 10 ((((c % 10 + 1) % 10 : Nat) : Int))) 11 (((min (ct + 1) 10 : Nat) : Int))) 19 (xv.1)) 20 (xv.2)) 21 ((c : Int) + 1)), Kp', Ke', (fun j => if j = c % 10 then (n, V 7, V 8, V 9, V 10) else C j), σ2, n0, nu, n, ((c % 10 + 1) % 10), (min (ct + 1) 10), c + 1, hW2, ⟨(gs 0 (by decide)).trans e0, (gs 1 (by decide)).trans e1, (gs 2 (by decide)).trans e2, (gs 3 (by decide)).trans e3, (gs 4 (by decide)).trans e4, (gs 5 (by decide)).trans e5, (gs 6 (by decide)).trans e6, (gs 7 (by decide)).trans e7, (gs 8 (by decide)).trans e8, m9, m10, (gs 11 (by decide)).trans e11, (gs 12 (by decide)).trans e12, (gs 13 (by decide)).trans e13, (gs 14 (by decide)).trans e14, (gs 15 (by decide)).trans e15, (gs 19 (by decide)).trans e19, (gs 20 (by decide)).trans e20, (gs 21 (by decide)).trans e21, (gs 22 (by decide)).trans e22, (gs 25 (by decide)).trans e25, (gs 26 (by decide)).trans e26, (gs 27 (by decide)).trans e27, (gs 28 (by decide)).trans e28, (gs 29 (by decide)).trans e29, (gs 30 (by decide)).trans e30, (gs 31 (by decide)).trans e31, (gs 32 (by decide)).trans e32, (gs 33 (by decide)).trans e33⟩, pFm (S := [30, 34, 35, 36, 37, 38, 39, 40, 48]) hM hPa1 fm2 (by decide), ⟨z0, z8, z9, rfl, rfl, by show (c : Int) + 1 = ((c + 1 : Nat) : Int); omega⟩, hRB, ⟨r1, v_nt r2 hii r3.2.2.1 xn xm, ⟨r3.1, r3.2.1, zup_r r3.2.2.1 (by omega), xn.2.2⟩, ⟨r4.1, r4.2.1, zup_r r4.2.2.1 (by omega), xm.2.2⟩, r5⟩, ⟨t1, xv1, xv2, t4, t5, t6, t7, t8, t9, t10, t11, t12⟩, ⟨rgI_keep p1 hkk r1 r2 r3 r5, rgs_ring p2 r4, vlS_keep hct2 (by omega) p3 hkk hks, by omega, by omega⟩, by omega⟩
  ·
    refine ⟨⟨_, c0⟩, (rm 1 40), ⟨by decide, by decide, by decide, by decide⟩, rn_mono (c_CB_breakB G h (A 0) (A 1) (A 3) (A 4) (A 6) (A 11) (A 13) (A 20) (A 21) (A 22) (A 7) (A 8) (A 9) (A 10) n a0 c0 c6 r1 q0 w0) (fun r h1 q => ?_)⟩
    obtain ⟨rfl, hx9⟩ := q
    have hW1 : WC A (EE G A V Z Kp σ) h1 := by rw [hx9]; exact hW
    have hPa1 : PaW G h1 (A 48) (A 11) (A 12) (c % 10) ct Kp Ke C := by rw [hx9]; exact hPa
    have g30 : h1 (A 30) = some (.inr (11, fsN 34 σ)) := hW1 30 (by decide)
    have g31 : h1 (A 31) = some (.inl (G_i G, 1000, .inl (iA (V 31)))) := hW1 31 (by decide)
    have g32 : h1 (A 32) = some (.inl (G_j G, 16, .inr (.inl (lA (V 32))))) := hW1 32 (by decide)
    have g33 : h1 (A 33) = some (.inl (G_j G, 16, .inr (.inl (lA (V 33))))) := hW1 33 (by decide)
    have g34 : h1 (A 34) = some (.inl (G_i G, 16, .inl (iA (V 34)))) := hW1 34 (by decide)
    have g35 : h1 (A 35) = some (.inl (G_i G, 1024, .inl (iA (V 35)))) := hW1 35 (by decide)
    have g36 : h1 (A 36) = some (.inl (G_i G, 10, .inl (iA (V 36)))) := hW1 36 (by decide)
    have g37 : h1 (A 37) = some (.inl (G_j G, 160, .inr (.inl (lA (V 37))))) := hW1 37 (by decide)
    have g38 : h1 (A 38) = some (.inl (G_j G, 160, .inr (.inl (lA (V 38))))) := hW1 38 (by decide)
    have g39 : h1 (A 39) = some (.inl (G_i G, 160, .inl (iA (V 39)))) := hW1 39 (by decide)
    have g40 : h1 (A 40) = some (.inl (G_i G, 10240, .inl (iA (V 40)))) := hW1 40 (by decide)
    have g41 : h1 (A 41) = some (.inl (G_j G, 16, .inr (.inl (lA (V 41))))) := hW1 41 (by decide)
    have g42 : h1 (A 42) = some (.inl (G_j G, 16, .inr (.inl (lA (V 42))))) := hW1 42 (by decide)
    have g43 : h1 (A 43) = some (.inl (G_i G, 16, .inl (iA (V 43)))) := hW1 43 (by decide)
    have g44 : h1 (A 44) = some (.inl (G_i G, 1024, .inl (iA (V 44)))) := hW1 44 (by decide)
    have g45 : h1 (A 45) = some (.inl (G_i G, 20, .inl (iA (V 45)))) := hW1 45 (by decide)
    have g46 : h1 (A 46) = some (.inl (G_i G, 194, .inl (iA (V 46)))) := hW1 46 (by decide)
    have g47 : h1 (A 47) = some (.inl (G_i G, 3104, .inl (iA (V 47)))) := hW1 47 (by decide)
    have g48 : h1 (A 48) = some (.inl (G_i G, 65, .inl (iA (V 48)))) := hW1 48 (by decide)
    refine ⟨-2, by decide, rfl, ⟨_, g30⟩, (rm 1 40), ⟨by decide, by decide, by decide, by decide⟩, rn_mono (c_Mo_breakB G h1 σ (A 30) n a0 g30 f4 r1 q0 w0) (fun rr h2 qq => ?_)⟩
    obtain ⟨rfl, hx8⟩ := qq
    rw [hx8]
    exact ⟨rfl, hM, V, Z, Kp, Ke, C, σ, n0, nu, n, (c % 10), ct, c, hW1, hSg, hPa1, ⟨z0, z8, z9, z10, z11, z21⟩, hRB, hRC, hRS, hRP, by omega⟩
