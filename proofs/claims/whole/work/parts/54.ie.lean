set_option maxHeartbeats 4000000 in
set_option maxRecDepth 100000 in
theorem duo_undo (G : GT) (A : Nat → Nat) (i : Nat) (h : HM) (hI : Inv G A i h) (hi : i ≤ 511) : Duo G (A 0) (A 30) M_CB_undo M_Mo_undo [] mI iR h (Inv G A (i + 1)) := by
  obtain ⟨hM, V, Z, Kp, Ke, C, σ, n0, nu, n, nx, ct, c, hW, hSg, hPa, ⟨z0, z8, z9, z10, z11, z21⟩, hRB, hRC, hRS, hRP, hci⟩ := hI
  obtain rfl : nx = c % 10 := hRP.2.2.2.1
  obtain ⟨e0, e1, e2, e3, e4, e5, e6, e7, e8, e9, e10, e11, e12, e13, e14, e15, e19, e20, e21, e22, e25, e26, e27, e28, e29, e30, e31, e32, e33⟩ := id hSg
  have f0 : σ 0 = .int (iZ (n0 : Int)) := by rw [← z0]; exact e0
  have f1 : σ 1 = .ref (A 31) := e1
  have f2 : σ 2 = .int (iZ (Z 1)) := e2
  have f3 : σ 3 = .int (iZ (Z 2)) := e3
  have f4 : σ 4 = .int (iZ (n : Int)) := by rw [← z9]; exact e4
  have f5 : σ 5 = .ref (A 32) := e5
  have f6 : σ 6 = .ref (A 33) := e6
  have f7 : σ 7 = .ref (A 34) := e7
  have f8 : σ 8 = .ref (A 35) := e8
  have f9 : σ 9 = .int (iZ (c : Int)) := by rw [← z21]; exact e9
  have f10 : σ 10 = .int (iZ (ct : Int)) := by rw [← z11]; exact e10
  have f11 : σ 11 = .ref (A 36) := e11
  have f12 : σ 12 = .ref (A 37) := e12
  have f13 : σ 13 = .ref (A 38) := e13
  have f14 : σ 14 = .ref (A 39) := e14
  have f15 : σ 15 = .ref (A 40) := e15
  have f19 : σ 19 = .ref (A 41) := e19
  have f20 : σ 20 = .ref (A 42) := e20
  have f21 : σ 21 = .ref (A 43) := e21
  have f22 : σ 22 = .ref (A 44) := e22
  have f25 : σ 25 = .int (iZ (nu : Int)) := by rw [← z8]; exact e25
  have f26 : σ 26 = .ref (A 45) := e26
  have f27 : σ 27 = .int (iZ (Z 4)) := e27
  have f28 : σ 28 = .int (iZ (Z 5)) := e28
  have f29 : σ 29 = .int (iZ (Z 6)) := e29
  have f30 : σ 30 = .int (iZ (Z 7)) := e30
  have f31 : σ 31 = .ref (A 46) := e31
  have f32 : σ 32 = .ref (A 47) := e32
  have f33 : σ 33 = .ref (A 48) := e33
  have c0 : h (A 0) = some (.inr (0, [.ref (A 1), .ref (A 3), .ref (A 4), .ref (A 6), .ref (A 11), .ref (A 13), .ref (A 20), .ref (A 21), .ref (A 22)])) := hW 0 (by decide)
  have c1 : h (A 1) = some (.inr (1, [.ref (A 2), .int (iZ (n0 : Int))])) := by rw [← z0]; exact hW 1 (by decide)
  have c2 : h (A 2) = some (.inl (G_i G, 1000, .inl (iA (V 2)))) := hW 2 (by decide)
  have c3 : h (A 3) = some (.inr (5, [.int (iZ (Z 1)), .int (iZ (Z 2)), .long (lZ (Z 3))])) := hW 3 (by decide)
  have c4 : h (A 4) = some (.inr (10, [.int (iZ (Z 4)), .int (iZ (Z 5)), .int (iZ (Z 6)), .int (iZ (Z 7)), .ref (A 5), .int (iZ (nu : Int))])) := by rw [← z8]; exact hW 4 (by decide)
  have c5 : h (A 5) = some (.inl (G_i G, 20, .inl (iA (V 5)))) := hW 5 (by decide)
  have c6 : h (A 6) = some (.inr (2, [.ref (A 7), .ref (A 8), .ref (A 9), .ref (A 10), .int (iZ (n : Int))])) := by rw [← z9]; exact hW 6 (by decide)
  have c7 : h (A 7) = some (.inl (G_j G, 16, .inr (.inl (lA (V 7))))) := hW 7 (by decide)
  have c8 : h (A 8) = some (.inl (G_j G, 16, .inr (.inl (lA (V 8))))) := hW 8 (by decide)
  have c9 : h (A 9) = some (.inl (G_i G, 16, .inl (iA (V 9)))) := hW 9 (by decide)
  have c10 : h (A 10) = some (.inl (G_i G, 1024, .inl (iA (V 10)))) := hW 10 (by decide)
  have c11 : h (A 11) = some (.inr (7, [.ref (A 12), .int (iZ ((c % 10 : Nat) : Int)), .int (iZ (ct : Int))])) := by rw [← z10, ← z11]; exact hW 11 (by decide)
  have c12 : h (A 12) = some (.inl (G_q G, 10, .inr (.inr (.inr (.inr Kp))))) := hW 12 (by decide)
  have c13 : h (A 13) = some (.inr (3, [.ref (A 1), .ref (A 3), .ref (A 14), .ref (A 19), .int (iZ (Z 12)), .int (iZ (Z 13)), .int (iZ (Z 14)), .long (lZ (Z 15)), .long (lZ (Z 16)), .long (lZ (Z 17))])) := hW 13 (by decide)
  have c14 : h (A 14) = some (.inr (2, [.ref (A 15), .ref (A 16), .ref (A 17), .ref (A 18), .int (iZ (Z 18))])) := hW 14 (by decide)
  have c15 : h (A 15) = some (.inl (G_j G, 16, .inr (.inl (lA (V 15))))) := hW 15 (by decide)
  have c16 : h (A 16) = some (.inl (G_j G, 16, .inr (.inl (lA (V 16))))) := hW 16 (by decide)
  have c17 : h (A 17) = some (.inl (G_i G, 16, .inl (iA (V 17)))) := hW 17 (by decide)
  have c18 : h (A 18) = some (.inl (G_i G, 1024, .inl (iA (V 18)))) := hW 18 (by decide)
  have c19 : h (A 19) = some (.inl (G_i G, 64, .inl (iA (V 19)))) := hW 19 (by decide)
  have c20 : h (A 20) = some (.inr (4, [.ref (A 1), .ref (A 3), .ref (A 6)])) := hW 20 (by decide)
  have c21 : h (A 21) = some (.inr (6, [.ref (A 6), .int (iZ (Z 19)), .int (iZ (Z 20))])) := hW 21 (by decide)
  have c22 : h (A 22) = some (.inr (9, [.ref (A 6), .ref (A 3), .ref (A 4), .ref (A 23), .ref (A 24), .ref (A 25), .ref (A 26), .ref (A 27), .ref (A 28), .ref (A 29)])) := hW 22 (by decide)
  have c23 : h (A 23) = some (.inl (G_i G, 16, .inl (iA (V 23)))) := hW 23 (by decide)
  have c24 : h (A 24) = some (.inl (G_i G, 16, .inl (iA (V 24)))) := hW 24 (by decide)
  have c25 : h (A 25) = some (.inl (G_i G, 16, .inl (iA (V 25)))) := hW 25 (by decide)
  have c26 : h (A 26) = some (.inl (G_i G, 97, .inl (iA (V 26)))) := hW 26 (by decide)
  have c27 : h (A 27) = some (.inl (G_i G, 400, .inl (iA (V 27)))) := hW 27 (by decide)
  have c28 : h (A 28) = some (.inl (G_i G, 400, .inl (iA (V 28)))) := hW 28 (by decide)
  have c29 : h (A 29) = some (.inl (G_i G, 400, .inl (iA (V 29)))) := hW 29 (by decide)
  have c30 : h (A 30) = some (.inr (11, fsN 34 σ)) := hW 30 (by decide)
  have c31 : h (A 31) = some (.inl (G_i G, 1000, .inl (iA (V 31)))) := hW 31 (by decide)
  have c32 : h (A 32) = some (.inl (G_j G, 16, .inr (.inl (lA (V 32))))) := hW 32 (by decide)
  have c33 : h (A 33) = some (.inl (G_j G, 16, .inr (.inl (lA (V 33))))) := hW 33 (by decide)
  have c34 : h (A 34) = some (.inl (G_i G, 16, .inl (iA (V 34)))) := hW 34 (by decide)
  have c35 : h (A 35) = some (.inl (G_i G, 1024, .inl (iA (V 35)))) := hW 35 (by decide)
  have c36 : h (A 36) = some (.inl (G_i G, 10, .inl (iA (V 36)))) := hW 36 (by decide)
  have c37 : h (A 37) = some (.inl (G_j G, 160, .inr (.inl (lA (V 37))))) := hW 37 (by decide)
  have c38 : h (A 38) = some (.inl (G_j G, 160, .inr (.inl (lA (V 38))))) := hW 38 (by decide)
  have c39 : h (A 39) = some (.inl (G_i G, 160, .inl (iA (V 39)))) := hW 39 (by decide)
  have c40 : h (A 40) = some (.inl (G_i G, 10240, .inl (iA (V 40)))) := hW 40 (by decide)
  have c41 : h (A 41) = some (.inl (G_j G, 16, .inr (.inl (lA (V 41))))) := hW 41 (by decide)
  have c42 : h (A 42) = some (.inl (G_j G, 16, .inr (.inl (lA (V 42))))) := hW 42 (by decide)
  have c43 : h (A 43) = some (.inl (G_i G, 16, .inl (iA (V 43)))) := hW 43 (by decide)
  have c44 : h (A 44) = some (.inl (G_i G, 1024, .inl (iA (V 44)))) := hW 44 (by decide)
  have c45 : h (A 45) = some (.inl (G_i G, 20, .inl (iA (V 45)))) := hW 45 (by decide)
  have c46 : h (A 46) = some (.inl (G_i G, 194, .inl (iA (V 46)))) := hW 46 (by decide)
  have c47 : h (A 47) = some (.inl (G_i G, 3104, .inl (iA (V 47)))) := hW 47 (by decide)
  have c48 : h (A 48) = some (.inl (G_i G, 65, .inl (iA (V 48)))) := hW 48 (by decide)
  obtain ⟨b1, b2, b3, b4, b5, b6, b7, b8, b9, b10, b11⟩ := id hRB
  obtain ⟨u1, u2, u3, u4, u5, u6, u7, u8⟩ := id b8
  obtain ⟨r1, r2, r3, r4, r5⟩ := id hRC
  obtain ⟨t1, t2, t3, t4, t5, t6, t7, t8, t9, t10, t11, t12⟩ := id hRS
  obtain ⟨p1, p2, p3, p4, p5⟩ := id hRP
  have hc1 : c ≤ 1000 := by omega
  have hct := hPa.2.1
  have hct2 : ct ≤ 10 := hPa.2.1
  by_cases w0 : ct = 0
  ·
    refine ⟨⟨_, c0⟩, (rm 1 40), ⟨by decide, by decide, by decide, by decide⟩, rn_mono (c_CB_undo0 G h (A 0) (A 1) (A 3) (A 4) (A 6) (A 11) (A 13) (A 20) (A 21) (A 22) (A 12) Kp (c % 10) c0 (by rw [w0] at c11; exact c11) c12 (by omega)) (fun r h1 q => ?_)⟩
    obtain ⟨rfl, hx9⟩ := q
    have hW1 : WC A (EE G A V Z Kp σ) h1 := by rw [hx9]; exact hW
    have hPa1 : PaW G h1 (A 48) (A 11) (A 12) (c % 10) ct Kp Ke C := by rw [hx9]; exact hPa
    have g30 : h1 (A 30) = some (.inr (11, fsN 34 σ)) := hW1 30 (by decide)
    have g31 : h1 (A 31) = some (.inl (G_i G, 1000, .inl (iA (V 31)))) := hW1 31 (by decide)
    have g32 : h1 (A 32) = some (.inl (G_j G, 16, .inr (.inl (lA (V 32))))) := hW1 32 (by decide)
    have g33 : h1 (A 33) = some (.inl (G_j G, 16, .inr (.inl (lA (V 33))))) := hW1 33 (by decide)
    have g34 : h1 (A 34) = some (.inl (G_i G, 16, .inl (iA (V 34)))) := hW1 34 (by decide)
    have g35 : h1 (A 35) = some (.inl (G_i G, 1024, .inl (iA (V 35)))) := hW1 35 (by decide)
    have g36 : h1 (A 36) = some (.inl (G_i G, 10, .inl (iA (V 36)))) := hW1 36 (by decide)
    have g37 : h1 (A 37) = some (.inl (G_j G, 160, .inr (.inl (lA (V 37))))) := hW1 37 (by decide)
    have g38 : h1 (A 38) = some (.inl (G_j G, 160, .inr (.inl (lA (V 38))))) := hW1 38 (by decide)
    have g39 : h1 (A 39) = some (.inl (G_i G, 160, .inl (iA (V 39)))) := hW1 39 (by decide)
    have g40 : h1 (A 40) = some (.inl (G_i G, 10240, .inl (iA (V 40)))) := hW1 40 (by decide)
    have g41 : h1 (A 41) = some (.inl (G_j G, 16, .inr (.inl (lA (V 41))))) := hW1 41 (by decide)
    have g42 : h1 (A 42) = some (.inl (G_j G, 16, .inr (.inl (lA (V 42))))) := hW1 42 (by decide)
    have g43 : h1 (A 43) = some (.inl (G_i G, 16, .inl (iA (V 43)))) := hW1 43 (by decide)
    have g44 : h1 (A 44) = some (.inl (G_i G, 1024, .inl (iA (V 44)))) := hW1 44 (by decide)
    have g45 : h1 (A 45) = some (.inl (G_i G, 20, .inl (iA (V 45)))) := hW1 45 (by decide)
    have g46 : h1 (A 46) = some (.inl (G_i G, 194, .inl (iA (V 46)))) := hW1 46 (by decide)
    have g47 : h1 (A 47) = some (.inl (G_i G, 3104, .inl (iA (V 47)))) := hW1 47 (by decide)
    have g48 : h1 (A 48) = some (.inl (G_i G, 65, .inl (iA (V 48)))) := hW1 48 (by decide)
    refine ⟨0, by decide, rfl, ⟨_, g30⟩, (rm 0 0), ⟨by decide, by decide, by decide, by decide⟩, rn_mono (c_Mo_undo0 G h1 σ (A 30) g30 (by rw [w0] at f10; exact f10)) (fun rr h2 qq => ?_)⟩
    obtain ⟨rfl, hx8⟩ := qq
    rw [hx8]
    exact ⟨rfl, hM, V, Z, Kp, Ke, C, σ, n0, nu, n, (c % 10), ct, c, hW1, hSg, hPa1, ⟨z0, z8, z9, z10, z11, z21⟩, hRB, hRC, hRS, hRP, by omega⟩
  ·
    have hj : ((c % 10 + 9) % 10) < 10 := by omega
    obtain ⟨qz, hqz⟩ := p3 0 (by omega)
    replace hqz : Kp ((c % 10 + 9) % 10) = some qz := hqz
    obtain ⟨tq, q1, q2, q3, cu, l1, l2, l3, l4, ce, cn, y0, y1, y2, y3, y4⟩ := hPa.2.2.2.2.1 ((c % 10 + 9) % 10) hj qz hqz
    obtain ⟨x1, x2, x3, x4, x5⟩ := p1 ((c % 10 + 9) % 10) hj qz hqz
    have o6 := hM.le (i := 6) (by decide)
    have o7 := hM.le (i := 7) (by decide)
    have o8 := hM.le (i := 8) (by decide)
    have o9 := hM.le (i := 9) (by decide)
    have o10 := hM.le (i := 10) (by decide)
    refine ⟨⟨_, c0⟩, (rm 3 90), ⟨by decide, by decide, by decide, by decide⟩, rn_mono (c_CB_undo G h (A 0) (A 1) (A 3) (A 4) (A 6) (A 11) (A 13) (A 20) (A 21) (A 22) (A 12) qz q1 q2 q3 (Ke ((c % 10 + 9) % 10)) (A 7) (A 8) (A 9) (A 10) Kp (n : Int) (c % 10) ct cu.1 (V 7) (V 8) (V 9) (V 10) cu.2.1 cu.2.2.1 cu.2.2.2.1 cu.2.2.2.2 c0 c11 c12 c7 c8 c9 c10 c6 y0 y1 y2 y3 y4 (by omega) ⟨by omega, hct2⟩ cn hqz (by omega) (hM.ne (i := 7) (j := 8) (by decide) (by decide) (by decide)) (by omega) (by omega) (by omega) (by omega) (by omega) (by omega) (by omega)) (fun r h1 q => ?_)⟩
    obtain ⟨rfl, k11, k6, k7, k8, k9, k10, fm⟩ := q
    have hW1 : WC A (EE G A (vu (vu (vu (vu V 7 (va_cpy cu.2.1 (V 7) 0 0 cu.1)) 8 (va_cpy cu.2.2.1 (V 8) 0 0 cu.1)) 9 (va_cpy cu.2.2.2.1 (V 9) 0 0 cu.1)) 10 (va_cpy cu.2.2.2.2 (V 10) 0 0 (cu.1 * 64))) (zup (zup (zup Z 9 ((cu.1 : Int))) 10 ((((c % 10 + 9) % 10 : Nat) : Int))) 11 (((ct - 1 : Nat) : Int))) Kp σ) h1 := hW.up (S := [11, 6, 7, 8, 9, 10]) (kFm hM fm (by decide)) ⟨k11, k6, k7, k8, k9, k10, trivial⟩ (c49 (fun _ => rfl) (fun _ => rfl) (fun _ => rfl) (fun _ => rfl) (fun _ => rfl) (fun _ => rfl) (fun n9 => absurd (by decide) n9) (fun n9 => absurd (by decide) n9) (fun n9 => absurd (by decide) n9) (fun n9 => absurd (by decide) n9) (fun n9 => absurd (by decide) n9) (fun n9 => absurd (by decide) n9) (fun _ => rfl) (fun _ => rfl) (fun _ => rfl) (fun _ => rfl) (fun _ => rfl) (fun _ => rfl) (fun _ => rfl) (fun _ => rfl) (fun _ => rfl) (fun _ => rfl) (fun _ => rfl) (fun _ => rfl) (fun _ => rfl) (fun _ => rfl) (fun _ => rfl) (fun _ => rfl) (fun _ => rfl) (fun _ => rfl) (fun _ => rfl) (fun _ => rfl) (fun _ => rfl) (fun _ => rfl) (fun _ => rfl) (fun _ => rfl) (fun _ => rfl) (fun _ => rfl) (fun _ => rfl) (fun _ => rfl) (fun _ => rfl) (fun _ => rfl) (fun _ => rfl) (fun _ => rfl) (fun _ => rfl) (fun _ => rfl) (fun _ => rfl) (fun _ => rfl) (fun _ => rfl))
    have g30 : h1 (A 30) = some (.inr (11, fsN 34 σ)) := hW1 30 (by decide)
    have g31 : h1 (A 31) = some (.inl (G_i G, 1000, .inl (iA (V 31)))) := hW1 31 (by decide)
    have g32 : h1 (A 32) = some (.inl (G_j G, 16, .inr (.inl (lA (V 32))))) := hW1 32 (by decide)
    have g33 : h1 (A 33) = some (.inl (G_j G, 16, .inr (.inl (lA (V 33))))) := hW1 33 (by decide)
    have g34 : h1 (A 34) = some (.inl (G_i G, 16, .inl (iA (V 34)))) := hW1 34 (by decide)
    have g35 : h1 (A 35) = some (.inl (G_i G, 1024, .inl (iA (V 35)))) := hW1 35 (by decide)
    have g36 : h1 (A 36) = some (.inl (G_i G, 10, .inl (iA (V 36)))) := hW1 36 (by decide)
    have g37 : h1 (A 37) = some (.inl (G_j G, 160, .inr (.inl (lA (V 37))))) := hW1 37 (by decide)
    have g38 : h1 (A 38) = some (.inl (G_j G, 160, .inr (.inl (lA (V 38))))) := hW1 38 (by decide)
    have g39 : h1 (A 39) = some (.inl (G_i G, 160, .inl (iA (V 39)))) := hW1 39 (by decide)
    have g40 : h1 (A 40) = some (.inl (G_i G, 10240, .inl (iA (V 40)))) := hW1 40 (by decide)
    have g41 : h1 (A 41) = some (.inl (G_j G, 16, .inr (.inl (lA (V 41))))) := hW1 41 (by decide)
    have g42 : h1 (A 42) = some (.inl (G_j G, 16, .inr (.inl (lA (V 42))))) := hW1 42 (by decide)
    have g43 : h1 (A 43) = some (.inl (G_i G, 16, .inl (iA (V 43)))) := hW1 43 (by decide)
    have g44 : h1 (A 44) = some (.inl (G_i G, 1024, .inl (iA (V 44)))) := hW1 44 (by decide)
    have g45 : h1 (A 45) = some (.inl (G_i G, 20, .inl (iA (V 45)))) := hW1 45 (by decide)
    have g46 : h1 (A 46) = some (.inl (G_i G, 194, .inl (iA (V 46)))) := hW1 46 (by decide)
    have g47 : h1 (A 47) = some (.inl (G_i G, 3104, .inl (iA (V 47)))) := hW1 47 (by decide)
    have g48 : h1 (A 48) = some (.inl (G_i G, 65, .inl (iA (V 48)))) := hW1 48 (by decide)
    have k12 : h1 (A 12) = some (.inl (G_q G, 10, .inr (.inr (.inr (.inr Kp))))) := hW1 12 (by decide)
    have hPa1 : PaW G h1 (A 48) (A 11) (A 12) ((c % 10 + 9) % 10) (ct - 1) Kp Ke C := ⟨hj, by omega, k11, k12, fun j hj2 r hr => ⟨(hPa.2.2.2.2.1 j hj2 r hr).1, (hPa.2.2.2.2.1 j hj2 r hr).2.keep (fun b x hb l5 l6 => (fm b (nbig (S := [11, 6, 7, 8, 9, 10]) hM (by decide) (Nat.lt_of_lt_of_le (hPa.2.2.2.2.1 j hj2 r hr).1 l5))).trans hb)⟩, hPa.2.2.2.2.2⟩
    refine ⟨1, by decide, rfl, ⟨_, g30⟩, (rm 0 0), ⟨by decide, by decide, by decide, by decide⟩, rn_mono (c_Mo_undo G h1 σ (A 30) (A 32) (A 33) (A 34) (A 35) (A 36) (A 37) (A 38) (A 39) (A 40) (V 32) (V 33) (V 34) (V 35) (V 36) (V 37) (V 38) (V 39) (V 40) (n : Int) (c - 1) (ct - 1) g30 f4 f5 f6 f7 f8 f11 f12 f13 f14 f15 (by rw [show c - 1 + 1 = c from by omega]; exact f9) (by rw [show ct - 1 + 1 = ct from by omega]; exact f10) g32 g33 g34 g35 g36 g37 g38 g39 g40 (by omega) (by omega) (hM.ne (i := 32) (j := 33) (by decide) (by decide) (by decide)) (hM.ne (i := 37) (j := 38) (by decide) (by decide) (by decide))) (fun rr h2 qq => ?_)⟩
    rw [show (c - 1) % 10 = (c % 10 + 9) % 10 from by omega] at qq
    obtain ⟨rfl, ⟨σ2, gm, m4, m9, m10, gs⟩, m32, m33, m34, m35, fm2⟩ := qq
    have hW2 : WC A (EE G A (vu (vu (vu (vu (vu (vu (vu (vu V 7 (va_cpy cu.2.1 (V 7) 0 0 cu.1)) 8 (va_cpy cu.2.2.1 (V 8) 0 0 cu.1)) 9 (va_cpy cu.2.2.2.1 (V 9) 0 0 cu.1)) 10 (va_cpy cu.2.2.2.2 (V 10) 0 0 (cu.1 * 64))) 32 (va_cpy (V 37) (V 32) (16 * ((c % 10 + 9) % 10)) 0 16)) 33 (va_cpy (V 38) (V 33) (16 * ((c % 10 + 9) % 10)) 0 16)) 34 (va_cpy (V 39) (V 34) (16 * ((c % 10 + 9) % 10)) 0 16)) 35 (va_cpy (V 40) (V 35) (1024 * ((c % 10 + 9) % 10)) 0 1024)) (zup (zup (zup (zup Z 9 ((cu.1 : Int))) 10 ((((c % 10 + 9) % 10 : Nat) : Int))) 11 (((ct - 1 : Nat) : Int))) 21 (((c - 1 : Nat) : Int))) Kp σ2) h2 := hW1.up (S := [30, 32, 33, 34, 35]) (kFm hM fm2 (by decide)) ⟨gm, m32, m33, m34, m35, trivial⟩ (c49 (fun _ => rfl) (fun _ => rfl) (fun _ => rfl) (fun _ => rfl) (fun _ => rfl) (fun _ => rfl) (fun _ => rfl) (fun _ => rfl) (fun _ => rfl) (fun _ => rfl) (fun _ => rfl) (fun _ => rfl) (fun _ => rfl) (fun _ => rfl) (fun _ => rfl) (fun _ => rfl) (fun _ => rfl) (fun _ => rfl) (fun _ => rfl) (fun _ => rfl) (fun _ => rfl) (fun _ => rfl) (fun _ => rfl) (fun _ => rfl) (fun _ => rfl) (fun _ => rfl) (fun _ => rfl) (fun _ => rfl) (fun _ => rfl) (fun _ => rfl) (fun n9 => absurd (by decide) n9) (fun _ => rfl) (fun n9 => absurd (by decide) n9) (fun n9 => absurd (by decide) n9) (fun n9 => absurd (by decide) n9) (fun n9 => absurd (by decide) n9) (fun _ => rfl) (fun _ => rfl) (fun _ => rfl) (fun _ => rfl) (fun _ => rfl) (fun _ => rfl) (fun _ => rfl) (fun _ => rfl) (fun _ => rfl) (fun _ => rfl) (fun _ => rfl) (fun _ => rfl) (fun _ => rfl))
    have xb := v_back (S1 := V 32) (S2 := V 33) (S3 := V 34) (S4 := V 35) ce x1 x3 x4 x5 r3
    have x4s : σ2 4 = .int (iZ (cu.1 : Int)) := m4.trans (by rw [x2, ← ce.1])
    exact ⟨rfl, hM, (vu (vu (vu (vu (vu (vu (vu (vu V 7 (va_cpy cu.2.1 (V 7) 0 0 cu.1)) 8 (va_cpy cu.2.2.1 (V 8) 0 0 cu.1)) 9 (va_cpy cu.2.2.2.1 (V 9) 0 0 cu.1)) 10 (va_cpy cu.2.2.2.2 (V 10) 0 0 (cu.1 * 64))) 32 (va_cpy (V 37) (V 32) (16 * ((c % 10 + 9) % 10)) 0 16)) 33 (va_cpy (V 38) (V 33) (16 * ((c % 10 + 9) % 10)) 0 16)) 34 (va_cpy (V 39) (V 34) (16 * ((c % 10 + 9) % 10)) 0 16)) 35 (va_cpy (V 40) (V 35) (1024 * ((c % 10 + 9) % 10)) 0 1024)), (zup (zup (zup (zup Z 9 ((cu.1 : Int))) 10 ((((c % 10 + 9) % 10 : Nat) : Int))) 11 (((ct - 1 : Nat) : Int))) 21 (((c - 1 : Nat) : Int))), Kp, Ke, C, σ2, n0, nu, cu.1, ((c % 10 + 9) % 10), (ct - 1), (c - 1), hW2, ⟨(gs 0 (by decide)).trans e0, (gs 1 (by decide)).trans e1, (gs 2 (by decide)).trans e2, (gs 3 (by decide)).trans e3, x4s, (gs 5 (by decide)).trans e5, (gs 6 (by decide)).trans e6, (gs 7 (by decide)).trans e7, (gs 8 (by decide)).trans e8, m9, m10, (gs 11 (by decide)).trans e11, (gs 12 (by decide)).trans e12, (gs 13 (by decide)).trans e13, (gs 14 (by decide)).trans e14, (gs 15 (by decide)).trans e15, (gs 19 (by decide)).trans e19, (gs 20 (by decide)).trans e20, (gs 21 (by decide)).trans e21, (gs 22 (by decide)).trans e22, (gs 25 (by decide)).trans e25, (gs 26 (by decide)).trans e26, (gs 27 (by decide)).trans e27, (gs 28 (by decide)).trans e28, (gs 29 (by decide)).trans e29, (gs 30 (by decide)).trans e30, (gs 31 (by decide)).trans e31, (gs 32 (by decide)).trans e32, (gs 33 (by decide)).trans e33⟩, pFm (S := [30, 32, 33, 34, 35]) hM hPa1 fm2 (by decide), ⟨z0, z8, rfl, rfl, rfl, rfl⟩, hRB, ⟨cn, xb.1, xb.2.1, rgs_back p2 r4, xb.2.2⟩, hRS, ⟨p1, p2, vlS_undo hct2 p3, by omega, by omega⟩, by omega⟩
set_option maxHeartbeats 4000000 in
set_option maxRecDepth 100000 in
theorem duo_read (G : GT) (A : Nat → Nat) (i : Nat) (h : HM) (hI : Inv G A i h) (hi : i ≤ 511) : ∀ a0 : Int, iR a0 → Duo G (A 0) (A 30) M_CB_read M_Mo_read [.int (iZ a0)] mI iR h (Inv G A (i + 1)) := by
  intro a0 q0
  obtain ⟨hM, V, Z, Kp, Ke, C, σ, n0, nu, n, nx, ct, c, hW, hSg, hPa, ⟨z0, z8, z9, z10, z11, z21⟩, hRB, hRC, hRS, hRP, hci⟩ := hI
  obtain rfl : nx = c % 10 := hRP.2.2.2.1
  obtain ⟨e0, e1, e2, e3, e4, e5, e6, e7, e8, e9, e10, e11, e12, e13, e14, e15, e19, e20, e21, e22, e25, e26, e27, e28, e29, e30, e31, e32, e33⟩ := id hSg
  have f0 : σ 0 = .int (iZ (n0 : Int)) := by rw [← z0]; exact e0
  have f1 : σ 1 = .ref (A 31) := e1
  have f2 : σ 2 = .int (iZ (Z 1)) := e2
  have f3 : σ 3 = .int (iZ (Z 2)) := e3
  have f4 : σ 4 = .int (iZ (n : Int)) := by rw [← z9]; exact e4
  have f5 : σ 5 = .ref (A 32) := e5
  have f6 : σ 6 = .ref (A 33) := e6
  have f7 : σ 7 = .ref (A 34) := e7
  have f8 : σ 8 = .ref (A 35) := e8
  have f9 : σ 9 = .int (iZ (c : Int)) := by rw [← z21]; exact e9
  have f10 : σ 10 = .int (iZ (ct : Int)) := by rw [← z11]; exact e10
  have f11 : σ 11 = .ref (A 36) := e11
  have f12 : σ 12 = .ref (A 37) := e12
  have f13 : σ 13 = .ref (A 38) := e13
  have f14 : σ 14 = .ref (A 39) := e14
  have f15 : σ 15 = .ref (A 40) := e15
  have f19 : σ 19 = .ref (A 41) := e19
  have f20 : σ 20 = .ref (A 42) := e20
  have f21 : σ 21 = .ref (A 43) := e21
  have f22 : σ 22 = .ref (A 44) := e22
  have f25 : σ 25 = .int (iZ (nu : Int)) := by rw [← z8]; exact e25
  have f26 : σ 26 = .ref (A 45) := e26
  have f27 : σ 27 = .int (iZ (Z 4)) := e27
  have f28 : σ 28 = .int (iZ (Z 5)) := e28
  have f29 : σ 29 = .int (iZ (Z 6)) := e29
  have f30 : σ 30 = .int (iZ (Z 7)) := e30
  have f31 : σ 31 = .ref (A 46) := e31
  have f32 : σ 32 = .ref (A 47) := e32
  have f33 : σ 33 = .ref (A 48) := e33
  have c0 : h (A 0) = some (.inr (0, [.ref (A 1), .ref (A 3), .ref (A 4), .ref (A 6), .ref (A 11), .ref (A 13), .ref (A 20), .ref (A 21), .ref (A 22)])) := hW 0 (by decide)
  have c1 : h (A 1) = some (.inr (1, [.ref (A 2), .int (iZ (n0 : Int))])) := by rw [← z0]; exact hW 1 (by decide)
  have c2 : h (A 2) = some (.inl (G_i G, 1000, .inl (iA (V 2)))) := hW 2 (by decide)
  have c3 : h (A 3) = some (.inr (5, [.int (iZ (Z 1)), .int (iZ (Z 2)), .long (lZ (Z 3))])) := hW 3 (by decide)
  have c4 : h (A 4) = some (.inr (10, [.int (iZ (Z 4)), .int (iZ (Z 5)), .int (iZ (Z 6)), .int (iZ (Z 7)), .ref (A 5), .int (iZ (nu : Int))])) := by rw [← z8]; exact hW 4 (by decide)
  have c5 : h (A 5) = some (.inl (G_i G, 20, .inl (iA (V 5)))) := hW 5 (by decide)
  have c6 : h (A 6) = some (.inr (2, [.ref (A 7), .ref (A 8), .ref (A 9), .ref (A 10), .int (iZ (n : Int))])) := by rw [← z9]; exact hW 6 (by decide)
  have c7 : h (A 7) = some (.inl (G_j G, 16, .inr (.inl (lA (V 7))))) := hW 7 (by decide)
  have c8 : h (A 8) = some (.inl (G_j G, 16, .inr (.inl (lA (V 8))))) := hW 8 (by decide)
  have c9 : h (A 9) = some (.inl (G_i G, 16, .inl (iA (V 9)))) := hW 9 (by decide)
  have c10 : h (A 10) = some (.inl (G_i G, 1024, .inl (iA (V 10)))) := hW 10 (by decide)
  have c11 : h (A 11) = some (.inr (7, [.ref (A 12), .int (iZ ((c % 10 : Nat) : Int)), .int (iZ (ct : Int))])) := by rw [← z10, ← z11]; exact hW 11 (by decide)
  have c12 : h (A 12) = some (.inl (G_q G, 10, .inr (.inr (.inr (.inr Kp))))) := hW 12 (by decide)
  have c13 : h (A 13) = some (.inr (3, [.ref (A 1), .ref (A 3), .ref (A 14), .ref (A 19), .int (iZ (Z 12)), .int (iZ (Z 13)), .int (iZ (Z 14)), .long (lZ (Z 15)), .long (lZ (Z 16)), .long (lZ (Z 17))])) := hW 13 (by decide)
  have c14 : h (A 14) = some (.inr (2, [.ref (A 15), .ref (A 16), .ref (A 17), .ref (A 18), .int (iZ (Z 18))])) := hW 14 (by decide)
  have c15 : h (A 15) = some (.inl (G_j G, 16, .inr (.inl (lA (V 15))))) := hW 15 (by decide)
  have c16 : h (A 16) = some (.inl (G_j G, 16, .inr (.inl (lA (V 16))))) := hW 16 (by decide)
  have c17 : h (A 17) = some (.inl (G_i G, 16, .inl (iA (V 17)))) := hW 17 (by decide)
  have c18 : h (A 18) = some (.inl (G_i G, 1024, .inl (iA (V 18)))) := hW 18 (by decide)
  have c19 : h (A 19) = some (.inl (G_i G, 64, .inl (iA (V 19)))) := hW 19 (by decide)
  have c20 : h (A 20) = some (.inr (4, [.ref (A 1), .ref (A 3), .ref (A 6)])) := hW 20 (by decide)
  have c21 : h (A 21) = some (.inr (6, [.ref (A 6), .int (iZ (Z 19)), .int (iZ (Z 20))])) := hW 21 (by decide)
  have c22 : h (A 22) = some (.inr (9, [.ref (A 6), .ref (A 3), .ref (A 4), .ref (A 23), .ref (A 24), .ref (A 25), .ref (A 26), .ref (A 27), .ref (A 28), .ref (A 29)])) := hW 22 (by decide)
  have c23 : h (A 23) = some (.inl (G_i G, 16, .inl (iA (V 23)))) := hW 23 (by decide)
  have c24 : h (A 24) = some (.inl (G_i G, 16, .inl (iA (V 24)))) := hW 24 (by decide)
  have c25 : h (A 25) = some (.inl (G_i G, 16, .inl (iA (V 25)))) := hW 25 (by decide)
  have c26 : h (A 26) = some (.inl (G_i G, 97, .inl (iA (V 26)))) := hW 26 (by decide)
  have c27 : h (A 27) = some (.inl (G_i G, 400, .inl (iA (V 27)))) := hW 27 (by decide)
  have c28 : h (A 28) = some (.inl (G_i G, 400, .inl (iA (V 28)))) := hW 28 (by decide)
  have c29 : h (A 29) = some (.inl (G_i G, 400, .inl (iA (V 29)))) := hW 29 (by decide)
  have c30 : h (A 30) = some (.inr (11, fsN 34 σ)) := hW 30 (by decide)
  have c31 : h (A 31) = some (.inl (G_i G, 1000, .inl (iA (V 31)))) := hW 31 (by decide)
  have c32 : h (A 32) = some (.inl (G_j G, 16, .inr (.inl (lA (V 32))))) := hW 32 (by decide)
  have c33 : h (A 33) = some (.inl (G_j G, 16, .inr (.inl (lA (V 33))))) := hW 33 (by decide)
  have c34 : h (A 34) = some (.inl (G_i G, 16, .inl (iA (V 34)))) := hW 34 (by decide)
  have c35 : h (A 35) = some (.inl (G_i G, 1024, .inl (iA (V 35)))) := hW 35 (by decide)
  have c36 : h (A 36) = some (.inl (G_i G, 10, .inl (iA (V 36)))) := hW 36 (by decide)
  have c37 : h (A 37) = some (.inl (G_j G, 160, .inr (.inl (lA (V 37))))) := hW 37 (by decide)
  have c38 : h (A 38) = some (.inl (G_j G, 160, .inr (.inl (lA (V 38))))) := hW 38 (by decide)
  have c39 : h (A 39) = some (.inl (G_i G, 160, .inl (iA (V 39)))) := hW 39 (by decide)
  have c40 : h (A 40) = some (.inl (G_i G, 10240, .inl (iA (V 40)))) := hW 40 (by decide)
  have c41 : h (A 41) = some (.inl (G_j G, 16, .inr (.inl (lA (V 41))))) := hW 41 (by decide)
  have c42 : h (A 42) = some (.inl (G_j G, 16, .inr (.inl (lA (V 42))))) := hW 42 (by decide)
  have c43 : h (A 43) = some (.inl (G_i G, 16, .inl (iA (V 43)))) := hW 43 (by decide)
  have c44 : h (A 44) = some (.inl (G_i G, 1024, .inl (iA (V 44)))) := hW 44 (by decide)
  have c45 : h (A 45) = some (.inl (G_i G, 20, .inl (iA (V 45)))) := hW 45 (by decide)
  have c46 : h (A 46) = some (.inl (G_i G, 194, .inl (iA (V 46)))) := hW 46 (by decide)
  have c47 : h (A 47) = some (.inl (G_i G, 3104, .inl (iA (V 47)))) := hW 47 (by decide)
  have c48 : h (A 48) = some (.inl (G_i G, 65, .inl (iA (V 48)))) := hW 48 (by decide)
  obtain ⟨b1, b2, b3, b4, b5, b6, b7, b8, b9, b10, b11⟩ := id hRB
  obtain ⟨u1, u2, u3, u4, u5, u6, u7, u8⟩ := id b8
  obtain ⟨r1, r2, r3, r4, r5⟩ := id hRC
  obtain ⟨t1, t2, t3, t4, t5, t6, t7, t8, t9, t10, t11, t12⟩ := id hRS
  obtain ⟨p1, p2, p3, p4, p5⟩ := id hRP
  have hc1 : c ≤ 1000 := by omega
  have hct := hPa.2.1
  have hct2 : ct ≤ 10 := hPa.2.1
  by_cases w1 : a0 = 0 ∨ a0 = 1 ∨ a0 = 2
  ·
    have xt : 0 ≤ Z 3 ∧ Z 3 ≤ 705600000 := ⟨by omega, b7.2⟩
    refine ⟨⟨_, c0⟩, ({ frames := 7, cells := 5, slots := 1077, locals := 190 }), ⟨by decide, by decide, by decide, by decide⟩, rn_mono (c_CB_read G h (A 0) (A 1) (A 3) (A 4) (A 6) (A 11) (A 13) (A 20) (A 21) (A 22) (A 7) (A 8) (A 9) (A 10) (A 12) (A 48) (c % 10) ct n Kp Ke C (V 7) (V 8) (V 9) (V 10) (A 2) (A 14) (A 19) (A 15) (A 16) (A 17) (A 18) n0 (V 2) (Z 14) (Z 18) (Z 12) (Z 13) (Z 15) (Z 16) (Z 17) (V 19) (V 15) (V 16) (V 17) (V 18) (Z 1) (Z 2) (Z 3) a0 c0 c6 c7 c8 c9 c10 c13 c1 c2 c3 c19 c14 c15 c16 c17 c18 hPa r1 b1 b3 xt q0 w1 t1 r3 ⟨hM.le (i := 0) (by decide), hM.le (i := 13) (by decide), hM.le (i := 19) (by decide), hM.le (i := 14) (by decide), hM.le (i := 15) (by decide), hM.le (i := 16) (by decide), hM.le (i := 17) (by decide), hM.le (i := 18) (by decide)⟩ (ninc (hM.ne (i := 48) (j := 13) (by decide) (by decide) (by decide)) (ninc (hM.ne (i := 48) (j := 19) (by decide) (by decide) (by decide)) (ninc (hM.ne (i := 48) (j := 14) (by decide) (by decide) (by decide)) (ninc (hM.ne (i := 48) (j := 15) (by decide) (by decide) (by decide)) (ninc (hM.ne (i := 48) (j := 16) (by decide) (by decide) (by decide)) (ninc (hM.ne (i := 48) (j := 17) (by decide) (by decide) (by decide)) (ninc (hM.ne (i := 48) (j := 18) (by decide) (by decide) (by decide)) nin0))))))) ⟨hM.le (i := 11) (by decide), hM.le (i := 12) (by decide), hM.le (i := 6) (by decide), hM.le (i := 7) (by decide), hM.le (i := 8) (by decide), hM.le (i := 9) (by decide), hM.le (i := 10) (by decide)⟩ ⟨_, c48⟩ (hM.ne (i := 7) (j := 8) (by decide) (by decide) (by decide)) (hM.ne (i := 15) (j := 16) (by decide) (by decide) (by decide)) (hM.ne (i := 6) (j := 14) (by decide) (by decide) (by decide)) (hM.ne (i := 7) (j := 15) (by decide) (by decide) (by decide)) (hM.ne (i := 7) (j := 16) (by decide) (by decide) (by decide)) (hM.ne (i := 8) (j := 15) (by decide) (by decide) (by decide)) (hM.ne (i := 8) (j := 16) (by decide) (by decide) (by decide)) (hM.ne (i := 9) (j := 17) (by decide) (by decide) (by decide)) (hM.ne (i := 10) (j := 18) (by decide) (by decide) (by decide))) (fun r h1 q => ?_)⟩
    have xr := rdL_ge (f := a0) (tk := Z 3) (n := n0) b3 xt 17 0 [] (by omega)
    by_cases w2 : (rdL a0 (Z 3) (V 2) n0 17 0 []).1 = -1
    · obtain ⟨rfl, ⟨N1, N2, N3, N4, k6, k7, k8, k9, k10, xl, xg, xc⟩, ⟨y1, y2, y3, y4, y5, y6, k13⟩, ⟨yE, k19⟩, ⟨yc, L1, L2, L3, L4, k14, k15, k16, k17, k18, xL⟩, ⟨Kp', Ke', hPa1, hks, hkk⟩, fb⟩ := q.2 w2
      have hW1 : WC A (EE G A (vu (vu (vu (vu (vu (vu (vu (vu (vu V 7 (N1)) 8 (N2)) 9 (N3)) 10 (N4)) 15 (L1)) 16 (L2)) 17 (L3)) 18 (L4)) 19 (yE)) (zup (zup (zup (zup (zup (zup (zup (zup (zup (zup Z 9 (((rdL a0 (Z 3) (V 2) n0 17 0 []).2.length : Int))) 10 ((((c % 10 + 1) % 10 : Nat) : Int))) 11 (((min (ct + 1) 10 : Nat) : Int))) 12 (y2)) 13 (y3)) 14 (y1)) 15 (y4)) 16 (y5)) 17 (y6)) 18 (yc)) Kp' σ) h1 := hW.up (S := [6, 7, 8, 9, 10, 11, 12, 13, 19, 14, 15, 16, 17, 18]) (kFb hM fb (by decide)) ⟨k6, k7, k8, k9, k10, hPa1.2.2.1, hPa1.2.2.2.1, k13, k19, k14, k15, k16, k17, k18, trivial⟩ (c49 (fun _ => rfl) (fun _ => rfl) (fun _ => rfl) (fun _ => rfl) (fun _ => rfl) (fun _ => rfl) (fun n9 => absurd (by decide) n9) (fun n9 => absurd (by decide) n9) (fun n9 => absurd (by decide) n9) (fun n9 => absurd (by decide) n9) (fun n9 => absurd (by decide) n9) (fun n9 => absurd (by decide) n9) (fun n9 => absurd (by decide) n9) (fun n9 => absurd (by decide) n9) (fun n9 => absurd (by decide) n9) (fun n9 => absurd (by decide) n9) (fun n9 => absurd (by decide) n9) (fun n9 => absurd (by decide) n9) (fun n9 => absurd (by decide) n9) (fun n9 => absurd (by decide) n9) (fun _ => rfl) (fun _ => rfl) (fun _ => rfl) (fun _ => rfl) (fun _ => rfl) (fun _ => rfl) (fun _ => rfl) (fun _ => rfl) (fun _ => rfl) (fun _ => rfl) (fun _ => rfl) (fun _ => rfl) (fun _ => rfl) (fun _ => rfl) (fun _ => rfl) (fun _ => rfl) (fun _ => rfl) (fun _ => rfl) (fun _ => rfl) (fun _ => rfl) (fun _ => rfl) (fun _ => rfl) (fun _ => rfl) (fun _ => rfl) (fun _ => rfl) (fun _ => rfl) (fun _ => rfl) (fun _ => rfl) (fun _ => rfl))
      have g30 : h1 (A 30) = some (.inr (11, fsN 34 σ)) := hW1 30 (by decide)
      have g31 : h1 (A 31) = some (.inl (G_i G, 1000, .inl (iA (V 31)))) := hW1 31 (by decide)
      have g32 : h1 (A 32) = some (.inl (G_j G, 16, .inr (.inl (lA (V 32))))) := hW1 32 (by decide)
      have g33 : h1 (A 33) = some (.inl (G_j G, 16, .inr (.inl (lA (V 33))))) := hW1 33 (by decide)
      have g34 : h1 (A 34) = some (.inl (G_i G, 16, .inl (iA (V 34)))) := hW1 34 (by decide)
      have g35 : h1 (A 35) = some (.inl (G_i G, 1024, .inl (iA (V 35)))) := hW1 35 (by decide)
      have g36 : h1 (A 36) = some (.inl (G_i G, 10, .inl (iA (V 36)))) := hW1 36 (by decide)
      have g37 : h1 (A 37) = some (.inl (G_j G, 160, .inr (.inl (lA (V 37))))) := hW1 37 (by decide)
      have g38 : h1 (A 38) = some (.inl (G_j G, 160, .inr (.inl (lA (V 38))))) := hW1 38 (by decide)
      have g39 : h1 (A 39) = some (.inl (G_i G, 160, .inl (iA (V 39)))) := hW1 39 (by decide)
      have g40 : h1 (A 40) = some (.inl (G_i G, 10240, .inl (iA (V 40)))) := hW1 40 (by decide)
      have g41 : h1 (A 41) = some (.inl (G_j G, 16, .inr (.inl (lA (V 41))))) := hW1 41 (by decide)
      have g42 : h1 (A 42) = some (.inl (G_j G, 16, .inr (.inl (lA (V 42))))) := hW1 42 (by decide)
      have g43 : h1 (A 43) = some (.inl (G_i G, 16, .inl (iA (V 43)))) := hW1 43 (by decide)
      have g44 : h1 (A 44) = some (.inl (G_i G, 1024, .inl (iA (V 44)))) := hW1 44 (by decide)
      have g45 : h1 (A 45) = some (.inl (G_i G, 20, .inl (iA (V 45)))) := hW1 45 (by decide)
      have g46 : h1 (A 46) = some (.inl (G_i G, 194, .inl (iA (V 46)))) := hW1 46 (by decide)
      have g47 : h1 (A 47) = some (.inl (G_i G, 3104, .inl (iA (V 47)))) := hW1 47 (by decide)
      have g48 : h1 (A 48) = some (.inl (G_i G, 65, .inl (iA (V 48)))) := hW1 48 (by decide)
      have xn := xc.1
      refine ⟨((rdL a0 (Z 3) (V 2) n0 17 0 []).2.length : Int), by omega, rfl, ⟨_, g30⟩, (rm 4 130), ⟨by decide, by decide, by decide, by decide⟩, rn_mono (c_Mo_read G h1 σ (A 30) (A 31) (A 32) (A 33) (A 34) (A 35) (A 36) (A 37) (A 38) (A 39) (A 40) (A 41) (A 42) (A 43) (A 44) n c ct n0 (V 32) (V 33) (V 34) (V 35) (V 36) (V 37) (V 38) (V 39) (V 40) (V 2) a0 (Z 3) (Z 1) (Z 2) (V 41) (V 42) (V 43) (V 44) g30 f4 f5 f6 f7 f8 f9 f10 f11 f12 f13 f14 f15 f0 f1 f2 f3 f19 f20 f21 f22 g32 g33 g34 g35 g36 g37 g38 g39 g40 (by rw [← b2]; exact g31) g41 g42 g43 g44 r4 hc1 hct2 (hM.ne (i := 37) (j := 38) (by decide) (by decide) (by decide)) (hM.ne (i := 32) (j := 33) (by decide) (by decide) (by decide)) (hM.ne (i := 41) (j := 42) (by decide) (by decide) (by decide)) (hM.ne (i := 32) (j := 41) (by decide) (by decide) (by decide)) (hM.ne (i := 32) (j := 42) (by decide) (by decide) (by decide)) (hM.ne (i := 33) (j := 41) (by decide) (by decide) (by decide)) (hM.ne (i := 33) (j := 42) (by decide) (by decide) (by decide)) (hM.ne (i := 34) (j := 43) (by decide) (by decide) (by decide)) (hM.ne (i := 35) (j := 44) (by decide) (by decide) (by decide)) b1 b3 b4 b5 b6 xt w1) (fun rr h2 qq => ?_)⟩
      obtain ⟨rfl, ⟨σ2, gm, m4, m9, m10, gs⟩, ⟨M1, M2, M3, M4, m41, m42, m43, m44⟩, ⟨P1, P2, P3, P4, m32, m33, m34, m35, xl2, xg2, _⟩, m36, m37, m38, m39, m40, fm2⟩ := qq.2 w2
      have hW2 : WC A (EE G A (vu (vu (vu (vu (vu (vu (vu (vu (vu (vu (vu (vu (vu (vu (vu (vu (vu (vu (vu (vu (vu (vu V 7 (N1)) 8 (N2)) 9 (N3)) 10 (N4)) 15 (L1)) 16 (L2)) 17 (L3)) 18 (L4)) 19 (yE)) 32 (P1)) 33 (P2)) 34 (P3)) 35 (P4)) 36 (zup (V 36) (c % 10) (n : Int))) 37 (va_cpy (V 32) (V 37) 0 (16 * (c % 10)) 16)) 38 (va_cpy (V 33) (V 38) 0 (16 * (c % 10)) 16)) 39 (va_cpy (V 34) (V 39) 0 (16 * (c % 10)) 16)) 40 (va_cpy (V 35) (V 40) 0 (1024 * (c % 10)) 1024)) 41 (M1)) 42 (M2)) 43 (M3)) 44 (M4)) (zup (zup (zup (zup (zup (zup (zup (zup (zup (zup (zup Z 9 (((rdL a0 (Z 3) (V 2) n0 17 0 []).2.length : Int))) 10 ((((c % 10 + 1) % 10 : Nat) : Int))) 11 (((min (ct + 1) 10 : Nat) : Int))) 12 (y2)) 13 (y3)) 14 (y1)) 15 (y4)) 16 (y5)) 17 (y6)) 18 (yc)) 21 ((c : Int) + 1)) Kp' σ2) h2 := hW1.up (S := [30, 32, 33, 34, 35, 36, 37, 38, 39, 40, 41, 42, 43, 44]) (kFm hM fm2 (by decide)) ⟨gm, m32, m33, m34, m35, m36, m37, m38, m39, m40, m41, m42, m43, m44, trivial⟩ (c49 (fun _ => rfl) (fun _ => rfl) (fun _ => rfl) (fun _ => rfl) (fun _ => rfl) (fun _ => rfl) (fun _ => rfl) (fun _ => rfl) (fun _ => rfl) (fun _ => rfl) (fun _ => rfl) (fun _ => rfl) (fun _ => rfl) (fun _ => rfl) (fun _ => rfl) (fun _ => rfl) (fun _ => rfl) (fun _ => rfl) (fun _ => rfl) (fun _ => rfl) (fun _ => rfl) (fun _ => rfl) (fun _ => rfl) (fun _ => rfl) (fun _ => rfl) (fun _ => rfl) (fun _ => rfl) (fun _ => rfl) (fun _ => rfl) (fun _ => rfl) (fun n9 => absurd (by decide) n9) (fun _ => rfl) (fun n9 => absurd (by decide) n9) (fun n9 => absurd (by decide) n9) (fun n9 => absurd (by decide) n9) (fun n9 => absurd (by decide) n9) (fun n9 => absurd (by decide) n9) (fun n9 => absurd (by decide) n9) (fun n9 => absurd (by decide) n9) (fun n9 => absurd (by decide) n9) (fun n9 => absurd (by decide) n9) (fun n9 => absurd (by decide) n9) (fun n9 => absurd (by decide) n9) (fun n9 => absurd (by decide) n9) (fun n9 => absurd (by decide) n9) (fun _ => rfl) (fun _ => rfl) (fun _ => rfl) (fun _ => rfl))
      exact ⟨rfl, hM, (vu (vu (vu (vu (vu (vu (vu (vu (vu (vu (vu (vu (vu (vu (vu (vu (vu (vu (vu (vu (vu (vu V 7 (N1)) 8 (N2)) 9 (N3)) 10 (N4)) 15 (L1)) 16 (L2)) 17 (L3)) 18 (L4)) 19 (yE)) 32 (P1)) 33 (P2)) 34 (P3)) 35 (P4)) 36 (zup (V 36) (c % 10) (n : Int))) 37 (va_cpy (V 32) (V 37) 0 (16 * (c % 10)) 16)) 38 (va_cpy (V 33) (V 38) 0 (16 * (c % 10)) 16)) 39 (va_cpy (V 34) (V 39) 0 (16 * (c % 10)) 16)) 40 (va_cpy (V 35) (V 40) 0 (1024 * (c % 10)) 1024)) 41 (M1)) 42 (M2)) 43 (M3)) 44 (M4)), (zup (zup (zup (zup (zup (zup (zup (zup (zup (zup (zup Z 9 (((rdL a0 (Z 3) (V 2) n0 17 0 []).2.length : Int))) 10 ((((c % 10 + 1) % 10 : Nat) : Int))) 11 (((min (ct + 1) 10 : Nat) : Int))) 12 (y2)) 13 (y3)) 14 (y1)) 15 (y4)) 16 (y5)) 17 (y6)) 18 (yc)) 21 ((c : Int) + 1)), Kp', Ke', (fun j => if j = c % 10 then (n, V 7, V 8, V 9, V 10) else C j), σ2, n0, nu, (rdL a0 (Z 3) (V 2) n0 17 0 []).2.length, ((c % 10 + 1) % 10), (min (ct + 1) 10), c + 1, hW2, ⟨(gs 0 (by decide)).trans e0, (gs 1 (by decide)).trans e1, (gs 2 (by decide)).trans e2, (gs 3 (by decide)).trans e3, m4, (gs 5 (by decide)).trans e5, (gs 6 (by decide)).trans e6, (gs 7 (by decide)).trans e7, (gs 8 (by decide)).trans e8, m9, m10, (gs 11 (by decide)).trans e11, (gs 12 (by decide)).trans e12, (gs 13 (by decide)).trans e13, (gs 14 (by decide)).trans e14, (gs 15 (by decide)).trans e15, (gs 19 (by decide)).trans e19, (gs 20 (by decide)).trans e20, (gs 21 (by decide)).trans e21, (gs 22 (by decide)).trans e22, (gs 25 (by decide)).trans e25, (gs 26 (by decide)).trans e26, (gs 27 (by decide)).trans e27, (gs 28 (by decide)).trans e28, (gs 29 (by decide)).trans e29, (gs 30 (by decide)).trans e30, (gs 31 (by decide)).trans e31, (gs 32 (by decide)).trans e32, (gs 33 (by decide)).trans e33⟩, pFm (S := [30, 32, 33, 34, 35, 36, 37, 38, 39, 40, 41, 42, 43, 44]) hM hPa1 fm2 (by decide), ⟨z0, z8, rfl, rfl, rfl, by show (c : Int) + 1 = ((c + 1 : Nat) : Int); omega⟩, hRB, ⟨xc.1, v_read xl xl2, xg, xg2, v_readS xl xc⟩, ⟨xL, t2, t3, t4, t5, t6, t7, t8, t9, t10, t11, t12⟩, ⟨rgI_keep p1 hkk r1 r2 r3 r5, rgs_ring p2 r4, vlS_keep hct2 (by omega) p3 hkk hks, by omega, by omega⟩, by omega⟩
    · obtain ⟨rfl, ⟨y1, y2, y3, y4, y5, y6, k13⟩, ⟨yE, k19⟩, ⟨yc, L1, L2, L3, L4, k14, k15, k16, k17, k18, xL⟩, fm⟩ := q.1 w2
      have hW1 : WC A (EE G A (vu (vu (vu (vu (vu V 15 (L1)) 16 (L2)) 17 (L3)) 18 (L4)) 19 (yE)) (zup (zup (zup (zup (zup (zup (zup Z 12 (y2)) 13 (y3)) 14 (y1)) 15 (y4)) 16 (y5)) 17 (y6)) 18 (yc)) Kp σ) h1 := hW.up (S := [13, 19, 14, 15, 16, 17, 18]) (kFm hM fm (by decide)) ⟨k13, k19, k14, k15, k16, k17, k18, trivial⟩ (c49 (fun _ => rfl) (fun _ => rfl) (fun _ => rfl) (fun _ => rfl) (fun _ => rfl) (fun _ => rfl) (fun _ => rfl) (fun _ => rfl) (fun _ => rfl) (fun _ => rfl) (fun _ => rfl) (fun _ => rfl) (fun _ => rfl) (fun n9 => absurd (by decide) n9) (fun n9 => absurd (by decide) n9) (fun n9 => absurd (by decide) n9) (fun n9 => absurd (by decide) n9) (fun n9 => absurd (by decide) n9) (fun n9 => absurd (by decide) n9) (fun n9 => absurd (by decide) n9) (fun _ => rfl) (fun _ => rfl) (fun _ => rfl) (fun _ => rfl) (fun _ => rfl) (fun _ => rfl) (fun _ => rfl) (fun _ => rfl) (fun _ => rfl) (fun _ => rfl) (fun _ => rfl) (fun _ => rfl) (fun _ => rfl) (fun _ => rfl) (fun _ => rfl) (fun _ => rfl) (fun _ => rfl) (fun _ => rfl) (fun _ => rfl) (fun _ => rfl) (fun _ => rfl) (fun _ => rfl) (fun _ => rfl) (fun _ => rfl) (fun _ => rfl) (fun _ => rfl) (fun _ => rfl) (fun _ => rfl) (fun _ => rfl))
      have g30 : h1 (A 30) = some (.inr (11, fsN 34 σ)) := hW1 30 (by decide)
      have g31 : h1 (A 31) = some (.inl (G_i G, 1000, .inl (iA (V 31)))) := hW1 31 (by decide)
      have g32 : h1 (A 32) = some (.inl (G_j G, 16, .inr (.inl (lA (V 32))))) := hW1 32 (by decide)
      have g33 : h1 (A 33) = some (.inl (G_j G, 16, .inr (.inl (lA (V 33))))) := hW1 33 (by decide)
      have g34 : h1 (A 34) = some (.inl (G_i G, 16, .inl (iA (V 34)))) := hW1 34 (by decide)
      have g35 : h1 (A 35) = some (.inl (G_i G, 1024, .inl (iA (V 35)))) := hW1 35 (by decide)
      have g36 : h1 (A 36) = some (.inl (G_i G, 10, .inl (iA (V 36)))) := hW1 36 (by decide)
      have g37 : h1 (A 37) = some (.inl (G_j G, 160, .inr (.inl (lA (V 37))))) := hW1 37 (by decide)
      have g38 : h1 (A 38) = some (.inl (G_j G, 160, .inr (.inl (lA (V 38))))) := hW1 38 (by decide)
      have g39 : h1 (A 39) = some (.inl (G_i G, 160, .inl (iA (V 39)))) := hW1 39 (by decide)
      have g40 : h1 (A 40) = some (.inl (G_i G, 10240, .inl (iA (V 40)))) := hW1 40 (by decide)
      have g41 : h1 (A 41) = some (.inl (G_j G, 16, .inr (.inl (lA (V 41))))) := hW1 41 (by decide)
      have g42 : h1 (A 42) = some (.inl (G_j G, 16, .inr (.inl (lA (V 42))))) := hW1 42 (by decide)
      have g43 : h1 (A 43) = some (.inl (G_i G, 16, .inl (iA (V 43)))) := hW1 43 (by decide)
      have g44 : h1 (A 44) = some (.inl (G_i G, 1024, .inl (iA (V 44)))) := hW1 44 (by decide)
      have g45 : h1 (A 45) = some (.inl (G_i G, 20, .inl (iA (V 45)))) := hW1 45 (by decide)
      have g46 : h1 (A 46) = some (.inl (G_i G, 194, .inl (iA (V 46)))) := hW1 46 (by decide)
      have g47 : h1 (A 47) = some (.inl (G_i G, 3104, .inl (iA (V 47)))) := hW1 47 (by decide)
      have g48 : h1 (A 48) = some (.inl (G_i G, 65, .inl (iA (V 48)))) := hW1 48 (by decide)
      have hPa1 := pFm (S := [13, 19, 14, 15, 16, 17, 18]) hM hPa fm (by decide)
      refine ⟨(-10 - (rdL a0 (Z 3) (V 2) n0 17 0 []).1), by omega, rfl, ⟨_, g30⟩, (rm 4 130), ⟨by decide, by decide, by decide, by decide⟩, rn_mono (c_Mo_read G h1 σ (A 30) (A 31) (A 32) (A 33) (A 34) (A 35) (A 36) (A 37) (A 38) (A 39) (A 40) (A 41) (A 42) (A 43) (A 44) n c ct n0 (V 32) (V 33) (V 34) (V 35) (V 36) (V 37) (V 38) (V 39) (V 40) (V 2) a0 (Z 3) (Z 1) (Z 2) (V 41) (V 42) (V 43) (V 44) g30 f4 f5 f6 f7 f8 f9 f10 f11 f12 f13 f14 f15 f0 f1 f2 f3 f19 f20 f21 f22 g32 g33 g34 g35 g36 g37 g38 g39 g40 (by rw [← b2]; exact g31) g41 g42 g43 g44 r4 hc1 hct2 (hM.ne (i := 37) (j := 38) (by decide) (by decide) (by decide)) (hM.ne (i := 32) (j := 33) (by decide) (by decide) (by decide)) (hM.ne (i := 41) (j := 42) (by decide) (by decide) (by decide)) (hM.ne (i := 32) (j := 41) (by decide) (by decide) (by decide)) (hM.ne (i := 32) (j := 42) (by decide) (by decide) (by decide)) (hM.ne (i := 33) (j := 41) (by decide) (by decide) (by decide)) (hM.ne (i := 33) (j := 42) (by decide) (by decide) (by decide)) (hM.ne (i := 34) (j := 43) (by decide) (by decide) (by decide)) (hM.ne (i := 35) (j := 44) (by decide) (by decide) (by decide)) b1 b3 b4 b5 b6 xt w1) (fun rr h2 qq => ?_)⟩
      obtain ⟨rfl, ⟨σ2, gm, gs⟩, ⟨M1, M2, M3, M4, m41, m42, m43, m44⟩, fm2⟩ := qq.1 w2
      have hW2 : WC A (EE G A (vu (vu (vu (vu (vu (vu (vu (vu (vu V 15 (L1)) 16 (L2)) 17 (L3)) 18 (L4)) 19 (yE)) 41 (M1)) 42 (M2)) 43 (M3)) 44 (M4)) (zup (zup (zup (zup (zup (zup (zup Z 12 (y2)) 13 (y3)) 14 (y1)) 15 (y4)) 16 (y5)) 17 (y6)) 18 (yc)) Kp σ2) h2 := hW1.up (S := [30, 41, 42, 43, 44]) (kFm hM fm2 (by decide)) ⟨gm, m41, m42, m43, m44, trivial⟩ (c49 (fun _ => rfl) (fun _ => rfl) (fun _ => rfl) (fun _ => rfl) (fun _ => rfl) (fun _ => rfl) (fun _ => rfl) (fun _ => rfl) (fun _ => rfl) (fun _ => rfl) (fun _ => rfl) (fun _ => rfl) (fun _ => rfl) (fun _ => rfl) (fun _ => rfl) (fun _ => rfl) (fun _ => rfl) (fun _ => rfl) (fun _ => rfl) (fun _ => rfl) (fun _ => rfl) (fun _ => rfl) (fun _ => rfl) (fun _ => rfl) (fun _ => rfl) (fun _ => rfl) (fun _ => rfl) (fun _ => rfl) (fun _ => rfl) (fun _ => rfl) (fun n9 => absurd (by decide) n9) (fun _ => rfl) (fun _ => rfl) (fun _ => rfl) (fun _ => rfl) (fun _ => rfl) (fun _ => rfl) (fun _ => rfl) (fun _ => rfl) (fun _ => rfl) (fun _ => rfl) (fun n9 => absurd (by decide) n9) (fun n9 => absurd (by decide) n9) (fun n9 => absurd (by decide) n9) (fun n9 => absurd (by decide) n9) (fun _ => rfl) (fun _ => rfl) (fun _ => rfl) (fun _ => rfl))
      exact ⟨rfl, hM, (vu (vu (vu (vu (vu (vu (vu (vu (vu V 15 (L1)) 16 (L2)) 17 (L3)) 18 (L4)) 19 (yE)) 41 (M1)) 42 (M2)) 43 (M3)) 44 (M4)), (zup (zup (zup (zup (zup (zup (zup Z 12 (y2)) 13 (y3)) 14 (y1)) 15 (y4)) 16 (y5)) 17 (y6)) 18 (yc)), Kp, Ke, C, σ2, n0, nu, n, (c % 10), ct, c, hW2, ⟨(gs 0 (by decide)).trans e0, (gs 1 (by decide)).trans e1, (gs 2 (by decide)).trans e2, (gs 3 (by decide)).trans e3, (gs 4 (by decide)).trans e4, (gs 5 (by decide)).trans e5, (gs 6 (by decide)).trans e6, (gs 7 (by decide)).trans e7, (gs 8 (by decide)).trans e8, (gs 9 (by decide)).trans e9, (gs 10 (by decide)).trans e10, (gs 11 (by decide)).trans e11, (gs 12 (by decide)).trans e12, (gs 13 (by decide)).trans e13, (gs 14 (by decide)).trans e14, (gs 15 (by decide)).trans e15, (gs 19 (by decide)).trans e19, (gs 20 (by decide)).trans e20, (gs 21 (by decide)).trans e21, (gs 22 (by decide)).trans e22, (gs 25 (by decide)).trans e25, (gs 26 (by decide)).trans e26, (gs 27 (by decide)).trans e27, (gs 28 (by decide)).trans e28, (gs 29 (by decide)).trans e29, (gs 30 (by decide)).trans e30, (gs 31 (by decide)).trans e31, (gs 32 (by decide)).trans e32, (gs 33 (by decide)).trans e33⟩, pFm (S := [30, 41, 42, 43, 44]) hM hPa1 fm2 (by decide), ⟨z0, z8, z9, z10, z11, z21⟩, hRB, hRC, ⟨xL, t2, t3, t4, t5, t6, t7, t8, t9, t10, t11, t12⟩, hRP, by omega⟩
  ·
    refine ⟨⟨_, c0⟩, (rm 1 40), ⟨by decide, by decide, by decide, by decide⟩, rn_mono (c_CB_readB G h (A 0) a0 q0 w1) (fun r h1 q => ?_)⟩
    obtain ⟨rfl, hx9⟩ := q
    have hW1 : WC A (EE G A V Z Kp σ) h1 := by rw [hx9]; exact hW
    have hPa1 : PaW G h1 (A 48) (A 11) (A 12) (c % 10) ct Kp Ke C := by rw [hx9]; exact hPa
    have g30 : h1 (A 30) = some (.inr (11, fsN 34 σ)) := hW1 30 (by decide)
    have g31 : h1 (A 31) = some (.inl (G_i G, 1000, .inl (iA (V 31)))) := hW1 31 (by decide)
    have g32 : h1 (A 32) = some (.inl (G_j G, 16, .inr (.inl (lA (V 32))))) := hW1 32 (by decide)
    have g33 : h1 (A 33) = some (.inl (G_j G, 16, .inr (.inl (lA (V 33))))) := hW1 33 (by decide)
    have g34 : h1 (A 34) = some (.inl (G_i G, 16, .inl (iA (V 34)))) := hW1 34 (by decide)
    have g35 : h1 (A 35) = some (.inl (G_i G, 1024, .inl (iA (V 35)))) := hW1 35 (by decide)
    have g36 : h1 (A 36) = some (.inl (G_i G, 10, .inl (iA (V 36)))) := hW1 36 (by decide)
    have g37 : h1 (A 37) = some (.inl (G_j G, 160, .inr (.inl (lA (V 37))))) := hW1 37 (by decide)
    have g38 : h1 (A 38) = some (.inl (G_j G, 160, .inr (.inl (lA (V 38))))) := hW1 38 (by decide)
    have g39 : h1 (A 39) = some (.inl (G_i G, 160, .inl (iA (V 39)))) := hW1 39 (by decide)
    have g40 : h1 (A 40) = some (.inl (G_i G, 10240, .inl (iA (V 40)))) := hW1 40 (by decide)
    have g41 : h1 (A 41) = some (.inl (G_j G, 16, .inr (.inl (lA (V 41))))) := hW1 41 (by decide)
    have g42 : h1 (A 42) = some (.inl (G_j G, 16, .inr (.inl (lA (V 42))))) := hW1 42 (by decide)
    have g43 : h1 (A 43) = some (.inl (G_i G, 16, .inl (iA (V 43)))) := hW1 43 (by decide)
    have g44 : h1 (A 44) = some (.inl (G_i G, 1024, .inl (iA (V 44)))) := hW1 44 (by decide)
    have g45 : h1 (A 45) = some (.inl (G_i G, 20, .inl (iA (V 45)))) := hW1 45 (by decide)
    have g46 : h1 (A 46) = some (.inl (G_i G, 194, .inl (iA (V 46)))) := hW1 46 (by decide)
    have g47 : h1 (A 47) = some (.inl (G_i G, 3104, .inl (iA (V 47)))) := hW1 47 (by decide)
    have g48 : h1 (A 48) = some (.inl (G_i G, 65, .inl (iA (V 48)))) := hW1 48 (by decide)
    refine ⟨-2, by decide, rfl, ⟨_, g30⟩, (rm 1 40), ⟨by decide, by decide, by decide, by decide⟩, rn_mono (c_Mo_readB G h1 (A 30) a0 q0 w1) (fun rr h2 qq => ?_)⟩
    obtain ⟨rfl, hx8⟩ := qq
    rw [hx8]
    exact ⟨rfl, hM, V, Z, Kp, Ke, C, σ, n0, nu, n, (c % 10), ct, c, hW1, hSg, hPa1, ⟨z0, z8, z9, z10, z11, z21⟩, hRB, hRC, hRS, hRP, by omega⟩
theorem wy_ok {s e tk l : Int} (h0 : 0 < tk) (h1 : 0 ≤ s) (h2 : e * tk ≤ 2540160000000) (h3 : l ≤ e - s) (hl : 1 ≤ l) : (0 ≤ s * tk ∧ s * tk ≤ 2540160000000) ∧ (0 ≤ e * tk ∧ e * tk ≤ 2540160000000) ∧ s * tk < e * tk := by
  have a := Int.mul_nonneg h1 (Int.le_of_lt h0)
  have b := Int.mul_lt_mul_of_pos_right (show s < e by omega) h0
  omega
theorem wy_c {P : Rp} {g g2 : Nat → Nat} {tk : Int} {K1 K2 K3 K4 S1 S2 S3 S4 : Nat → Int} {n : Nat} (hv : vw n K1 K2 K3 K4 S1 S2 S3 S4) (h : ∀ c, c < n → g c = g2 c) : vw n (wyS P g tk K1 n) (wyE P g tk K2 n) K3 K4 (wyS P g2 tk S1 n) (wyE P g2 tk S2 n) S3 S4 := by
  intro k hk
  obtain ⟨_, _, e3, e4⟩ := hv k hk
  refine ⟨?_, ?_, e3, e4⟩
  · unfold wyS; rw [if_pos hk, if_pos hk, h k hk]
  · unfold wyE; rw [if_pos hk, if_pos hk, h k hk]
theorem wyS_r {P : Rp} {g : Nat → Nat} {tk a b : Int} {K : Nat → Int} {n : Nat} (h : ∀ k, k < n → a ≤ rSt P k (g k) * tk ∧ rSt P k (g k) * tk ≤ b) (hK : ∀ k, a ≤ K k ∧ K k ≤ b) : ∀ k, a ≤ wyS P g tk K n k ∧ wyS P g tk K n k ≤ b := by
  intro k
  unfold wyS
  split
  · rename_i q; exact h k q
  · exact hK k
theorem wyE_r {P : Rp} {g : Nat → Nat} {tk a b : Int} {K : Nat → Int} {n : Nat} (h : ∀ k, k < n → a ≤ rEn P k (g k) * tk ∧ rEn P k (g k) * tk ≤ b) (hK : ∀ k, a ≤ K k ∧ K k ≤ b) : ∀ k, a ≤ wyE P g tk K n k ∧ wyE P g tk K n k ≤ b := by
  intro k
  unfold wyE
  split
  · rename_i q; exact h k q
  · exact hK k
theorem wy_st {P : Rp} {g : Nat → Nat} {tk : Int} {K1 K2 : Nat → Int} {n : Nat} (h : ∀ k, k < n → rSt P k (g k) * tk < rEn P k (g k) * tk) : stE n (wyS P g tk K1 n) (wyE P g tk K2 n) := by
  intro k hk
  unfold wyS wyE
  rw [if_pos hk, if_pos hk]
  exact h k hk
theorem rp_way {n : Nat} {K1 K2 K3 K4 : Nat → Int} {num den tk g0 l0 m0 s0 : Int} {U : Nat → Int} {nu : Nat} {g : Nat → Nat} (h0 : 0 < tk) (hl : 1 ≤ l0) (v : rVP (rpP n K1 K2 K3 K4 num den tk g0 l0 m0 s0 U nu) n g) : ∀ k, k < n → (0 ≤ rSt (rpP n K1 K2 K3 K4 num den tk g0 l0 m0 s0 U nu) k (g k) * tk ∧ rSt (rpP n K1 K2 K3 K4 num den tk g0 l0 m0 s0 U nu) k (g k) * tk ≤ 2540160000000) ∧ (0 ≤ rEn (rpP n K1 K2 K3 K4 num den tk g0 l0 m0 s0 U nu) k (g k) * tk ∧ rEn (rpP n K1 K2 K3 K4 num den tk g0 l0 m0 s0 U nu) k (g k) * tk ≤ 2540160000000) ∧ rSt (rpP n K1 K2 K3 K4 num den tk g0 l0 m0 s0 U nu) k (g k) * tk < rEn (rpP n K1 K2 K3 K4 num den tk g0 l0 m0 s0 U nu) k (g k) * tk := by
  intro k hk
  obtain ⟨_, _, o⟩ := (v k hk).1
  generalize rSt (rpP n K1 K2 K3 K4 num den tk g0 l0 m0 s0 U nu) k (g k) = s at o ⊢
  generalize rEn (rpP n K1 K2 K3 K4 num den tk g0 l0 m0 s0 U nu) k (g k) = e at o ⊢
  replace o : 0 ≤ s ∧ e * tk ≤ 2540160000000 ∧ l0 ≤ e - s ∧ e - s ≤ m0 ∧ ccF K3 K4 n k * num ≤ s0 * (e - s) * den ∧ clr U nu e := o
  exact wy_ok h0 o.1 o.2.1 o.2.2.1 hl
set_option maxHeartbeats 4000000 in
set_option maxRecDepth 100000 in
theorem duo_repair (G : GT) (A : Nat → Nat) (i : Nat) (h : HM) (hI : Inv G A i h) (hi : i ≤ 511) : Duo G (A 0) (A 30) M_CB_repair M_Mo_repair [] mI iR h (Inv G A (i + 1)) := by
  obtain ⟨hM, V, Z, Kp, Ke, C, σ, n0, nu, n, nx, ct, c, hW, hSg, hPa, ⟨z0, z8, z9, z10, z11, z21⟩, hRB, hRC, hRS, hRP, hci⟩ := hI
  obtain rfl : nx = c % 10 := hRP.2.2.2.1
  obtain ⟨e0, e1, e2, e3, e4, e5, e6, e7, e8, e9, e10, e11, e12, e13, e14, e15, e19, e20, e21, e22, e25, e26, e27, e28, e29, e30, e31, e32, e33⟩ := id hSg
  have f0 : σ 0 = .int (iZ (n0 : Int)) := by rw [← z0]; exact e0
  have f1 : σ 1 = .ref (A 31) := e1
  have f2 : σ 2 = .int (iZ (Z 1)) := e2
  have f3 : σ 3 = .int (iZ (Z 2)) := e3
  have f4 : σ 4 = .int (iZ (n : Int)) := by rw [← z9]; exact e4
  have f5 : σ 5 = .ref (A 32) := e5
  have f6 : σ 6 = .ref (A 33) := e6
  have f7 : σ 7 = .ref (A 34) := e7
  have f8 : σ 8 = .ref (A 35) := e8
  have f9 : σ 9 = .int (iZ (c : Int)) := by rw [← z21]; exact e9
  have f10 : σ 10 = .int (iZ (ct : Int)) := by rw [← z11]; exact e10
  have f11 : σ 11 = .ref (A 36) := e11
  have f12 : σ 12 = .ref (A 37) := e12
  have f13 : σ 13 = .ref (A 38) := e13
  have f14 : σ 14 = .ref (A 39) := e14
  have f15 : σ 15 = .ref (A 40) := e15
  have f19 : σ 19 = .ref (A 41) := e19
  have f20 : σ 20 = .ref (A 42) := e20
  have f21 : σ 21 = .ref (A 43) := e21
  have f22 : σ 22 = .ref (A 44) := e22
  have f25 : σ 25 = .int (iZ (nu : Int)) := by rw [← z8]; exact e25
  have f26 : σ 26 = .ref (A 45) := e26
  have f27 : σ 27 = .int (iZ (Z 4)) := e27
  have f28 : σ 28 = .int (iZ (Z 5)) := e28
  have f29 : σ 29 = .int (iZ (Z 6)) := e29
  have f30 : σ 30 = .int (iZ (Z 7)) := e30
  have f31 : σ 31 = .ref (A 46) := e31
  have f32 : σ 32 = .ref (A 47) := e32
  have f33 : σ 33 = .ref (A 48) := e33
  have c0 : h (A 0) = some (.inr (0, [.ref (A 1), .ref (A 3), .ref (A 4), .ref (A 6), .ref (A 11), .ref (A 13), .ref (A 20), .ref (A 21), .ref (A 22)])) := hW 0 (by decide)
  have c1 : h (A 1) = some (.inr (1, [.ref (A 2), .int (iZ (n0 : Int))])) := by rw [← z0]; exact hW 1 (by decide)
  have c2 : h (A 2) = some (.inl (G_i G, 1000, .inl (iA (V 2)))) := hW 2 (by decide)
  have c3 : h (A 3) = some (.inr (5, [.int (iZ (Z 1)), .int (iZ (Z 2)), .long (lZ (Z 3))])) := hW 3 (by decide)
  have c4 : h (A 4) = some (.inr (10, [.int (iZ (Z 4)), .int (iZ (Z 5)), .int (iZ (Z 6)), .int (iZ (Z 7)), .ref (A 5), .int (iZ (nu : Int))])) := by rw [← z8]; exact hW 4 (by decide)
  have c5 : h (A 5) = some (.inl (G_i G, 20, .inl (iA (V 5)))) := hW 5 (by decide)
  have c6 : h (A 6) = some (.inr (2, [.ref (A 7), .ref (A 8), .ref (A 9), .ref (A 10), .int (iZ (n : Int))])) := by rw [← z9]; exact hW 6 (by decide)
  have c7 : h (A 7) = some (.inl (G_j G, 16, .inr (.inl (lA (V 7))))) := hW 7 (by decide)
  have c8 : h (A 8) = some (.inl (G_j G, 16, .inr (.inl (lA (V 8))))) := hW 8 (by decide)
  have c9 : h (A 9) = some (.inl (G_i G, 16, .inl (iA (V 9)))) := hW 9 (by decide)
  have c10 : h (A 10) = some (.inl (G_i G, 1024, .inl (iA (V 10)))) := hW 10 (by decide)
  have c11 : h (A 11) = some (.inr (7, [.ref (A 12), .int (iZ ((c % 10 : Nat) : Int)), .int (iZ (ct : Int))])) := by rw [← z10, ← z11]; exact hW 11 (by decide)
  have c12 : h (A 12) = some (.inl (G_q G, 10, .inr (.inr (.inr (.inr Kp))))) := hW 12 (by decide)
  have c13 : h (A 13) = some (.inr (3, [.ref (A 1), .ref (A 3), .ref (A 14), .ref (A 19), .int (iZ (Z 12)), .int (iZ (Z 13)), .int (iZ (Z 14)), .long (lZ (Z 15)), .long (lZ (Z 16)), .long (lZ (Z 17))])) := hW 13 (by decide)
  have c14 : h (A 14) = some (.inr (2, [.ref (A 15), .ref (A 16), .ref (A 17), .ref (A 18), .int (iZ (Z 18))])) := hW 14 (by decide)
  have c15 : h (A 15) = some (.inl (G_j G, 16, .inr (.inl (lA (V 15))))) := hW 15 (by decide)
  have c16 : h (A 16) = some (.inl (G_j G, 16, .inr (.inl (lA (V 16))))) := hW 16 (by decide)
  have c17 : h (A 17) = some (.inl (G_i G, 16, .inl (iA (V 17)))) := hW 17 (by decide)
  have c18 : h (A 18) = some (.inl (G_i G, 1024, .inl (iA (V 18)))) := hW 18 (by decide)
  have c19 : h (A 19) = some (.inl (G_i G, 64, .inl (iA (V 19)))) := hW 19 (by decide)
  have c20 : h (A 20) = some (.inr (4, [.ref (A 1), .ref (A 3), .ref (A 6)])) := hW 20 (by decide)
  have c21 : h (A 21) = some (.inr (6, [.ref (A 6), .int (iZ (Z 19)), .int (iZ (Z 20))])) := hW 21 (by decide)
  have c22 : h (A 22) = some (.inr (9, [.ref (A 6), .ref (A 3), .ref (A 4), .ref (A 23), .ref (A 24), .ref (A 25), .ref (A 26), .ref (A 27), .ref (A 28), .ref (A 29)])) := hW 22 (by decide)
  have c23 : h (A 23) = some (.inl (G_i G, 16, .inl (iA (V 23)))) := hW 23 (by decide)
  have c24 : h (A 24) = some (.inl (G_i G, 16, .inl (iA (V 24)))) := hW 24 (by decide)
  have c25 : h (A 25) = some (.inl (G_i G, 16, .inl (iA (V 25)))) := hW 25 (by decide)
  have c26 : h (A 26) = some (.inl (G_i G, 97, .inl (iA (V 26)))) := hW 26 (by decide)
  have c27 : h (A 27) = some (.inl (G_i G, 400, .inl (iA (V 27)))) := hW 27 (by decide)
  have c28 : h (A 28) = some (.inl (G_i G, 400, .inl (iA (V 28)))) := hW 28 (by decide)
  have c29 : h (A 29) = some (.inl (G_i G, 400, .inl (iA (V 29)))) := hW 29 (by decide)
  have c30 : h (A 30) = some (.inr (11, fsN 34 σ)) := hW 30 (by decide)
  have c31 : h (A 31) = some (.inl (G_i G, 1000, .inl (iA (V 31)))) := hW 31 (by decide)
  have c32 : h (A 32) = some (.inl (G_j G, 16, .inr (.inl (lA (V 32))))) := hW 32 (by decide)
  have c33 : h (A 33) = some (.inl (G_j G, 16, .inr (.inl (lA (V 33))))) := hW 33 (by decide)
  have c34 : h (A 34) = some (.inl (G_i G, 16, .inl (iA (V 34)))) := hW 34 (by decide)
  have c35 : h (A 35) = some (.inl (G_i G, 1024, .inl (iA (V 35)))) := hW 35 (by decide)
  have c36 : h (A 36) = some (.inl (G_i G, 10, .inl (iA (V 36)))) := hW 36 (by decide)
  have c37 : h (A 37) = some (.inl (G_j G, 160, .inr (.inl (lA (V 37))))) := hW 37 (by decide)
  have c38 : h (A 38) = some (.inl (G_j G, 160, .inr (.inl (lA (V 38))))) := hW 38 (by decide)
  have c39 : h (A 39) = some (.inl (G_i G, 160, .inl (iA (V 39)))) := hW 39 (by decide)
  have c40 : h (A 40) = some (.inl (G_i G, 10240, .inl (iA (V 40)))) := hW 40 (by decide)
  have c41 : h (A 41) = some (.inl (G_j G, 16, .inr (.inl (lA (V 41))))) := hW 41 (by decide)
  have c42 : h (A 42) = some (.inl (G_j G, 16, .inr (.inl (lA (V 42))))) := hW 42 (by decide)
  have c43 : h (A 43) = some (.inl (G_i G, 16, .inl (iA (V 43)))) := hW 43 (by decide)
  have c44 : h (A 44) = some (.inl (G_i G, 1024, .inl (iA (V 44)))) := hW 44 (by decide)
  have c45 : h (A 45) = some (.inl (G_i G, 20, .inl (iA (V 45)))) := hW 45 (by decide)
  have c46 : h (A 46) = some (.inl (G_i G, 194, .inl (iA (V 46)))) := hW 46 (by decide)
  have c47 : h (A 47) = some (.inl (G_i G, 3104, .inl (iA (V 47)))) := hW 47 (by decide)
  have c48 : h (A 48) = some (.inl (G_i G, 65, .inl (iA (V 48)))) := hW 48 (by decide)
  obtain ⟨b1, b2, b3, b4, b5, b6, b7, b8, b9, b10, b11⟩ := id hRB
  obtain ⟨u1, u2, u3, u4, u5, u6, u7, u8⟩ := id b8
  obtain ⟨r1, r2, r3, r4, r5⟩ := id hRC
  obtain ⟨t1, t2, t3, t4, t5, t6, t7, t8, t9, t10, t11, t12⟩ := id hRS
  obtain ⟨p1, p2, p3, p4, p5⟩ := id hRP
  have hc1 : c ≤ 1000 := by omega
  have hct := hPa.2.1
  have hct2 : ct ≤ 10 := hPa.2.1
  refine ⟨⟨_, c0⟩, ({ frames := 5, cells := 5, slots := 1077, locals := 160 }), ⟨by decide, by decide, by decide, by decide⟩, rn_mono (c_CB_repair G h (A 0) (A 1) (A 3) (A 4) (A 6) (A 11) (A 13) (A 20) (A 21) (A 22) (A 23) (A 24) (A 25) (A 26) (A 27) (A 28) (A 29) (A 7) (A 8) (A 9) (A 10) (A 12) (A 48) (c % 10) ct n Kp Ke C (V 7) (V 8) (V 9) (V 10) (A 5) nu (V 5) (Z 4) (Z 5) (Z 6) (Z 7) (Z 1) (Z 2) (Z 3) (V 23) (V 24) (V 25) (V 26) (V 27) (V 28) (V 29) c0 c22 c6 c7 c8 c9 c10 c3 c4 c5 c23 c24 c25 c26 c27 c28 c29 hPa r1 r3.1 r3.2.1 r3.2.2.1 r3.2.2.2 b9 b11 b7 ⟨u1, u2⟩ ⟨u3, u4⟩ ⟨by omega, u6⟩ ⟨u7, u8⟩ b4 b5 (hM.ne (i := 23) (j := 24) (by decide) (by decide) (by decide)) (hM.ne (i := 23) (j := 25) (by decide) (by decide) (by decide)) (hM.ne (i := 24) (j := 25) (by decide) (by decide) (by decide)) (hM.ne (i := 27) (j := 28) (by decide) (by decide) (by decide)) (hM.ne (i := 27) (j := 29) (by decide) (by decide) (by decide)) (hM.ne (i := 28) (j := 29) (by decide) (by decide) (by decide)) (hM.ne (i := 23) (j := 9) (by decide) (by decide) (by decide)) (hM.ne (i := 24) (j := 9) (by decide) (by decide) (by decide)) (hM.ne (i := 25) (j := 9) (by decide) (by decide) (by decide)) (hM.ne (i := 7) (j := 8) (by decide) (by decide) (by decide)) t4 t5 t6 t7 t8 t9 t10 ⟨hM.le (i := 0) (by decide), hM.le (i := 22) (by decide), hM.le (i := 3) (by decide), hM.le (i := 4) (by decide), hM.le (i := 23) (by decide), hM.le (i := 24) (by decide), hM.le (i := 25) (by decide), hM.le (i := 26) (by decide), hM.le (i := 27) (by decide), hM.le (i := 28) (by decide), hM.le (i := 29) (by decide)⟩ (ninc (hM.ne (i := 48) (j := 23) (by decide) (by decide) (by decide)) (ninc (hM.ne (i := 48) (j := 24) (by decide) (by decide) (by decide)) (ninc (hM.ne (i := 48) (j := 25) (by decide) (by decide) (by decide)) (ninc (hM.ne (i := 48) (j := 26) (by decide) (by decide) (by decide)) (ninc (hM.ne (i := 48) (j := 27) (by decide) (by decide) (by decide)) (ninc (hM.ne (i := 48) (j := 28) (by decide) (by decide) (by decide)) (ninc (hM.ne (i := 48) (j := 29) (by decide) (by decide) (by decide)) nin0))))))) ⟨hM.le (i := 11) (by decide), hM.le (i := 12) (by decide), hM.le (i := 6) (by decide), hM.le (i := 7) (by decide), hM.le (i := 8) (by decide), hM.le (i := 9) (by decide), hM.le (i := 10) (by decide)⟩ ⟨_, c48⟩) (fun r h1 q => ?_)⟩
  have eP : (rpP n (V 7) (V 8) (V 9) (V 10) (Z 1) (Z 2) (Z 3) (Z 4) (Z 5) (Z 6) (Z 7) (V 5) nu) = (rpP n (V 32) (V 33) (V 34) (V 35) (Z 1) (Z 2) (Z 3) (Z 4) (Z 5) (Z 6) (Z 7) (V 5) nu) := v_P r2 _ _ _ _ _ _ _ _ _
  have tk0 : 0 < Z 3 := by omega
  by_cases w1 : ∃ x, rVP (rpP n (V 7) (V 8) (V 9) (V 10) (Z 1) (Z 2) (Z 3) (Z 4) (Z 5) (Z 6) (Z 7) (V 5) nu) n x
  · obtain ⟨g, xg, rfl, k7, k8, ⟨Kp', Ke', hPa1, hks, hkk⟩, ⟨y0, y1, y2, y3, y4, y5, y6, k23, k24, k25, k26, k27, k28, k29, h23, h24, h25, h26, h27, h28, h29⟩, fb⟩ := q.2 w1
    have hW1 : WC A (EE G A (vu (vu (vu (vu (vu (vu (vu (vu (vu V 7 (wyS (rpP n (V 7) (V 8) (V 9) (V 10) (Z 1) (Z 2) (Z 3) (Z 4) (Z 5) (Z 6) (Z 7) (V 5) nu) g (Z 3) (V 7) n)) 8 (wyE (rpP n (V 7) (V 8) (V 9) (V 10) (Z 1) (Z 2) (Z 3) (Z 4) (Z 5) (Z 6) (Z 7) (V 5) nu) g (Z 3) (V 8) n)) 23 (y0)) 24 (y1)) 25 (y2)) 26 (y3)) 27 (y4)) 28 (y5)) 29 (y6)) (zup (zup Z 10 ((((c % 10 + 1) % 10 : Nat) : Int))) 11 (((min (ct + 1) 10 : Nat) : Int))) Kp' σ) h1 := hW.up (S := [7, 8, 11, 12, 23, 24, 25, 26, 27, 28, 29]) (kFb hM fb (by decide)) ⟨k7, k8, hPa1.2.2.1, hPa1.2.2.2.1, k23, k24, k25, k26, k27, k28, k29, trivial⟩ (c49 (fun _ => rfl) (fun _ => rfl) (fun _ => rfl) (fun _ => rfl) (fun _ => rfl) (fun _ => rfl) (fun _ => rfl) (fun n9 => absurd (by decide) n9) (fun n9 => absurd (by decide) n9) (fun _ => rfl) (fun _ => rfl) (fun n9 => absurd (by decide) n9) (fun n9 => absurd (by decide) n9) (fun _ => rfl) (fun _ => rfl) (fun _ => rfl) (fun _ => rfl) (fun _ => rfl) (fun _ => rfl) (fun _ => rfl) (fun _ => rfl) (fun _ => rfl) (fun _ => rfl) (fun n9 => absurd (by decide) n9) (fun n9 => absurd (by decide) n9) (fun n9 => absurd (by decide) n9) (fun n9 => absurd (by decide) n9) (fun n9 => absurd (by decide) n9) (fun n9 => absurd (by decide) n9) (fun n9 => absurd (by decide) n9) (fun _ => rfl) (fun _ => rfl) (fun _ => rfl) (fun _ => rfl) (fun _ => rfl) (fun _ => rfl) (fun _ => rfl) (fun _ => rfl) (fun _ => rfl) (fun _ => rfl) (fun _ => rfl) (fun _ => rfl) (fun _ => rfl) (fun _ => rfl) (fun _ => rfl) (fun _ => rfl) (fun _ => rfl) (fun _ => rfl) (fun _ => rfl))
    have g30 : h1 (A 30) = some (.inr (11, fsN 34 σ)) := hW1 30 (by decide)
    have g31 : h1 (A 31) = some (.inl (G_i G, 1000, .inl (iA (V 31)))) := hW1 31 (by decide)
    have g32 : h1 (A 32) = some (.inl (G_j G, 16, .inr (.inl (lA (V 32))))) := hW1 32 (by decide)
    have g33 : h1 (A 33) = some (.inl (G_j G, 16, .inr (.inl (lA (V 33))))) := hW1 33 (by decide)
    have g34 : h1 (A 34) = some (.inl (G_i G, 16, .inl (iA (V 34)))) := hW1 34 (by decide)
    have g35 : h1 (A 35) = some (.inl (G_i G, 1024, .inl (iA (V 35)))) := hW1 35 (by decide)
    have g36 : h1 (A 36) = some (.inl (G_i G, 10, .inl (iA (V 36)))) := hW1 36 (by decide)
    have g37 : h1 (A 37) = some (.inl (G_j G, 160, .inr (.inl (lA (V 37))))) := hW1 37 (by decide)
    have g38 : h1 (A 38) = some (.inl (G_j G, 160, .inr (.inl (lA (V 38))))) := hW1 38 (by decide)
    have g39 : h1 (A 39) = some (.inl (G_i G, 160, .inl (iA (V 39)))) := hW1 39 (by decide)
    have g40 : h1 (A 40) = some (.inl (G_i G, 10240, .inl (iA (V 40)))) := hW1 40 (by decide)
    have g41 : h1 (A 41) = some (.inl (G_j G, 16, .inr (.inl (lA (V 41))))) := hW1 41 (by decide)
    have g42 : h1 (A 42) = some (.inl (G_j G, 16, .inr (.inl (lA (V 42))))) := hW1 42 (by decide)
    have g43 : h1 (A 43) = some (.inl (G_i G, 16, .inl (iA (V 43)))) := hW1 43 (by decide)
    have g44 : h1 (A 44) = some (.inl (G_i G, 1024, .inl (iA (V 44)))) := hW1 44 (by decide)
    have g45 : h1 (A 45) = some (.inl (G_i G, 20, .inl (iA (V 45)))) := hW1 45 (by decide)
    have g46 : h1 (A 46) = some (.inl (G_i G, 194, .inl (iA (V 46)))) := hW1 46 (by decide)
    have g47 : h1 (A 47) = some (.inl (G_i G, 3104, .inl (iA (V 47)))) := hW1 47 (by decide)
    have g48 : h1 (A 48) = some (.inl (G_i G, 65, .inl (iA (V 48)))) := hW1 48 (by decide)
    have xc := rCs_r n xg.1
    refine ⟨(rCs n g), by omega, rfl, ⟨_, g30⟩, (rm 4 130), ⟨by decide, by decide, by decide, by decide⟩, rn_mono (c_Mo_repair G h1 (A 30) (A 32) (A 33) (A 34) (A 35) (A 36) (A 37) (A 38) (A 39) (A 40) (A 45) (A 46) (A 47) n c ct (V 32) (V 33) (V 34) (V 35) (V 36) (V 37) (V 38) (V 39) (V 40) (Z 1) (Z 2) (Z 3) (Z 4) (Z 5) (Z 6) (Z 7) (V 5) nu σ (V 46) (V 47) g30 f4 f5 f6 f7 f8 f9 f10 f11 f12 f13 f14 f15 f2 f3 f25 f26 f27 f28 f29 f30 f31 f32 g32 g33 g34 g35 g36 g37 g38 g39 g40 (by rw [← b10]; exact g45) g46 g47 r1 r4.1 r4.2.1 r4.2.2.1 r4.2.2.2 b9 b11 b4 b5 b6 b7 ⟨u1, u2⟩ ⟨u3, u4⟩ ⟨by omega, u6⟩ ⟨u7, u8⟩ hc1 hct2 (hM.ne (i := 32) (j := 33) (by decide) (by decide) (by decide)) (hM.ne (i := 37) (j := 38) (by decide) (by decide) (by decide)) t11 t12) (fun rr h2 qq => ?_)⟩
    rw [← eP] at qq
    obtain ⟨g2, xg2, xa, ⟨σ2, gm, m9, m10, gs⟩, m32, m33, ⟨yS, yW, m46, m47, xS, xW⟩, m36, m37, m38, m39, m40, fm2⟩ := qq.2 w1
    have xe := rMn_u xg xg2
    have xw := rp_way tk0 u3 xg.1
    have xw2 := rp_way tk0 u3 xg2.1
    have hW2 : WC A (EE G A (vu (vu (vu (vu (vu (vu (vu (vu (vu (vu (vu (vu (vu (vu (vu (vu (vu (vu V 7 (wyS (rpP n (V 7) (V 8) (V 9) (V 10) (Z 1) (Z 2) (Z 3) (Z 4) (Z 5) (Z 6) (Z 7) (V 5) nu) g (Z 3) (V 7) n)) 8 (wyE (rpP n (V 7) (V 8) (V 9) (V 10) (Z 1) (Z 2) (Z 3) (Z 4) (Z 5) (Z 6) (Z 7) (V 5) nu) g (Z 3) (V 8) n)) 23 (y0)) 24 (y1)) 25 (y2)) 26 (y3)) 27 (y4)) 28 (y5)) 29 (y6)) 32 (wyS (rpP n (V 7) (V 8) (V 9) (V 10) (Z 1) (Z 2) (Z 3) (Z 4) (Z 5) (Z 6) (Z 7) (V 5) nu) g2 (Z 3) (V 32) n)) 33 (wyE (rpP n (V 7) (V 8) (V 9) (V 10) (Z 1) (Z 2) (Z 3) (Z 4) (Z 5) (Z 6) (Z 7) (V 5) nu) g2 (Z 3) (V 33) n)) 36 (zup (V 36) (c % 10) (n : Int))) 37 (va_cpy (V 32) (V 37) 0 (16 * (c % 10)) 16)) 38 (va_cpy (V 33) (V 38) 0 (16 * (c % 10)) 16)) 39 (va_cpy (V 34) (V 39) 0 (16 * (c % 10)) 16)) 40 (va_cpy (V 35) (V 40) 0 (1024 * (c % 10)) 1024)) 46 (yS)) 47 (yW)) (zup (zup (zup Z 10 ((((c % 10 + 1) % 10 : Nat) : Int))) 11 (((min (ct + 1) 10 : Nat) : Int))) 21 ((c : Int) + 1)) Kp' σ2) h2 := hW1.up (S := [30, 32, 33, 36, 37, 38, 39, 40, 46, 47]) (kFm hM fm2 (by decide)) ⟨gm, m32, m33, m36, m37, m38, m39, m40, m46, m47, trivial⟩ (c49 (fun _ => rfl) (fun _ => rfl) (fun _ => rfl) (fun _ => rfl) (fun _ => rfl) (fun _ => rfl) (fun _ => rfl) (fun _ => rfl) (fun _ => rfl) (fun _ => rfl) (fun _ => rfl) (fun _ => rfl) (fun _ => rfl) (fun _ => rfl) (fun _ => rfl) (fun _ => rfl) (fun _ => rfl) (fun _ => rfl) (fun _ => rfl) (fun _ => rfl) (fun _ => rfl) (fun _ => rfl) (fun _ => rfl) (fun _ => rfl) (fun _ => rfl) (fun _ => rfl) (fun _ => rfl) (fun _ => rfl) (fun _ => rfl) (fun _ => rfl) (fun n9 => absurd (by decide) n9) (fun _ => rfl) (fun n9 => absurd (by decide) n9) (fun n9 => absurd (by decide) n9) (fun _ => rfl) (fun _ => rfl) (fun n9 => absurd (by decide) n9) (fun n9 => absurd (by decide) n9) (fun n9 => absurd (by decide) n9) (fun n9 => absurd (by decide) n9) (fun n9 => absurd (by decide) n9) (fun _ => rfl) (fun _ => rfl) (fun _ => rfl) (fun _ => rfl) (fun _ => rfl) (fun n9 => absurd (by decide) n9) (fun n9 => absurd (by decide) n9) (fun _ => rfl))
    exact ⟨by rw [xa, rCs_c xe], hM, (vu (vu (vu (vu (vu (vu (vu (vu (vu (vu (vu (vu (vu (vu (vu (vu (vu (vu V 7 (wyS (rpP n (V 7) (V 8) (V 9) (V 10) (Z 1) (Z 2) (Z 3) (Z 4) (Z 5) (Z 6) (Z 7) (V 5) nu) g (Z 3) (V 7) n)) 8 (wyE (rpP n (V 7) (V 8) (V 9) (V 10) (Z 1) (Z 2) (Z 3) (Z 4) (Z 5) (Z 6) (Z 7) (V 5) nu) g (Z 3) (V 8) n)) 23 (y0)) 24 (y1)) 25 (y2)) 26 (y3)) 27 (y4)) 28 (y5)) 29 (y6)) 32 (wyS (rpP n (V 7) (V 8) (V 9) (V 10) (Z 1) (Z 2) (Z 3) (Z 4) (Z 5) (Z 6) (Z 7) (V 5) nu) g2 (Z 3) (V 32) n)) 33 (wyE (rpP n (V 7) (V 8) (V 9) (V 10) (Z 1) (Z 2) (Z 3) (Z 4) (Z 5) (Z 6) (Z 7) (V 5) nu) g2 (Z 3) (V 33) n)) 36 (zup (V 36) (c % 10) (n : Int))) 37 (va_cpy (V 32) (V 37) 0 (16 * (c % 10)) 16)) 38 (va_cpy (V 33) (V 38) 0 (16 * (c % 10)) 16)) 39 (va_cpy (V 34) (V 39) 0 (16 * (c % 10)) 16)) 40 (va_cpy (V 35) (V 40) 0 (1024 * (c % 10)) 1024)) 46 (yS)) 47 (yW)), (zup (zup (zup Z 10 ((((c % 10 + 1) % 10 : Nat) : Int))) 11 (((min (ct + 1) 10 : Nat) : Int))) 21 ((c : Int) + 1)), Kp', Ke', (fun j => if j = c % 10 then (n, V 7, V 8, V 9, V 10) else C j), σ2, n0, nu, n, ((c % 10 + 1) % 10), (min (ct + 1) 10), c + 1, hW2, ⟨(gs 0 (by decide)).trans e0, (gs 1 (by decide)).trans e1, (gs 2 (by decide)).trans e2, (gs 3 (by decide)).trans e3, (gs 4 (by decide)).trans e4, (gs 5 (by decide)).trans e5, (gs 6 (by decide)).trans e6, (gs 7 (by decide)).trans e7, (gs 8 (by decide)).trans e8, m9, m10, (gs 11 (by decide)).trans e11, (gs 12 (by decide)).trans e12, (gs 13 (by decide)).trans e13, (gs 14 (by decide)).trans e14, (gs 15 (by decide)).trans e15, (gs 19 (by decide)).trans e19, (gs 20 (by decide)).trans e20, (gs 21 (by decide)).trans e21, (gs 22 (by decide)).trans e22, (gs 25 (by decide)).trans e25, (gs 26 (by decide)).trans e26, (gs 27 (by decide)).trans e27, (gs 28 (by decide)).trans e28, (gs 29 (by decide)).trans e29, (gs 30 (by decide)).trans e30, (gs 31 (by decide)).trans e31, (gs 32 (by decide)).trans e32, (gs 33 (by decide)).trans e33⟩, pFm (S := [30, 32, 33, 36, 37, 38, 39, 40, 46, 47]) hM hPa1 fm2 (by decide), ⟨z0, z8, z9, rfl, rfl, by show (c : Int) + 1 = ((c + 1 : Nat) : Int); omega⟩, hRB, ⟨r1, wy_c r2 xe, ⟨wyS_r (fun k hk => (xw k hk).1) r3.1, wyE_r (fun k hk => (xw k hk).2.1) r3.2.1, r3.2.2⟩, ⟨wyS_r (fun k hk => (xw2 k hk).1) r4.1, wyE_r (fun k hk => (xw2 k hk).2.1) r4.2.1, r4.2.2⟩, wy_st (fun k hk => (xw k hk).2.2)⟩, ⟨t1, t2, t3, h23, h24, h25, h26, h27, h28, h29, xS, xW⟩, ⟨rgI_keep p1 hkk r1 r2 r3 r5, rgs_ring p2 r4, vlS_keep hct2 (by omega) p3 hkk hks, by omega, by omega⟩, by omega⟩
  · obtain ⟨z, xz, rfl, x1, x2, ⟨y0, y1, y2, y3, y4, y5, y6, k23, k24, k25, k26, k27, k28, k29, h23, h24, h25, h26, h27, h28, h29⟩, fm⟩ := q.1 w1
    have hW1 : WC A (EE G A (vu (vu (vu (vu (vu (vu (vu V 23 (y0)) 24 (y1)) 25 (y2)) 26 (y3)) 27 (y4)) 28 (y5)) 29 (y6)) Z Kp σ) h1 := hW.up (S := [23, 24, 25, 26, 27, 28, 29]) (kFm hM fm (by decide)) ⟨k23, k24, k25, k26, k27, k28, k29, trivial⟩ (c49 (fun _ => rfl) (fun _ => rfl) (fun _ => rfl) (fun _ => rfl) (fun _ => rfl) (fun _ => rfl) (fun _ => rfl) (fun _ => rfl) (fun _ => rfl) (fun _ => rfl) (fun _ => rfl) (fun _ => rfl) (fun _ => rfl) (fun _ => rfl) (fun _ => rfl) (fun _ => rfl) (fun _ => rfl) (fun _ => rfl) (fun _ => rfl) (fun _ => rfl) (fun _ => rfl) (fun _ => rfl) (fun _ => rfl) (fun n9 => absurd (by decide) n9) (fun n9 => absurd (by decide) n9) (fun n9 => absurd (by decide) n9) (fun n9 => absurd (by decide) n9) (fun n9 => absurd (by decide) n9) (fun n9 => absurd (by decide) n9) (fun n9 => absurd (by decide) n9) (fun _ => rfl) (fun _ => rfl) (fun _ => rfl) (fun _ => rfl) (fun _ => rfl) (fun _ => rfl) (fun _ => rfl) (fun _ => rfl) (fun _ => rfl) (fun _ => rfl) (fun _ => rfl) (fun _ => rfl) (fun _ => rfl) (fun _ => rfl) (fun _ => rfl) (fun _ => rfl) (fun _ => rfl) (fun _ => rfl) (fun _ => rfl))
    have g30 : h1 (A 30) = some (.inr (11, fsN 34 σ)) := hW1 30 (by decide)
    have g31 : h1 (A 31) = some (.inl (G_i G, 1000, .inl (iA (V 31)))) := hW1 31 (by decide)
    have g32 : h1 (A 32) = some (.inl (G_j G, 16, .inr (.inl (lA (V 32))))) := hW1 32 (by decide)
    have g33 : h1 (A 33) = some (.inl (G_j G, 16, .inr (.inl (lA (V 33))))) := hW1 33 (by decide)
    have g34 : h1 (A 34) = some (.inl (G_i G, 16, .inl (iA (V 34)))) := hW1 34 (by decide)
    have g35 : h1 (A 35) = some (.inl (G_i G, 1024, .inl (iA (V 35)))) := hW1 35 (by decide)
    have g36 : h1 (A 36) = some (.inl (G_i G, 10, .inl (iA (V 36)))) := hW1 36 (by decide)
    have g37 : h1 (A 37) = some (.inl (G_j G, 160, .inr (.inl (lA (V 37))))) := hW1 37 (by decide)
    have g38 : h1 (A 38) = some (.inl (G_j G, 160, .inr (.inl (lA (V 38))))) := hW1 38 (by decide)
    have g39 : h1 (A 39) = some (.inl (G_i G, 160, .inl (iA (V 39)))) := hW1 39 (by decide)
    have g40 : h1 (A 40) = some (.inl (G_i G, 10240, .inl (iA (V 40)))) := hW1 40 (by decide)
    have g41 : h1 (A 41) = some (.inl (G_j G, 16, .inr (.inl (lA (V 41))))) := hW1 41 (by decide)
    have g42 : h1 (A 42) = some (.inl (G_j G, 16, .inr (.inl (lA (V 42))))) := hW1 42 (by decide)
    have g43 : h1 (A 43) = some (.inl (G_i G, 16, .inl (iA (V 43)))) := hW1 43 (by decide)
    have g44 : h1 (A 44) = some (.inl (G_i G, 1024, .inl (iA (V 44)))) := hW1 44 (by decide)
    have g45 : h1 (A 45) = some (.inl (G_i G, 20, .inl (iA (V 45)))) := hW1 45 (by decide)
    have g46 : h1 (A 46) = some (.inl (G_i G, 194, .inl (iA (V 46)))) := hW1 46 (by decide)
    have g47 : h1 (A 47) = some (.inl (G_i G, 3104, .inl (iA (V 47)))) := hW1 47 (by decide)
    have g48 : h1 (A 48) = some (.inl (G_i G, 65, .inl (iA (V 48)))) := hW1 48 (by decide)
    have hPa1 := pFm (S := [23, 24, 25, 26, 27, 28, 29]) hM hPa fm (by decide)
    refine ⟨(-10 - (z : Int)), by omega, rfl, ⟨_, g30⟩, (rm 4 130), ⟨by decide, by decide, by decide, by decide⟩, rn_mono (c_Mo_repair G h1 (A 30) (A 32) (A 33) (A 34) (A 35) (A 36) (A 37) (A 38) (A 39) (A 40) (A 45) (A 46) (A 47) n c ct (V 32) (V 33) (V 34) (V 35) (V 36) (V 37) (V 38) (V 39) (V 40) (Z 1) (Z 2) (Z 3) (Z 4) (Z 5) (Z 6) (Z 7) (V 5) nu σ (V 46) (V 47) g30 f4 f5 f6 f7 f8 f9 f10 f11 f12 f13 f14 f15 f2 f3 f25 f26 f27 f28 f29 f30 f31 f32 g32 g33 g34 g35 g36 g37 g38 g39 g40 (by rw [← b10]; exact g45) g46 g47 r1 r4.1 r4.2.1 r4.2.2.1 r4.2.2.2 b9 b11 b4 b5 b6 b7 ⟨u1, u2⟩ ⟨u3, u4⟩ ⟨by omega, u6⟩ ⟨u7, u8⟩ hc1 hct2 (hM.ne (i := 32) (j := 33) (by decide) (by decide) (by decide)) (hM.ne (i := 37) (j := 38) (by decide) (by decide) (by decide)) t11 t12) (fun rr h2 qq => ?_)⟩
    rw [← eP] at qq
    obtain ⟨z2, xz2, xa, x3, x4, ⟨yS, yW, m46, m47, xS, xW⟩, fm2⟩ := qq.1 w1
    have ez := r_stuck_u x1 x2 x3 x4
    have hW2 : WC A (EE G A (vu (vu (vu (vu (vu (vu (vu (vu (vu V 23 (y0)) 24 (y1)) 25 (y2)) 26 (y3)) 27 (y4)) 28 (y5)) 29 (y6)) 46 (yS)) 47 (yW)) Z Kp σ) h2 := hW1.up (S := [46, 47]) (kFm hM fm2 (by decide)) ⟨m46, m47, trivial⟩ (c49 (fun _ => rfl) (fun _ => rfl) (fun _ => rfl) (fun _ => rfl) (fun _ => rfl) (fun _ => rfl) (fun _ => rfl) (fun _ => rfl) (fun _ => rfl) (fun _ => rfl) (fun _ => rfl) (fun _ => rfl) (fun _ => rfl) (fun _ => rfl) (fun _ => rfl) (fun _ => rfl) (fun _ => rfl) (fun _ => rfl) (fun _ => rfl) (fun _ => rfl) (fun _ => rfl) (fun _ => rfl) (fun _ => rfl) (fun _ => rfl) (fun _ => rfl) (fun _ => rfl) (fun _ => rfl) (fun _ => rfl) (fun _ => rfl) (fun _ => rfl) (fun _ => rfl) (fun _ => rfl) (fun _ => rfl) (fun _ => rfl) (fun _ => rfl) (fun _ => rfl) (fun _ => rfl) (fun _ => rfl) (fun _ => rfl) (fun _ => rfl) (fun _ => rfl) (fun _ => rfl) (fun _ => rfl) (fun _ => rfl) (fun _ => rfl) (fun _ => rfl) (fun n9 => absurd (by decide) n9) (fun n9 => absurd (by decide) n9) (fun _ => rfl))
    exact ⟨by rw [xa, ez], hM, (vu (vu (vu (vu (vu (vu (vu (vu (vu V 23 (y0)) 24 (y1)) 25 (y2)) 26 (y3)) 27 (y4)) 28 (y5)) 29 (y6)) 46 (yS)) 47 (yW)), Z, Kp, Ke, C, σ, n0, nu, n, (c % 10), ct, c, hW2, hSg, pFm (S := [46, 47]) hM hPa1 fm2 (by decide), ⟨z0, z8, z9, z10, z11, z21⟩, hRB, hRC, ⟨t1, t2, t3, h23, h24, h25, h26, h27, h28, h29, xS, xW⟩, hRP, by omega⟩
theorem inv_duos (G : GT) (A : Nat → Nat) (i : Nat) (h : HM) (hI : Inv G A i h) (hi : i ≤ 511) : Duos G (A 0) (A 30) h (Inv G A (i + 1)) :=
  ⟨duo_put G A i h hI hi, duo_wipe G A i h hI hi, duo_at G A i h hI hi, duo_rate G A i h hI hi, duo_read G A i h hI hi, duo_write G A i h hI hi, duo_cues G A i h hI hi, duo_cue G A i h hI hi, duo_text G A i h hI hi, duo_shot G A i h hI hi, duo_rules G A i h hI hi, duo_repair G A i h hI hi, duo_breakLines G A i h hI hi, duo_twoPoint G A i h hI hi, duo_shift G A i h hI hi, duo_merge G A i h hI hi, duo_split G A i h hI hi, duo_clash G A i h hI hi, duo_undo G A i h hI hi⟩
