theorem shR_r {f : Int} {n : Nat} {S : Nat → Int} (hn : n ≤ 20) : iR (shR f n S).1 := by
  by_cases h1 : f < 0 ∨ 216000 < f
  · rw [shR_bad h1]; show iR (-2); decide
  · by_cases h2 : shHas S n f
    · rw [shR_has h1 h2]; show iR (n : Int); omega
    · by_cases h3 : n = 20
      · rw [shR_full h1 h2 h3]; show iR (-3); decide
      · rw [shR_new h1 h2 h3]; show iR ((n : Int) + 1); omega
set_option maxHeartbeats 4000000 in
set_option maxRecDepth 100000 in
theorem fresh_duos (G : GT) (A : Nat → Nat) (h : HM) (hF : Fresh G A h) : Duos G (A 0) (A 30) h (fun _ => True) := by
  obtain ⟨hMo, σ, ⟨f0, f1, f2, f3, f4, f5, f6, f7, f8, f9, f10, f11, f12, f13, f14, f15, f16, f17, f18, f19, f20, f21, f22, f23, f24, f25, f26, f27, f28, f29, f30, f31, f32, f33⟩, hW⟩ := hF
  have c0 : h (A 0) = some (.inr (0, [.ref (A 1), .ref (A 3), .ref (A 4), .ref (A 6), .ref (A 11), .ref (A 13), .ref (A 20), .ref (A 21), .ref (A 22)])) := hW 0 (by decide)
  have c1 : h (A 1) = some (.inr (1, [.ref (A 2), .int (iZ 0)])) := hW 1 (by decide)
  have c2 : h (A 2) = some (.inl (G_i G, 1000, .inl (iA (fun _ => 0)))) := hW 2 (by decide)
  have c3 : h (A 3) = some (.inr (5, [.int (iZ 25), .int (iZ 1), .long (lZ 28224000)])) := hW 3 (by decide)
  have c4 : h (A 4) = some (.inr (10, [.int (iZ 2), .int (iZ 20), .int (iZ 168), .int (iZ 17), .ref (A 5), .int (iZ 0)])) := hW 4 (by decide)
  have c5 : h (A 5) = some (.inl (G_i G, 20, .inl (iA (fun _ => 0)))) := hW 5 (by decide)
  have c6 : h (A 6) = some (.inr (2, [.ref (A 7), .ref (A 8), .ref (A 9), .ref (A 10), .int (iZ 0)])) := hW 6 (by decide)
  have c7 : h (A 7) = some (.inl (G_j G, 16, .inr (.inl (lA (fun _ => 0))))) := hW 7 (by decide)
  have c8 : h (A 8) = some (.inl (G_j G, 16, .inr (.inl (lA (fun _ => 0))))) := hW 8 (by decide)
  have c9 : h (A 9) = some (.inl (G_i G, 16, .inl (iA (fun _ => 0)))) := hW 9 (by decide)
  have c10 : h (A 10) = some (.inl (G_i G, 1024, .inl (iA (fun _ => 0)))) := hW 10 (by decide)
  have c11 : h (A 11) = some (.inr (7, [.ref (A 12), .int (iZ 0), .int (iZ 0)])) := hW 11 (by decide)
  have c12 : h (A 12) = some (.inl (G_q G, 10, .inr (.inr (.inr (.inr (fun _ => none)))))) := hW 12 (by decide)
  have c13 : h (A 13) = some (.inr (3, [.ref (A 1), .ref (A 3), .ref (A 14), .ref (A 19), .int (iZ 0), .int (iZ 0), .int (iZ 0), .long (lZ 0), .long (lZ 0), .long (lZ 0)])) := hW 13 (by decide)
  have c14 : h (A 14) = some (.inr (2, [.ref (A 15), .ref (A 16), .ref (A 17), .ref (A 18), .int (iZ 0)])) := hW 14 (by decide)
  have c15 : h (A 15) = some (.inl (G_j G, 16, .inr (.inl (lA (fun _ => 0))))) := hW 15 (by decide)
  have c16 : h (A 16) = some (.inl (G_j G, 16, .inr (.inl (lA (fun _ => 0))))) := hW 16 (by decide)
  have c17 : h (A 17) = some (.inl (G_i G, 16, .inl (iA (fun _ => 0)))) := hW 17 (by decide)
  have c18 : h (A 18) = some (.inl (G_i G, 1024, .inl (iA (fun _ => 0)))) := hW 18 (by decide)
  have c19 : h (A 19) = some (.inl (G_i G, 64, .inl (iA (fun _ => 0)))) := hW 19 (by decide)
  have c20 : h (A 20) = some (.inr (4, [.ref (A 1), .ref (A 3), .ref (A 6)])) := hW 20 (by decide)
  have c21 : h (A 21) = some (.inr (6, [.ref (A 6), .int (iZ 0), .int (iZ 0)])) := hW 21 (by decide)
  have c22 : h (A 22) = some (.inr (9, [.ref (A 6), .ref (A 3), .ref (A 4), .ref (A 23), .ref (A 24), .ref (A 25), .ref (A 26), .ref (A 27), .ref (A 28), .ref (A 29)])) := hW 22 (by decide)
  have c23 : h (A 23) = some (.inl (G_i G, 16, .inl (iA (fun _ => 0)))) := hW 23 (by decide)
  have c24 : h (A 24) = some (.inl (G_i G, 16, .inl (iA (fun _ => 0)))) := hW 24 (by decide)
  have c25 : h (A 25) = some (.inl (G_i G, 16, .inl (iA (fun _ => 0)))) := hW 25 (by decide)
  have c26 : h (A 26) = some (.inl (G_i G, 97, .inl (iA (fun _ => 0)))) := hW 26 (by decide)
  have c27 : h (A 27) = some (.inl (G_i G, 400, .inl (iA (fun _ => 0)))) := hW 27 (by decide)
  have c28 : h (A 28) = some (.inl (G_i G, 400, .inl (iA (fun _ => 0)))) := hW 28 (by decide)
  have c29 : h (A 29) = some (.inl (G_i G, 400, .inl (iA (fun _ => 0)))) := hW 29 (by decide)
  have c30 : h (A 30) = some (.inr (11, fsN 34 σ)) := hW 30 (by decide)
  have c31 : h (A 31) = some (.inl (G_i G, 1000, .inl (iA (fun _ => 0)))) := hW 31 (by decide)
  have c32 : h (A 32) = some (.inl (G_j G, 16, .inr (.inl (lA (fun _ => 0))))) := hW 32 (by decide)
  have c33 : h (A 33) = some (.inl (G_j G, 16, .inr (.inl (lA (fun _ => 0))))) := hW 33 (by decide)
  have c34 : h (A 34) = some (.inl (G_i G, 16, .inl (iA (fun _ => 0)))) := hW 34 (by decide)
  have c35 : h (A 35) = some (.inl (G_i G, 1024, .inl (iA (fun _ => 0)))) := hW 35 (by decide)
  have c36 : h (A 36) = some (.inl (G_i G, 10, .inl (iA (fun _ => 0)))) := hW 36 (by decide)
  have c37 : h (A 37) = some (.inl (G_j G, 160, .inr (.inl (lA (fun _ => 0))))) := hW 37 (by decide)
  have c38 : h (A 38) = some (.inl (G_j G, 160, .inr (.inl (lA (fun _ => 0))))) := hW 38 (by decide)
  have c39 : h (A 39) = some (.inl (G_i G, 160, .inl (iA (fun _ => 0)))) := hW 39 (by decide)
  have c40 : h (A 40) = some (.inl (G_i G, 10240, .inl (iA (fun _ => 0)))) := hW 40 (by decide)
  have c41 : h (A 41) = some (.inl (G_j G, 16, .inr (.inl (lA (fun _ => 0))))) := hW 41 (by decide)
  have c42 : h (A 42) = some (.inl (G_j G, 16, .inr (.inl (lA (fun _ => 0))))) := hW 42 (by decide)
  have c43 : h (A 43) = some (.inl (G_i G, 16, .inl (iA (fun _ => 0)))) := hW 43 (by decide)
  have c44 : h (A 44) = some (.inl (G_i G, 1024, .inl (iA (fun _ => 0)))) := hW 44 (by decide)
  have c45 : h (A 45) = some (.inl (G_i G, 20, .inl (iA (fun _ => 0)))) := hW 45 (by decide)
  have c46 : h (A 46) = some (.inl (G_i G, 194, .inl (iA (fun _ => 0)))) := hW 46 (by decide)
  have c47 : h (A 47) = some (.inl (G_i G, 3104, .inl (iA (fun _ => 0)))) := hW 47 (by decide)
  have c48 : h (A 48) = some (.inl (G_i G, 65, .inl (iA (fun _ => 0)))) := hW 48 (by decide)
  refine ⟨?_, ?_, ?_, ?_, ?_, ?_, ?_, ?_, ?_, ?_, ?_, ?_, ?_, ?_, ?_, ?_, ?_, ?_, ?_⟩
  · intro a0 a1 r0 r1
    refine ⟨⟨_, c0⟩, rm 1 22, ⟨by decide, by decide, by decide, by decide⟩, rn_mono (c_CB_put G h (A 0) (A 1) (A 3) (A 4) (A 6) (A 11) (A 13) (A 20) (A 21) (A 22) (A 2) (fun _ => 0) 0 a0 a1 c0 c1 c2 (by decide) r1) (fun r h1 q => ?_)⟩
    by_cases hb : a1 < 1 ∨ 8 < a1
    · obtain ⟨rfl, rfl⟩ := q.1 hb
      exact ⟨-2, by decide, rfl, ⟨_, c30⟩, rm 0 0, ⟨by decide, by decide, by decide, by decide⟩, rn_mono (c_Mo_put G h1 σ (A 30) (A 31) (fun _ => 0) 0 a0 a1 c30 f0 f1 c31 (by decide) r1) (fun r2 h2 q2 => ⟨(q2.1 hb).1, trivial⟩)⟩
    · obtain ⟨rfl, _, _, fm⟩ := q.2.2 (by omega) (by omega) (by omega)
      have g30 := (fm _ (ninc (hMo.ne (i := 30) (j := 1) (by decide) (by decide) (by decide)) (ninc (hMo.ne (i := 30) (j := 2) (by decide) (by decide) (by decide)) nin0))).trans c30
      have g31 := (fm _ (ninc (hMo.ne (i := 31) (j := 1) (by decide) (by decide) (by decide)) (ninc (hMo.ne (i := 31) (j := 2) (by decide) (by decide) (by decide)) nin0))).trans c31
      exact ⟨((0 : Nat) : Int) + a1, by omega, rfl, ⟨_, g30⟩, rm 0 0, ⟨by decide, by decide, by decide, by decide⟩, rn_mono (c_Mo_put G h1 σ (A 30) (A 31) (fun _ => 0) 0 a0 a1 g30 f0 f1 g31 (by decide) r1) (fun r2 h2 q2 => ⟨(q2.2.2 (by omega) (by omega) (by omega)).1, trivial⟩)⟩
  · skip
    refine ⟨⟨_, c0⟩, rm 0 0, ⟨by decide, by decide, by decide, by decide⟩, rn_mono (c_CB_wipe G h (A 0) (A 1) (A 3) (A 4) (A 6) (A 11) (A 13) (A 20) (A 21) (A 22) (A 2) 0 c0 c1) (fun r h1 q => ?_)⟩
    obtain ⟨rfl, _, fm⟩ := q
    have g30 := (fm _ (ninc (hMo.ne (i := 30) (j := 1) (by decide) (by decide) (by decide)) nin0)).trans c30
    exact ⟨0, by decide, rfl, ⟨_, g30⟩, rm 0 0, ⟨by decide, by decide, by decide, by decide⟩, rn_mono (c_Mo_wipe G h1 σ (A 30) 0 g30 f0) (fun r2 h2 q2 => ⟨q2.1, trivial⟩)⟩
  · intro a0 r0
    refine ⟨⟨_, c0⟩, rm 1 21, ⟨by decide, by decide, by decide, by decide⟩, rn_mono (c_CB_at G h (A 0) (A 1) (A 3) (A 4) (A 6) (A 11) (A 13) (A 20) (A 21) (A 22) (A 2) (fun _ => 0) 0 a0 c0 c1 c2 (by decide) r0) (fun r h1 q => ?_)⟩
    obtain ⟨rfl, rfl⟩ := q
    exact ⟨lookZ (fun _ => 0) 0 a0, by unfold lookZ; split <;> omega, rfl, ⟨_, c30⟩, rm 0 0, ⟨by decide, by decide, by decide, by decide⟩, rn_mono (c_Mo_at G h1 σ (A 30) (A 31) (fun _ => 0) 0 a0 c30 f0 f1 c31 (by decide) r0) (fun r2 h2 q2 => ⟨q2.1, trivial⟩)⟩
  · intro a0 a1 r0 r1
    refine ⟨⟨_, c0⟩, rm 1 30, ⟨by decide, by decide, by decide, by decide⟩, rn_mono (c_CB_rate G h (A 0) (A 1) (A 3) (A 4) (A 6) (A 11) (A 13) (A 20) (A 21) (A 22) 25 1 28224000 a0 a1 c0 c3 r0 r1) (fun r h1 q => ?_)⟩
    by_cases hb : rOK a0 a1
    · obtain ⟨rfl, _, fm⟩ := q.2 hb
      have g30 := (fm _ (ninc (hMo.ne (i := 30) (j := 3) (by decide) (by decide) (by decide)) nin0)).trans c30
      exact ⟨1, by decide, rfl, ⟨_, g30⟩, rm 0 0, ⟨by decide, by decide, by decide, by decide⟩, rn_mono (c_Mo_rate G h1 σ (A 30) 25 1 a0 a1 g30 f2 f3 r0 r1) (fun r2 h2 q2 => ⟨(q2.2 hb).1, trivial⟩)⟩
    · obtain ⟨rfl, rfl⟩ := q.1 hb
      exact ⟨0, by decide, rfl, ⟨_, c30⟩, rm 0 0, ⟨by decide, by decide, by decide, by decide⟩, rn_mono (c_Mo_rate G h1 σ (A 30) 25 1 a0 a1 c30 f2 f3 r0 r1) (fun r2 h2 q2 => ⟨(q2.1 hb).1, trivial⟩)⟩
  · intro a0 r0
    refine ⟨⟨_, c0⟩, ({ frames := 3, cells := 5, slots := 1077, locals := 82 }), ⟨by decide, by decide, by decide, by decide⟩, rn_mono (f_CB_read G h (A 0) (A 1) (A 3) (A 4) (A 6) (A 11) (A 13) (A 20) (A 21) (A 22) (A 2) (A 7) (A 8) (A 9) (A 10) (A 12) (A 14) (A 19) (A 15) (A 16) (A 17) (A 18) a0 c0 c1 c6 c7 c8 c9 c10 c11 c12 c13 c14 c15 c16 c17 c18 r0 (hMo.ne (i := 7) (j := 8) (by decide) (by decide) (by decide)) (hMo.ne (i := 6) (j := 14) (by decide) (by decide) (by decide)) (hMo.ne (i := 7) (j := 15) (by decide) (by decide) (by decide)) (hMo.ne (i := 7) (j := 16) (by decide) (by decide) (by decide)) (hMo.ne (i := 8) (j := 15) (by decide) (by decide) (by decide)) (hMo.ne (i := 8) (j := 16) (by decide) (by decide) (by decide)) (hMo.ne (i := 9) (j := 17) (by decide) (by decide) (by decide)) (hMo.ne (i := 10) (j := 18) (by decide) (by decide) (by decide)) (hMo.ne (i := 15) (j := 16) (by decide) (by decide) (by decide))) (fun r h1 q => ?_)⟩
    obtain ⟨rfl, fx⟩ := q
    have g30 := fx _ _ c30 (ninc (hMo.ne (i := 30) (j := 6) (by decide) (by decide) (by decide)) (ninc (hMo.ne (i := 30) (j := 7) (by decide) (by decide) (by decide)) (ninc (hMo.ne (i := 30) (j := 8) (by decide) (by decide) (by decide)) (ninc (hMo.ne (i := 30) (j := 9) (by decide) (by decide) (by decide)) (ninc (hMo.ne (i := 30) (j := 10) (by decide) (by decide) (by decide)) (ninc (hMo.ne (i := 30) (j := 14) (by decide) (by decide) (by decide)) (ninc (hMo.ne (i := 30) (j := 13) (by decide) (by decide) (by decide)) (ninc (hMo.ne (i := 30) (j := 11) (by decide) (by decide) (by decide)) (ninc (hMo.ne (i := 30) (j := 12) (by decide) (by decide) (by decide)) nin0)))))))))
    have g32 := fx _ _ c32 (ninc (hMo.ne (i := 32) (j := 6) (by decide) (by decide) (by decide)) (ninc (hMo.ne (i := 32) (j := 7) (by decide) (by decide) (by decide)) (ninc (hMo.ne (i := 32) (j := 8) (by decide) (by decide) (by decide)) (ninc (hMo.ne (i := 32) (j := 9) (by decide) (by decide) (by decide)) (ninc (hMo.ne (i := 32) (j := 10) (by decide) (by decide) (by decide)) (ninc (hMo.ne (i := 32) (j := 14) (by decide) (by decide) (by decide)) (ninc (hMo.ne (i := 32) (j := 13) (by decide) (by decide) (by decide)) (ninc (hMo.ne (i := 32) (j := 11) (by decide) (by decide) (by decide)) (ninc (hMo.ne (i := 32) (j := 12) (by decide) (by decide) (by decide)) nin0)))))))))
    have g33 := fx _ _ c33 (ninc (hMo.ne (i := 33) (j := 6) (by decide) (by decide) (by decide)) (ninc (hMo.ne (i := 33) (j := 7) (by decide) (by decide) (by decide)) (ninc (hMo.ne (i := 33) (j := 8) (by decide) (by decide) (by decide)) (ninc (hMo.ne (i := 33) (j := 9) (by decide) (by decide) (by decide)) (ninc (hMo.ne (i := 33) (j := 10) (by decide) (by decide) (by decide)) (ninc (hMo.ne (i := 33) (j := 14) (by decide) (by decide) (by decide)) (ninc (hMo.ne (i := 33) (j := 13) (by decide) (by decide) (by decide)) (ninc (hMo.ne (i := 33) (j := 11) (by decide) (by decide) (by decide)) (ninc (hMo.ne (i := 33) (j := 12) (by decide) (by decide) (by decide)) nin0)))))))))
    have g34 := fx _ _ c34 (ninc (hMo.ne (i := 34) (j := 6) (by decide) (by decide) (by decide)) (ninc (hMo.ne (i := 34) (j := 7) (by decide) (by decide) (by decide)) (ninc (hMo.ne (i := 34) (j := 8) (by decide) (by decide) (by decide)) (ninc (hMo.ne (i := 34) (j := 9) (by decide) (by decide) (by decide)) (ninc (hMo.ne (i := 34) (j := 10) (by decide) (by decide) (by decide)) (ninc (hMo.ne (i := 34) (j := 14) (by decide) (by decide) (by decide)) (ninc (hMo.ne (i := 34) (j := 13) (by decide) (by decide) (by decide)) (ninc (hMo.ne (i := 34) (j := 11) (by decide) (by decide) (by decide)) (ninc (hMo.ne (i := 34) (j := 12) (by decide) (by decide) (by decide)) nin0)))))))))
    have g35 := fx _ _ c35 (ninc (hMo.ne (i := 35) (j := 6) (by decide) (by decide) (by decide)) (ninc (hMo.ne (i := 35) (j := 7) (by decide) (by decide) (by decide)) (ninc (hMo.ne (i := 35) (j := 8) (by decide) (by decide) (by decide)) (ninc (hMo.ne (i := 35) (j := 9) (by decide) (by decide) (by decide)) (ninc (hMo.ne (i := 35) (j := 10) (by decide) (by decide) (by decide)) (ninc (hMo.ne (i := 35) (j := 14) (by decide) (by decide) (by decide)) (ninc (hMo.ne (i := 35) (j := 13) (by decide) (by decide) (by decide)) (ninc (hMo.ne (i := 35) (j := 11) (by decide) (by decide) (by decide)) (ninc (hMo.ne (i := 35) (j := 12) (by decide) (by decide) (by decide)) nin0)))))))))
    have g36 := fx _ _ c36 (ninc (hMo.ne (i := 36) (j := 6) (by decide) (by decide) (by decide)) (ninc (hMo.ne (i := 36) (j := 7) (by decide) (by decide) (by decide)) (ninc (hMo.ne (i := 36) (j := 8) (by decide) (by decide) (by decide)) (ninc (hMo.ne (i := 36) (j := 9) (by decide) (by decide) (by decide)) (ninc (hMo.ne (i := 36) (j := 10) (by decide) (by decide) (by decide)) (ninc (hMo.ne (i := 36) (j := 14) (by decide) (by decide) (by decide)) (ninc (hMo.ne (i := 36) (j := 13) (by decide) (by decide) (by decide)) (ninc (hMo.ne (i := 36) (j := 11) (by decide) (by decide) (by decide)) (ninc (hMo.ne (i := 36) (j := 12) (by decide) (by decide) (by decide)) nin0)))))))))
    have g37 := fx _ _ c37 (ninc (hMo.ne (i := 37) (j := 6) (by decide) (by decide) (by decide)) (ninc (hMo.ne (i := 37) (j := 7) (by decide) (by decide) (by decide)) (ninc (hMo.ne (i := 37) (j := 8) (by decide) (by decide) (by decide)) (ninc (hMo.ne (i := 37) (j := 9) (by decide) (by decide) (by decide)) (ninc (hMo.ne (i := 37) (j := 10) (by decide) (by decide) (by decide)) (ninc (hMo.ne (i := 37) (j := 14) (by decide) (by decide) (by decide)) (ninc (hMo.ne (i := 37) (j := 13) (by decide) (by decide) (by decide)) (ninc (hMo.ne (i := 37) (j := 11) (by decide) (by decide) (by decide)) (ninc (hMo.ne (i := 37) (j := 12) (by decide) (by decide) (by decide)) nin0)))))))))
    have g38 := fx _ _ c38 (ninc (hMo.ne (i := 38) (j := 6) (by decide) (by decide) (by decide)) (ninc (hMo.ne (i := 38) (j := 7) (by decide) (by decide) (by decide)) (ninc (hMo.ne (i := 38) (j := 8) (by decide) (by decide) (by decide)) (ninc (hMo.ne (i := 38) (j := 9) (by decide) (by decide) (by decide)) (ninc (hMo.ne (i := 38) (j := 10) (by decide) (by decide) (by decide)) (ninc (hMo.ne (i := 38) (j := 14) (by decide) (by decide) (by decide)) (ninc (hMo.ne (i := 38) (j := 13) (by decide) (by decide) (by decide)) (ninc (hMo.ne (i := 38) (j := 11) (by decide) (by decide) (by decide)) (ninc (hMo.ne (i := 38) (j := 12) (by decide) (by decide) (by decide)) nin0)))))))))
    have g39 := fx _ _ c39 (ninc (hMo.ne (i := 39) (j := 6) (by decide) (by decide) (by decide)) (ninc (hMo.ne (i := 39) (j := 7) (by decide) (by decide) (by decide)) (ninc (hMo.ne (i := 39) (j := 8) (by decide) (by decide) (by decide)) (ninc (hMo.ne (i := 39) (j := 9) (by decide) (by decide) (by decide)) (ninc (hMo.ne (i := 39) (j := 10) (by decide) (by decide) (by decide)) (ninc (hMo.ne (i := 39) (j := 14) (by decide) (by decide) (by decide)) (ninc (hMo.ne (i := 39) (j := 13) (by decide) (by decide) (by decide)) (ninc (hMo.ne (i := 39) (j := 11) (by decide) (by decide) (by decide)) (ninc (hMo.ne (i := 39) (j := 12) (by decide) (by decide) (by decide)) nin0)))))))))
    have g40 := fx _ _ c40 (ninc (hMo.ne (i := 40) (j := 6) (by decide) (by decide) (by decide)) (ninc (hMo.ne (i := 40) (j := 7) (by decide) (by decide) (by decide)) (ninc (hMo.ne (i := 40) (j := 8) (by decide) (by decide) (by decide)) (ninc (hMo.ne (i := 40) (j := 9) (by decide) (by decide) (by decide)) (ninc (hMo.ne (i := 40) (j := 10) (by decide) (by decide) (by decide)) (ninc (hMo.ne (i := 40) (j := 14) (by decide) (by decide) (by decide)) (ninc (hMo.ne (i := 40) (j := 13) (by decide) (by decide) (by decide)) (ninc (hMo.ne (i := 40) (j := 11) (by decide) (by decide) (by decide)) (ninc (hMo.ne (i := 40) (j := 12) (by decide) (by decide) (by decide)) nin0)))))))))
    exact ⟨okF a0, by unfold okF; split <;> omega, rfl, ⟨_, g30⟩, (rm 1 30), ⟨by decide, by decide, by decide, by decide⟩, rn_mono (f_Mo_read G h1 σ (A 30) (A 32) (A 33) (A 34) (A 35) (A 36) (A 37) (A 38) (A 39) (A 40) a0 g30 f0 f2 f3 f4 f5 f6 f7 f8 f11 f12 f13 f14 f15 f9 f10 f16 f17 f18 f23 f24 g32 g33 g34 g35 g36 g37 g38 g39 g40 (hMo.ne (i := 32) (j := 33) (by decide) (by decide) (by decide)) (hMo.ne (i := 37) (j := 38) (by decide) (by decide) (by decide)) r0) (fun r2 h2 q2 => ⟨q2, trivial⟩)⟩
  · intro a0 r0
    refine ⟨⟨_, c0⟩, (rm 1 40), ⟨by decide, by decide, by decide, by decide⟩, rn_mono (f_CB_write G h (A 0) (A 1) (A 3) (A 4) (A 6) (A 11) (A 13) (A 20) (A 21) (A 22) (A 2) (A 7) (A 8) (A 9) (A 10) a0 c0 c1 c6 c20 r0 ) (fun r h1 q => ?_)⟩
    obtain ⟨rfl, fx⟩ := q
    have g30 := fx _ _ c30 (ninc (hMo.ne (i := 30) (j := 1) (by decide) (by decide) (by decide)) nin0)
    exact ⟨okF a0, by unfold okF; split <;> omega, rfl, ⟨_, g30⟩, (rm 1 30), ⟨by decide, by decide, by decide, by decide⟩, rn_mono (f_Mo_write G h1 σ (A 30) (A 32) (A 33) (A 34) (A 35) (A 36) (A 37) (A 38) (A 39) (A 40) a0 g30 f0 f2 f3 f4 f5 f6 f7 f8 f11 f12 f13 f14 f15 f9 f10 f16 f17 f18 f23 f24 r0) (fun r2 h2 q2 => ⟨q2, trivial⟩)⟩
  · skip
    refine ⟨⟨_, c0⟩, rm 0 0, ⟨by decide, by decide, by decide, by decide⟩, rn_mono (c_CB_cues G h (A 0) (A 1) (A 3) (A 4) (A 6) (A 11) (A 13) (A 20) (A 21) (A 22) (A 7) (A 8) (A 9) (A 10) 0 c0 c6) (fun r h1 q => ?_)⟩
    obtain ⟨rfl, rfl⟩ := q
    exact ⟨0, by decide, rfl, ⟨_, c30⟩, rm 0 0, ⟨by decide, by decide, by decide, by decide⟩, rn_mono (c_Mo_cues G h1 σ (A 30) 0 c30 f4) (fun r2 h2 q2 => ⟨q2.1, trivial⟩)⟩
  · intro a0 a1 r0 r1
    refine ⟨⟨_, c0⟩, (rm 1 40), ⟨by decide, by decide, by decide, by decide⟩, rn_mono (f_CB_cue G h (A 0) (A 1) (A 3) (A 4) (A 6) (A 11) (A 13) (A 20) (A 21) (A 22) (A 7) (A 8) (A 9) (A 10) a0 a1 c0 c6 r0 r1 ) (fun r h1 q => ?_)⟩
    obtain ⟨rfl, fx⟩ := q
    have g30 := fx _ _ c30 nin0
    exact ⟨-1, by decide, rfl, ⟨_, g30⟩, (rm 1 40), ⟨by decide, by decide, by decide, by decide⟩, rn_mono (f_Mo_cue G h1 σ (A 30) (A 32) (A 33) (A 34) (A 35) (A 36) (A 37) (A 38) (A 39) (A 40) a0 a1 g30 f0 f2 f3 f4 f5 f6 f7 f8 f11 f12 f13 f14 f15 f9 f10 f16 f17 f18 f23 f24 r0 r1) (fun r2 h2 q2 => ⟨q2, trivial⟩)⟩
  · intro a0 a1 r0 r1
    refine ⟨⟨_, c0⟩, (rm 1 40), ⟨by decide, by decide, by decide, by decide⟩, rn_mono (f_CB_text G h (A 0) (A 1) (A 3) (A 4) (A 6) (A 11) (A 13) (A 20) (A 21) (A 22) (A 7) (A 8) (A 9) (A 10) a0 a1 c0 c6 r0 r1 ) (fun r h1 q => ?_)⟩
    obtain ⟨rfl, fx⟩ := q
    have g30 := fx _ _ c30 nin0
    exact ⟨-1, by decide, rfl, ⟨_, g30⟩, (rm 1 40), ⟨by decide, by decide, by decide, by decide⟩, rn_mono (f_Mo_text G h1 σ (A 30) (A 32) (A 33) (A 34) (A 35) (A 36) (A 37) (A 38) (A 39) (A 40) a0 a1 g30 f0 f2 f3 f4 f5 f6 f7 f8 f11 f12 f13 f14 f15 f9 f10 f16 f17 f18 f23 f24 r0 r1) (fun r2 h2 q2 => ⟨q2, trivial⟩)⟩
  · intro a0 r0
    refine ⟨⟨_, c0⟩, rm 1 30, ⟨by decide, by decide, by decide, by decide⟩, rn_mono (c_CB_shot G h (A 0) (A 1) (A 3) (A 4) (A 6) (A 11) (A 13) (A 20) (A 21) (A 22) (A 5) 2 20 168 17 a0 0 (fun _ => 0) c0 c4 c5 (by decide) (fun k hk => absurd hk (by omega)) r0) (fun r h1 q => ?_)⟩
    obtain ⟨rfl, _, _, fm⟩ := q
    have g30 := (fm _ (ninc (hMo.ne (i := 30) (j := 4) (by decide) (by decide) (by decide)) (ninc (hMo.ne (i := 30) (j := 5) (by decide) (by decide) (by decide)) nin0))).trans c30
    have g45 := (fm _ (ninc (hMo.ne (i := 45) (j := 4) (by decide) (by decide) (by decide)) (ninc (hMo.ne (i := 45) (j := 5) (by decide) (by decide) (by decide)) nin0))).trans c45
    exact ⟨(shR a0 0 (fun _ => 0)).1, shR_r (by decide), rfl, ⟨_, g30⟩, rm 0 0, ⟨by decide, by decide, by decide, by decide⟩, rn_mono (c_Mo_shot G h1 σ (A 30) (A 45) a0 0 (fun _ => 0) g30 f25 f26 g45 (by decide) (fun k hk => absurd hk (by omega)) r0) (fun r2 h2 q2 => ⟨q2.1, trivial⟩)⟩
  · intro a0 a1 a2 a3 r0 r1 r2 r3
    refine ⟨⟨_, c0⟩, rm 1 30, ⟨by decide, by decide, by decide, by decide⟩, rn_mono (c_CB_rules G h (A 0) (A 1) (A 3) (A 4) (A 6) (A 11) (A 13) (A 20) (A 21) (A 22) (A 5) 2 20 168 17 0 a0 a1 a2 a3 c0 c4 r0 r1 r2 r3) (fun r h1 q => ?_)⟩
    by_cases hb : uOK a0 a1 a2 a3
    · obtain ⟨rfl, _, fm⟩ := q.2 hb
      have g30 := (fm _ (ninc (hMo.ne (i := 30) (j := 4) (by decide) (by decide) (by decide)) nin0)).trans c30
      exact ⟨1, by decide, rfl, ⟨_, g30⟩, rm 0 0, ⟨by decide, by decide, by decide, by decide⟩, rn_mono (c_Mo_rules G h1 σ (A 30) 2 20 168 17 a0 a1 a2 a3 g30 f27 f28 f29 f30 r0 r1 r2 r3) (fun r2 h2 q2 => ⟨(q2.2 hb).1, trivial⟩)⟩
    · obtain ⟨rfl, rfl⟩ := q.1 hb
      exact ⟨0, by decide, rfl, ⟨_, c30⟩, rm 0 0, ⟨by decide, by decide, by decide, by decide⟩, rn_mono (c_Mo_rules G h1 σ (A 30) 2 20 168 17 a0 a1 a2 a3 c30 f27 f28 f29 f30 r0 r1 r2 r3) (fun r2 h2 q2 => ⟨(q2.1 hb).1, trivial⟩)⟩
  · skip
    refine ⟨⟨_, c0⟩, ({ frames := 3, cells := 5, slots := 1077, locals := 82 }), ⟨by decide, by decide, by decide, by decide⟩, rn_mono (f_CB_repair G h (A 0) (A 1) (A 3) (A 4) (A 6) (A 11) (A 13) (A 20) (A 21) (A 22) (A 7) (A 8) (A 9) (A 10) (A 12) (A 23) (A 24) (A 25) (A 26) (A 27) (A 28) (A 29)  c0 c6 c7 c8 c9 c10 c11 c12 c22  (hMo.ne (i := 7) (j := 8) (by decide) (by decide) (by decide))) (fun r h1 q => ?_)⟩
    obtain ⟨rfl, fx⟩ := q
    have g30 := fx _ _ c30 (ninc (hMo.ne (i := 30) (j := 11) (by decide) (by decide) (by decide)) (ninc (hMo.ne (i := 30) (j := 12) (by decide) (by decide) (by decide)) nin0))
    have g32 := fx _ _ c32 (ninc (hMo.ne (i := 32) (j := 11) (by decide) (by decide) (by decide)) (ninc (hMo.ne (i := 32) (j := 12) (by decide) (by decide) (by decide)) nin0))
    have g33 := fx _ _ c33 (ninc (hMo.ne (i := 33) (j := 11) (by decide) (by decide) (by decide)) (ninc (hMo.ne (i := 33) (j := 12) (by decide) (by decide) (by decide)) nin0))
    have g34 := fx _ _ c34 (ninc (hMo.ne (i := 34) (j := 11) (by decide) (by decide) (by decide)) (ninc (hMo.ne (i := 34) (j := 12) (by decide) (by decide) (by decide)) nin0))
    have g35 := fx _ _ c35 (ninc (hMo.ne (i := 35) (j := 11) (by decide) (by decide) (by decide)) (ninc (hMo.ne (i := 35) (j := 12) (by decide) (by decide) (by decide)) nin0))
    have g36 := fx _ _ c36 (ninc (hMo.ne (i := 36) (j := 11) (by decide) (by decide) (by decide)) (ninc (hMo.ne (i := 36) (j := 12) (by decide) (by decide) (by decide)) nin0))
    have g37 := fx _ _ c37 (ninc (hMo.ne (i := 37) (j := 11) (by decide) (by decide) (by decide)) (ninc (hMo.ne (i := 37) (j := 12) (by decide) (by decide) (by decide)) nin0))
    have g38 := fx _ _ c38 (ninc (hMo.ne (i := 38) (j := 11) (by decide) (by decide) (by decide)) (ninc (hMo.ne (i := 38) (j := 12) (by decide) (by decide) (by decide)) nin0))
    have g39 := fx _ _ c39 (ninc (hMo.ne (i := 39) (j := 11) (by decide) (by decide) (by decide)) (ninc (hMo.ne (i := 39) (j := 12) (by decide) (by decide) (by decide)) nin0))
    have g40 := fx _ _ c40 (ninc (hMo.ne (i := 40) (j := 11) (by decide) (by decide) (by decide)) (ninc (hMo.ne (i := 40) (j := 12) (by decide) (by decide) (by decide)) nin0))
    exact ⟨0, by decide, rfl, ⟨_, g30⟩, (rm 1 30), ⟨by decide, by decide, by decide, by decide⟩, rn_mono (f_Mo_repair G h1 σ (A 30) (A 32) (A 33) (A 34) (A 35) (A 36) (A 37) (A 38) (A 39) (A 40)  g30 f0 f2 f3 f4 f5 f6 f7 f8 f11 f12 f13 f14 f15 f9 f10 f16 f17 f18 f23 f24 g32 g33 g34 g35 g36 g37 g38 g39 g40 (hMo.ne (i := 32) (j := 33) (by decide) (by decide) (by decide)) (hMo.ne (i := 37) (j := 38) (by decide) (by decide) (by decide)) ) (fun r2 h2 q2 => ⟨q2, trivial⟩)⟩
  · intro a0 r0
    refine ⟨⟨_, c0⟩, (rm 1 40), ⟨by decide, by decide, by decide, by decide⟩, rn_mono (f_CB_breakLines G h (A 0) (A 1) (A 3) (A 4) (A 6) (A 11) (A 13) (A 20) (A 21) (A 22) (A 7) (A 8) (A 9) (A 10) a0 c0 c6 r0 ) (fun r h1 q => ?_)⟩
    obtain ⟨rfl, fx⟩ := q
    have g30 := fx _ _ c30 nin0
    exact ⟨-2, by decide, rfl, ⟨_, g30⟩, (rm 1 40), ⟨by decide, by decide, by decide, by decide⟩, rn_mono (f_Mo_breakLines G h1 σ (A 30) (A 32) (A 33) (A 34) (A 35) (A 36) (A 37) (A 38) (A 39) (A 40) a0 g30 f0 f2 f3 f4 f5 f6 f7 f8 f11 f12 f13 f14 f15 f9 f10 f16 f17 f18 f23 f24 r0) (fun r2 h2 q2 => ⟨q2, trivial⟩)⟩
  · intro a0 a1 a2 a3 r0 r1 r2 r3
    refine ⟨⟨_, c0⟩, ({ frames := 3, cells := 6, slots := 1082, locals := 82 }), ⟨by decide, by decide, by decide, by decide⟩, rn_mono (f_CB_twoPoint G h (A 0) (A 1) (A 3) (A 4) (A 6) (A 11) (A 13) (A 20) (A 21) (A 22) (A 7) (A 8) (A 9) (A 10) (A 12) a0 a1 a2 a3 c0 c3 c6 c7 c8 c9 c10 c11 c12 r0 r1 r2 r3 (hMo.ne (i := 7) (j := 8) (by decide) (by decide) (by decide))) (fun r h1 q => ?_)⟩
    obtain ⟨rfl, fx⟩ := q
    have g30 := fx _ _ c30 (ninc (hMo.ne (i := 30) (j := 11) (by decide) (by decide) (by decide)) (ninc (hMo.ne (i := 30) (j := 12) (by decide) (by decide) (by decide)) nin0))
    have g32 := fx _ _ c32 (ninc (hMo.ne (i := 32) (j := 11) (by decide) (by decide) (by decide)) (ninc (hMo.ne (i := 32) (j := 12) (by decide) (by decide) (by decide)) nin0))
    have g33 := fx _ _ c33 (ninc (hMo.ne (i := 33) (j := 11) (by decide) (by decide) (by decide)) (ninc (hMo.ne (i := 33) (j := 12) (by decide) (by decide) (by decide)) nin0))
    have g34 := fx _ _ c34 (ninc (hMo.ne (i := 34) (j := 11) (by decide) (by decide) (by decide)) (ninc (hMo.ne (i := 34) (j := 12) (by decide) (by decide) (by decide)) nin0))
    have g35 := fx _ _ c35 (ninc (hMo.ne (i := 35) (j := 11) (by decide) (by decide) (by decide)) (ninc (hMo.ne (i := 35) (j := 12) (by decide) (by decide) (by decide)) nin0))
    have g36 := fx _ _ c36 (ninc (hMo.ne (i := 36) (j := 11) (by decide) (by decide) (by decide)) (ninc (hMo.ne (i := 36) (j := 12) (by decide) (by decide) (by decide)) nin0))
    have g37 := fx _ _ c37 (ninc (hMo.ne (i := 37) (j := 11) (by decide) (by decide) (by decide)) (ninc (hMo.ne (i := 37) (j := 12) (by decide) (by decide) (by decide)) nin0))
    have g38 := fx _ _ c38 (ninc (hMo.ne (i := 38) (j := 11) (by decide) (by decide) (by decide)) (ninc (hMo.ne (i := 38) (j := 12) (by decide) (by decide) (by decide)) nin0))
    have g39 := fx _ _ c39 (ninc (hMo.ne (i := 39) (j := 11) (by decide) (by decide) (by decide)) (ninc (hMo.ne (i := 39) (j := 12) (by decide) (by decide) (by decide)) nin0))
    have g40 := fx _ _ c40 (ninc (hMo.ne (i := 40) (j := 11) (by decide) (by decide) (by decide)) (ninc (hMo.ne (i := 40) (j := 12) (by decide) (by decide) (by decide)) nin0))
    exact ⟨tpZ a0 a1 a2 a3, by unfold tpZ; split <;> omega, rfl, ⟨_, g30⟩, (rm 1 30), ⟨by decide, by decide, by decide, by decide⟩, rn_mono (f_Mo_twoPoint G h1 σ (A 30) (A 32) (A 33) (A 34) (A 35) (A 36) (A 37) (A 38) (A 39) (A 40) a0 a1 a2 a3 g30 f0 f2 f3 f4 f5 f6 f7 f8 f11 f12 f13 f14 f15 f9 f10 f16 f17 f18 f23 f24 g32 g33 g34 g35 g36 g37 g38 g39 g40 (hMo.ne (i := 32) (j := 33) (by decide) (by decide) (by decide)) (hMo.ne (i := 37) (j := 38) (by decide) (by decide) (by decide)) r0 r1 r2 r3) (fun r2 h2 q2 => ⟨q2, trivial⟩)⟩
  · intro a0 r0
    refine ⟨⟨_, c0⟩, ({ frames := 3, cells := 5, slots := 1077, locals := 82 }), ⟨by decide, by decide, by decide, by decide⟩, rn_mono (f_CB_shift G h (A 0) (A 1) (A 3) (A 4) (A 6) (A 11) (A 13) (A 20) (A 21) (A 22) (A 7) (A 8) (A 9) (A 10) (A 12) a0 c0 c6 c7 c8 c9 c10 c11 c12 r0 (hMo.ne (i := 7) (j := 8) (by decide) (by decide) (by decide))) (fun r h1 q => ?_)⟩
    obtain ⟨rfl, fx⟩ := q
    have g30 := fx _ _ c30 (ninc (hMo.ne (i := 30) (j := 11) (by decide) (by decide) (by decide)) (ninc (hMo.ne (i := 30) (j := 12) (by decide) (by decide) (by decide)) nin0))
    have g32 := fx _ _ c32 (ninc (hMo.ne (i := 32) (j := 11) (by decide) (by decide) (by decide)) (ninc (hMo.ne (i := 32) (j := 12) (by decide) (by decide) (by decide)) nin0))
    have g33 := fx _ _ c33 (ninc (hMo.ne (i := 33) (j := 11) (by decide) (by decide) (by decide)) (ninc (hMo.ne (i := 33) (j := 12) (by decide) (by decide) (by decide)) nin0))
    have g34 := fx _ _ c34 (ninc (hMo.ne (i := 34) (j := 11) (by decide) (by decide) (by decide)) (ninc (hMo.ne (i := 34) (j := 12) (by decide) (by decide) (by decide)) nin0))
    have g35 := fx _ _ c35 (ninc (hMo.ne (i := 35) (j := 11) (by decide) (by decide) (by decide)) (ninc (hMo.ne (i := 35) (j := 12) (by decide) (by decide) (by decide)) nin0))
    have g36 := fx _ _ c36 (ninc (hMo.ne (i := 36) (j := 11) (by decide) (by decide) (by decide)) (ninc (hMo.ne (i := 36) (j := 12) (by decide) (by decide) (by decide)) nin0))
    have g37 := fx _ _ c37 (ninc (hMo.ne (i := 37) (j := 11) (by decide) (by decide) (by decide)) (ninc (hMo.ne (i := 37) (j := 12) (by decide) (by decide) (by decide)) nin0))
    have g38 := fx _ _ c38 (ninc (hMo.ne (i := 38) (j := 11) (by decide) (by decide) (by decide)) (ninc (hMo.ne (i := 38) (j := 12) (by decide) (by decide) (by decide)) nin0))
    have g39 := fx _ _ c39 (ninc (hMo.ne (i := 39) (j := 11) (by decide) (by decide) (by decide)) (ninc (hMo.ne (i := 39) (j := 12) (by decide) (by decide) (by decide)) nin0))
    have g40 := fx _ _ c40 (ninc (hMo.ne (i := 40) (j := 11) (by decide) (by decide) (by decide)) (ninc (hMo.ne (i := 40) (j := 12) (by decide) (by decide) (by decide)) nin0))
    exact ⟨shZ a0, by unfold shZ; split <;> omega, rfl, ⟨_, g30⟩, (rm 1 30), ⟨by decide, by decide, by decide, by decide⟩, rn_mono (f_Mo_shift G h1 σ (A 30) (A 32) (A 33) (A 34) (A 35) (A 36) (A 37) (A 38) (A 39) (A 40) a0 g30 f0 f2 f3 f4 f5 f6 f7 f8 f11 f12 f13 f14 f15 f9 f10 f16 f17 f18 f23 f24 g32 g33 g34 g35 g36 g37 g38 g39 g40 (hMo.ne (i := 32) (j := 33) (by decide) (by decide) (by decide)) (hMo.ne (i := 37) (j := 38) (by decide) (by decide) (by decide)) r0) (fun r2 h2 q2 => ⟨q2, trivial⟩)⟩
  · intro a0 r0
    refine ⟨⟨_, c0⟩, (rm 1 40), ⟨by decide, by decide, by decide, by decide⟩, rn_mono (f_CB_merge G h (A 0) (A 1) (A 3) (A 4) (A 6) (A 11) (A 13) (A 20) (A 21) (A 22) (A 7) (A 8) (A 9) (A 10) a0 c0 c6 r0 ) (fun r h1 q => ?_)⟩
    obtain ⟨rfl, fx⟩ := q
    have g30 := fx _ _ c30 nin0
    exact ⟨-2, by decide, rfl, ⟨_, g30⟩, (rm 1 40), ⟨by decide, by decide, by decide, by decide⟩, rn_mono (f_Mo_merge G h1 σ (A 30) (A 32) (A 33) (A 34) (A 35) (A 36) (A 37) (A 38) (A 39) (A 40) a0 g30 f0 f2 f3 f4 f5 f6 f7 f8 f11 f12 f13 f14 f15 f9 f10 f16 f17 f18 f23 f24 r0) (fun r2 h2 q2 => ⟨q2, trivial⟩)⟩
  · intro a0 a1 r0 r1
    refine ⟨⟨_, c0⟩, (rm 1 40), ⟨by decide, by decide, by decide, by decide⟩, rn_mono (f_CB_split G h (A 0) (A 1) (A 3) (A 4) (A 6) (A 11) (A 13) (A 20) (A 21) (A 22) (A 7) (A 8) (A 9) (A 10) a0 a1 c0 c6 r0 r1 ) (fun r h1 q => ?_)⟩
    obtain ⟨rfl, fx⟩ := q
    have g30 := fx _ _ c30 nin0
    exact ⟨-2, by decide, rfl, ⟨_, g30⟩, (rm 1 40), ⟨by decide, by decide, by decide, by decide⟩, rn_mono (f_Mo_split G h1 σ (A 30) (A 32) (A 33) (A 34) (A 35) (A 36) (A 37) (A 38) (A 39) (A 40) a0 a1 g30 f0 f2 f3 f4 f5 f6 f7 f8 f11 f12 f13 f14 f15 f9 f10 f16 f17 f18 f23 f24 r0 r1) (fun r2 h2 q2 => ⟨q2, trivial⟩)⟩
  · skip
    refine ⟨⟨_, c0⟩, (rm 0 0), ⟨by decide, by decide, by decide, by decide⟩, rn_mono (f_CB_clash G h (A 0) (A 1) (A 3) (A 4) (A 6) (A 11) (A 13) (A 20) (A 21) (A 22) (A 7) (A 8) (A 9) (A 10)  c0 c6  ) (fun r h1 q => ?_)⟩
    obtain ⟨rfl, fx⟩ := q
    have g30 := fx _ _ c30 nin0
    exact ⟨-1, by decide, rfl, ⟨_, g30⟩, (rm 0 0), ⟨by decide, by decide, by decide, by decide⟩, rn_mono (f_Mo_clash G h1 σ (A 30) (A 32) (A 33) (A 34) (A 35) (A 36) (A 37) (A 38) (A 39) (A 40)  g30 f0 f2 f3 f4 f5 f6 f7 f8 f11 f12 f13 f14 f15 f9 f10 f16 f17 f18 f23 f24 ) (fun r2 h2 q2 => ⟨q2, trivial⟩)⟩
  · skip
    refine ⟨⟨_, c0⟩, (rm 1 40), ⟨by decide, by decide, by decide, by decide⟩, rn_mono (f_CB_undo G h (A 0) (A 1) (A 3) (A 4) (A 6) (A 11) (A 13) (A 20) (A 21) (A 22) (A 7) (A 8) (A 9) (A 10) (A 12)  c0 c6 c11 c12  ) (fun r h1 q => ?_)⟩
    obtain ⟨rfl, fx⟩ := q
    have g30 := fx _ _ c30 nin0
    exact ⟨0, by decide, rfl, ⟨_, g30⟩, (rm 0 0), ⟨by decide, by decide, by decide, by decide⟩, rn_mono (f_Mo_undo G h1 σ (A 30) (A 32) (A 33) (A 34) (A 35) (A 36) (A 37) (A 38) (A 39) (A 40)  g30 f0 f2 f3 f4 f5 f6 f7 f8 f11 f12 f13 f14 f15 f9 f10 f16 f17 f18 f23 f24 ) (fun r2 h2 q2 => ⟨q2, trivial⟩)⟩
