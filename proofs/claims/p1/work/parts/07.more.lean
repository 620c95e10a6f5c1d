section EVN
variable {G : GT} {M : MT} {R : Room} {Q : Option Value → HM → Prop} {pc : Nat} {L : List (Nat × Value)} {st : List Value} {h : HM} {k n : Nat}
theorem ez_new {idx ci : Nat} {fs : List Value} (N : Nat) (d : decode M.2.1 pc = .ok (.new idx, 3)) (hn : Nc M.1.cls idx ci fs) (hN : fs.length = N) (hk : k + 1 ≤ R.cells) (hn9 : n + N ≤ R.slots) (kk : ∀ (q : Nat) (h2 : HM), (∀ b e, h b = some e → b < q) → h2 q = some (.inr (ci, fs)) → (∀ b, b ≠ q → h2 b = h b) → Ev G M R Q (pc + 3) L (.ref q :: st) h2 (k + 1) (n + N)) : Ev G M R Q pc L st h k n := by
  subst hN
  exact ev_new d hn hk hn9 (fun q hq => kk q _ hq hup_s (fun _ hb => hup_n hb))
theorem ez_newi {z : Int} (N : Nat) (d : decode M.2.1 pc = .ok (.newarray .int, 2)) (hw : Cond.arrayClass .int ∈ Wall) (hz : z = N) (hb : N ≤ 1000000) (hk : k + 1 ≤ R.cells) (hn9 : n + N ≤ R.slots) (kk : ∀ (q : Nat) (h2 : HM), (∀ b e, h b = some e → b < q) → h2 q = some (.inl (G_i G, N, .inl (iA (fun _ => 0)))) → (∀ b, b ≠ q → h2 b = h b) → Ev G M R Q (pc + 2) L (.ref q :: st) h2 (k + 1) (n + N)) : Ev G M R Q pc L (.int (iZ z) :: st) h k n := by
  have nz : ¬ iZ z < 0 := by
    intro q
    rw [show (0 : Int32) = iZ 0 from rfl, iZ_lt ⟨by omega, by omega⟩ ⟨by omega, by omega⟩] at q
    omega
  refine ev_newi N d hw nz (iZ_cl hz (by omega)) (by show N * 4 ≤ 536870912; omega) hk hn9 (fun q hq => kk q _ hq hup_s (fun _ hb => hup_n hb))
theorem ez_newl {z : Int} (N : Nat) (d : decode M.2.1 pc = .ok (.newarray .long, 2)) (hw : Cond.arrayClass .long ∈ Wall) (hz : z = N) (hb : N ≤ 1000000) (hk : k + 1 ≤ R.cells) (hn9 : n + N ≤ R.slots) (kk : ∀ (q : Nat) (h2 : HM), (∀ b e, h b = some e → b < q) → h2 q = some (.inl (G_j G, N, .inr (.inl (lA (fun _ => 0))))) → (∀ b, b ≠ q → h2 b = h b) → Ev G M R Q (pc + 2) L (.ref q :: st) h2 (k + 1) (n + N)) : Ev G M R Q pc L (.int (iZ z) :: st) h k n := by
  have nz : ¬ iZ z < 0 := by
    intro q
    rw [show (0 : Int32) = iZ 0 from rfl, iZ_lt ⟨by omega, by omega⟩ ⟨by omega, by omega⟩] at q
    omega
  refine ev_newl N d hw nz (iZ_cl hz (by omega)) (by show N * 8 ≤ 536870912; omega) hk hn9 (fun q hq => kk q _ hq hup_s (fun _ hb => hup_n hb))
theorem ez_newq {idx : Nat} {z : Int} (N : Nat) (d : decode M.2.1 pc = .ok (.anewarray idx, 3)) (hw : Cond.classLink M.1.cls idx "CueBench$CueRow" ∈ Wall) (hz : z = N) (hb : N ≤ 1000000) (hk : k + 1 ≤ R.cells) (hn9 : n + N ≤ R.slots) (kk : ∀ (q : Nat) (h2 : HM), (∀ b e, h b = some e → b < q) → h2 q = some (.inl (G_q G, N, .inr (.inr (.inr (.inr (fun _ => none)))))) → (∀ b, b ≠ q → h2 b = h b) → Ev G M R Q (pc + 3) L (.ref q :: st) h2 (k + 1) (n + N)) : Ev G M R Q pc L (.int (iZ z) :: st) h k n := by
  have nz : ¬ iZ z < 0 := by
    intro q
    rw [show (0 : Int32) = iZ 0 from rfl, iZ_lt ⟨by omega, by omega⟩ ⟨by omega, by omega⟩] at q
    omega
  exact ev_newq N d hw nz (iZ_cl hz (by omega)) (by omega) hk hn9 (fun q hq => kk q _ hq hup_s (fun _ hb => hup_n hb))
end EVN
/-- a frame that lets new cells be: what was known stays -/
def Fx (S : List Nat) (h h' : HM) : Prop := ∀ b e, h b = some e → b ∉ S → h' b = some e
theorem Fx.rf {S : List Nat} {h : HM} : Fx S h h := fun _ _ h _ => h
theorem Fx.step {S : List Nat} {h h1 h2 : HM} {a : Nat} (f : Fx S h h1) (ha : a ∈ S) (ho : ∀ b, b ≠ a → h2 b = h1 b) : Fx S h h2 := fun b e hb hs => (ho b (fun q => hs (q ▸ ha))).trans (f b e hb hs)
theorem Fx.new {S : List Nat} {h h1 h2 : HM} {a : Nat} (f : Fx S h h1) (hl : ∀ b e, h1 b = some e → b < a) (ho : ∀ b, b ≠ a → h2 b = h1 b) : Fx S h h2 := fun b e hb hs => (ho b (Nat.ne_of_lt (hl b e (f b e hb hs)))).trans (f b e hb hs)
theorem Fx.call {S S' : List Nat} {h h1 h2 : HM} (f : Fx S h h1) (g : Fx S' h1 h2) (hs : ∀ x ∈ S', x ∈ S ∨ ∀ b e, h b = some e → b ≠ x) : Fx S h h2 := fun b e hb hn => g b e (f b e hb hn) (fun q => (hs b q).elim hn (fun z => z b e hb rfl))
theorem Fx.of {S : List Nat} {h h' : HM} (f : Fm S h h') : Fx S h h' := fun b e hb hs => (f b hs).trans hb
