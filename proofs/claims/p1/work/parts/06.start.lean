theorem kn_cell {s : State} {args : Array Value} {C : String} {T : u_T} {N : Nat} (hts : ∀ w ∈ Wall, w.before args s = true) (hin : ∀ w ∈ u_ws C T N, w ∈ Wall) (hi : Cond.instantiable C N ∈ Wall) : ∃ q : ClassId × (Nat → Nat), u_Kn s C T N q.1 q.2 := by
  obtain ⟨cC, iS, h⟩ := u_known hts hin (hts _ hi)
  exact ⟨(cC, iS), h⟩
theorem kn_all {s : State} {args : Array Value} (hts : ∀ w ∈ Wall, w.before args s = true) : ∃ D : va_G, ∀ (c : Nat) (q : vw_C), classes[c]? = some q → u_Kn s q.1 q.2.1 q.2.2 (D.1 c) (D.2 c) := by
  obtain ⟨k0, e0⟩ := kn_cell hts cW0 (wm 16 (by decide +kernel) rfl)
  obtain ⟨k1, e1⟩ := kn_cell hts cW1 (wm 24 (by decide +kernel) rfl)
  obtain ⟨k2, e2⟩ := kn_cell hts cW2 (wm 90 (by decide +kernel) rfl)
  obtain ⟨k3, e3⟩ := kn_cell hts cW3 (wm 145 (by decide +kernel) rfl)
  obtain ⟨k4, e4⟩ := kn_cell hts cW4 (wm 185 (by decide +kernel) rfl)
  obtain ⟨k5, e5⟩ := kn_cell hts cW5 (wm 41 (by decide +kernel) rfl)
  obtain ⟨k6, e6⟩ := kn_cell hts cW6 (wm 201 (by decide +kernel) rfl)
  obtain ⟨k7, e7⟩ := kn_cell hts cW7 (wm 127 (by decide +kernel) rfl)
  obtain ⟨k8, e8⟩ := kn_cell hts cW8 (wm 640 (by decide +kernel) rfl)
  obtain ⟨k9, e9⟩ := kn_cell hts cW9 (wm 217 (by decide +kernel) rfl)
  obtain ⟨k10, e10⟩ := kn_cell hts cW10 (wm 63 (by decide +kernel) rfl)
  obtain ⟨k11, e11⟩ := kn_cell hts cW11 (wm 714 (by decide +kernel) rfl)
  refine ⟨(fun c => (match c with | 0 => k0 | 1 => k1 | 2 => k2 | 3 => k3 | 4 => k4 | 5 => k5 | 6 => k6 | 7 => k7 | 8 => k8 | 9 => k9 | 10 => k10 | _ => k11 : ClassId × (Nat → Nat)).1, fun c => (match c with | 0 => k0 | 1 => k1 | 2 => k2 | 3 => k3 | 4 => k4 | 5 => k5 | 6 => k6 | 7 => k7 | 8 => k8 | 9 => k9 | 10 => k10 | _ => k11 : ClassId × (Nat → Nat)).2), fun c q hq => ?_⟩
  have hc : c < 12 := (List.getElem?_eq_some_iff.mp hq).1
  rcases (show c = 0 ∨ c = 1 ∨ c = 2 ∨ c = 3 ∨ c = 4 ∨ c = 5 ∨ c = 6 ∨ c = 7 ∨ c = 8 ∨ c = 9 ∨ c = 10 ∨ c = 11 by omega) with rfl | rfl | rfl | rfl | rfl | rfl | rfl | rfl | rfl | rfl | rfl | rfl
  · cases hq; exact e0
  · cases hq; exact e1
  · cases hq; exact e2
  · cases hq; exact e3
  · cases hq; exact e4
  · cases hq; exact e5
  · cases hq; exact e6
  · cases hq; exact e7
  · cases hq; exact e8
  · cases hq; exact e9
  · cases hq; exact e10
  · cases hq; exact e11
theorem st_start {p : Program} {s : State} {m : MethodId} {meth : Method} {c : Code} {b L : Nat} {xs : Nat → Int32} (l : Launch) (hts0 : ∀ w ∈ lw_tbl, w.before #[Value.ref b] s = true) (hX : va_X b L xs s s.heap) (hbl : b < s.heap.size) (hgv : (Jvm.Cond.and given_1 narrow_1).before #[Value.ref b] s = true) :
    ∃ (D : va_G) (cI cJ cQ : ClassId) (t : Nat), St (l, D, (cI, cJ, cQ), s.heap.size, t, (b, L, xs)) s := by
  have hts : ∀ w ∈ Wall, w.before #[Value.ref b] s = true := fun w hw => hts0 w (List.mem_filter.mp hw).1
  have htb : ∀ (i : Nat) (w : Cond), tables_1[i]? = some w → w.before #[Value.ref b] s = true := fun i w hw => hts0 w (List.mem_append_right _ (List.mem_of_getElem? hw))
  obtain ⟨D, hD⟩ := kn_all hts
  obtain ⟨cI, kI, pI, i1, i2, i3⟩ := Cond.arrayClass_spec (hts _ ac_i)
  obtain ⟨cJ, kJ, pJ, j1, j2, j3⟩ := Cond.arrayClass_spec (hts _ ac_l)
  have hao : va_AO "CueBench$CueRow" s := va_AO.of (htb 133 _ (by decide +kernel))
  obtain ⟨pQ, cQ, kQ, q1, q2, q3, q4, q5⟩ := Cond.arrayOver_spec hao
  have hg := flat_of_before _ hgv
  have hA : ∀ a : Nat, a < s.heap.size → ¬ s.heap.size ≤ a := fun a h1 h2 => Nat.not_lt.mpr h2 h1
  obtain ⟨t, t1, t2⟩ := va_Tof (args := #[Value.ref b]) (s := s) (tm := .static "CueBench$FormWriter" "TENS" "[I") (ty := .int) (N := 6) (f := tensV) (A := fun q => s.heap.size ≤ q) (by decide) (hg _ (by decide +kernel)) (va_eqt (z := 6) (hg _ (by decide +kernel))) (fun j hj => by
    rcases (show j = 0 ∨ j = 1 ∨ j = 2 ∨ j = 3 ∨ j = 4 ∨ j = 5 by omega) with rfl | rfl | rfl | rfl | rfl | rfl <;> exact va_eqt (hg _ (by decide +kernel))) hA
  refine ⟨D, cI, cJ, cQ, t, ⟨hD, fun k q hk => ?_⟩, fun q hq => hq, ?_, ?_, va_Zref (htb 435 _ (by decide +kernel)) (htb 8 _ (by decide +kernel)) t1 hA, t2, hao, hX, hbl, fun h => hA b hbl h⟩
  · have hc : k < 3 := (List.getElem?_eq_some_iff.mp hk).1
    rcases (show k = 0 ∨ k = 1 ∨ k = 2 by omega) with rfl | rfl | rfl
    · cases hk; exact ⟨fun n z => ⟨fun k h => (by cases h), kI, i2, pI, i3⟩, i1⟩
    · cases hk; exact ⟨fun n z => ⟨fun k h => (by cases h), kJ, j2, pJ, j3⟩, j1⟩
    · cases hk; exact ⟨fun n z => ⟨fun k h => (by cases h), kQ, q3, pQ, q4⟩, kQ, pQ, q3, q4, q1, q5⟩
  · exact List.forall_mem_cons.mpr ⟨va_Nw.of rfl (htb 31 _ (by decide +kernel)), List.forall_mem_cons.mpr ⟨va_Nw.of rfl (htb 32 _ (by decide +kernel)), List.forall_mem_cons.mpr ⟨va_Nw.of rfl (htb 33 _ (by decide +kernel)), List.forall_mem_cons.mpr ⟨va_Nw.of rfl (htb 48 _ (by decide +kernel)), List.forall_mem_cons.mpr ⟨va_Nw.of rfl (htb 50 _ (by decide +kernel)), List.forall_mem_cons.mpr ⟨va_Nw.of rfl (htb 52 _ (by decide +kernel)), List.forall_mem_cons.mpr ⟨va_Nw.of rfl (htb 53 _ (by decide +kernel)), List.forall_mem_cons.mpr ⟨va_Nw.of rfl (htb 54 _ (by decide +kernel)), List.forall_mem_cons.mpr ⟨va_Nw.of rfl (htb 69 _ (by decide +kernel)), List.forall_mem_cons.mpr ⟨va_Nw.of rfl (htb 72 _ (by decide +kernel)), List.forall_mem_cons.mpr ⟨va_Nw.of rfl (htb 96 _ (by decide +kernel)), List.forall_mem_cons.mpr ⟨va_Nw.of rfl (htb 97 _ (by decide +kernel)), List.forall_mem_cons.mpr ⟨va_Nw.of rfl (htb 98 _ (by decide +kernel)), List.forall_mem_cons.mpr ⟨va_Nw.of rfl (htb 100 _ (by decide +kernel)), List.forall_mem_cons.mpr ⟨va_Nw.of rfl (htb 101 _ (by decide +kernel)), List.forall_mem_cons.mpr ⟨va_Nw.of rfl (htb 102 _ (by decide +kernel)), List.forall_mem_cons.mpr ⟨va_Nw.of rfl (htb 104 _ (by decide +kernel)), List.forall_mem_cons.mpr ⟨va_Nw.of rfl (htb 105 _ (by decide +kernel)), List.forall_mem_cons.mpr ⟨va_Nw.of rfl (htb 106 _ (by decide +kernel)), List.forall_mem_cons.mpr ⟨va_Nw.of rfl (htb 107 _ (by decide +kernel)), List.forall_mem_cons.mpr ⟨va_Nw.of rfl (htb 109 _ (by decide +kernel)), List.forall_mem_cons.mpr ⟨va_Nw.of rfl (htb 110 _ (by decide +kernel)), List.forall_mem_cons.mpr ⟨va_Nw.of rfl (htb 112 _ (by decide +kernel)), List.forall_mem_cons.mpr ⟨va_Nw.of rfl (htb 113 _ (by decide +kernel)), List.forall_mem_cons.mpr ⟨va_Nw.of rfl (htb 155 _ (by decide +kernel)), fun _ h => absurd h List.not_mem_nil⟩⟩⟩⟩⟩⟩⟩⟩⟩⟩⟩⟩⟩⟩⟩⟩⟩⟩⟩⟩⟩⟩⟩⟩⟩
  · exact List.forall_mem_cons.mpr ⟨va_Nw.of rfl (htb 25 _ (by decide +kernel)), List.forall_mem_cons.mpr ⟨va_Nw.of rfl (htb 42 _ (by decide +kernel)), List.forall_mem_cons.mpr ⟨va_Nw.of rfl (htb 64 _ (by decide +kernel)), List.forall_mem_cons.mpr ⟨va_Nw.of rfl (htb 91 _ (by decide +kernel)), List.forall_mem_cons.mpr ⟨va_Nw.of rfl (htb 128 _ (by decide +kernel)), List.forall_mem_cons.mpr ⟨va_Nw.of rfl (htb 151 _ (by decide +kernel)), List.forall_mem_cons.mpr ⟨va_Nw.of rfl (htb 402 _ (by decide +kernel)), List.forall_mem_cons.mpr ⟨va_Nw.of rfl (htb 424 _ (by decide +kernel)), List.forall_mem_cons.mpr ⟨va_Nw.of rfl (htb 449 _ (by decide +kernel)), List.forall_mem_cons.mpr ⟨va_Nw.of rfl (htb 503 _ (by decide +kernel)), List.forall_mem_cons.mpr ⟨va_Nw.of rfl (htb 629 _ (by decide +kernel)), List.forall_mem_cons.mpr ⟨va_Nw.of rfl (htb 665 _ (by decide +kernel)), List.forall_mem_cons.mpr ⟨va_Nw.of rfl (htb 696 _ (by decide +kernel)), fun _ h => absurd h List.not_mem_nil⟩⟩⟩⟩⟩⟩⟩⟩⟩⟩⟩⟩⟩
def R_law : String := "CueBenchLaw"
def lw_P (b : Addr) (xs : List Int32) (args : Array Value) (s : State) : Prop := args = #[.ref b] ∧ s.IntsAt b xs ∧ xs.length ≤ 5 ∧ (Jvm.Cond.and given_1 narrow_1).before args s = true
def lw_Q (_ : Array Value) (s : State) (o : Outcome) (t : State) : Prop := o = .returned (some (.int 1)) ∧ Framed s o t [] 600000 7302250
def lw_Z (below : List Frame) (a : Array Value) (s : State) : State → Prop := fun t => ∃ o, t.status = .running ∧ Ended t below o ∧ lw_Q a s o t
def lw_At (p : Program) (s : State) (m : MethodId) (meth : Method) (c : Code) (b L : Nat) (xs : Nat → Int32) : Prop :=
  p.tables.exec = Jvm.exec ∧ c.code = code ∧ meth.sig.returnType = ret ∧ c.maxLocals = 4 ∧ s.vm.findClass R_law = some m.cls ∧ (∀ w ∈ lw_tbl, w.before #[Value.ref b] s = true) ∧ va_X b L xs s s.heap ∧ b < s.heap.size ∧ meth.locks = false ∧ (Jvm.Cond.and given_1 narrow_1).before #[Value.ref b] s = true
theorem hp_none (G : GT) (H : Heap) : Hp G (fun _ => none) H := by
  refine ⟨[], ?_, ?_, ?_, ?_⟩
  · intro a e q
    cases q
  · intro k q hk
    simp at hk
  · intro i j p q hi
    simp at hi
  · intro k q hk
    simp at hk
theorem whole_open {p : Program} {e : Env} {s : State} {m : MethodId} {below : List Frame} {meth : Method} {c : Code} (l : Launch) {b L : Nat} {xs : Nat → Int32} (hname : meth.name = "law") (C0 : lw_At p s m meth c b L xs)
    (hev : ∀ G : GT, G_b G = b → G_n G = L → Ev G M_Law_law room_1 (fun r _ => r = some (.int 1)) 0 [(0, .ref b)] [] (fun _ => none) 0 0) : W p l e room_1 s m #[Value.ref b] below meth c s.heap [] 0 0 (lw_Z below #[Value.ref b] s) (entryFrame m ([Value.ref b] : List Value).toArray 4) := by
  obtain ⟨c1, c2, c3, c4, c5, c6, c7, c8, c9, c10⟩ := C0
  obtain ⟨D, cI, cJ, cQ, t, hSt⟩ := st_start (p := p) (m := m) (meth := meth) (c := c) l c6 c7 c8 c10
  have h := hev (l, D, (cI, cJ, cQ), s.heap.size, t, (b, L, xs)) rfl rfl
  have hl := lv_entry ([.ref b]) (n := 4) (Nat.le_of_ble_eq_true rfl)
  rw [lg_entry_eq]
  intro T hT X
  obtain ⟨t', a1, o, b1, b2, ⟨⟨r, h', e1, e2, e3⟩, e4⟩, Lo, ⟨f1, f2, f3⟩, f4⟩ := h p e s m _ below meth c s.heap [] _ ⟨c1, c2, c4, c3, fun w hw => c6 w (List.mem_filter.mp hw).1, c5, c9, hname, hSt⟩ hl (hp_none _ _) va_S.rf T hT X
  refine ⟨t', a1, o, b1, b2, by rw [e1, e2], f1, f2, f3.weaken (fun x hx hlt => absurd hlt (Nat.not_lt.mpr (f4 x hx))) (Nat.le_refl _) (Nat.le_refl _)⟩
