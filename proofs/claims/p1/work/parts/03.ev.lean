/-! The light judgement: a method's walk with the machine hidden. h: which cells are known, by address. -/
abbrev MT : Type := MethodName × ByteArray × Nat × Option FieldType
abbrev GT : Type := Launch × va_G × (ClassId × ClassId × ClassId) × Nat × Nat × (Nat × Nat × (Nat → Int32))
abbrev G_l (G : GT) : Launch := G.1
abbrev G_D (G : GT) : va_G := G.2.1
abbrev G_i (G : GT) : ClassId := G.2.2.1.1
abbrev G_j (G : GT) : ClassId := G.2.2.1.2.1
abbrev G_q (G : GT) : ClassId := G.2.2.1.2.2
def G_A (G : GT) : Nat → Prop := fun q => G.2.2.2.1 ≤ q
abbrev G_t (G : GT) : Nat := G.2.2.2.2.1
abbrev G_b (G : GT) : Nat := G.2.2.2.2.2.1
abbrev G_n (G : GT) : Nat := G.2.2.2.2.2.2.1
abbrev G_x (G : GT) : Nat → Int32 := G.2.2.2.2.2.2.2
abbrev tysG (G : GT) : List (ClassId × FieldType) := [(G_i G, .int), (G_j G, .long), (G_q G, .object "CueBench$CueRow")]
abbrev HM : Type := Nat → Option va_E
def hup (h : HM) (a : Nat) (e : va_E) : HM := fun q => if q = a then some e else h q
theorem hup_s {h : HM} {a : Nat} {e : va_E} : hup h a e a = some e := if_pos rfl
theorem hup_n {h : HM} {a b : Nat} {e : va_E} (hn : b ≠ a) : hup h a e b = h b := if_neg hn
def Hp (G : GT) (h : HM) (H : Heap) : Prop := ∃ ws : va_W, (∀ a e, h a = some e → ∃ k : Nat, ws[k]? = some (a, e)) ∧ va_P (G_D G) classes ws H ∧ va_D (G_A G) ws
theorem hp_put {h : HM} {ws : va_W} {k a : Nat} {e e' : va_E} (hi : ∀ a e, h a = some e → ∃ k : Nat, ws[k]? = some (a, e)) (hk : ws[k]? = some (a, e)) : ∀ b e2, hup h a e' b = some e2 → ∃ j : Nat, (ws.set k (a, e'))[j]? = some (b, e2) := by
  intro b e2 hb
  have hl := (List.getElem?_eq_some_iff.mp hk).1
  by_cases hab : b = a
  · subst hab
    rw [hup_s] at hb
    cases hb
    exact ⟨k, List.getElem?_set_self hl⟩
  · rw [hup_n hab] at hb
    obtain ⟨j, hj⟩ := hi b e2 hb
    refine ⟨j, ?_⟩
    have hne : k ≠ j := by
      intro q
      subst q
      rw [hk] at hj
      cases hj
      exact hab rfl
    rw [List.getElem?_set_ne hne]
    exact hj
theorem hp_new {h : HM} {ws : va_W} {q : Nat} {e : va_E} (hi : ∀ a e, h a = some e → ∃ k : Nat, ws[k]? = some (a, e)) : ∀ b e2, hup h q e b = some e2 → ∃ j : Nat, (ws ++ [(q, e)])[j]? = some (b, e2) := by
  intro b e2 hb
  by_cases hab : b = q
  · subst hab
    rw [hup_s] at hb
    cases hb
    exact ⟨ws.length, by simp⟩
  · rw [hup_n hab] at hb
    obtain ⟨j, hj⟩ := hi b e2 hb
    exact ⟨j, by rw [List.getElem?_append_left (List.getElem?_eq_some_iff.mp hj).1]; exact hj⟩
abbrev nfW (x : String × Nat × String × String × String × String) : Cond := .fieldLinkNest x.1 x.2.1 x.2.2.1 x.2.2.2.1 x.2.2.2.2.1 x.2.2.2.2.2
abbrev nmW (x : String × Nat × MethodName × String) : Cond := .methodLinkNest x.1 x.2.1 x.2.2.1 x.2.2.2
/-- what every state of the run knows of the tables -/
def St (G : GT) (U : State) : Prop := va_K (G_D G) classes (tysG G) U ∧ (∀ q, U.heap.size ≤ q → G_A G q) ∧ (∀ x ∈ NF, va_Nw (nfW x) U) ∧ (∀ x ∈ NM, va_Nw (nmW x) U) ∧ va_Z "CueBench$FormWriter" "TENS" "[I" (.ref (G_t G)) (G_A G) U U.heap ∧ va_T .int (G_t G) 6 tensV (G_A G) U U.heap ∧ va_AO "CueBench$CueRow" U ∧ va_X (G_b G) (G_n G) (G_x G) U U.heap ∧ G_b G < U.heap.size ∧ ¬ G_A G (G_b G)
theorem St.go {G : GT} {s U : State} {H : Heap} {locs : List Loc} (h : St G s) (hS : va_S (G_A G) s.heap H locs) (hU : U.heap = H) (hW : s.WarmedH U.vm) : St G U := by
  obtain ⟨h1, h2, h3, h4, h5, h6, h7, h8, h9, h10⟩ := h
  refine ⟨va_K.moved hW.alike h1, fun q hq => h2 q (Nat.le_trans hS.1 (by rw [← hU]; exact hq)), fun x hx => va_Nw.warmF hW (h3 x hx), fun x hx => va_Nw.warmM hW (h4 x hx), ?_, ?_, va_AO.moved hW.alike h7, ?_, by rw [hU]; exact Nat.lt_of_lt_of_le h9 hS.1, h10⟩
  · rw [hU]; exact va_Z.moved hW.alike (h5.kept fun a ha hn => hS.2.1 a ha hn)
  · rw [hU]; exact va_T.moved hW.alike (h6.kept fun a ha hn => hS.2.1 a ha hn)
  · rw [hU]; exact va_X.moved hW.alike (h8.kept (hS.2.1 _ h9 h10))
theorem St.blind {G : GT} {U : State} {g : JFrame} {mk : MethodId} {a : Array Value} (h : St G U) : St G (U.calling g mk a) := by
  obtain ⟨h1, h2, h3, h4, h5, h6, h7, h8, h9, h10⟩ := h
  exact ⟨va_K.moved (u := U) (U := U.calling g mk a) (Vm.Alike.refl U.vm) h1, h2, fun x hx => va_Nw.same (U := U.calling g mk a) rfl rfl (h3 x hx), fun x hx => va_Nw.same (U := U.calling g mk a) rfl rfl (h4 x hx), va_Z.moved (u := U) (U := U.calling g mk a) (Vm.Alike.refl U.vm) h5, va_T.moved (u := U) (U := U.calling g mk a) (Vm.Alike.refl U.vm) h6, va_AO.moved (u := U) (U := U.calling g mk a) (Vm.Alike.refl U.vm) h7, va_X.moved (u := U) (U := U.calling g mk a) (Vm.Alike.refl U.vm) h8, h9, h10⟩
def Cx (G : GT) (M : MT) (p : Program) (s : State) (m : MethodId) (args : Array Value) (meth : Method) (c : Code) : Prop :=
  p.tables.exec = Jvm.exec ∧ c.code = M.2.1 ∧ c.maxLocals = M.2.2.1 ∧ meth.sig.returnType = M.2.2.2 ∧ (∀ w ∈ Wall, w.before args s = true) ∧ s.vm.findClass M.1.cls = some m.cls ∧ meth.locks = false ∧ meth.name = M.1.name ∧ St G s
def EQ (G : GT) (Q : Option Value → HM → Prop) : Array Value → State → Outcome → State → Prop := fun _ st oc t => (∃ (r : Option Value) (h : HM), oc = .returned r ∧ Q r h ∧ Hp G h t.heap) ∧ va_F (G_A G) st t
def Ev (G : GT) (M : MT) (R : Room) (Q : Option Value → HM → Prop) (pc : Nat) (L : List (Nat × Value)) (st : List Value) (h : HM) (k n : Nat) : Prop :=
  ∀ (p : Program) (e : Env) (s : State) (m : MethodId) (args : Array Value) (below : List Frame) (meth : Method) (c : Code) (H : Heap) (locs : List Loc) (ls : Array Slot),
    Cx G M p s m args meth c → lv_has ls M.2.2.1 L → Hp G h H → va_S (G_A G) s.heap H locs →
    W p (G_l G) e R s m args below meth c H locs k n (MQ below (EQ G Q) args s R.cells R.slots (G_A G)) (F0 m pc ls st)
def wsM (M : MT) : List Cond := Cond.code M.1 M.2.1 M.2.2.1 M.2.2.2 :: Wall
/-- a method's contract at these arguments and this heap -/
def Rn (G : GT) (M : MT) (R : Room) (av : List Value) (h : HM) (Q : Option Value → HM → Prop) : Prop :=
  Met (G_l G) M.1 (wsM M) R (va_Pc av (fun U => Hp G h U.heap ∧ St G U)) (EQ G Q) R.cells R.slots (G_A G)
theorem rn_of {G : GT} {M : MT} {R : Room} {av : List Value} {h : HM} {Q : Option Value → HM → Prop} (hy : plainName M.1.cls = true) (hlen : (lg_sl av).length ≤ M.2.2.1) (k : Ev G M R Q 0 (lv_args 0 av) [] h 0 0) : Rn G M R av h Q := by
  refine Met.ofW (cc := M.2.1) (maxL := M.2.2.1) (ret := M.2.2.2) hy rfl ?_
  intro p e s m args below meth c s₁ B hml hv
  obtain ⟨rfl, hH, hSt⟩ := hv
  have hts := atoms_spec (ws := wsM M) B.pre
  have hl := lv_entry av hlen
  rw [lg_entry_eq]
  exact k p e s m _ below meth c s.heap [] _ ⟨B.exec, B.bytes, hml, B.returns, fun w hw => hts w (List.mem_cons_of_mem _ hw), findClass_of_methodNamed B.named, B.notSynchronized, (name_of_methodNamed B.named B.method).1, hSt⟩ hl hH va_S.rf
/-- what is promised may be weakened -/
theorem rn_mono {G : GT} {M : MT} {R : Room} {av : List Value} {h : HM} {Q Q' : Option Value → HM → Prop} (k : Rn G M R av h Q) (hq : ∀ r h', Q r h' → Q' r h') : Rn G M R av h Q' := by
  intro p e ha hc hk s m args below hf happ hpc hK
  obtain ⟨n, o, h1, h2, h3, ⟨⟨r, h', e1, e2, e3⟩, e4⟩, e5⟩ := k p e ha hc hk s m args below hf happ hpc hK
  exact ⟨n, o, h1, h2, h3, ⟨⟨r, h', e1, hq r h' e2, e3⟩, e4⟩, e5⟩
theorem ev_mono {G : GT} {M : MT} {R : Room} {Q Q' : Option Value → HM → Prop} {pc : Nat} {L : List (Nat × Value)} {st : List Value} {h : HM} {k n : Nat} (hq : ∀ r h', Q r h' → Q' r h') (kk : Ev G M R Q pc L st h k n) : Ev G M R Q' pc L st h k n := by
  intro p e s m args below meth c H locs ls cx hl hH hS T hT X
  obtain ⟨t, a1, o, b1, b2, ⟨⟨r, h', e1, e2, e3⟩, e4⟩, b4⟩ := kk p e s m args below meth c H locs ls cx hl hH hS T hT X
  exact ⟨t, a1, o, b1, b2, ⟨⟨r, h', e1, hq r h' e2, e3⟩, e4⟩, b4⟩
def lkp : List (Nat × Value) → Nat → Option Value
  | [], _ => none
  | (j, v) :: l, i => if j = i then some v else lkp l i
theorem lkp_mem {l : List (Nat × Value)} {i : Nat} {v : Value} (h : lkp l i = some v) : (i, v) ∈ l := by
  induction l with
  | nil => cases h
  | cons x l ih =>
    obtain ⟨j, w⟩ := x
    unfold lkp at h
    split at h
    · rename_i hj
      cases h
      subst hj
      exact List.mem_cons_self
    · exact List.mem_cons_of_mem _ (ih h)
theorem lkp_at {ls : Array Slot} {n : Nat} {l : List (Nat × Value)} {i : Nat} {v : Value} (hl : lv_has ls n l) (h : lkp l i = some v) : ls[i]? = some (.val v) := hl.2.2 (i, v) (lkp_mem h)
def lins (i : Nat) (v : Value) : List (Nat × Value) → List (Nat × Value)
  | [] => [(i, v)]
  | (j, w) :: l => if i < j then (i, v) :: (j, w) :: l else (j, w) :: lins i v l
theorem lins_mem {i : Nat} {v : Value} {l : List (Nat × Value)} : ∀ q ∈ lins i v l, q ∈ (i, v) :: l := by
  induction l with
  | nil => intro q hq; exact hq
  | cons x l ih =>
    obtain ⟨j, w⟩ := x
    intro q hq
    unfold lins at hq
    split at hq
    · exact hq
    · rcases List.mem_cons.mp hq with rfl | hq
      · exact List.mem_cons_of_mem _ List.mem_cons_self
      · rcases List.mem_cons.mp (ih q hq) with rfl | h
        · exact List.mem_cons_self
        · exact List.mem_cons_of_mem _ (List.mem_cons_of_mem _ h)
abbrev lcut1 (i : Nat) (L : List (Nat × Value)) : List (Nat × Value) := L.filter (fun q => !(q.1 == i) && !(q.1 + 1 == i && q.2.category == 2))
abbrev lcut2 (i : Nat) (L : List (Nat × Value)) : List (Nat × Value) := L.filter (fun q => !(q.1 == i) && (!(q.1 == i + 1) && !(q.1 + 1 == i && q.2.category == 2)))
theorem lv_ins {ls : Array Slot} {n i : Nat} {v : Value} {l l' : List (Nat × Value)} (hl : lv_has ls n ((i, v) :: l)) (h : lins i v l = l') : lv_has ls n l' := ⟨hl.1, hl.2.1, fun q hq => hl.2.2 q (lins_mem q (by rw [h]; exact hq))⟩
theorem ev_loc {G : GT} {M : MT} {R : Room} {Q : Option Value → HM → Prop} {pc : Nat} {L : List (Nat × Value)} {st : List Value} {h : HM} {k n : Nat} (L2 : List (Nat × Value)) (hs : ∀ q ∈ L2, q ∈ L) (kk : Ev G M R Q pc L2 st h k n) : Ev G M R Q pc L st h k n := by
  intro p e s m args below meth c H locs ls cx hl hH hS
  exact kk p e s m args below meth c H locs ls cx ⟨hl.1, hl.2.1, fun q hq => hl.2.2 q (hs q hq)⟩ hH hS
theorem ev_widen {G : GT} {M : MT} {R : Room} {Q : Option Value → HM → Prop} {pc : Nat} {L : List (Nat × Value)} {st : List Value} {h : HM} {k n : Nat} (k2 n2 : Nat) (h1 : k ≤ k2) (h2 : n ≤ n2) (kk : Ev G M R Q pc L st h k2 n2) : Ev G M R Q pc L st h k n := by
  intro p e s m args below meth c H locs ls cx hl hH hS
  exact W.widen h1 h2 (kk p e s m args below meth c H locs ls cx hl hH hS)
/-- fewer known cells -/
theorem ev_heap {G : GT} {M : MT} {R : Room} {Q : Option Value → HM → Prop} {pc : Nat} {L : List (Nat × Value)} {st : List Value} {h : HM} {k n : Nat} (h2 : HM) (hs : ∀ a e, h2 a = some e → h a = some e) (kk : Ev G M R Q pc L st h2 k n) : Ev G M R Q pc L st h k n := by
  intro p e s m args below meth c H locs ls cx hl hH hS
  obtain ⟨ws, w1, w2⟩ := hH
  exact kk p e s m args below meth c H locs ls cx hl ⟨ws, fun a e he => w1 a e (hs a e he), w2⟩ hS
section EVROWS
variable {G : GT} {M : MT} {R : Room} {Q : Option Value → HM → Prop} {pc : Nat} {L L' : List (Nat × Value)} {st : List Value} {h : HM} {k n : Nat}
theorem ev_iconst {z : Int} {v : Int32} (d : decode M.2.1 pc = .ok (.iconst z, 1)) (hv : Int32.ofInt z = v) (kk : Ev G M R Q (pc + 1) L (.int v :: st) h k n) : Ev G M R Q pc L (st) h k n := by
  intro p e s m args below meth c H locs ls cx hl hH hS
  exact lv_iconst cx.1 cx.2.1 d hv (kk p e s m args below meth c H locs ls cx hl hH hS)
theorem ev_bipush {z : Int} {v : Int32} (d : decode M.2.1 pc = .ok (.bipush z, 2)) (hv : (Int8.ofInt z).toInt32 = v) (kk : Ev G M R Q (pc + 2) L (.int v :: st) h k n) : Ev G M R Q pc L (st) h k n := by
  intro p e s m args below meth c H locs ls cx hl hH hS
  exact lv_bipush cx.1 cx.2.1 d hv (kk p e s m args below meth c H locs ls cx hl hH hS)
theorem ev_sipush {z : Int} {v : Int32} (d : decode M.2.1 pc = .ok (.sipush z, 3)) (hv : (Int16.ofInt z).toInt32 = v) (kk : Ev G M R Q (pc + 3) L (.int v :: st) h k n) : Ev G M R Q pc L (st) h k n := by
  intro p e s m args below meth c H locs ls cx hl hH hS
  exact lv_sipush cx.1 cx.2.1 d hv (kk p e s m args below meth c H locs ls cx hl hH hS)
theorem ev_lconst {z : Fin 2} {v : Int64} (d : decode M.2.1 pc = .ok (.lconst z, 1)) (hv : Int64.ofNat (z : Nat) = v) (kk : Ev G M R Q (pc + 1) L (.long v :: st) h k n) : Ev G M R Q pc L (st) h k n := by
  intro p e s m args below meth c H locs ls cx hl hH hS
  exact lv_lconst cx.1 cx.2.1 d hv (kk p e s m args below meth c H locs ls cx hl hH hS)
theorem ev_iload_n {j : Fin 4} {i : Nat} {x : Int32} (d : decode M.2.1 pc = .ok (.iload_n j, 1)) (hi : (j : Nat) = i) (hx : lkp L i = some (.int x)) (kk : Ev G M R Q (pc + 1) L (.int x :: st) h k n) : Ev G M R Q pc L (st) h k n := by
  intro p e s m args below meth c H locs ls cx hl hH hS
  exact lv_iload_n cx.1 cx.2.1 d hi (lkp_at hl hx) (kk p e s m args below meth c H locs ls cx hl hH hS)
theorem ev_iload {i : Nat} {x : Int32} (d : decode M.2.1 pc = .ok (.iload i, 2)) (hx : lkp L i = some (.int x)) (kk : Ev G M R Q (pc + 2) L (.int x :: st) h k n) : Ev G M R Q pc L (st) h k n := by
  intro p e s m args below meth c H locs ls cx hl hH hS
  exact lv_iload cx.1 cx.2.1 d (lkp_at hl hx) (kk p e s m args below meth c H locs ls cx hl hH hS)
theorem ev_istore_n {j : Fin 4} {i : Nat} {x : Int32} (d : decode M.2.1 pc = .ok (.istore_n j, 1)) (hi : (j : Nat) = i) (hn : i < M.2.2.1) (hL : lins i (Value.int x) (lcut1 i L) = L') (kk : Ev G M R Q (pc + 1) L' st h k n) : Ev G M R Q pc L (.int x :: st) h k n := by
  intro p e s m args below meth c H locs ls cx hl hH hS
  exact lv_istore_n cx.1 cx.2.1 d hi hl hn rfl (fun ls2 hl2 => kk p e s m args below meth c H locs ls2 cx (lv_ins hl2 hL) hH hS)
theorem ev_istore {i : Nat} {x : Int32} (d : decode M.2.1 pc = .ok (.istore i, 2)) (hn : i < M.2.2.1) (hL : lins i (Value.int x) (lcut1 i L) = L') (kk : Ev G M R Q (pc + 2) L' st h k n) : Ev G M R Q pc L (.int x :: st) h k n := by
  intro p e s m args below meth c H locs ls cx hl hH hS
  exact lv_istore cx.1 cx.2.1 d hl hn rfl (fun ls2 hl2 => kk p e s m args below meth c H locs ls2 cx (lv_ins hl2 hL) hH hS)
theorem ev_lload_n {j : Fin 4} {i : Nat} {x : Int64} (d : decode M.2.1 pc = .ok (.lload_n j, 1)) (hi : (j : Nat) = i) (hx : lkp L i = some (.long x)) (kk : Ev G M R Q (pc + 1) L (.long x :: st) h k n) : Ev G M R Q pc L (st) h k n := by
  intro p e s m args below meth c H locs ls cx hl hH hS
  exact lv_lload_n cx.1 cx.2.1 d hi (lkp_at hl hx) (kk p e s m args below meth c H locs ls cx hl hH hS)
theorem ev_lload {i : Nat} {x : Int64} (d : decode M.2.1 pc = .ok (.lload i, 2)) (hx : lkp L i = some (.long x)) (kk : Ev G M R Q (pc + 2) L (.long x :: st) h k n) : Ev G M R Q pc L (st) h k n := by
  intro p e s m args below meth c H locs ls cx hl hH hS
  exact lv_lload cx.1 cx.2.1 d (lkp_at hl hx) (kk p e s m args below meth c H locs ls cx hl hH hS)
theorem ev_lstore_n {j : Fin 4} {i : Nat} {x : Int64} (d : decode M.2.1 pc = .ok (.lstore_n j, 1)) (hi : (j : Nat) = i) (hn : i + 1 < M.2.2.1) (hL : lins i (Value.long x) (lcut2 i L) = L') (kk : Ev G M R Q (pc + 1) L' st h k n) : Ev G M R Q pc L (.long x :: st) h k n := by
  intro p e s m args below meth c H locs ls cx hl hH hS
  exact lv_lstore_n cx.1 cx.2.1 d hi hl hn rfl (fun ls2 hl2 => kk p e s m args below meth c H locs ls2 cx (lv_ins hl2 hL) hH hS)
theorem ev_lstore {i : Nat} {x : Int64} (d : decode M.2.1 pc = .ok (.lstore i, 2)) (hn : i + 1 < M.2.2.1) (hL : lins i (Value.long x) (lcut2 i L) = L') (kk : Ev G M R Q (pc + 2) L' st h k n) : Ev G M R Q pc L (.long x :: st) h k n := by
  intro p e s m args below meth c H locs ls cx hl hH hS
  exact lv_lstore cx.1 cx.2.1 d hl hn rfl (fun ls2 hl2 => kk p e s m args below meth c H locs ls2 cx (lv_ins hl2 hL) hH hS)
theorem ev_aload_n {j : Fin 4} {i : Nat} {x : Nat} (d : decode M.2.1 pc = .ok (.aload_n j, 1)) (hi : (j : Nat) = i) (hx : lkp L i = some (.ref x)) (kk : Ev G M R Q (pc + 1) L (.ref x :: st) h k n) : Ev G M R Q pc L (st) h k n := by
  intro p e s m args below meth c H locs ls cx hl hH hS
  exact lv_aload_n cx.1 cx.2.1 d hi (lkp_at hl hx) (kk p e s m args below meth c H locs ls cx hl hH hS)
theorem ev_aload {i : Nat} {x : Nat} (d : decode M.2.1 pc = .ok (.aload i, 2)) (hx : lkp L i = some (.ref x)) (kk : Ev G M R Q (pc + 2) L (.ref x :: st) h k n) : Ev G M R Q pc L (st) h k n := by
  intro p e s m args below meth c H locs ls cx hl hH hS
  exact lv_aload cx.1 cx.2.1 d (lkp_at hl hx) (kk p e s m args below meth c H locs ls cx hl hH hS)
theorem ev_astore_n {j : Fin 4} {i : Nat} {x : Nat} (d : decode M.2.1 pc = .ok (.astore_n j, 1)) (hi : (j : Nat) = i) (hn : i < M.2.2.1) (hL : lins i (Value.ref x) (lcut1 i L) = L') (kk : Ev G M R Q (pc + 1) L' st h k n) : Ev G M R Q pc L (.ref x :: st) h k n := by
  intro p e s m args below meth c H locs ls cx hl hH hS
  exact lv_astore_n cx.1 cx.2.1 d hi hl hn rfl (fun ls2 hl2 => kk p e s m args below meth c H locs ls2 cx (lv_ins hl2 hL) hH hS)
theorem ev_astore {i : Nat} {x : Nat} (d : decode M.2.1 pc = .ok (.astore i, 2)) (hn : i < M.2.2.1) (hL : lins i (Value.ref x) (lcut1 i L) = L') (kk : Ev G M R Q (pc + 2) L' st h k n) : Ev G M R Q pc L (.ref x :: st) h k n := by
  intro p e s m args below meth c H locs ls cx hl hH hS
  exact lv_astore cx.1 cx.2.1 d hl hn rfl (fun ls2 hl2 => kk p e s m args below meth c H locs ls2 cx (lv_ins hl2 hL) hH hS)
theorem ev_iinc {i : Nat} {z : Int} {x v : Int32} (d : decode M.2.1 pc = .ok (.iinc i z, 3)) (hx : lkp L i = some (.int x)) (hv : x + Int32.ofInt z = v) (hn : i < M.2.2.1) (hL : lins i (Value.int v) (lcut1 i L) = L') (kk : Ev G M R Q (pc + 3) L' st h k n) : Ev G M R Q pc L st h k n := by
  intro p e s m args below meth c H locs ls cx hl hH hS
  obtain ⟨j, hj⟩ := List.getElem?_of_mem (lkp_mem hx)
  exact lv_iinc cx.1 cx.2.1 d hl hj hv hn rfl (fun ls2 hl2 => kk p e s m args below meth c H locs ls2 cx (lv_ins hl2 hL) hH hS)
theorem ev_iadd {x y : Int32} (d : decode M.2.1 pc = .ok (.iadd, 1))  (kk : Ev G M R Q (pc + 1) L (.int (x + y) :: st) h k n) : Ev G M R Q pc L (.int y :: .int x :: st) h k n := by
  intro p e s m args below meth c H locs ls cx hl hH hS
  exact lv_iadd cx.1 cx.2.1 d  (kk p e s m args below meth c H locs ls cx hl hH hS)
theorem ev_isub {x y : Int32} (d : decode M.2.1 pc = .ok (.isub, 1))  (kk : Ev G M R Q (pc + 1) L (.int (x - y) :: st) h k n) : Ev G M R Q pc L (.int y :: .int x :: st) h k n := by
  intro p e s m args below meth c H locs ls cx hl hH hS
  exact lv_isub cx.1 cx.2.1 d  (kk p e s m args below meth c H locs ls cx hl hH hS)
theorem ev_imul {x y : Int32} (d : decode M.2.1 pc = .ok (.imul, 1))  (kk : Ev G M R Q (pc + 1) L (.int (x * y) :: st) h k n) : Ev G M R Q pc L (.int y :: .int x :: st) h k n := by
  intro p e s m args below meth c H locs ls cx hl hH hS
  exact lv_imul cx.1 cx.2.1 d  (kk p e s m args below meth c H locs ls cx hl hH hS)
theorem ev_iand {x y : Int32} (d : decode M.2.1 pc = .ok (.iand, 1))  (kk : Ev G M R Q (pc + 1) L (.int (x &&& y) :: st) h k n) : Ev G M R Q pc L (.int y :: .int x :: st) h k n := by
  intro p e s m args below meth c H locs ls cx hl hH hS
  exact lv_iand cx.1 cx.2.1 d  (kk p e s m args below meth c H locs ls cx hl hH hS)
theorem ev_idiv {x y : Int32} (d : decode M.2.1 pc = .ok (.idiv, 1)) (hne : ¬ y = 0) (kk : Ev G M R Q (pc + 1) L (.int (x / y) :: st) h k n) : Ev G M R Q pc L (.int y :: .int x :: st) h k n := by
  intro p e s m args below meth c H locs ls cx hl hH hS
  exact lv_idiv cx.1 cx.2.1 d hne (kk p e s m args below meth c H locs ls cx hl hH hS)
theorem ev_irem {x y : Int32} (d : decode M.2.1 pc = .ok (.irem, 1)) (hne : ¬ y = 0) (kk : Ev G M R Q (pc + 1) L (.int (x - x / y * y) :: st) h k n) : Ev G M R Q pc L (.int y :: .int x :: st) h k n := by
  intro p e s m args below meth c H locs ls cx hl hH hS
  exact lv_irem cx.1 cx.2.1 d hne (kk p e s m args below meth c H locs ls cx hl hH hS)
theorem ev_ladd {x y : Int64} (d : decode M.2.1 pc = .ok (.ladd, 1))  (kk : Ev G M R Q (pc + 1) L (.long (x + y) :: st) h k n) : Ev G M R Q pc L (.long y :: .long x :: st) h k n := by
  intro p e s m args below meth c H locs ls cx hl hH hS
  exact lv_ladd cx.1 cx.2.1 d  (kk p e s m args below meth c H locs ls cx hl hH hS)
theorem ev_lsub {x y : Int64} (d : decode M.2.1 pc = .ok (.lsub, 1))  (kk : Ev G M R Q (pc + 1) L (.long (x - y) :: st) h k n) : Ev G M R Q pc L (.long y :: .long x :: st) h k n := by
  intro p e s m args below meth c H locs ls cx hl hH hS
  exact lv_lsub cx.1 cx.2.1 d  (kk p e s m args below meth c H locs ls cx hl hH hS)
theorem ev_lmul {x y : Int64} (d : decode M.2.1 pc = .ok (.lmul, 1))  (kk : Ev G M R Q (pc + 1) L (.long (x * y) :: st) h k n) : Ev G M R Q pc L (.long y :: .long x :: st) h k n := by
  intro p e s m args below meth c H locs ls cx hl hH hS
  exact lv_lmul cx.1 cx.2.1 d  (kk p e s m args below meth c H locs ls cx hl hH hS)
theorem ev_land {x y : Int64} (d : decode M.2.1 pc = .ok (.land, 1))  (kk : Ev G M R Q (pc + 1) L (.long (x &&& y) :: st) h k n) : Ev G M R Q pc L (.long y :: .long x :: st) h k n := by
  intro p e s m args below meth c H locs ls cx hl hH hS
  exact lv_land cx.1 cx.2.1 d  (kk p e s m args below meth c H locs ls cx hl hH hS)
theorem ev_lor {x y : Int64} (d : decode M.2.1 pc = .ok (.lor, 1))  (kk : Ev G M R Q (pc + 1) L (.long (x ||| y) :: st) h k n) : Ev G M R Q pc L (.long y :: .long x :: st) h k n := by
  intro p e s m args below meth c H locs ls cx hl hH hS
  exact lv_lor cx.1 cx.2.1 d  (kk p e s m args below meth c H locs ls cx hl hH hS)
theorem ev_lxor {x y : Int64} (d : decode M.2.1 pc = .ok (.lxor, 1))  (kk : Ev G M R Q (pc + 1) L (.long (x ^^^ y) :: st) h k n) : Ev G M R Q pc L (.long y :: .long x :: st) h k n := by
  intro p e s m args below meth c H locs ls cx hl hH hS
  exact lv_lxor cx.1 cx.2.1 d  (kk p e s m args below meth c H locs ls cx hl hH hS)
theorem ev_ldiv {x y : Int64} (d : decode M.2.1 pc = .ok (.ldiv, 1)) (hne : ¬ y = 0) (kk : Ev G M R Q (pc + 1) L (.long (x / y) :: st) h k n) : Ev G M R Q pc L (.long y :: .long x :: st) h k n := by
  intro p e s m args below meth c H locs ls cx hl hH hS
  exact lv_ldiv cx.1 cx.2.1 d hne (kk p e s m args below meth c H locs ls cx hl hH hS)
theorem ev_lrem {x y : Int64} (d : decode M.2.1 pc = .ok (.lrem, 1)) (hne : ¬ y = 0) (kk : Ev G M R Q (pc + 1) L (.long (x - x / y * y) :: st) h k n) : Ev G M R Q pc L (.long y :: .long x :: st) h k n := by
  intro p e s m args below meth c H locs ls cx hl hH hS
  exact lv_lrem cx.1 cx.2.1 d hne (kk p e s m args below meth c H locs ls cx hl hH hS)
theorem ev_ineg {x : Int32} (d : decode M.2.1 pc = .ok (.ineg, 1))  (kk : Ev G M R Q (pc + 1) L (.int (-x) :: st) h k n) : Ev G M R Q pc L (.int x :: st) h k n := by
  intro p e s m args below meth c H locs ls cx hl hH hS
  exact lv_ineg cx.1 cx.2.1 d  (kk p e s m args below meth c H locs ls cx hl hH hS)
theorem ev_i2l {x : Int32} (d : decode M.2.1 pc = .ok (.i2l, 1))  (kk : Ev G M R Q (pc + 1) L (.long x.toInt64 :: st) h k n) : Ev G M R Q pc L (.int x :: st) h k n := by
  intro p e s m args below meth c H locs ls cx hl hH hS
  exact lv_i2l cx.1 cx.2.1 d rfl (kk p e s m args below meth c H locs ls cx hl hH hS)
theorem ev_l2i {x : Int64} (d : decode M.2.1 pc = .ok (.l2i, 1))  (kk : Ev G M R Q (pc + 1) L (.int x.toInt32 :: st) h k n) : Ev G M R Q pc L (.long x :: st) h k n := by
  intro p e s m args below meth c H locs ls cx hl hH hS
  exact lv_l2i cx.1 cx.2.1 d rfl (kk p e s m args below meth c H locs ls cx hl hH hS)
theorem ev_lushr {x : Int64} {y : Int32} (d : decode M.2.1 pc = .ok (.lushr, 1))  (kk : Ev G M R Q (pc + 1) L (.long (x.toUInt64 >>> (y.toInt64.toUInt64 &&& Int64.toUInt64 63)).toInt64 :: st) h k n) : Ev G M R Q pc L (.int y :: .long x :: st) h k n := by
  intro p e s m args below meth c H locs ls cx hl hH hS
  exact lv_lushr cx.1 cx.2.1 d rfl (kk p e s m args below meth c H locs ls cx hl hH hS)
theorem ev_lshl {x : Int64} {y : Int32} (d : decode M.2.1 pc = .ok (.lshl, 1))  (kk : Ev G M R Q (pc + 1) L (.long (x <<< (y.toInt64 &&& 63)) :: st) h k n) : Ev G M R Q pc L (.int y :: .long x :: st) h k n := by
  intro p e s m args below meth c H locs ls cx hl hH hS
  exact lv_lshl cx.1 cx.2.1 d rfl (kk p e s m args below meth c H locs ls cx hl hH hS)
theorem ev_lshr {x : Int64} {y : Int32} (d : decode M.2.1 pc = .ok (.lshr, 1))  (kk : Ev G M R Q (pc + 1) L (.long (x >>> (y.toInt64 &&& 63)) :: st) h k n) : Ev G M R Q pc L (.int y :: .long x :: st) h k n := by
  intro p e s m args below meth c H locs ls cx hl hH hS
  exact lv_lshr cx.1 cx.2.1 d rfl (kk p e s m args below meth c H locs ls cx hl hH hS)
theorem ev_lcmp {x y : Int64} (d : decode M.2.1 pc = .ok (.lcmp, 1))  (kk : Ev G M R Q (pc + 1) L (.int (lg_cmp x y) :: st) h k n) : Ev G M R Q pc L (.long y :: .long x :: st) h k n := by
  intro p e s m args below meth c H locs ls cx hl hH hS
  exact W.lcmp cx.1 cx.2.1 d  (kk p e s m args below meth c H locs ls cx hl hH hS)
theorem ev_dup {v : Value} (d : decode M.2.1 pc = .ok (.dup, 1)) (hv : v.category = 1) (kk : Ev G M R Q (pc + 1) L (v :: v :: st) h k n) : Ev G M R Q pc L (v :: st) h k n := by
  intro p e s m args below meth c H locs ls cx hl hH hS
  exact lv_dup cx.1 cx.2.1 d hv (kk p e s m args below meth c H locs ls cx hl hH hS)
theorem ev_pop {v : Value} (d : decode M.2.1 pc = .ok (.pop, 1)) (hv : v.category = 1) (kk : Ev G M R Q (pc + 1) L (st) h k n) : Ev G M R Q pc L (v :: st) h k n := by
  intro p e s m args below meth c H locs ls cx hl hH hS
  exact lv_pop cx.1 cx.2.1 d hv (kk p e s m args below meth c H locs ls cx hl hH hS)
theorem ev_dup_x1 {v w : Value} (d : decode M.2.1 pc = .ok (.dup_x1, 1)) (hv : v.category = 1) (hw : w.category = 1) (kk : Ev G M R Q (pc + 1) L (v :: w :: v :: st) h k n) : Ev G M R Q pc L (v :: w :: st) h k n := by
  intro p e s m args below meth c H locs ls cx hl hH hS
  exact lv_dup_x1 cx.1 cx.2.1 d hv hw (kk p e s m args below meth c H locs ls cx hl hH hS)
theorem ev_dup2_11 {v w : Value} (d : decode M.2.1 pc = .ok (.dup2, 1)) (hv : v.category = 1) (hw : w.category = 1) (kk : Ev G M R Q (pc + 1) L (v :: w :: v :: w :: st) h k n) : Ev G M R Q pc L (v :: w :: st) h k n := by
  intro p e s m args below meth c H locs ls cx hl hH hS
  exact lv_dup2_11 cx.1 cx.2.1 d hv hw (kk p e s m args below meth c H locs ls cx hl hH hS)
theorem ev_dup2_2 {v : Value} (d : decode M.2.1 pc = .ok (.dup2, 1)) (hv : v.category = 2) (kk : Ev G M R Q (pc + 1) L (v :: v :: st) h k n) : Ev G M R Q pc L (v :: st) h k n := by
  intro p e s m args below meth c H locs ls cx hl hH hS
  exact lv_dup2_2 cx.1 cx.2.1 d hv (kk p e s m args below meth c H locs ls cx hl hH hS)
theorem ev_if_eq {x : Int32} {off : Int} {tgt : Nat} (d : decode M.2.1 pc = .ok (.ifCond .eq off, 3)) (ht : (pc : Int) + off = (tgt : Int)) (kt : x = 0 → Ev G M R Q tgt L st h k n) (kf : ¬ (x = 0) → Ev G M R Q (pc + 3) L st h k n) : Ev G M R Q pc L (.int x :: st) h k n := by
  intro p e s m args below meth c H locs ls cx hl hH hS
  exact lv_if_eq cx.1 cx.2.1 d ht (fun q => kt q p e s m args below meth c H locs ls cx hl hH hS) (fun q => kf q p e s m args below meth c H locs ls cx hl hH hS)
theorem ev_icmp_eq {x y : Int32} {off : Int} {tgt : Nat} (d : decode M.2.1 pc = .ok (.if_icmp .eq off, 3)) (ht : (pc : Int) + off = (tgt : Int)) (kt : x = y → Ev G M R Q tgt L st h k n) (kf : ¬ (x = y) → Ev G M R Q (pc + 3) L st h k n) : Ev G M R Q pc L (.int y :: .int x :: st) h k n := by
  intro p e s m args below meth c H locs ls cx hl hH hS
  exact lv_icmp_eq cx.1 cx.2.1 d ht (fun q => kt q p e s m args below meth c H locs ls cx hl hH hS) (fun q => kf q p e s m args below meth c H locs ls cx hl hH hS)
theorem ev_if_ne {x : Int32} {off : Int} {tgt : Nat} (d : decode M.2.1 pc = .ok (.ifCond .ne off, 3)) (ht : (pc : Int) + off = (tgt : Int)) (kt : ¬ x = 0 → Ev G M R Q tgt L st h k n) (kf : x = 0 → Ev G M R Q (pc + 3) L st h k n) : Ev G M R Q pc L (.int x :: st) h k n := by
  intro p e s m args below meth c H locs ls cx hl hH hS
  exact lv_if_ne cx.1 cx.2.1 d ht (fun q => kt q p e s m args below meth c H locs ls cx hl hH hS) (fun q => kf q p e s m args below meth c H locs ls cx hl hH hS)
theorem ev_icmp_ne {x y : Int32} {off : Int} {tgt : Nat} (d : decode M.2.1 pc = .ok (.if_icmp .ne off, 3)) (ht : (pc : Int) + off = (tgt : Int)) (kt : ¬ x = y → Ev G M R Q tgt L st h k n) (kf : x = y → Ev G M R Q (pc + 3) L st h k n) : Ev G M R Q pc L (.int y :: .int x :: st) h k n := by
  intro p e s m args below meth c H locs ls cx hl hH hS
  exact lv_icmp_ne cx.1 cx.2.1 d ht (fun q => kt q p e s m args below meth c H locs ls cx hl hH hS) (fun q => kf q p e s m args below meth c H locs ls cx hl hH hS)
theorem ev_if_lt {x : Int32} {off : Int} {tgt : Nat} (d : decode M.2.1 pc = .ok (.ifCond .lt off, 3)) (ht : (pc : Int) + off = (tgt : Int)) (kt : x < 0 → Ev G M R Q tgt L st h k n) (kf : ¬ (x < 0) → Ev G M R Q (pc + 3) L st h k n) : Ev G M R Q pc L (.int x :: st) h k n := by
  intro p e s m args below meth c H locs ls cx hl hH hS
  exact lv_if_lt cx.1 cx.2.1 d ht (fun q => kt q p e s m args below meth c H locs ls cx hl hH hS) (fun q => kf q p e s m args below meth c H locs ls cx hl hH hS)
theorem ev_icmp_lt {x y : Int32} {off : Int} {tgt : Nat} (d : decode M.2.1 pc = .ok (.if_icmp .lt off, 3)) (ht : (pc : Int) + off = (tgt : Int)) (kt : x < y → Ev G M R Q tgt L st h k n) (kf : ¬ (x < y) → Ev G M R Q (pc + 3) L st h k n) : Ev G M R Q pc L (.int y :: .int x :: st) h k n := by
  intro p e s m args below meth c H locs ls cx hl hH hS
  exact lv_icmp_lt cx.1 cx.2.1 d ht (fun q => kt q p e s m args below meth c H locs ls cx hl hH hS) (fun q => kf q p e s m args below meth c H locs ls cx hl hH hS)
theorem ev_if_ge {x : Int32} {off : Int} {tgt : Nat} (d : decode M.2.1 pc = .ok (.ifCond .ge off, 3)) (ht : (pc : Int) + off = (tgt : Int)) (kt : 0 ≤ x → Ev G M R Q tgt L st h k n) (kf : ¬ (0 ≤ x) → Ev G M R Q (pc + 3) L st h k n) : Ev G M R Q pc L (.int x :: st) h k n := by
  intro p e s m args below meth c H locs ls cx hl hH hS
  exact lv_if_ge cx.1 cx.2.1 d ht (fun q => kt q p e s m args below meth c H locs ls cx hl hH hS) (fun q => kf q p e s m args below meth c H locs ls cx hl hH hS)
theorem ev_icmp_ge {x y : Int32} {off : Int} {tgt : Nat} (d : decode M.2.1 pc = .ok (.if_icmp .ge off, 3)) (ht : (pc : Int) + off = (tgt : Int)) (kt : y ≤ x → Ev G M R Q tgt L st h k n) (kf : ¬ (y ≤ x) → Ev G M R Q (pc + 3) L st h k n) : Ev G M R Q pc L (.int y :: .int x :: st) h k n := by
  intro p e s m args below meth c H locs ls cx hl hH hS
  exact lv_icmp_ge cx.1 cx.2.1 d ht (fun q => kt q p e s m args below meth c H locs ls cx hl hH hS) (fun q => kf q p e s m args below meth c H locs ls cx hl hH hS)
theorem ev_if_gt {x : Int32} {off : Int} {tgt : Nat} (d : decode M.2.1 pc = .ok (.ifCond .gt off, 3)) (ht : (pc : Int) + off = (tgt : Int)) (kt : 0 < x → Ev G M R Q tgt L st h k n) (kf : ¬ (0 < x) → Ev G M R Q (pc + 3) L st h k n) : Ev G M R Q pc L (.int x :: st) h k n := by
  intro p e s m args below meth c H locs ls cx hl hH hS
  exact lv_if_gt cx.1 cx.2.1 d ht (fun q => kt q p e s m args below meth c H locs ls cx hl hH hS) (fun q => kf q p e s m args below meth c H locs ls cx hl hH hS)
theorem ev_icmp_gt {x y : Int32} {off : Int} {tgt : Nat} (d : decode M.2.1 pc = .ok (.if_icmp .gt off, 3)) (ht : (pc : Int) + off = (tgt : Int)) (kt : y < x → Ev G M R Q tgt L st h k n) (kf : ¬ (y < x) → Ev G M R Q (pc + 3) L st h k n) : Ev G M R Q pc L (.int y :: .int x :: st) h k n := by
  intro p e s m args below meth c H locs ls cx hl hH hS
  exact lv_icmp_gt cx.1 cx.2.1 d ht (fun q => kt q p e s m args below meth c H locs ls cx hl hH hS) (fun q => kf q p e s m args below meth c H locs ls cx hl hH hS)
theorem ev_if_le {x : Int32} {off : Int} {tgt : Nat} (d : decode M.2.1 pc = .ok (.ifCond .le off, 3)) (ht : (pc : Int) + off = (tgt : Int)) (kt : x ≤ 0 → Ev G M R Q tgt L st h k n) (kf : ¬ (x ≤ 0) → Ev G M R Q (pc + 3) L st h k n) : Ev G M R Q pc L (.int x :: st) h k n := by
  intro p e s m args below meth c H locs ls cx hl hH hS
  exact lv_if_le cx.1 cx.2.1 d ht (fun q => kt q p e s m args below meth c H locs ls cx hl hH hS) (fun q => kf q p e s m args below meth c H locs ls cx hl hH hS)
theorem ev_icmp_le {x y : Int32} {off : Int} {tgt : Nat} (d : decode M.2.1 pc = .ok (.if_icmp .le off, 3)) (ht : (pc : Int) + off = (tgt : Int)) (kt : x ≤ y → Ev G M R Q tgt L st h k n) (kf : ¬ (x ≤ y) → Ev G M R Q (pc + 3) L st h k n) : Ev G M R Q pc L (.int y :: .int x :: st) h k n := by
  intro p e s m args below meth c H locs ls cx hl hH hS
  exact lv_icmp_le cx.1 cx.2.1 d ht (fun q => kt q p e s m args below meth c H locs ls cx hl hH hS) (fun q => kf q p e s m args below meth c H locs ls cx hl hH hS)
theorem ev_goto {off : Int} {tgt : Nat} (d : decode M.2.1 pc = .ok (.goto off, 3)) (ht : (pc : Int) + off = (tgt : Int)) (kk : Ev G M R Q tgt L st h k n) : Ev G M R Q pc L st h k n := by
  intro p e s m args below meth c H locs ls cx hl hH hS
  exact lv_goto cx.1 cx.2.1 d ht (kk p e s m args below meth c H locs ls cx hl hH hS)
theorem ev_ifnonnull {x : Nat} {off : Int} {tgt : Nat} (d : decode M.2.1 pc = .ok (.ifnonnull off, 3)) (ht : (pc : Int) + off = (tgt : Int)) (kk : Ev G M R Q tgt L st h k n) : Ev G M R Q pc L (.ref x :: st) h k n := by
  intro p e s m args below meth c H locs ls cx hl hH hS
  exact lv_ifnonnull cx.1 cx.2.1 d ht (kk p e s m args below meth c H locs ls cx hl hH hS)
theorem ev_ifnonnullN {off : Int} (d : decode M.2.1 pc = .ok (.ifnonnull off, 3)) (kk : Ev G M R Q (pc + 3) L st h k n) : Ev G M R Q pc L (.null :: st) h k n := by
  intro p e s m args below meth c H locs ls cx hl hH hS
  exact lv_ifnonnullN cx.1 cx.2.1 d (kk p e s m args below meth c H locs ls cx hl hH hS)
theorem ev_tableOut {dflt lo hi : Int} {offs : Array Int} {len : Nat} {x : Int32} {tgt : Nat} (d : decode M.2.1 pc = .ok (.tableswitch dflt lo hi offs, len)) (hx : x.toInt < lo ∨ hi < x.toInt) (ht : (pc : Int) + dflt = (tgt : Int)) (kk : Ev G M R Q tgt L st h k n) : Ev G M R Q pc L (.int x :: st) h k n := by
  intro p e s m args below meth c H locs ls cx hl hH hS
  exact lv_tableOut cx.1 cx.2.1 d hx ht (kk p e s m args below meth c H locs ls cx hl hH hS)
theorem ev_tableIn {dflt lo hi : Int} {offs : Array Int} {len : Nat} {x : Int32} {off : Int} {tgt : Nat} (d : decode M.2.1 pc = .ok (.tableswitch dflt lo hi offs, len)) (h1 : ¬ x.toInt < lo) (h2 : ¬ hi < x.toInt) (ho : offs[(x.toInt - lo).toNat]? = some off) (ht : (pc : Int) + off = (tgt : Int)) (kk : Ev G M R Q tgt L st h k n) : Ev G M R Q pc L (.int x :: st) h k n := by
  intro p e s m args below meth c H locs ls cx hl hH hS
  exact lv_tableIn cx.1 cx.2.1 d h1 h2 ho ht (kk p e s m args below meth c H locs ls cx hl hH hS)
theorem ev_ldc {index : Nat} {v : Int32} (d : decode M.2.1 pc = .ok (.ldc index, 2)) (hc : Jvm.Cond.constant M.1.cls index v ∈ Wall) (kk : Ev G M R Q (pc + 2) L (.int v :: st) h k n) : Ev G M R Q pc L st h k n := by
  intro p e s m args below meth c H locs ls cx hl hH hS
  exact lv_ldc cx.1 cx.2.1 cx.2.2.2.2.2.1 (cx.2.2.2.2.1 _ hc) d (kk p e s m args below meth c H locs ls cx hl hH hS)
theorem ev_ldc2 {index : Nat} {v : Int64} (d : decode M.2.1 pc = .ok (.ldc2_w index, 3)) (hc : Jvm.Cond.constantLong M.1.cls index v ∈ Wall) (kk : Ev G M R Q (pc + 3) L (.long v :: st) h k n) : Ev G M R Q pc L st h k n := by
  intro p e s m args below meth c H locs ls cx hl hH hS
  exact lv_ldc2 cx.1 cx.2.1 cx.2.2.2.2.2.1 (cx.2.2.2.2.1 _ hc) d (kk p e s m args below meth c H locs ls cx hl hH hS)
theorem ev_ireturn {x : Int32} (d : decode M.2.1 pc = .ok (.ireturn, 1)) (hr : M.2.2.2 = some .int) (hk : k ≤ R.cells) (hn : n ≤ R.slots) (hq : Q (some (.int x)) h) : Ev G M R Q pc L [.int x] h k n := by
  intro p e s m args below meth c H locs ls cx hl hH hS
  refine W.widen hk hn ?_
  exact W.iret (v := x) cx.1 cx.2.1 (cx.2.2.2.1.trans hr) (fun t ht hW => ⟨⟨_, h, rfl, hq, by rw [ht]; exact hH⟩, hS.F ht⟩) hS.2.2 d cx.2.2.2.2.2.2.1
theorem ev_zreturn {x : Int32} (d : decode M.2.1 pc = .ok (.ireturn, 1)) (hr : M.2.2.2 = some .boolean) (hx : x = 0 ∨ x = 1) (hk : k ≤ R.cells) (hn : n ≤ R.slots) (hq : Q (some (.int x)) h) : Ev G M R Q pc L [.int x] h k n := by
  intro p e s m args below meth c H locs ls cx hl hH hS
  refine W.widen hk hn ?_
  exact W.zret (v := x) cx.1 cx.2.1 (cx.2.2.2.1.trans hr) (by rcases hx with rfl | rfl <;> rfl) (fun t ht hW => ⟨⟨_, h, rfl, hq, by rw [ht]; exact hH⟩, hS.F ht⟩) hS.2.2 d cx.2.2.2.2.2.2.1
theorem ev_lreturn {x : Int64} (d : decode M.2.1 pc = .ok (.lreturn, 1)) (hr : M.2.2.2 = some .long) (hk : k ≤ R.cells) (hn : n ≤ R.slots) (hq : Q (some (.long x)) h) : Ev G M R Q pc L [.long x] h k n := by
  intro p e s m args below meth c H locs ls cx hl hH hS
  refine W.widen hk hn ?_
  exact W.lret (v := x) cx.1 cx.2.1 (cx.2.2.2.1.trans hr) (fun t ht hW => ⟨⟨_, h, rfl, hq, by rw [ht]; exact hH⟩, hS.F ht⟩) hS.2.2 d cx.2.2.2.2.2.2.1
theorem ev_return (d : decode M.2.1 pc = .ok (.return_, 1)) (hr : M.2.2.2 = none) (hk : k ≤ R.cells) (hn : n ≤ R.slots) (hq : Q none h) : Ev G M R Q pc L [] h k n := by
  intro p e s m args below meth c H locs ls cx hl hH hS
  refine W.widen hk hn ?_
  exact W.vret cx.1 cx.2.1 (cx.2.2.2.1.trans hr) (fun t ht hW => ⟨⟨_, h, rfl, hq, by rw [ht]; exact hH⟩, hS.F ht⟩) hS.2.2 d cx.2.2.2.2.2.2.1
/-- pool index idx of class own is field j of class ci -/
def Fl (own : String) (idx ci j : Nat) : Prop := ∃ (C : String) (T : u_T) (N : Nat), classes[ci]? = some (C, T, N) ∧ j < N ∧ (∀ w ∈ u_ws C T N, w ∈ Wall) ∧ (Cond.fieldLink own idx (T j).1 (T j).2.1 (T j).2.2.1 ∈ Wall ∨ ∃ host, (own, idx, (T j).1, (T j).2.1, (T j).2.2.1, host) ∈ NF)
/-- and what may be stored there -/
def Fw (own : String) (idx ci j : Nat) (ty : FieldType) : Prop := ∃ (C : String) (T : u_T) (N : Nat) (ty0 : Nat → FieldType), classes[ci]? = some (C, T, N) ∧ j < N ∧ (∀ w ∈ u_ws C T N, w ∈ Wall) ∧ (Cond.fieldLink own idx (T j).1 (T j).2.1 (T j).2.2.1 ∈ Wall ∨ ((T j).2.2.2 = false ∧ ∃ host, (own, idx, (T j).1, (T j).2.1, (T j).2.2.1, host) ∈ NF)) ∧ (∀ q, q < N → parseFieldDescriptor (T q).2.2.1 = some (ty0 q)) ∧ (∀ a, a < N → ∀ b, b < N → a ≠ b → (T a).2.1 ≠ (T b).2.1) ∧ parseFieldDescriptor (T j).2.2.1 = some ty ∧ ((T j).2.2.2 = false ∨ ((T j).2.2.2 = true ∧ (T j).1 = own))
theorem ev_get {idx ci j a : Nat} {fs : List Value} {v : Value} (d : decode M.2.1 pc = .ok (.getfield idx, 3)) (hf : Fl M.1.cls idx ci j) (ha : h a = some (.inr (ci, fs))) (hv : fs[j]? = some v) (kk : Ev G M R Q (pc + 3) L (v :: st) h k n) : Ev G M R Q pc L (.ref a :: st) h k n := by
  intro p e s m args below meth c H locs ls cx hl hH hS
  have kk := kk p e s m args below meth c H locs ls cx hl hH hS
  obtain ⟨C, T, N, hc, hj, hws, hlk⟩ := hf
  obtain ⟨ws, w1, w2, w3⟩ := hH
  obtain ⟨i, hi⟩ := w1 _ _ ha
  rcases hlk with hlk | ⟨host, hlk⟩
  · exact va_get cx.1 cx.2.1 cx.2.2.2.2.1 hws cx.2.2.2.2.2.1 cx.2.2.2.2.2.2.2.2.1 w2 i hi hc j hj (cx.2.2.2.2.1 _ hlk) (fun _ q => q) hv d kk
  · exact va_getN cx.1 cx.2.1 cx.2.2.2.2.1 hws cx.2.2.2.2.2.1 cx.2.2.2.2.2.2.2.2.1 w2 i hi hc j hj (va_Nw.use rfl (cx.2.2.2.2.2.2.2.2.2.2.1 _ hlk)) (fun _ q => q) hv d kk
theorem ev_put {idx ci j a : Nat} {fs : List Value} {v : Value} {ty : FieldType} (d : decode M.2.1 pc = .ok (.putfield idx, 3)) (hf : Fw M.1.cls idx ci j ty) (hini : M.1.name = "<init>" ∨ ∀ C T N, classes[ci]? = some (C, T, N) → (T j).2.2.2 = false) (ha : h a = some (.inr (ci, fs))) (hl9 : j < fs.length) (hna : narrow ty v = v) (hfi : fits ty v = true) (kk : Ev G M R Q (pc + 3) L st (hup h a (.inr (ci, fs.set j v))) k n) : Ev G M R Q pc L (v :: .ref a :: st) h k n := by
  intro p e s m args below meth c H locs ls cx hl hH hS
  have kk := fun H locs => kk p e s m args below meth c H locs ls cx hl
  obtain ⟨C, T, N, ty0, hc, hj, hws, hlk, hty, hnm, hd, hfin⟩ := hf
  obtain ⟨ws, w1, w2, w3⟩ := hH
  obtain ⟨i, hi⟩ := w1 _ _ ha
  have fin : ∀ (H1 : Heap) (locs1 : List Loc), va_P (G_D G) classes (ws.set i (a, .inr (ci, fs.set j v))) H1 → va_D (G_A G) (ws.set i (a, .inr (ci, fs.set j v))) → va_S (G_A G) s.heap H1 locs1 → W p (G_l G) e R s m args below meth c H1 locs1 k n (MQ below (EQ G Q) args s R.cells R.slots (G_A G)) (F0 m (pc + 3) ls st) := fun H1 locs1 f1 f2 f3 => kk H1 locs1 ⟨_, hp_put w1 hi, f1, f2⟩ f3
  by_cases hF : (T j).2.2.2 = false
  · rcases hlk with hlk | ⟨-, host, hlk⟩
    · exact va_put cx.1 cx.2.1 cx.2.2.2.2.1 hws ty0 hty hnm cx.2.2.2.2.2.1 cx.2.2.2.2.2.2.2.2.1 w2 w3 hS i hi hc j hj (cx.2.2.2.2.1 _ hlk) (fun _ q => q) hF hd hna hfi hl9 d fin
    · exact va_putN cx.1 cx.2.1 cx.2.2.2.2.1 hws ty0 hty hnm cx.2.2.2.2.2.1 cx.2.2.2.2.2.2.2.2.1 w2 w3 hS i hi hc j hj (va_Nw.use rfl (cx.2.2.2.2.2.2.2.2.2.2.1 _ hlk)) (fun _ q => q) hF hd hna hfi hl9 d fin
  · have hi2 : M.1.name = "<init>" := hini.elim id (fun q => absurd (q _ _ _ hc) hF)
    rcases hlk with hlk | ⟨hlk, -⟩
    · rcases hfin with hfin | ⟨f1, f2⟩
      · exact absurd hfin hF
      · exact va_putF cx.1 cx.2.1 cx.2.2.2.2.1 hws ty0 hty hnm cx.2.2.2.2.2.1 cx.2.2.2.2.2.2.2.2.1 w2 w3 hS i hi hc j hj (cx.2.2.2.2.1 _ hlk) (fun _ q => q) f1 (cx.2.2.2.2.2.2.2.1.trans hi2) f2 hd hna hfi hl9 d fin
    · exact absurd hlk hF
theorem ev_iaload {a N : Nat} {f : Nat → Int32} {i : Int32} (d : decode M.2.1 pc = .ok (.iaload, 1)) (ha : h a = some (.inl (G_i G, N, .inl f))) (hi : vp_in i N) (kk : Ev G M R Q (pc + 1) L (.int (f i.toNatClampNeg) :: st) h k n) : Ev G M R Q pc L (.int i :: .ref a :: st) h k n := by
  intro p e s m args below meth c H locs ls cx hl hH hS
  have kk := kk p e s m args below meth c H locs ls cx hl hH hS
  obtain ⟨ws, w1, w2, w3⟩ := hH
  obtain ⟨q, hq⟩ := w1 _ _ ha
  exact va_iald cx.1 cx.2.1 cx.2.2.2.2.2.2.2.2.1 w2 q 0 hq rfl hi d kk
theorem ev_iastore {a N : Nat} {f : Nat → Int32} {i : Int32} {x : Int32} (d : decode M.2.1 pc = .ok (.iastore, 1)) (ha : h a = some (.inl (G_i G, N, .inl f))) (hi : vp_in i N) (kk : Ev G M R Q (pc + 1) L st (hup h a (.inl (G_i G, N, .inl (upd f i.toNatClampNeg x)))) k n) : Ev G M R Q pc L (.int x :: .int i :: .ref a :: st) h k n := by
  intro p e s m args below meth c H locs ls cx hl hH hS
  have kk := fun H locs => kk p e s m args below meth c H locs ls cx hl
  obtain ⟨ws, w1, w2, w3⟩ := hH
  obtain ⟨q, hq⟩ := w1 _ _ ha
  exact va_iast cx.1 cx.2.1 cx.2.2.2.2.2.2.2.2.1 w2 w3 hS q 0 hq rfl hi d (fun H1 locs1 f1 f2 f3 => kk H1 locs1 ⟨_, hp_put w1 hq, f1, f2⟩ f3)
theorem ev_laload {a N : Nat} {f : Nat → Int64} {i : Int32} (d : decode M.2.1 pc = .ok (.laload, 1)) (ha : h a = some (.inl (G_j G, N, .inr (.inl f)))) (hi : vp_in i N) (kk : Ev G M R Q (pc + 1) L (.long (f i.toNatClampNeg) :: st) h k n) : Ev G M R Q pc L (.int i :: .ref a :: st) h k n := by
  intro p e s m args below meth c H locs ls cx hl hH hS
  have kk := kk p e s m args below meth c H locs ls cx hl hH hS
  obtain ⟨ws, w1, w2, w3⟩ := hH
  obtain ⟨q, hq⟩ := w1 _ _ ha
  exact va_lald cx.1 cx.2.1 cx.2.2.2.2.2.2.2.2.1 w2 q 1 hq rfl hi d kk
theorem ev_lastore {a N : Nat} {f : Nat → Int64} {i : Int32} {x : Int64} (d : decode M.2.1 pc = .ok (.lastore, 1)) (ha : h a = some (.inl (G_j G, N, .inr (.inl f)))) (hi : vp_in i N) (kk : Ev G M R Q (pc + 1) L st (hup h a (.inl (G_j G, N, .inr (.inl (vp_updL f i.toNatClampNeg x))))) k n) : Ev G M R Q pc L (.long x :: .int i :: .ref a :: st) h k n := by
  intro p e s m args below meth c H locs ls cx hl hH hS
  have kk := fun H locs => kk p e s m args below meth c H locs ls cx hl
  obtain ⟨ws, w1, w2, w3⟩ := hH
  obtain ⟨q, hq⟩ := w1 _ _ ha
  exact va_last cx.1 cx.2.1 cx.2.2.2.2.2.2.2.2.1 w2 w3 hS q 1 hq rfl hi d (fun H1 locs1 f1 f2 f3 => kk H1 locs1 ⟨_, hp_put w1 hq, f1, f2⟩ f3)
theorem ev_aaload {a N : Nat} {f : Nat → Option Nat} {i : Int32} (d : decode M.2.1 pc = .ok (.aaload, 1)) (ha : h a = some (.inl (G_q G, N, .inr (.inr (.inr (.inr f)))))) (hi : vp_in i N) (kk : Ev G M R Q (pc + 1) L (va_rf (f i.toNatClampNeg) :: st) h k n) : Ev G M R Q pc L (.int i :: .ref a :: st) h k n := by
  intro p e s m args below meth c H locs ls cx hl hH hS
  have kk := kk p e s m args below meth c H locs ls cx hl hH hS
  obtain ⟨ws, w1, w2, w3⟩ := hH
  obtain ⟨q, hq⟩ := w1 _ _ ha
  exact va_aldq cx.1 cx.2.1 cx.2.2.2.2.2.2.2.2.1 w2 q 2 hq rfl hi d kk
theorem ev_aastore {a N v ci : Nat} {vs : List Value} {T : u_T} {NN : Nat} {f : Nat → Option Nat} {i : Int32} (d : decode M.2.1 pc = .ok (.aastore, 1)) (ha : h a = some (.inl (G_q G, N, .inr (.inr (.inr (.inr f)))))) (hv : h v = some (.inr (ci, vs))) (hc : classes[ci]? = some ("CueBench$CueRow", T, NN)) (hi : vp_in i N) (kk : Ev G M R Q (pc + 1) L st (hup h a (.inl (G_q G, N, .inr (.inr (.inr (.inr (va_up f i.toNatClampNeg (some v)))))))) k n) : Ev G M R Q pc L (.ref v :: .int i :: .ref a :: st) h k n := by
  intro p e s m args below meth c H locs ls cx hl hH hS
  have kk := fun H locs => kk p e s m args below meth c H locs ls cx hl
  obtain ⟨ws, w1, w2, w3⟩ := hH
  obtain ⟨q, hq⟩ := w1 _ _ ha
  obtain ⟨q2, hq2⟩ := w1 _ _ hv
  exact va_astq cx.1 cx.2.1 cx.2.2.2.2.2.2.2.2.1 w2 w3 hS q 2 q2 ci hq rfl hq2 hc hi d (fun H1 locs1 f1 f2 f3 => kk H1 locs1 ⟨_, hp_put w1 hq, f1, f2⟩ f3)
theorem ev_tens (idx : Nat) (d : decode M.2.1 pc = .ok (.getstatic idx, 3)) (hlk : Cond.fieldLink M.1.cls idx "CueBench$FormWriter" "TENS" "[I" ∈ Wall) (kk : Ev G M R Q (pc + 3) L (.ref (G_t G) :: st) h k n) : Ev G M R Q pc L st h k n := by
  intro p e s m args below meth c H locs ls cx hl hH hS
  exact va_gets cx.1 cx.2.1 cx.2.2.2.2.2.2.2.2.2.2.2.2.1 hS cx.2.2.2.2.2.1 (cx.2.2.2.2.1 _ hlk) (fun _ q => q) d (kk p e s m args below meth c H locs ls cx hl hH hS)
theorem ev_tensLd {i : Int32} {v : Int32} (d : decode M.2.1 pc = .ok (.iaload, 1)) (hi : vp_in i 6) (hv : tensV i.toNatClampNeg = .int v) (kk : Ev G M R Q (pc + 1) L (.int v :: st) h k n) : Ev G M R Q pc L (.int i :: .ref (G_t G) :: st) h k n := by
  intro p e s m args below meth c H locs ls cx hl hH hS
  exact va_ti cx.1 cx.2.1 cx.2.2.2.2.2.2.2.2.2.2.2.2.2.1 hS hi hv d (kk p e s m args below meth c H locs ls cx hl hH hS)
theorem ev_sld {i : Int32} (d : decode M.2.1 pc = .ok (.iaload, 1)) (hi : vp_in i (G_n G)) (kk : Ev G M R Q (pc + 1) L (.int (G_x G i.toNatClampNeg) :: st) h k n) : Ev G M R Q pc L (.int i :: .ref (G_b G) :: st) h k n := by
  intro p e s m args below meth c H locs ls cx hl hH hS
  have q := cx.2.2.2.2.2.2.2.2.2.2.2.2.2.2.2
  exact va_sld cx.1 cx.2.1 q.1 q.2.1 q.2.2 hS hi d (kk p e s m args below meth c H locs ls cx hl hH hS)
theorem ev_slen (d : decode M.2.1 pc = .ok (.arraylength, 1)) (kk : Ev G M R Q (pc + 1) L (.int (Int32.ofNat (G_n G)) :: st) h k n) : Ev G M R Q pc L (.ref (G_b G) :: st) h k n := by
  intro p e s m args below meth c H locs ls cx hl hH hS
  have q := cx.2.2.2.2.2.2.2.2.2.2.2.2.2.2.2
  exact va_slen cx.1 cx.2.1 q.1 q.2.1 q.2.2 hS d (kk p e s m args below meth c H locs ls cx hl hH hS)
theorem ev_tensLen (d : decode M.2.1 pc = .ok (.arraylength, 1)) (kk : Ev G M R Q (pc + 1) L (.int 6 :: st) h k n) : Ev G M R Q pc L (.ref (G_t G) :: st) h k n := by
  intro p e s m args below meth c H locs ls cx hl hH hS
  exact va_tlen cx.1 cx.2.1 cx.2.2.2.2.2.2.2.2.2.2.2.2.2.1 hS rfl d (kk p e s m args below meth c H locs ls cx hl hH hS)
/-- a class by its number: what 'new' needs -/
def Nc (own : String) (idx ci : Nat) (fs : List Value) : Prop := ∃ (C : String) (T : u_T) (N : Nat) (ty : Nat → FieldType), classes[ci]? = some (C, T, N) ∧ (∀ w ∈ u_ws C T N, w ∈ Wall) ∧ (∀ q, q < N → parseFieldDescriptor (T q).2.2.1 = some (ty q)) ∧ Cond.classLink own idx C ∈ Wall ∧ Cond.instantiable C N ∈ Wall ∧ Cond.initialized C ∈ Wall ∧ (∀ j, j < N → defaultValue (ty j) = vp_V fs j) ∧ fs.length = N
theorem ev_new {idx ci : Nat} {fs : List Value} (d : decode M.2.1 pc = .ok (.new idx, 3)) (hn : Nc M.1.cls idx ci fs) (hk : k + 1 ≤ R.cells) (hn9 : n + fs.length ≤ R.slots) (kk : ∀ q : Nat, (∀ b e, h b = some e → b < q) → Ev G M R Q (pc + 3) L (.ref q :: st) (hup h q (.inr (ci, fs))) (k + 1) (n + fs.length)) : Ev G M R Q pc L st h k n := by
  intro p e s m args below meth c H locs ls cx hl hH hS
  obtain ⟨C, T, N, ty, hc, hws, hty, h1, h2, h3, hfs, rfl⟩ := hn
  obtain ⟨ws, w1, w2, w3⟩ := hH
  have hK := cx.2.2.2.2.2.2.2.2.1
  have hKn := hK.1 ci _ hc
  have hts := cx.2.2.2.2.1
  refine W.newcK cx.1 cx.2.1 cx.2.2.2.2.2.1 (hts _ h1) (hts _ h2) (hts _ h3) rfl d hk hn9 hKn.2.1 rfl fun H1 kC hkC e1 z1 o1 => ?_
  have hkp : ∀ (k : Nat) (x : Nat × va_E), ws[k]? = some x → H1[x.1]? = H[x.1]? := fun k x hx => o1 x.1 ((w2 k x hx).lt)
  refine kk H.size (fun b e hb => ?_) p e s m args below meth c H1 locs ls cx hl ⟨ws ++ [(H.size, .inr (ci, fs))], hp_new w1, (w2.kept hkp).app (fun k x hx => ?_), w3.push w2 rfl (cx.2.2.2.2.2.2.2.2.2.1 _ hS.1)⟩ ⟨Nat.le_trans hS.1 (by omega), fun x h1 h2 => (o1 x (Nat.lt_of_lt_of_le h1 hS.1)).trans (hS.2.1 x h1 h2), hS.2.2⟩
  · obtain ⟨i, hi⟩ := w1 b e hb
    exact (w2 i _ hi).lt
  · have hz : k < 1 := (List.getElem?_eq_some_iff.mp hx).1
    rw [show k = 0 by omega] at hx
    cases hx
    exact ⟨_, hc, (u_born ty hts hws hKn hkC e1 hty).to hfs⟩
theorem ev_newi {z : Int32} (N : Nat) (d : decode M.2.1 pc = .ok (.newarray .int, 2)) (hw : Cond.arrayClass .int ∈ Wall) (hz : ¬ z < 0) (hN : z.toNatClampNeg = N) (hb : N * componentBytes .int ≤ 536870912) (hk : k + 1 ≤ R.cells) (hn9 : n + N ≤ R.slots) (kk : ∀ q : Nat, (∀ b e, h b = some e → b < q) → Ev G M R Q (pc + 2) L (.ref q :: st) (hup h q (.inl (G_i G, N, .inl (fun _ => 0)))) (k + 1) (n + N)) : Ev G M R Q pc L (.int z :: st) h k n := by
  intro p e s m args below meth c H locs ls cx hl hH hS
  obtain ⟨ws, w1, w2, w3⟩ := hH
  have hK := cx.2.2.2.2.2.2.2.2.1
  refine va_newaK cx.1 cx.2.1 (atype := .int) (cx.2.2.2.2.1 _ hw) rfl d rfl hz hN hb hk hn9 rfl fun H1 cA e1 z1 o1 hAr hNm => ?_
  have hcA : cA = G_i G := Option.some.inj (hNm.symm.trans (hK.2 0 _ rfl).2)
  subst hcA
  have hkp : ∀ (k : Nat) (x : Nat × va_E), ws[k]? = some x → H1[x.1]? = H[x.1]? := fun k x hx => o1 x.1 ((w2 k x hx).lt)
  refine kk H.size (fun b e hb => ?_) p e s m args below meth c H1 locs ls cx hl ⟨ws ++ [(H.size, .inl (G_i G, N, .inl (fun _ => 0)))], hp_new w1, (w2.kept hkp).app (fun k x hx => ?_), w3.push w2 rfl (cx.2.2.2.2.2.2.2.2.2.1 _ hS.1)⟩ ⟨Nat.le_trans hS.1 (by omega), fun x h1 h2 => (o1 x (Nat.lt_of_lt_of_le h1 hS.1)).trans (hS.2.1 x h1 h2), hS.2.2⟩
  · obtain ⟨i, hi⟩ := w1 b e hb
    exact (w2 i _ hi).lt
  · have hz : k < 1 := (List.getElem?_eq_some_iff.mp hx).1
    rw [show k = 0 by omega] at hx
    cases hx
    exact e1
theorem ev_newl {z : Int32} (N : Nat) (d : decode M.2.1 pc = .ok (.newarray .long, 2)) (hw : Cond.arrayClass .long ∈ Wall) (hz : ¬ z < 0) (hN : z.toNatClampNeg = N) (hb : N * componentBytes .long ≤ 536870912) (hk : k + 1 ≤ R.cells) (hn9 : n + N ≤ R.slots) (kk : ∀ q : Nat, (∀ b e, h b = some e → b < q) → Ev G M R Q (pc + 2) L (.ref q :: st) (hup h q (.inl (G_j G, N, .inr (.inl (fun _ => 0))))) (k + 1) (n + N)) : Ev G M R Q pc L (.int z :: st) h k n := by
  intro p e s m args below meth c H locs ls cx hl hH hS
  obtain ⟨ws, w1, w2, w3⟩ := hH
  have hK := cx.2.2.2.2.2.2.2.2.1
  refine va_newaK cx.1 cx.2.1 (atype := .long) (cx.2.2.2.2.1 _ hw) rfl d rfl hz hN hb hk hn9 rfl fun H1 cA e1 z1 o1 hAr hNm => ?_
  have hcA : cA = G_j G := Option.some.inj (hNm.symm.trans (hK.2 1 _ rfl).2)
  subst hcA
  have hkp : ∀ (k : Nat) (x : Nat × va_E), ws[k]? = some x → H1[x.1]? = H[x.1]? := fun k x hx => o1 x.1 ((w2 k x hx).lt)
  refine kk H.size (fun b e hb => ?_) p e s m args below meth c H1 locs ls cx hl ⟨ws ++ [(H.size, .inl (G_j G, N, .inr (.inl (fun _ => 0))))], hp_new w1, (w2.kept hkp).app (fun k x hx => ?_), w3.push w2 rfl (cx.2.2.2.2.2.2.2.2.2.1 _ hS.1)⟩ ⟨Nat.le_trans hS.1 (by omega), fun x h1 h2 => (o1 x (Nat.lt_of_lt_of_le h1 hS.1)).trans (hS.2.1 x h1 h2), hS.2.2⟩
  · obtain ⟨i, hi⟩ := w1 b e hb
    exact (w2 i _ hi).lt
  · have hz : k < 1 := (List.getElem?_eq_some_iff.mp hx).1
    rw [show k = 0 by omega] at hx
    cases hx
    exact e1
theorem ev_newq {idx : Nat} {z : Int32} (N : Nat) (d : decode M.2.1 pc = .ok (.anewarray idx, 3)) (hw : Cond.classLink M.1.cls idx "CueBench$CueRow" ∈ Wall) (hz : ¬ z < 0) (hN : z.toNatClampNeg = N) (hb : N * 4 ≤ 536870912) (hk : k + 1 ≤ R.cells) (hn9 : n + N ≤ R.slots) (kk : ∀ q : Nat, (∀ b e, h b = some e → b < q) → Ev G M R Q (pc + 3) L (.ref q :: st) (hup h q (.inl (G_q G, N, .inr (.inr (.inr (.inr (fun _ => none))))))) (k + 1) (n + N)) : Ev G M R Q pc L (.int z :: st) h k n := by
  intro p e s m args below meth c H locs ls cx hl hH hS
  subst hN
  obtain ⟨ws, w1, w2, w3⟩ := hH
  have hK := cx.2.2.2.2.2.2.2.2.1
  refine W.anew cx.1 cx.2.1 cx.2.2.2.2.2.1 (cx.2.2.2.2.1 _ hw) (va_AO.use cx.2.2.2.2.2.2.2.2.2.2.2.2.2.2.1) rfl d rfl hz hb hk hn9 fun cA kA comp f1 f2 f3 f4 => ?_
  generalize hH1 : H.push ({ cls := cA, slots := Array.replicate z.toNatClampNeg .null, vm := .none } : Cell) = H1
  have z1 : H1.size = H.size + 1 := by rw [← hH1, Array.size_push]
  have e1 : H1[H.size]? = some (arrV cA z.toNatClampNeg (fun _ => .null)) := by rw [← hH1, Array.getElem?_push_size, ← arrV_new]
  have o1 : ∀ q : Nat, q < H.size → H1[q]? = H[q]? := fun q hq => by rw [← hH1, Array.getElem?_push, if_neg (Nat.ne_of_lt hq)]
  have hcA : cA = G_q G := by
    obtain ⟨kA', comp', -, -, -, g4⟩ := (hK.2 2 _ rfl).2
    exact Option.some.inj (f1.symm.trans g4)
  subst hcA
  have hkp : ∀ (k : Nat) (x : Nat × va_E), ws[k]? = some x → H1[x.1]? = H[x.1]? := fun k x hx => o1 x.1 ((w2 k x hx).lt)
  refine kk H.size (fun b e hb => ?_) p e s m args below meth c H1 locs ls cx hl ⟨ws ++ [(H.size, _)], hp_new w1, (w2.kept hkp).app (fun k x hx => ?_), w3.push w2 rfl (cx.2.2.2.2.2.2.2.2.2.1 _ hS.1)⟩ ⟨Nat.le_trans hS.1 (by omega), fun x h1 h2 => (o1 x (Nat.lt_of_lt_of_le h1 hS.1)).trans (hS.2.1 x h1 h2), hS.2.2⟩
  · obtain ⟨i, hi⟩ := w1 b e hb
    exact (w2 i _ hi).lt
  · have hz : k < 1 := (List.getElem?_eq_some_iff.mp hx).1
    rw [show k = 0 by omega] at hx
    cases hx
    exact e1
theorem ev_objInit {idx a : Nat} (d : decode M.2.1 pc = .ok (.invokespecial idx, 3)) (h1 : Cond.methodLink M.1.cls idx Lib.objectInit ∈ Wall) (h2 : Cond.instanceMethod Lib.objectInit ∈ Wall) (h3 : Cond.code Lib.objectInit ⟨#[0xb1]⟩ 1 none ∈ Wall) (hf : 1 ≤ R.frames) (hlo : (st.map fun v => v.category).sum + 12 ≤ R.locals) (kk : Ev G M R Q (pc + 3) L st h k n) : Ev G M R Q pc L (.ref a :: st) h k n := by
  intro p e s m args below meth c H locs ls cx hl hH hS
  exact W.objInit cx.1 cx.2.1 cx.2.2.2.2.2.1 (cx.2.2.2.2.1 _ h1) (cx.2.2.2.2.1 _ h2) (cx.2.2.2.2.1 _ h3) rfl (by rw [cx.2.2.1]; exact hl.1) rfl d hf (by show 2 * 0 + _ + 12 ≤ _; omega) (kk p e s m args below meth c H locs ls cx hl hH hS)
/-- a method that may be called -/
def Mk (M' : MT) (np : Nat) : Prop := Cond.code M'.1 M'.2.1 M'.2.2.1 M'.2.2.2 ∈ Wall ∧ Cond.initialized M'.1.cls ∈ Wall ∧ M'.1.cls ≠ "java/lang/invoke/MethodHandle" ∧ M'.1.cls ≠ "java/lang/invoke/VarHandle" ∧ (parseMethodDescriptor M'.1.desc).map (fun d => d.parameters.length) = some np
def Ml (own : String) (idx : Nat) (M' : MT) : Prop := Cond.methodLink own idx M'.1 ∈ Wall ∨ ∃ host, (own, idx, M'.1, host) ∈ NM
def Mv (M' : MT) : Prop := Cond.instanceMethod M'.1 ∈ Wall ∧ Cond.selects M'.1.cls M'.1 M'.1 ∈ Wall
theorem good_ws {M M' : MT} (hk : Cond.code M'.1 M'.2.1 M'.2.2.1 M'.2.2.2 ∈ Wall) : GoodIn Wall (wsM M') := by
  intro w hw
  rcases List.mem_cons.mp hw with rfl | hw
  · exact ⟨hk, Or.inl (by first | rfl | simp [Cond.onTables, Cond.keeps, Cond.steady])⟩
  · exact ⟨hw, good_all w hw⟩
/-- behind a call -/
theorem ev_ran {p : Program} {e : Env} {s : State} {m : MethodId} {args : Array Value} {below : List Frame} {meth : Method} {c : Code} {H : Heap} {locs : List Loc} {ls : Array Slot} {mc ms : Nat} {st0 rest : List Value} {a : Array Value} {Q' : Option Value → HM → Prop} {QQ : State → Prop}
    (hr : va_Run p (G_l G) e R s m args below meth c H locs k n mc ms (F0 m pc ls st0) rest (EQ G Q' a) (G_A G)) (hS : va_S (G_A G) s.heap H locs)
    (kk : ∀ (r : Option Value) (h' : HM) (H1 : Heap) (locs1 : List Loc), Q' r h' → Hp G h' H1 → va_S (G_A G) s.heap H1 locs1 → W p (G_l G) e R s m args below meth c H1 locs1 (k + mc) (n + ms) QQ (F0 m (pc + 3) ls (r.toList ++ rest))) : W p (G_l G) e R s m args below meth c H locs k n QQ (F0 m pc ls st0) := by
  intro T hT X
  obtain ⟨v, st₀, t, T', Lo, h0, X', hL, e1, e2, ⟨⟨r, h', hv, hq, hh⟩, hz, hk⟩, stp⟩ := hr T hT X
  cases hv
  rw [h0] at hz hk
  rw [← e1] at hh hz hk
  obtain ⟨t2, a1, b1⟩ := kk v h' T'.heap (locs ++ Lo) hq hh ⟨Nat.le_trans hS.1 hz, fun q h1 h2 => (hk q (Nat.lt_of_lt_of_le h1 hS.1) h2).trans (hS.2.1 q h1 h2), fun q hq => by
    rcases List.mem_append.mp hq with h | h
    · exact hS.2.2 q h
    · exact hL q h⟩ T' rfl X'
  exact ⟨t2, stp t2 a1, b1⟩
theorem pre_s {s : State} {H : Heap} {locs : List Loc} {av : List Value} (hSt : St G s) (hS : va_S (G_A G) s.heap H locs) (hH : Hp G h H) : PreS s H (va_Pc av (fun U => Hp G h U.heap ∧ St G U)) av :=
  ⟨fun a U g mk q => ⟨q.1, q.2.1, q.2.2.blind⟩, fun U hU hW => ⟨rfl, by rw [hU]; exact hH, hSt.go hS hU hW⟩⟩
theorem ev_callV (M' : MT) (R' : Room) (Q' : Option Value → HM → Prop) {idx b ci np : Nat} {T' : u_T} {N' : Nat} {fs As rest : List Value} (hM : Rn G M' R' (.ref b :: As) h Q') (d : decode M.2.1 pc = .ok (.invokevirtual idx, 3)) (hmk : Mk M' np) (hml : Ml M.1.cls idx M') (hmv : Mv M') (hb : h b = some (.inr (ci, fs))) (hci : classes[ci]? = some (M'.1.cls, T', N')) (hn : As.length = np) (hst : st = As.reverse ++ .ref b :: rest) (hW : (rest.map fun v => v.category).sum ≤ 8) (hR : R'.frames + 1 ≤ R.frames ∧ 8 + (M'.2.2.1 + 11) + R'.locals ≤ R.locals) (hf : k + R'.cells ≤ R.cells ∧ n + R'.slots ≤ R.slots) (kk : ∀ r h', Q' r h' → Ev G M R Q (pc + 3) L (r.toList ++ rest) h' (k + R'.cells) (n + R'.slots)) : Ev G M R Q pc L st h k n := by
  intro p e s m args below meth c H locs ls cx hl hH hS
  subst hst
  obtain ⟨m1, m2, m3, m4, m5⟩ := hmk
  have hts := cx.2.2.2.2.1
  have hSt := cx.2.2.2.2.2.2.2.2
  have hrec : ∃ cellB : Cell, H[b]? = some cellB ∧ cellB.vm.isStatics = false ∧ s.vm.findClass M'.1.cls = some cellB.cls := by
    obtain ⟨ws, w1, w2, w3⟩ := hH
    obtain ⟨i, hi⟩ := w1 _ _ hb
    exact va_recv hSt.1 w2 hci hi
  have hpre := pre_s (av := .ref b :: As) hSt hS hH
  refine ev_ran (mc := R'.cells) (ms := R'.slots) (rest := rest) (a := (Value.ref b :: As).toArray) (Q' := Q') ?_ hS (fun r h' H1 locs1 q1 q2 q3 => kk r h' q1 p e s m args below meth c H1 locs1 ls cx hl q2 q3)
  rcases hml with hml | ⟨host, hml⟩
  · exact va_runV (As := As) (rest := rest) ⟨cx.1, cx.2.1, cx.2.2.1, cx.2.2.2.2.2.1, hts⟩ hM ⟨callB_of np hts (good_ws (M := M) m1) rfl rfl rfl (hts _ m2) (hts _ hml) ⟨m3, m4, m5⟩ hR, hts _ hmv.1, hts _ hmv.2⟩ ⟨hpre.1, hrec, hpre.2⟩ rfl hn hl.1 rfl (lv_room hW) d hf
  · exact va_runVN (As := As) (rest := rest) ⟨cx.1, cx.2.1, cx.2.2.1, cx.2.2.2.2.2.1, hts⟩ hM ⟨va_cnB np hts (good_ws (M := M) m1) rfl rfl rfl (hSt.2.2.2.1 _ hml) (hts _ m2) ⟨m3, m4, m5⟩ hR, hts _ hmv.1, hts _ hmv.2⟩ ⟨hpre.1, hrec, hpre.2⟩ rfl hn hl.1 rfl (lv_room hW) d hf
theorem ev_callI (M' : MT) (R' : Room) (Q' : Option Value → HM → Prop) {idx b np : Nat} {As rest : List Value} (hM : Rn G M' R' (.ref b :: As) h Q') (d : decode M.2.1 pc = .ok (.invokespecial idx, 3)) (hmk : Mk M' np) (hml : Ml M.1.cls idx M') (hni : M'.1.name = "<init>" ∧ M'.2.2.2 = none) (hin : Cond.instanceMethod M'.1 ∈ Wall) (hn : As.length = np) (hst : st = As.reverse ++ .ref b :: rest) (hW : (rest.map fun v => v.category).sum ≤ 8) (hR : R'.frames + 1 ≤ R.frames ∧ 8 + (M'.2.2.1 + 11) + R'.locals ≤ R.locals) (hf : k + R'.cells ≤ R.cells ∧ n + R'.slots ≤ R.slots) (kk : ∀ r h', Q' r h' → Ev G M R Q (pc + 3) L (r.toList ++ rest) h' (k + R'.cells) (n + R'.slots)) : Ev G M R Q pc L st h k n := by
  intro p e s m args below meth c H locs ls cx hl hH hS
  subst hst
  obtain ⟨m1, m2, m3, m4, m5⟩ := hmk
  have hts := cx.2.2.2.2.1
  have hSt := cx.2.2.2.2.2.2.2.2
  have hpre := pre_s (av := .ref b :: As) hSt hS hH
  have hG := good_ws (M := M) m1
  obtain ⟨y, bb, ml, rt⟩ := M'
  obtain ⟨hni, rfl⟩ := hni
  refine ev_ran (mc := R'.cells) (ms := R'.slots) (rest := rest) (a := (Value.ref b :: As).toArray) (Q' := Q') ?_ hS (fun r h' H1 locs1 q1 q2 q3 => kk r h' q1 p e s m args below meth c H1 locs1 ls cx hl q2 q3)
  rcases hml with hml | ⟨host, hml⟩
  · exact va_runI (As := As) (rest := rest) ⟨cx.1, cx.2.1, cx.2.2.1, cx.2.2.2.2.2.1, hts⟩ hM ⟨callB_of np hts hG rfl rfl rfl (hts _ m2) (hts _ hml) ⟨m3, m4, m5⟩ hR, hni, hts _ hin⟩ hpre rfl hn hl.1 rfl (lv_room hW) d hf
  · exact va_runIN (As := As) (rest := rest) ⟨cx.1, cx.2.1, cx.2.2.1, cx.2.2.2.2.2.1, hts⟩ hM ⟨va_cnB np hts hG rfl rfl rfl (hSt.2.2.2.1 _ hml) (hts _ m2) ⟨m3, m4, m5⟩ hR, hni, hts _ hin⟩ hpre rfl hn hl.1 rfl (lv_room hW) d hf
theorem ev_callS (M' : MT) (R' : Room) (Q' : Option Value → HM → Prop) {idx np : Nat} {As rest : List Value} (hM : Rn G M' R' As h Q') (d : decode M.2.1 pc = .ok (.invokestatic idx, 3)) (hmk : Mk M' np) (hml : Ml M.1.cls idx M') (hsta : Cond.static M'.1 ∈ Wall) (hn : As.length = np) (hst : st = As.reverse ++ rest) (hW : (rest.map fun v => v.category).sum ≤ 8) (hR : R'.frames + 1 ≤ R.frames ∧ 8 + (M'.2.2.1 + 11) + R'.locals ≤ R.locals) (hf : k + R'.cells ≤ R.cells ∧ n + R'.slots ≤ R.slots) (kk : ∀ r h', Q' r h' → Ev G M R Q (pc + 3) L (r.toList ++ rest) h' (k + R'.cells) (n + R'.slots)) : Ev G M R Q pc L st h k n := by
  intro p e s m args below meth c H locs ls cx hl hH hS
  subst hst
  obtain ⟨m1, m2, m3, m4, m5⟩ := hmk
  have hts := cx.2.2.2.2.1
  have hSt := cx.2.2.2.2.2.2.2.2
  have hpre := pre_s (av := As) hSt hS hH
  refine ev_ran (mc := R'.cells) (ms := R'.slots) (rest := rest) (a := As.toArray) (Q' := Q') ?_ hS (fun r h' H1 locs1 q1 q2 q3 => kk r h' q1 p e s m args below meth c H1 locs1 ls cx hl q2 q3)
  rcases hml with hml | ⟨host, hml⟩
  · exact va_runS (As := As) (rest := rest) ⟨cx.1, cx.2.1, cx.2.2.1, cx.2.2.2.2.2.1, hts⟩ hM ⟨callB_of np hts (good_ws (M := M) m1) rfl rfl rfl (hts _ m2) (hts _ hml) ⟨m3, m4, m5⟩ hR, hts _ hsta⟩ hpre rfl hn hl.1 rfl (lv_room hW) d hf
  · exact va_runSN (As := As) (rest := rest) ⟨cx.1, cx.2.1, cx.2.2.1, cx.2.2.2.2.2.1, hts⟩ hM ⟨va_cnB np hts (good_ws (M := M) m1) rfl rfl rfl (hSt.2.2.2.1 _ hml) (hts _ m2) ⟨m3, m4, m5⟩ hR, hts _ hsta, trivial⟩ hpre rfl hn hl.1 rfl (lv_room hW) d hf
theorem ev_max {x y : Int32} {idx : Nat} (d : decode M.2.1 pc = .ok (.invokestatic idx, 3)) (h1 : Cond.methodLink M.1.cls idx Lib.Math.max.name ∈ Wall) (h2 : Cond.static Lib.Math.max.name ∈ Wall) (h3 : Cond.initialized "java/lang/Math" ∈ Wall) (h4 : Cond.code Lib.Math.max.name Lib.Math.max.code 2 (some .int) ∈ Wall) (hf : 1 ≤ R.frames) (hlo : (st.map fun v => v.category).sum + 13 ≤ R.locals) (hk : k ≤ R.cells) (hn : n ≤ R.slots) (kk : Ev G M R Q (pc + 3) L (.int (if x < y then y else x) :: st) h k n) : Ev G M R Q pc L (.int y :: .int x :: st) h k n := by
  intro p e s m args below meth c H locs ls cx hl hH hS
  have hts := cx.2.2.2.2.1
  exact va_mmax cx.1 cx.2.1 (by rw [cx.2.2.1]; exact hl.1.symm) cx.2.2.2.2.2.1 (hts _ h1) (hts _ h2) (hts _ h3) (hts _ h4) hf hlo hk hn d (kk p e s m args below meth c H locs ls cx hl hH hS)
theorem ev_min {x y : Int32} {idx : Nat} (d : decode M.2.1 pc = .ok (.invokestatic idx, 3)) (h1 : Cond.methodLink M.1.cls idx Lib.Math.min.name ∈ Wall) (h2 : Cond.static Lib.Math.min.name ∈ Wall) (h3 : Cond.initialized "java/lang/Math" ∈ Wall) (h4 : Cond.code Lib.Math.min.name Lib.Math.min.code 2 (some .int) ∈ Wall) (hf : 1 ≤ R.frames) (hlo : (st.map fun v => v.category).sum + 13 ≤ R.locals) (hk : k ≤ R.cells) (hn : n ≤ R.slots) (kk : Ev G M R Q (pc + 3) L (.int (if y < x then y else x) :: st) h k n) : Ev G M R Q pc L (.int y :: .int x :: st) h k n := by
  intro p e s m args below meth c H locs ls cx hl hH hS
  have hts := cx.2.2.2.2.1
  exact va_mmin cx.1 cx.2.1 (by rw [cx.2.2.1]; exact hl.1.symm) cx.2.2.2.2.2.1 (hts _ h1) (hts _ h2) (hts _ h3) (hts _ h4) hf hlo hk hn d (kk p e s m args below meth c H locs ls cx hl hH hS)
theorem ev_abs {x : Int32} {idx : Nat} (d : decode M.2.1 pc = .ok (.invokestatic idx, 3)) (h1 : Cond.methodLink M.1.cls idx Lib.Math.abs.name ∈ Wall) (h2 : Cond.static Lib.Math.abs.name ∈ Wall) (h3 : Cond.initialized "java/lang/Math" ∈ Wall) (h4 : Cond.code Lib.Math.abs.name Lib.Math.abs.code 1 (some .int) ∈ Wall) (hf : 1 ≤ R.frames) (hlo : (st.map fun v => v.category).sum + 13 ≤ R.locals) (hk : k ≤ R.cells) (hn : n ≤ R.slots) (kk : Ev G M R Q (pc + 3) L (.int (if 0 ≤ x then x else 0 - x) :: st) h k n) : Ev G M R Q pc L (.int x :: st) h k n := by
  intro p e s m args below meth c H locs ls cx hl hH hS
  have hts := cx.2.2.2.2.1
  exact va_mabs cx.1 cx.2.1 (by rw [cx.2.2.1]; exact hl.1.symm) cx.2.2.2.2.2.1 (hts _ h1) (hts _ h2) (hts _ h3) (hts _ h4) hf hlo hk hn d (kk p e s m args below meth c H locs ls cx hl hH hS)
theorem ev_maxl {x y : Int64} {idx : Nat} (d : decode M.2.1 pc = .ok (.invokestatic idx, 3)) (h1 : Cond.methodLink M.1.cls idx Lib.MathLoose.max_long.x ∈ Wall) (h2 : Cond.static Lib.MathLoose.max_long.x ∈ Wall) (h3 : Cond.initialized "java/lang/Math" ∈ Wall) (h4 : Cond.code Lib.MathLoose.max_long.x Lib.MathLoose.max_long.code 4 (some .long) ∈ Wall) (hf : 1 ≤ R.frames) (hlo : (st.map fun v => v.category).sum + 15 ≤ R.locals) (hk : k ≤ R.cells) (hn : n ≤ R.slots) (kk : Ev G M R Q (pc + 3) L (.long (if y < x then x else y) :: st) h k n) : Ev G M R Q pc L (.long y :: .long x :: st) h k n := by
  intro p e s m args below meth c H locs ls cx hl hH hS
  have hts := cx.2.2.2.2.1
  exact va_mmax_long cx.1 cx.2.1 (by rw [cx.2.2.1]; exact hl.1.symm) cx.2.2.2.2.2.1 (hts _ h1) (hts _ h2) (hts _ h3) (hts _ h4) hf hlo hk hn d (kk p e s m args below meth c H locs ls cx hl hH hS)
theorem ev_copyi {a a0 N N0 idx : Nat} {f g : Nat → Int32} {sp dp z : Int32} (d : decode M.2.1 pc = .ok (.invokestatic idx, 3)) (h1 : Cond.methodLink M.1.cls idx arraycopyName ∈ Wall) (h2 : Cond.native arraycopyName ∈ Wall) (h3 : Cond.static arraycopyName ∈ Wall) (h4 : Cond.initialized "java/lang/System" ∈ Wall) (ha0 : h a0 = some (.inl (G_i G, N0, .inl f))) (ha : h a = some (.inl (G_i G, N, .inl g))) (hsp : ¬ sp < 0) (hdp : ¬ dp < 0) (hz : ¬ z < 0) (hs : sp.toNatClampNeg + z.toNatClampNeg ≤ N0) (hd : dp.toNatClampNeg + z.toNatClampNeg ≤ N) (hf : 1 ≤ R.frames) (hlo : (st.map fun v => v.category).sum + (nativeFrameWords "java/lang/System" "arraycopy" 5 + 11) ≤ R.locals) (kk : Ev G M R Q (pc + 3) L st (hup h a (.inl (G_i G, N, .inl (va_cpy f g sp.toNatClampNeg dp.toNatClampNeg z.toNatClampNeg)))) k n) : Ev G M R Q pc L (.int z :: .int dp :: .ref a :: .int sp :: .ref a0 :: st) h k n := by
  intro p e s m args below meth c H locs ls cx hl hH hS
  have hts := cx.2.2.2.2.1
  have kk := fun H locs => kk p e s m args below meth c H locs ls cx hl
  obtain ⟨ws, w1, w2, w3⟩ := hH
  obtain ⟨q0, hq0⟩ := w1 _ _ ha0
  obtain ⟨q1, hq1⟩ := w1 _ _ ha
  exact va_copyi cx.1 cx.2.1 (by rw [cx.2.2.1]; exact hl.1.symm) cx.2.2.2.2.2.1 (hts _ h1) (hts _ h2) (hts _ h3) (hts _ h4) cx.2.2.2.2.2.2.2.2.1 w2 w3 hS q0 q1 0 0 hq0 hq1 rfl rfl rfl hsp hdp hz hs hd (fun _ _ => rfl) hf hlo d (fun H1 locs1 f1 f2 f3 => kk H1 locs1 ⟨_, hp_put w1 hq1, f1, f2⟩ f3)
theorem ev_copyl {a a0 N N0 idx : Nat} {f g : Nat → Int64} {sp dp z : Int32} (d : decode M.2.1 pc = .ok (.invokestatic idx, 3)) (h1 : Cond.methodLink M.1.cls idx arraycopyName ∈ Wall) (h2 : Cond.native arraycopyName ∈ Wall) (h3 : Cond.static arraycopyName ∈ Wall) (h4 : Cond.initialized "java/lang/System" ∈ Wall) (ha0 : h a0 = some (.inl (G_j G, N0, .inr (.inl f)))) (ha : h a = some (.inl (G_j G, N, .inr (.inl g)))) (hsp : ¬ sp < 0) (hdp : ¬ dp < 0) (hz : ¬ z < 0) (hs : sp.toNatClampNeg + z.toNatClampNeg ≤ N0) (hd : dp.toNatClampNeg + z.toNatClampNeg ≤ N) (hf : 1 ≤ R.frames) (hlo : (st.map fun v => v.category).sum + (nativeFrameWords "java/lang/System" "arraycopy" 5 + 11) ≤ R.locals) (kk : Ev G M R Q (pc + 3) L st (hup h a (.inl (G_j G, N, .inr (.inl (va_cpy f g sp.toNatClampNeg dp.toNatClampNeg z.toNatClampNeg))))) k n) : Ev G M R Q pc L (.int z :: .int dp :: .ref a :: .int sp :: .ref a0 :: st) h k n := by
  intro p e s m args below meth c H locs ls cx hl hH hS
  have hts := cx.2.2.2.2.1
  have kk := fun H locs => kk p e s m args below meth c H locs ls cx hl
  obtain ⟨ws, w1, w2, w3⟩ := hH
  obtain ⟨q0, hq0⟩ := w1 _ _ ha0
  obtain ⟨q1, hq1⟩ := w1 _ _ ha
  exact va_copyl cx.1 cx.2.1 (by rw [cx.2.2.1]; exact hl.1.symm) cx.2.2.2.2.2.1 (hts _ h1) (hts _ h2) (hts _ h3) (hts _ h4) cx.2.2.2.2.2.2.2.2.1 w2 w3 hS q0 q1 1 1 hq0 hq1 rfl rfl rfl hsp hdp hz hs hd (fun _ _ => rfl) hf hlo d (fun H1 locs1 f1 f2 f3 => kk H1 locs1 ⟨_, hp_put w1 hq1, f1, f2⟩ f3)
/-- the same rows with a new name for the heap behind a store -/
theorem ev_put2 {idx ci j a : Nat} {fs fs' : List Value} {v : Value} {ty : FieldType} (d : decode M.2.1 pc = .ok (.putfield idx, 3)) (hf : Fw M.1.cls idx ci j ty) (hini : M.1.name = "<init>" ∨ ∀ C T N, classes[ci]? = some (C, T, N) → (T j).2.2.2 = false) (ha : h a = some (.inr (ci, fs))) (hl9 : j < fs.length) (hna : narrow ty v = v) (hfi : fits ty v = true) (hs : fs.set j v = fs') (kk : ∀ h2 : HM, h2 a = some (.inr (ci, fs')) → (∀ b, b ≠ a → h2 b = h b) → Ev G M R Q (pc + 3) L st h2 k n) : Ev G M R Q pc L (v :: .ref a :: st) h k n :=
  ev_put d hf hini ha hl9 hna hfi (kk _ (by rw [← hs]; exact hup_s) (fun _ hb => hup_n hb))
theorem ev_iastore2 {a N : Nat} {f f' : Nat → Int32} {i : Int32} {x : Int32} (d : decode M.2.1 pc = .ok (.iastore, 1)) (ha : h a = some (.inl (G_i G, N, .inl f))) (hi : vp_in i N) (hs : upd f i.toNatClampNeg x = f') (kk : ∀ h2 : HM, h2 a = some (.inl (G_i G, N, .inl f')) → (∀ b, b ≠ a → h2 b = h b) → Ev G M R Q (pc + 1) L st h2 k n) : Ev G M R Q pc L (.int x :: .int i :: .ref a :: st) h k n :=
  ev_iastore d ha hi (kk _ (by rw [← hs]; exact hup_s) (fun _ hb => hup_n hb))
theorem ev_lastore2 {a N : Nat} {f f' : Nat → Int64} {i : Int32} {x : Int64} (d : decode M.2.1 pc = .ok (.lastore, 1)) (ha : h a = some (.inl (G_j G, N, .inr (.inl f)))) (hi : vp_in i N) (hs : vp_updL f i.toNatClampNeg x = f') (kk : ∀ h2 : HM, h2 a = some (.inl (G_j G, N, .inr (.inl f'))) → (∀ b, b ≠ a → h2 b = h b) → Ev G M R Q (pc + 1) L st h2 k n) : Ev G M R Q pc L (.long x :: .int i :: .ref a :: st) h k n :=
  ev_lastore d ha hi (kk _ (by rw [← hs]; exact hup_s) (fun _ hb => hup_n hb))
end EVROWS
/-- objects of many fields: by a function -/
def fsN (N : Nat) (σ : Nat → Value) : List Value := (List.range N).map σ
def sup (σ : Nat → Value) (j : Nat) (v : Value) : Nat → Value := fun i => if i = j then v else σ i
theorem fsN_get {N j : Nat} {σ : Nat → Value} (hj : j < N) : (fsN N σ)[j]? = some (σ j) := by
  unfold fsN
  rw [List.getElem?_map, List.getElem?_range hj]
  rfl
theorem fsN_set {N j : Nat} {σ : Nat → Value} {v : Value} : (fsN N σ).set j v = fsN N (sup σ j v) := by
  apply List.ext_getElem?
  intro i
  rw [List.getElem?_set]
  by_cases hi : i < N
  · rw [fsN_get hi]
    by_cases hij : j = i
    · subst hij
      simp [fsN, hi, sup]
    · rw [if_neg hij, fsN_get hi]
      simp [sup, Ne.symm hij]
  · have e1 : (fsN N (sup σ j v))[i]? = none := by simp [fsN]; omega
    have e2 : (fsN N σ)[i]? = none := by simp [fsN]; omega
    rw [e1, e2]
    split
    · rename_i hij
      subst hij
      simp [fsN, hi]
    · rfl
def Fs (S : List Nat) (σ σ' : Nat → Value) : Prop := ∀ i, i ∉ S → σ' i = σ i
theorem Fs.rf {S : List Nat} {σ : Nat → Value} : Fs S σ σ := fun _ _ => rfl
theorem Fs.step {S : List Nat} {σ σ1 σ2 : Nat → Value} {j : Nat} (f : Fs S σ σ1) (hj : j ∈ S) (ho : ∀ i, i ≠ j → σ2 i = σ1 i) : Fs S σ σ2 := fun i hi => (ho i (fun q => hi (q ▸ hj))).trans (f i hi)
theorem Fs.call {S S' : List Nat} {σ σ1 σ2 : Nat → Value} (f : Fs S σ σ1) (hs : ∀ x ∈ S', x ∈ S) (g : Fs S' σ1 σ2) : Fs S σ σ2 := fun i hi => (g i (fun q => hi (hs i q))).trans (f i hi)
section EVF
variable {G : GT} {M : MT} {R : Room} {Q : Option Value → HM → Prop} {pc : Nat} {L : List (Nat × Value)} {st : List Value} {h : HM} {k n : Nat}
theorem ev_getF {idx ci j a N : Nat} {σ : Nat → Value} {v : Value} (d : decode M.2.1 pc = .ok (.getfield idx, 3)) (hf : Fl M.1.cls idx ci j) (ha : h a = some (.inr (ci, fsN N σ))) (hj : j < N) (hv : σ j = v) (kk : Ev G M R Q (pc + 3) L (v :: st) h k n) : Ev G M R Q pc L (.ref a :: st) h k n :=
  ev_get d hf ha (by rw [fsN_get hj, hv]) kk
theorem ev_putF2 {idx ci j a N : Nat} {σ : Nat → Value} {v : Value} {ty : FieldType} (d : decode M.2.1 pc = .ok (.putfield idx, 3)) (hf : Fw M.1.cls idx ci j ty) (hini : M.1.name = "<init>" ∨ ∀ C T N, classes[ci]? = some (C, T, N) → (T j).2.2.2 = false) (ha : h a = some (.inr (ci, fsN N σ))) (hj : j < N) (hna : narrow ty v = v) (hfi : fits ty v = true) (kk : ∀ (h2 : HM) (σ2 : Nat → Value), h2 a = some (.inr (ci, fsN N σ2)) → σ2 j = v → (∀ i, i ≠ j → σ2 i = σ i) → (∀ b, b ≠ a → h2 b = h b) → Ev G M R Q (pc + 3) L st h2 k n) : Ev G M R Q pc L (v :: .ref a :: st) h k n :=
  ev_put2 d hf hini ha (by simp [fsN, hj]) hna hfi fsN_set (fun h2 h2a h2o => kk h2 (sup σ j v) h2a (if_pos rfl) (fun i hi => if_neg hi) h2o)
end EVF
/-- a frame: outside the listed cells nothing has changed -/
def Fm (S : List Nat) (h h' : HM) : Prop := ∀ b, b ∉ S → h' b = h b
theorem Fm.rf {S : List Nat} {h : HM} : Fm S h h := fun _ _ => rfl
theorem Fm.step {S : List Nat} {h h1 h2 : HM} {a : Nat} (f : Fm S h h1) (ha : a ∈ S) (ho : ∀ b, b ≠ a → h2 b = h1 b) : Fm S h h2 := fun b hb => (ho b (fun q => hb (q ▸ ha))).trans (f b hb)
theorem Fm.call {S S' : List Nat} {h h1 h2 : HM} (f : Fm S h h1) (hs : ∀ x ∈ S', x ∈ S) (g : Fm S' h1 h2) : Fm S h h2 := fun b hb => (g b (fun q => hb (hs b q))).trans (f b hb)
theorem nin0 {x : Nat} : x ∉ ([] : List Nat) := by simp
theorem ninc {x a : Nat} {l : List Nat} (h : x ≠ a) (t : x ∉ l) : x ∉ a :: l := by
  intro q
  rcases List.mem_cons.mp q with q | q
  · exact h q
  · exact t q
theorem cne {h : HM} {a b : Nat} {e e' : va_E} (ha : h a = some e) (hb : h b = some e') (hn : e ≠ e') : a ≠ b := by
  intro q
  subst q
  exact hn (Option.some.inj (ha.symm.trans hb))
abbrev rm (f l : Nat) : Room := { frames := f, cells := 0, slots := 0, locals := l }
/-- a call that only reads -/
abbrev Pu (v : Value) (h : HM) : Option Value → HM → Prop := fun r h' => r = some v ∧ h' = h
section EVPU
variable {G : GT} {M : MT} {R : Room} {Q : Option Value → HM → Prop} {pc : Nat} {L : List (Nat × Value)} {st : List Value} {h : HM} {k n : Nat}
theorem ev_pV (M' : MT) (f l : Nat) {v : Value} {idx b ci np : Nat} {T' : u_T} {N' : Nat} {fs As rest : List Value} (hM : Rn G M' (rm f l) (.ref b :: As) h (Pu v h)) (d : decode M.2.1 pc = .ok (.invokevirtual idx, 3)) (hmk : Mk M' np) (hml : Ml M.1.cls idx M') (hmv : Mv M') (hb : h b = some (.inr (ci, fs))) (hci : classes[ci]? = some (M'.1.cls, T', N')) (hn : As.length = np) (hst : st = As.reverse ++ .ref b :: rest) (hW : (rest.map fun v => v.category).sum ≤ 8) (hR : f + 1 ≤ R.frames ∧ 8 + (M'.2.2.1 + 11) + l ≤ R.locals) (hf : k ≤ R.cells ∧ n ≤ R.slots) (kk : Ev G M R Q (pc + 3) L (v :: rest) h k n) : Ev G M R Q pc L st h k n :=
  ev_callV M' (rm f l) _ hM d hmk hml hmv hb hci hn hst hW hR hf (fun r h' q => by obtain ⟨rfl, q2⟩ := q; rw [q2]; exact kk)
theorem ev_pS (M' : MT) (f l : Nat) {v : Value} {idx np : Nat} {As rest : List Value} (hM : Rn G M' (rm f l) As h (Pu v h)) (d : decode M.2.1 pc = .ok (.invokestatic idx, 3)) (hmk : Mk M' np) (hml : Ml M.1.cls idx M') (hsta : Cond.static M'.1 ∈ Wall) (hn : As.length = np) (hst : st = As.reverse ++ rest) (hW : (rest.map fun v => v.category).sum ≤ 8) (hR : f + 1 ≤ R.frames ∧ 8 + (M'.2.2.1 + 11) + l ≤ R.locals) (hf : k ≤ R.cells ∧ n ≤ R.slots) (kk : Ev G M R Q (pc + 3) L (v :: rest) h k n) : Ev G M R Q pc L st h k n :=
  ev_callS M' (rm f l) _ hM d hmk hml hsta hn hst hW hR hf (fun r h' q => by obtain ⟨rfl, q2⟩ := q; rw [q2]; exact kk)
end EVPU
