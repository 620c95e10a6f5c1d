theorem d_Mo_takeCue_0 : decode M_Mo_takeCue.2.1 0 = .ok (.aload_n 0, 1) := by decide +kernel
theorem d_Mo_takeCue_1 : decode M_Mo_takeCue.2.1 1 = .ok (.getfield 110, 3) := by decide +kernel
theorem d_Mo_takeCue_4 : decode M_Mo_takeCue.2.1 4 = .ok (.istore_n 2, 1) := by decide +kernel
theorem d_Mo_takeCue_5 : decode M_Mo_takeCue.2.1 5 = .ok (.aload_n 0, 1) := by decide +kernel
theorem d_Mo_takeCue_6 : decode M_Mo_takeCue.2.1 6 = .ok (.getfield 140, 3) := by decide +kernel
theorem d_Mo_takeCue_9 : decode M_Mo_takeCue.2.1 9 = .ok (.bipush 16, 2) := by decide +kernel
theorem d_Mo_takeCue_11 : decode M_Mo_takeCue.2.1 11 = .ok (.if_icmp .ne 7, 3) := by decide +kernel
theorem d_Mo_takeCue_14 : decode M_Mo_takeCue.2.1 14 = .ok (.iconst 1, 1) := by decide +kernel
theorem d_Mo_takeCue_15 : decode M_Mo_takeCue.2.1 15 = .ok (.goto 4, 3) := by decide +kernel
theorem d_Mo_takeCue_18 : decode M_Mo_takeCue.2.1 18 = .ok (.iconst 0, 1) := by decide +kernel
theorem d_Mo_takeCue_19 : decode M_Mo_takeCue.2.1 19 = .ok (.istore_n 3, 1) := by decide +kernel
theorem d_Mo_takeCue_20 : decode M_Mo_takeCue.2.1 20 = .ok (.aload_n 0, 1) := by decide +kernel
theorem d_Mo_takeCue_21 : decode M_Mo_takeCue.2.1 21 = .ok (.getfield 140, 3) := by decide +kernel
theorem d_Mo_takeCue_24 : decode M_Mo_takeCue.2.1 24 = .ok (.ifCond .ne 7, 3) := by decide +kernel
theorem d_Mo_takeCue_27 : decode M_Mo_takeCue.2.1 27 = .ok (.lconst 0, 1) := by decide +kernel
theorem d_Mo_takeCue_28 : decode M_Mo_takeCue.2.1 28 = .ok (.goto 14, 3) := by decide +kernel
theorem d_Mo_takeCue_31 : decode M_Mo_takeCue.2.1 31 = .ok (.aload_n 0, 1) := by decide +kernel
theorem d_Mo_takeCue_32 : decode M_Mo_takeCue.2.1 32 = .ok (.getfield 48, 3) := by decide +kernel
theorem d_Mo_takeCue_35 : decode M_Mo_takeCue.2.1 35 = .ok (.aload_n 0, 1) := by decide +kernel
theorem d_Mo_takeCue_36 : decode M_Mo_takeCue.2.1 36 = .ok (.getfield 140, 3) := by decide +kernel
theorem d_Mo_takeCue_39 : decode M_Mo_takeCue.2.1 39 = .ok (.iconst 1, 1) := by decide +kernel
theorem d_Mo_takeCue_40 : decode M_Mo_takeCue.2.1 40 = .ok (.isub, 1) := by decide +kernel
theorem d_Mo_takeCue_41 : decode M_Mo_takeCue.2.1 41 = .ok (.laload, 1) := by decide +kernel
theorem d_Mo_takeCue_42 : decode M_Mo_takeCue.2.1 42 = .ok (.lstore 4, 2) := by decide +kernel
theorem d_Mo_takeCue_44 : decode M_Mo_takeCue.2.1 44 = .ok (.aload_n 0, 1) := by decide +kernel
theorem d_Mo_takeCue_45 : decode M_Mo_takeCue.2.1 45 = .ok (.iload_n 3, 1) := by decide +kernel
theorem d_Mo_takeCue_46 : decode M_Mo_takeCue.2.1 46 = .ok (.ifCond .eq 8, 3) := by decide +kernel
theorem d_Mo_takeCue_49 : decode M_Mo_takeCue.2.1 49 = .ok (.bipush 15, 2) := by decide +kernel
theorem d_Mo_takeCue_51 : decode M_Mo_takeCue.2.1 51 = .ok (.goto 7, 3) := by decide +kernel
theorem d_Mo_takeCue_54 : decode M_Mo_takeCue.2.1 54 = .ok (.aload_n 0, 1) := by decide +kernel
theorem d_Mo_takeCue_55 : decode M_Mo_takeCue.2.1 55 = .ok (.getfield 140, 3) := by decide +kernel
theorem d_Mo_takeCue_58 : decode M_Mo_takeCue.2.1 58 = .ok (.putfield 140, 3) := by decide +kernel
theorem d_Mo_takeCue_61 : decode M_Mo_takeCue.2.1 61 = .ok (.aload_n 0, 1) := by decide +kernel
theorem d_Mo_takeCue_62 : decode M_Mo_takeCue.2.1 62 = .ok (.getfield 54, 3) := by decide +kernel
theorem d_Mo_takeCue_65 : decode M_Mo_takeCue.2.1 65 = .ok (.aload_n 0, 1) := by decide +kernel
theorem d_Mo_takeCue_66 : decode M_Mo_takeCue.2.1 66 = .ok (.getfield 140, 3) := by decide +kernel
theorem d_Mo_takeCue_69 : decode M_Mo_takeCue.2.1 69 = .ok (.iconst 0, 1) := by decide +kernel
theorem d_Mo_takeCue_70 : decode M_Mo_takeCue.2.1 70 = .ok (.iastore, 1) := by decide +kernel
theorem d_Mo_takeCue_71 : decode M_Mo_takeCue.2.1 71 = .ok (.lconst 0, 1) := by decide +kernel
theorem d_Mo_takeCue_72 : decode M_Mo_takeCue.2.1 72 = .ok (.lstore 6, 2) := by decide +kernel
theorem d_Mo_takeCue_74 : decode M_Mo_takeCue.2.1 74 = .ok (.lconst 0, 1) := by decide +kernel
theorem d_Mo_takeCue_75 : decode M_Mo_takeCue.2.1 75 = .ok (.lstore 8, 2) := by decide +kernel
theorem d_Mo_takeCue_77 : decode M_Mo_takeCue.2.1 77 = .ok (.iload_n 1, 1) := by decide +kernel
theorem d_Mo_takeCue_78 : decode M_Mo_takeCue.2.1 78 = .ok (.ifCond .ne 46, 3) := by decide +kernel
theorem d_Mo_takeCue_81 : decode M_Mo_takeCue.2.1 81 = .ok (.aload_n 0, 1) := by decide +kernel
theorem d_Mo_takeCue_82 : decode M_Mo_takeCue.2.1 82 = .ok (.invokevirtual 153, 3) := by decide +kernel
theorem d_Mo_takeCue_85 : decode M_Mo_takeCue.2.1 85 = .ok (.lstore 6, 2) := by decide +kernel
theorem d_Mo_takeCue_87 : decode M_Mo_takeCue.2.1 87 = .ok (.aload_n 0, 1) := by decide +kernel
theorem d_Mo_takeCue_88 : decode M_Mo_takeCue.2.1 88 = .ok (.bipush 32, 2) := by decide +kernel
theorem d_Mo_takeCue_90 : decode M_Mo_takeCue.2.1 90 = .ok (.invokevirtual 126, 3) := by decide +kernel
theorem d_Mo_takeCue_93 : decode M_Mo_takeCue.2.1 93 = .ok (.aload_n 0, 1) := by decide +kernel
theorem d_Mo_takeCue_94 : decode M_Mo_takeCue.2.1 94 = .ok (.bipush 62, 2) := by decide +kernel
theorem d_Mo_takeCue_96 : decode M_Mo_takeCue.2.1 96 = .ok (.invokevirtual 126, 3) := by decide +kernel
theorem d_Mo_takeCue_99 : decode M_Mo_takeCue.2.1 99 = .ok (.aload_n 0, 1) := by decide +kernel
theorem d_Mo_takeCue_100 : decode M_Mo_takeCue.2.1 100 = .ok (.bipush 32, 2) := by decide +kernel
theorem d_Mo_takeCue_102 : decode M_Mo_takeCue.2.1 102 = .ok (.invokevirtual 126, 3) := by decide +kernel
theorem d_Mo_takeCue_105 : decode M_Mo_takeCue.2.1 105 = .ok (.aload_n 0, 1) := by decide +kernel
theorem d_Mo_takeCue_106 : decode M_Mo_takeCue.2.1 106 = .ok (.invokevirtual 153, 3) := by decide +kernel
theorem d_Mo_takeCue_109 : decode M_Mo_takeCue.2.1 109 = .ok (.lstore 8, 2) := by decide +kernel
theorem d_Mo_takeCue_111 : decode M_Mo_takeCue.2.1 111 = .ok (.aload_n 0, 1) := by decide +kernel
theorem d_Mo_takeCue_112 : decode M_Mo_takeCue.2.1 112 = .ok (.bipush 10, 2) := by decide +kernel
theorem d_Mo_takeCue_114 : decode M_Mo_takeCue.2.1 114 = .ok (.invokevirtual 126, 3) := by decide +kernel
theorem d_Mo_takeCue_117 : decode M_Mo_takeCue.2.1 117 = .ok (.aload_n 0, 1) := by decide +kernel
theorem d_Mo_takeCue_118 : decode M_Mo_takeCue.2.1 118 = .ok (.invokevirtual 156, 3) := by decide +kernel
theorem d_Mo_takeCue_121 : decode M_Mo_takeCue.2.1 121 = .ok (.goto 43, 3) := by decide +kernel
theorem d_Mo_takeCue_124 : decode M_Mo_takeCue.2.1 124 = .ok (.iload_n 1, 1) := by decide +kernel
theorem d_Mo_takeCue_125 : decode M_Mo_takeCue.2.1 125 = .ok (.iconst 1, 1) := by decide +kernel
theorem d_Mo_takeCue_126 : decode M_Mo_takeCue.2.1 126 = .ok (.if_icmp .ne 22, 3) := by decide +kernel
theorem d_Mo_takeCue_129 : decode M_Mo_takeCue.2.1 129 = .ok (.aload_n 0, 1) := by decide +kernel
theorem d_Mo_takeCue_130 : decode M_Mo_takeCue.2.1 130 = .ok (.invokevirtual 159, 3) := by decide +kernel
theorem d_Mo_takeCue_133 : decode M_Mo_takeCue.2.1 133 = .ok (.lstore 6, 2) := by decide +kernel
theorem d_Mo_takeCue_135 : decode M_Mo_takeCue.2.1 135 = .ok (.aload_n 0, 1) := by decide +kernel
theorem d_Mo_takeCue_136 : decode M_Mo_takeCue.2.1 136 = .ok (.invokevirtual 159, 3) := by decide +kernel
theorem d_Mo_takeCue_139 : decode M_Mo_takeCue.2.1 139 = .ok (.lstore 8, 2) := by decide +kernel
theorem d_Mo_takeCue_141 : decode M_Mo_takeCue.2.1 141 = .ok (.aload_n 0, 1) := by decide +kernel
theorem d_Mo_takeCue_142 : decode M_Mo_takeCue.2.1 142 = .ok (.invokevirtual 162, 3) := by decide +kernel
theorem d_Mo_takeCue_145 : decode M_Mo_takeCue.2.1 145 = .ok (.goto 19, 3) := by decide +kernel
theorem d_Mo_takeCue_148 : decode M_Mo_takeCue.2.1 148 = .ok (.aload_n 0, 1) := by decide +kernel
theorem d_Mo_takeCue_149 : decode M_Mo_takeCue.2.1 149 = .ok (.invokevirtual 165, 3) := by decide +kernel
theorem d_Mo_takeCue_152 : decode M_Mo_takeCue.2.1 152 = .ok (.lstore 6, 2) := by decide +kernel
theorem d_Mo_takeCue_154 : decode M_Mo_takeCue.2.1 154 = .ok (.aload_n 0, 1) := by decide +kernel
theorem d_Mo_takeCue_155 : decode M_Mo_takeCue.2.1 155 = .ok (.invokevirtual 165, 3) := by decide +kernel
theorem d_Mo_takeCue_158 : decode M_Mo_takeCue.2.1 158 = .ok (.lstore 8, 2) := by decide +kernel
theorem d_Mo_takeCue_160 : decode M_Mo_takeCue.2.1 160 = .ok (.aload_n 0, 1) := by decide +kernel
theorem d_Mo_takeCue_161 : decode M_Mo_takeCue.2.1 161 = .ok (.invokevirtual 168, 3) := by decide +kernel
theorem d_Mo_takeCue_164 : decode M_Mo_takeCue.2.1 164 = .ok (.aload_n 0, 1) := by decide +kernel
theorem d_Mo_takeCue_165 : decode M_Mo_takeCue.2.1 165 = .ok (.getfield 107, 3) := by decide +kernel
theorem d_Mo_takeCue_168 : decode M_Mo_takeCue.2.1 168 = .ok (.ifCond .ge 37, 3) := by decide +kernel
theorem d_Mo_takeCue_171 : decode M_Mo_takeCue.2.1 171 = .ok (.iload_n 3, 1) := by decide +kernel
theorem d_Mo_takeCue_172 : decode M_Mo_takeCue.2.1 172 = .ok (.ifCond .ne 28, 3) := by decide +kernel
theorem d_Mo_takeCue_175 : decode M_Mo_takeCue.2.1 175 = .ok (.lload 6, 2) := by decide +kernel
theorem d_Mo_takeCue_177 : decode M_Mo_takeCue.2.1 177 = .ok (.lload 8, 2) := by decide +kernel
theorem d_Mo_takeCue_179 : decode M_Mo_takeCue.2.1 179 = .ok (.lcmp, 1) := by decide +kernel
theorem d_Mo_takeCue_180 : decode M_Mo_takeCue.2.1 180 = .ok (.ifCond .ge 20, 3) := by decide +kernel
theorem d_Mo_takeCue_183 : decode M_Mo_takeCue.2.1 183 = .ok (.lload 6, 2) := by decide +kernel
theorem d_Mo_takeCue_185 : decode M_Mo_takeCue.2.1 185 = .ok (.lload 4, 2) := by decide +kernel
theorem d_Mo_takeCue_187 : decode M_Mo_takeCue.2.1 187 = .ok (.lcmp, 1) := by decide +kernel
theorem d_Mo_takeCue_188 : decode M_Mo_takeCue.2.1 188 = .ok (.ifCond .lt 12, 3) := by decide +kernel
theorem d_Mo_takeCue_191 : decode M_Mo_takeCue.2.1 191 = .ok (.lload 8, 2) := by decide +kernel
theorem d_Mo_takeCue_193 : decode M_Mo_takeCue.2.1 193 = .ok (.ldc2_w 171, 3) := by decide +kernel
theorem d_Mo_takeCue_196 : decode M_Mo_takeCue.2.1 196 = .ok (.lcmp, 1) := by decide +kernel
theorem d_Mo_takeCue_197 : decode M_Mo_takeCue.2.1 197 = .ok (.ifCond .le 8, 3) := by decide +kernel
theorem d_Mo_takeCue_200 : decode M_Mo_takeCue.2.1 200 = .ok (.aload_n 0, 1) := by decide +kernel
theorem d_Mo_takeCue_201 : decode M_Mo_takeCue.2.1 201 = .ok (.iload_n 2, 1) := by decide +kernel
theorem d_Mo_takeCue_202 : decode M_Mo_takeCue.2.1 202 = .ok (.putfield 107, 3) := by decide +kernel
theorem d_Mo_takeCue_205 : decode M_Mo_takeCue.2.1 205 = .ok (.aload_n 0, 1) := by decide +kernel
theorem d_Mo_takeCue_206 : decode M_Mo_takeCue.2.1 206 = .ok (.getfield 48, 3) := by decide +kernel
theorem d_Mo_takeCue_209 : decode M_Mo_takeCue.2.1 209 = .ok (.aload_n 0, 1) := by decide +kernel
theorem d_Mo_takeCue_210 : decode M_Mo_takeCue.2.1 210 = .ok (.getfield 140, 3) := by decide +kernel
theorem d_Mo_takeCue_213 : decode M_Mo_takeCue.2.1 213 = .ok (.lload 6, 2) := by decide +kernel
theorem d_Mo_takeCue_215 : decode M_Mo_takeCue.2.1 215 = .ok (.lastore, 1) := by decide +kernel
theorem d_Mo_takeCue_216 : decode M_Mo_takeCue.2.1 216 = .ok (.aload_n 0, 1) := by decide +kernel
theorem d_Mo_takeCue_217 : decode M_Mo_takeCue.2.1 217 = .ok (.getfield 51, 3) := by decide +kernel
theorem d_Mo_takeCue_220 : decode M_Mo_takeCue.2.1 220 = .ok (.aload_n 0, 1) := by decide +kernel
theorem d_Mo_takeCue_221 : decode M_Mo_takeCue.2.1 221 = .ok (.getfield 140, 3) := by decide +kernel
theorem d_Mo_takeCue_224 : decode M_Mo_takeCue.2.1 224 = .ok (.lload 8, 2) := by decide +kernel
theorem d_Mo_takeCue_226 : decode M_Mo_takeCue.2.1 226 = .ok (.lastore, 1) := by decide +kernel
theorem d_Mo_takeCue_227 : decode M_Mo_takeCue.2.1 227 = .ok (.aload_n 0, 1) := by decide +kernel
theorem d_Mo_takeCue_228 : decode M_Mo_takeCue.2.1 228 = .ok (.dup, 1) := by decide +kernel
theorem d_Mo_takeCue_229 : decode M_Mo_takeCue.2.1 229 = .ok (.getfield 140, 3) := by decide +kernel
theorem d_Mo_takeCue_232 : decode M_Mo_takeCue.2.1 232 = .ok (.iconst 1, 1) := by decide +kernel
theorem d_Mo_takeCue_233 : decode M_Mo_takeCue.2.1 233 = .ok (.iadd, 1) := by decide +kernel
theorem d_Mo_takeCue_234 : decode M_Mo_takeCue.2.1 234 = .ok (.putfield 140, 3) := by decide +kernel
theorem d_Mo_takeCue_237 : decode M_Mo_takeCue.2.1 237 = .ok (.return_, 1) := by decide +kernel
/-- the state behind a cue's head -/
def hq (f : Int) (F : Nat → Int) (n p : Nat) : Nat × Int := ((hP f F n p).1, if (hP f F n p).2 = true then -1 else ((hP f F n p).1 : Int))
theorem hq_0 {f : Int} {F : Nat → Int} {n p : Nat} (h : f = 0) : sq F n pat0 (p, -1) = hq f F n p := by
  unfold sq hq
  rw [hP_0 h]
  exact if_pos (show (-1 : Int) < 0 by decide)
theorem hq_2 {f : Int} {F : Nat → Int} {n p : Nat} (h : f ≠ 0) (h1 : f ≠ 1) : sq F n pat6 (sq F n pat6 (p, -1)) = hq f F n p := by
  rw [← sq_app]
  unfold sq hq
  rw [hP_2 h h1]
  exact if_pos (show (-1 : Int) < 0 by decide)
theorem hq_1 {f : Int} {F : Nat → Int} {n p : Nat} (h : f = 1) : fq F n (fq F n (p, -1)) = hq f F n p := by
  have e : fq F n (p, -1) = ((frP F n p).1, if (frP F n p).2 = true then -1 else ((frP F n p).1 : Int)) := if_pos (show (-1 : Int) < 0 by decide)
  unfold hq
  rw [hP_1 h, e]
  by_cases w : (frP F n p).2 = true
  · rw [if_pos w, if_pos w]
    exact if_pos (show (-1 : Int) < 0 by decide)
  · rw [if_neg w, if_neg w, if_neg w]
    exact if_neg (by show ¬ ((frP F n p).1 : Int) < 0; omega)
theorem fq_ok {F : Nat → Int} {n : Nat} {s : Nat × Int} (h : (fq F n s).2 < 0) : s.2 < 0 ∧ (fq F n s).1 = (frP F n s.1).1 := by
  unfold fq at h ⊢
  split
  · rename_i q
    exact ⟨q, rfl⟩
  · rename_i q
    rw [if_neg q] at h
    exact absurd h q
def cuF (o : Nat × Option Qe) (p : Nat) : Int := match o.2 with
  | some _ => (p : Int)
  | none => (o.1 : Int)
theorem rowL_t {C : List Qe} {S : Qe} {K1 K2 K3 K4 : Nat → Int} (h : rowL C K1 K2 K3 K4) (hS : S.2.2.length ≤ 64) : rowL (C ++ [S]) (zup K1 C.length S.1) (zup K2 C.length S.2.1) (zup K3 C.length (S.2.2.length : Int)) (tW K4 (64 * C.length) S.2.2) := by
  intro i R hR
  by_cases q : i < C.length
  · rw [List.getElem?_append_left q] at hR
    obtain ⟨h1, h2, h3, h4, h5⟩ := h i R hR
    rw [zup_n (by omega), zup_n (by omega), zup_n (by omega)]
    refine ⟨h1, h2, h3, h4, fun j x hx => ?_⟩
    have hj : j < R.2.2.length := by
      rcases Nat.lt_or_ge j R.2.2.length with w | w
      · exact w
      · rw [List.getElem?_eq_none w] at hx; cases hx
    rw [tW_o (Or.inl (by omega))]
    exact h5 j x hx
  · rw [List.getElem?_append_right (by omega)] at hR
    have hi : i = C.length := by
      rcases Nat.lt_or_ge C.length i with w | w
      · rw [List.getElem?_eq_none (by simp; omega)] at hR; cases hR
      · omega
    subst hi
    rw [Nat.sub_self] at hR
    cases hR
    rw [zup_s, zup_s, zup_s]
    refine ⟨rfl, rfl, rfl, hS, fun j x hx => ?_⟩
    rw [show C.length * 64 + j = 64 * C.length + j from by omega]
    exact tW_at hx
theorem lstS_r {C : List Qe} (h : cuesR C) : 0 ≤ lstS C ∧ lstS C ≤ 2540160000000 := by
  unfold lstS
  cases q : C.getLast? with
  | none => show (0 : Int) ≤ 0 ∧ (0 : Int) ≤ 2540160000000; omega
  | some S =>
    obtain ⟨⟨⟨a, _⟩, _⟩, b, c⟩ := h.2.1 S (List.mem_of_getLast? q)
    show 0 ≤ S.1 ∧ S.1 ≤ 2540160000000
    omega
/-- the reference's copying of the texts -/
def WN (N3 N4 S4 : Nat → Int) : Nat → (Nat → Int)
  | 0 => S4
  | i + 1 => va_cpy N4 (WN N3 N4 S4 i) (64 * i) (64 * i) (N3 i).toNat
theorem WN_at {N3 N4 S4 : Nat → Int} : ∀ (i : Nat), (∀ k, k < i → N3 k ≤ 64) → ∀ k j, k < i → j < (N3 k).toNat → WN N3 N4 S4 i (64 * k + j) = N4 (64 * k + j)
  | 0, _, k, j, hk, _ => absurd hk (by omega)
  | i + 1, h, k, j, hk, hj => by
    show (if 64 * i ≤ 64 * k + j ∧ 64 * k + j < 64 * i + (N3 i).toNat then N4 (64 * i + (64 * k + j - 64 * i)) else WN N3 N4 S4 i (64 * k + j)) = _
    by_cases q : k = i
    · subst q
      rw [if_pos (by omega)]
      congr 1
      omega
    · have := h k hk
      rw [if_neg (by omega)]
      exact WN_at i (fun k hk => h k (by omega)) k j (by omega) hj
theorem WN_r {N3 N4 S4 : Nat → Int} {a b : Int} (hS : ∀ k, a ≤ S4 k ∧ S4 k ≤ b) : ∀ (i : Nat), (∀ k j, k < i → j < (N3 k).toNat → a ≤ N4 (64 * k + j) ∧ N4 (64 * k + j) ≤ b) → ∀ x, a ≤ WN N3 N4 S4 i x ∧ WN N3 N4 S4 i x ≤ b
  | 0, _, x => hS x
  | i + 1, h, x => by
    show a ≤ (if 64 * i ≤ x ∧ x < 64 * i + (N3 i).toNat then N4 (64 * i + (x - 64 * i)) else WN N3 N4 S4 i x) ∧ (if 64 * i ≤ x ∧ x < 64 * i + (N3 i).toNat then N4 (64 * i + (x - 64 * i)) else WN N3 N4 S4 i x) ≤ b
    split
    · exact h i _ (by omega) (by omega)
    · exact WN_r hS i (fun k j hk hj => h k j (by omega) hj) x
theorem cpy_00 {F K : Nat → Int} {i : Nat} : zup (va_cpy F K 0 0 i) i (F i) = va_cpy F K 0 0 (i + 1) := by
  have := cpy_up0 (F := F) (K := K) (b := 0) (i := i)
  rw [Nat.zero_add] at this
  exact this
theorem cpy_0k {A B : Nat → Int} {m k : Nat} (hk : k < m) : va_cpy A B 0 0 m k = A k := by
  show (if 0 ≤ k ∧ k < 0 + m then A (0 + (k - 0)) else B k) = A k
  rw [if_pos (by omega), Nat.zero_add, Nat.sub_zero]
theorem cpy_rr {A B : Nat → Int} {m : Nat} {l u : Int} (hA : ∀ k, k < m → l ≤ A k ∧ A k ≤ u) (hB : ∀ k, l ≤ B k ∧ B k ≤ u) : ∀ k, l ≤ va_cpy A B 0 0 m k ∧ va_cpy A B 0 0 m k ≤ u := by
  intro k
  by_cases q : k < m
  · rw [cpy_0k q]; exact hA k q
  · show l ≤ (if 0 ≤ k ∧ k < 0 + m then A (0 + (k - 0)) else B k) ∧ (if 0 ≤ k ∧ k < 0 + m then A (0 + (k - 0)) else B k) ≤ u
    rw [if_neg (by omega)]
    exact hB k
theorem rowL_in {C : List Qe} {K1 K2 K3 K4 : Nat → Int} (h : rowL C K1 K2 K3 K4) {k : Nat} (hk : k < C.length) : ∃ S, S ∈ C ∧ C[k]? = some S ∧ K1 k = S.1 ∧ K2 k = S.2.1 ∧ K3 k = (S.2.2.length : Int) ∧ S.2.2.length ≤ 64 ∧ ∀ j x, S.2.2[j]? = some x → K4 (k * 64 + j) = x := by
  have e := List.getElem?_eq_getElem hk
  exact ⟨C[k], List.getElem_mem hk, e, h k _ e⟩
theorem rowL_WN {C : List Qe} {N1 N2 N3 N4 S1 S2 S3 S4 : Nat → Int} (h : rowL C N1 N2 N3 N4) : rowL C (va_cpy N1 S1 0 0 C.length) (va_cpy N2 S2 0 0 C.length) (va_cpy N3 S3 0 0 C.length) (WN N3 N4 S4 C.length) := by
  intro i S hS
  have hi : i < C.length := by
    rcases Nat.lt_or_ge i C.length with w | w
    · exact w
    · rw [List.getElem?_eq_none w] at hS; cases hS
  obtain ⟨h1, h2, h3, h4, h5⟩ := h i S hS
  refine ⟨(cpy_0k hi).trans h1, (cpy_0k hi).trans h2, (cpy_0k hi).trans h3, h4, fun j x hx => ?_⟩
  have hj : j < S.2.2.length := by
    rcases Nat.lt_or_ge j S.2.2.length with w | w
    · exact w
    · rw [List.getElem?_eq_none w] at hx; cases hx
  rw [show i * 64 + j = 64 * i + j from by omega, WN_at C.length (fun k hk => by obtain ⟨R, _, _, _, _, e, e2, _⟩ := rowL_in h hk; omega) i j hi (by omega), show 64 * i + j = i * 64 + j from by omega]
  exact h5 j x hx
theorem rgs_WN {C : List Qe} {N1 N2 N3 N4 S1 S2 S3 S4 : Nat → Int} (h : rowL C N1 N2 N3 N4) (hc : cuesR C) (g : rgs S1 S2 S3 S4) : rgs (va_cpy N1 S1 0 0 C.length) (va_cpy N2 S2 0 0 C.length) (va_cpy N3 S3 0 0 C.length) (WN N3 N4 S4 C.length) := by
  refine ⟨cpy_rr (fun k hk => ?_) g.1, cpy_rr (fun k hk => ?_) g.2.1, cpy_rr (fun k hk => ?_) g.2.2.1, WN_r g.2.2.2 _ (fun k j hk hj => ?_)⟩
  · obtain ⟨R, hR, _, e1, e2, e3, e4, _⟩ := rowL_in h hk
    obtain ⟨⟨⟨a1, _⟩, ⟨a2, _⟩, _⟩, a3, a4⟩ := hc.2.1 R hR
    rw [e1]; omega
  · obtain ⟨R, hR, _, e1, e2, e3, e4, _⟩ := rowL_in h hk
    obtain ⟨⟨⟨a1, _⟩, ⟨a2, _⟩, _⟩, a3, a4⟩ := hc.2.1 R hR
    rw [e2]; omega
  · obtain ⟨R, hR, _, e1, e2, e3, e4, _⟩ := rowL_in h hk
    rw [e3]; omega
  · obtain ⟨R, hR, _, e1, e2, e3, e4, e5⟩ := rowL_in h hk
    obtain ⟨⟨_, _, ⟨_, a5⟩, _⟩, _, _⟩ := hc.2.1 R hR
    have hj2 : j < R.2.2.length := by omega
    rw [show 64 * k + j = k * 64 + j from by omega, e5 j _ (List.getElem?_eq_getElem hj2)]
    exact a5 _ (List.getElem_mem hj2)
set_option maxHeartbeats 4000000 in
set_option maxRecDepth 100000 in
theorem lp_Mo_cueN (G : GT) (h0 : HM) (σ0 : Nat → Value) (m e1 e2 e3 e4 n p : Nat) (F : Nat → Int) (C : List Qe) (N1 N2 N3 N4 : Nat → Int) (f tk mu : Int) (c1 : Nat) (n_e : e1 ≠ e2) (hp : p ≤ n) (hn : n ≤ 1000) (hmu : (mu = 0 ∧ C.length < 16 ∧ c1 = C.length) ∨ (mu = 1 ∧ C.length = 16 ∧ c1 = 15)) : ∀ (q q2 : Nat) (v1 v2 : Int) (M3 M4 : Nat → Int) (h : HM) (σ : Nat → Value), cuP f tk F n p = (q, none) → q ≤ 1000 → q2 ≤ 1000 → h m = some (.inr (11, fsN 34 σ)) → σ 16 = .int (iZ (q2 : Int)) → σ 17 = .int (iZ (q : Int)) → σ 18 = .int (iZ (c1 : Int)) → σ 19 = .ref e1 → σ 20 = .ref e2 → h e1 = some (.inl (G_j G, 16, .inr (.inl (lA N1)))) → h e2 = some (.inl (G_j G, 16, .inr (.inl (lA N2)))) → h e3 = some (.inl (G_i G, 16, .inl (iA M3))) → h e4 = some (.inl (G_i G, 1024, .inl (iA M4))) → Fm [m, e1, e2, e3, e4] h0 h → Fs [16, 17, 18] σ0 σ → Ev G M_Mo_takeCue (rm 3 90) (fun r h' => r = none ∧ (∀ S, (cuP f tk F n p).2 = some S → lOK C S → (∃ σ', h' m = some (.inr (11, fsN 34 σ')) ∧ σ' 16 = .int (iZ (((cuP f tk F n p).1 : Nat) : Int)) ∧ σ' 17 = .int (iZ (-1)) ∧ σ' 18 = .int (iZ ((C.length + 1 : Nat) : Int)) ∧ Fs [16, 17, 18] σ0 σ') ∧ h' e1 = some (.inl (G_j G, 16, .inr (.inl (lA (zup N1 C.length S.1))))) ∧ h' e2 = some (.inl (G_j G, 16, .inr (.inl (lA (zup N2 C.length S.2.1))))) ∧ h' e3 = some (.inl (G_i G, 16, .inl (iA (zup N3 C.length (S.2.2.length : Int))))) ∧ h' e4 = some (.inl (G_i G, 1024, .inl (iA (tW N4 (64 * C.length) S.2.2))))) ∧ ((∀ S, (cuP f tk F n p).2 = some S → ¬ lOK C S) → (∃ σ', ∃ p2 c2 : Nat, h' m = some (.inr (11, fsN 34 σ')) ∧ σ' 16 = .int (iZ (p2 : Int)) ∧ σ' 17 = .int (iZ (cuF (cuP f tk F n p) p)) ∧ σ' 18 = .int (iZ (c2 : Int)) ∧ p2 ≤ 1000 ∧ Fs [16, 17, 18] σ0 σ') ∧ (∃ M1 M2 M3 M4 : Nat → Int, h' e1 = some (.inl (G_j G, 16, .inr (.inl (lA M1)))) ∧ h' e2 = some (.inl (G_j G, 16, .inr (.inl (lA M2)))) ∧ h' e3 = some (.inl (G_i G, 16, .inl (iA M3))) ∧ h' e4 = some (.inl (G_i G, 1024, .inl (iA M4))))) ∧ Fm [m, e1, e2, e3, e4] h0 h') 164 [(0, .ref m), (1, .int (iZ f)), (2, .int (iZ (p : Int))), (3, .int (iZ mu)), (4, .long (lZ (lstS C))), (6, .long (lZ v1)), (8, .long (lZ v2))] [] h 0 0 := by
  intro q q2 v1 v2 M3 M4 h σ hcu hq1 hq2 hm f16 f17 f18 f19 f20 he1 he2 he3 he4 fm fs
  refine ev_aload_n d_Mo_takeCue_164 rfl rfl ?_
  refine ev_getF d_Mo_takeCue_165 fl_Mo_107 hm (by decide) f17 ?_
  refine ez_if_ge (tgt := 205) (by omega) d_Mo_takeCue_168 rfl (fun c168 => ?_) (fun c168 => absurd c168 (by omega))
  refine ev_aload_n d_Mo_takeCue_205 rfl rfl ?_
  refine ev_getF d_Mo_takeCue_206 fl_Mo_48 hm (by decide) f19 ?_
  refine ev_aload_n d_Mo_takeCue_209 rfl rfl ?_
  refine ev_getF d_Mo_takeCue_210 fl_Mo_140 hm (by decide) f18 ?_
  refine ev_lload d_Mo_takeCue_213 rfl ?_
  refine ez_lastore (F' := zup N1 c1 v1) c1 d_Mo_takeCue_215 he1 (by omega) (by omega) (by decide) rfl (fun h1 h1a h1o => ?_)
  have hm := (h1o _ (cne hm he1 (by simp))).trans hm
  have he2 := (h1o _ (Ne.symm n_e)).trans he2
  have he3 := (h1o _ (cne he3 he1 (by simp))).trans he3
  have he4 := (h1o _ (cne he4 he1 (by simp))).trans he4
  have he1 := h1a
  have fm := fm.step (by simp) h1o
  refine ev_aload_n d_Mo_takeCue_216 rfl rfl ?_
  refine ev_getF d_Mo_takeCue_217 fl_Mo_51 hm (by decide) f20 ?_
  refine ev_aload_n d_Mo_takeCue_220 rfl rfl ?_
  refine ev_getF d_Mo_takeCue_221 fl_Mo_140 hm (by decide) f18 ?_
  refine ev_lload d_Mo_takeCue_224 rfl ?_
  refine ez_lastore (F' := zup N2 c1 v2) c1 d_Mo_takeCue_226 he2 (by omega) (by omega) (by decide) rfl (fun h2 h2a h2o => ?_)
  have hm := (h2o _ (cne hm he2 (by simp))).trans hm
  have he1 := (h2o _ n_e).trans he1
  have he3 := (h2o _ (cne he3 he2 (by simp))).trans he3
  have he4 := (h2o _ (cne he4 he2 (by simp))).trans he4
  have he2 := h2a
  have fm := fm.step (by simp) h2o
  refine ev_aload_n d_Mo_takeCue_227 rfl rfl ?_
  refine ev_dup d_Mo_takeCue_228 rfl ?_
  refine ev_getF d_Mo_takeCue_229 fl_Mo_140 hm (by decide) f18 ?_
  refine ev_iconst (v := iZ 1) d_Mo_takeCue_232 rfl ?_
  refine ez_iadd d_Mo_takeCue_233 ?_
  rw [show ((c1 : Int) + 1 : Int) = ((c1 + 1 : Nat) : Int) from by omega]
  refine ev_putF2 d_Mo_takeCue_234 fw_Mo_140 (Or.inr (fun _ _ _ q => by cases q; rfl)) hm (by decide) rfl rfl (fun h3 σ4 h3a σ4j σ4o h3o => ?_)
  have f16 := (σ4o 16 (by decide)).trans f16
  have f17 := (σ4o 17 (by decide)).trans f17
  have f19 := (σ4o 19 (by decide)).trans f19
  have f20 := (σ4o 20 (by decide)).trans f20
  have f18 := σ4j
  have fs := fs.step (by simp) σ4o
  have he1 := (h3o _ (cne he1 hm (by simp))).trans he1
  have he2 := (h3o _ (cne he2 hm (by simp))).trans he2
  have he3 := (h3o _ (cne he3 hm (by simp))).trans he3
  have he4 := (h3o _ (cne he4 hm (by simp))).trans he4
  have hm := h3a
  have fm := fm.step (by simp) h3o
  exact ev_return d_Mo_takeCue_237 rfl (by decide) (by decide) (⟨rfl, fun S w1 => (by rw [hcu] at w1; cases w1), fun _ => ⟨⟨σ4, q2, c1 + 1, hm, f16, by rw [hcu]; exact f17, f18, hq2, fs⟩, ⟨_, _, _, _, he1, he2, he3, he4⟩⟩, fm⟩)
set_option maxHeartbeats 4000000 in
set_option maxRecDepth 100000 in
theorem lp_Mo_cueS (G : GT) (h0 : HM) (σ0 : Nat → Value) (m e1 e2 e3 e4 n p : Nat) (F : Nat → Int) (C : List Qe) (N1 N2 N3 N4 : Nat → Int) (f tk mu : Int) (c1 : Nat) (n_e : e1 ≠ e2) (hp : p ≤ n) (hn : n ≤ 1000) (hmu : (mu = 0 ∧ C.length < 16 ∧ c1 = C.length) ∨ (mu = 1 ∧ C.length = 16 ∧ c1 = 15)) : ∀ (S : Qe) (h : HM) (σ : Nat → Value), (cuP f tk F n p).2 = some S → (cuP f tk F n p).1 ≤ 1000 → cueR S → (0 ≤ lstS C ∧ lstS C ≤ 2540160000000) → h m = some (.inr (11, fsN 34 σ)) → σ 16 = .int (iZ ((cuP f tk F n p).1 : Int)) → σ 17 = .int (iZ (-1)) → σ 18 = .int (iZ (c1 : Int)) → σ 19 = .ref e1 → σ 20 = .ref e2 → h e1 = some (.inl (G_j G, 16, .inr (.inl (lA N1)))) → h e2 = some (.inl (G_j G, 16, .inr (.inl (lA N2)))) → h e3 = some (.inl (G_i G, 16, .inl (iA (zup N3 c1 (S.2.2.length : Int))))) → h e4 = some (.inl (G_i G, 1024, .inl (iA (tW N4 (64 * c1) S.2.2)))) → Fm [m, e1, e2, e3, e4] h0 h → Fs [16, 17, 18] σ0 σ → Ev G M_Mo_takeCue (rm 3 90) (fun r h' => r = none ∧ (∀ S, (cuP f tk F n p).2 = some S → lOK C S → (∃ σ', h' m = some (.inr (11, fsN 34 σ')) ∧ σ' 16 = .int (iZ (((cuP f tk F n p).1 : Nat) : Int)) ∧ σ' 17 = .int (iZ (-1)) ∧ σ' 18 = .int (iZ ((C.length + 1 : Nat) : Int)) ∧ Fs [16, 17, 18] σ0 σ') ∧ h' e1 = some (.inl (G_j G, 16, .inr (.inl (lA (zup N1 C.length S.1))))) ∧ h' e2 = some (.inl (G_j G, 16, .inr (.inl (lA (zup N2 C.length S.2.1))))) ∧ h' e3 = some (.inl (G_i G, 16, .inl (iA (zup N3 C.length (S.2.2.length : Int))))) ∧ h' e4 = some (.inl (G_i G, 1024, .inl (iA (tW N4 (64 * C.length) S.2.2))))) ∧ ((∀ S, (cuP f tk F n p).2 = some S → ¬ lOK C S) → (∃ σ', ∃ p2 c2 : Nat, h' m = some (.inr (11, fsN 34 σ')) ∧ σ' 16 = .int (iZ (p2 : Int)) ∧ σ' 17 = .int (iZ (cuF (cuP f tk F n p) p)) ∧ σ' 18 = .int (iZ (c2 : Int)) ∧ p2 ≤ 1000 ∧ Fs [16, 17, 18] σ0 σ') ∧ (∃ M1 M2 M3 M4 : Nat → Int, h' e1 = some (.inl (G_j G, 16, .inr (.inl (lA M1)))) ∧ h' e2 = some (.inl (G_j G, 16, .inr (.inl (lA M2)))) ∧ h' e3 = some (.inl (G_i G, 16, .inl (iA M3))) ∧ h' e4 = some (.inl (G_i G, 1024, .inl (iA M4))))) ∧ Fm [m, e1, e2, e3, e4] h0 h') 164 [(0, .ref m), (1, .int (iZ f)), (2, .int (iZ (p : Int))), (3, .int (iZ mu)), (4, .long (lZ (lstS C))), (6, .long (lZ S.1)), (8, .long (lZ S.2.1))] [] h 0 0 := by
  intro S h σ hcu hq1 hcS hls hm f16 f17 f18 f19 f20 he1 he2 he3 he4 fm fs
  have r1 := hcS.1
  have r2 := hcS.2.1
  refine ev_aload_n d_Mo_takeCue_164 rfl rfl ?_
  refine ev_getF d_Mo_takeCue_165 fl_Mo_107 hm (by decide) f17 ?_
  refine ez_if_ge (tgt := 205) (by decide) d_Mo_takeCue_168 rfl (fun c168 => absurd c168 (by omega)) (fun c168 => ?_)
  refine ev_iload_n d_Mo_takeCue_171 rfl rfl ?_
  refine ez_if_ne (tgt := 200) (by omega) d_Mo_takeCue_172 rfl (fun c172 => ?_) (fun c172 => ?_)
  · refine ev_aload_n d_Mo_takeCue_200 rfl rfl ?_
    refine ev_iload_n d_Mo_takeCue_201 rfl rfl ?_
    refine ev_putF2 d_Mo_takeCue_202 fw_Mo_107 (Or.inr (fun _ _ _ q => by cases q; rfl)) hm (by decide) rfl rfl (fun h1 σ2 h1a σ2j σ2o h1o => ?_)
    have f16 := (σ2o 16 (by decide)).trans f16
    have f18 := (σ2o 18 (by decide)).trans f18
    have f19 := (σ2o 19 (by decide)).trans f19
    have f20 := (σ2o 20 (by decide)).trans f20
    have f17 := σ2j
    have fs := fs.step (by simp) σ2o
    have he1 := (h1o _ (cne he1 hm (by simp))).trans he1
    have he2 := (h1o _ (cne he2 hm (by simp))).trans he2
    have he3 := (h1o _ (cne he3 hm (by simp))).trans he3
    have he4 := (h1o _ (cne he4 hm (by simp))).trans he4
    have hm := h1a
    have fm := fm.step (by simp) h1o
    refine ev_aload_n d_Mo_takeCue_205 rfl rfl ?_
    refine ev_getF d_Mo_takeCue_206 fl_Mo_48 hm (by decide) f19 ?_
    refine ev_aload_n d_Mo_takeCue_209 rfl rfl ?_
    refine ev_getF d_Mo_takeCue_210 fl_Mo_140 hm (by decide) f18 ?_
    refine ev_lload d_Mo_takeCue_213 rfl ?_
    refine ez_lastore (F' := zup N1 c1 S.1) c1 d_Mo_takeCue_215 he1 (by omega) (by omega) (by decide) rfl (fun h3 h3a h3o => ?_)
    have hm := (h3o _ (cne hm he1 (by simp))).trans hm
    have he2 := (h3o _ (Ne.symm n_e)).trans he2
    have he3 := (h3o _ (cne he3 he1 (by simp))).trans he3
    have he4 := (h3o _ (cne he4 he1 (by simp))).trans he4
    have he1 := h3a
    have fm := fm.step (by simp) h3o
    refine ev_aload_n d_Mo_takeCue_216 rfl rfl ?_
    refine ev_getF d_Mo_takeCue_217 fl_Mo_51 hm (by decide) f20 ?_
    refine ev_aload_n d_Mo_takeCue_220 rfl rfl ?_
    refine ev_getF d_Mo_takeCue_221 fl_Mo_140 hm (by decide) f18 ?_
    refine ev_lload d_Mo_takeCue_224 rfl ?_
    refine ez_lastore (F' := zup N2 c1 S.2.1) c1 d_Mo_takeCue_226 he2 (by omega) (by omega) (by decide) rfl (fun h4 h4a h4o => ?_)
    have hm := (h4o _ (cne hm he2 (by simp))).trans hm
    have he1 := (h4o _ n_e).trans he1
    have he3 := (h4o _ (cne he3 he2 (by simp))).trans he3
    have he4 := (h4o _ (cne he4 he2 (by simp))).trans he4
    have he2 := h4a
    have fm := fm.step (by simp) h4o
    refine ev_aload_n d_Mo_takeCue_227 rfl rfl ?_
    refine ev_dup d_Mo_takeCue_228 rfl ?_
    refine ev_getF d_Mo_takeCue_229 fl_Mo_140 hm (by decide) f18 ?_
    refine ev_iconst (v := iZ 1) d_Mo_takeCue_232 rfl ?_
    refine ez_iadd d_Mo_takeCue_233 ?_
    rw [show ((c1 : Int) + 1 : Int) = ((c1 + 1 : Nat) : Int) from by omega]
    refine ev_putF2 d_Mo_takeCue_234 fw_Mo_140 (Or.inr (fun _ _ _ q => by cases q; rfl)) hm (by decide) rfl rfl (fun h5 σ6 h5a σ6j σ6o h5o => ?_)
    have f16 := (σ6o 16 (by decide)).trans f16
    have f17 := (σ6o 17 (by decide)).trans f17
    have f19 := (σ6o 19 (by decide)).trans f19
    have f20 := (σ6o 20 (by decide)).trans f20
    have f18 := σ6j
    have fs := fs.step (by simp) σ6o
    have he1 := (h5o _ (cne he1 hm (by simp))).trans he1
    have he2 := (h5o _ (cne he2 hm (by simp))).trans he2
    have he3 := (h5o _ (cne he3 hm (by simp))).trans he3
    have he4 := (h5o _ (cne he4 hm (by simp))).trans he4
    have hm := h5a
    have fm := fm.step (by simp) h5o
    have nok : ¬ lOK C S := fun w => by obtain ⟨w1, w2, w3, w4⟩ := w; omega
    exact ev_return d_Mo_takeCue_237 rfl (by decide) (by decide) (⟨rfl, fun S9 w1 w2 => (by rw [hcu] at w1; cases w1; exact absurd w2 nok), fun _ => ⟨⟨σ6, _, c1 + 1, hm, f16, by rw [show cuF (cuP f tk F n p) p = (p : Int) from by unfold cuF; rw [hcu]]; exact f17, f18, by omega, fs⟩, ⟨_, _, _, _, he1, he2, he3, he4⟩⟩, fm⟩)
  · refine ev_lload d_Mo_takeCue_175 rfl ?_
    refine ev_lload d_Mo_takeCue_177 rfl ?_
    refine ev_lcmp d_Mo_takeCue_179 ?_
    refine ez_lif_ge (tgt := 200) (by omega) (by omega) d_Mo_takeCue_180 rfl (fun c180 => ?_) (fun c180 => ?_)
    · refine ev_aload_n d_Mo_takeCue_200 rfl rfl ?_
      refine ev_iload_n d_Mo_takeCue_201 rfl rfl ?_
      refine ev_putF2 d_Mo_takeCue_202 fw_Mo_107 (Or.inr (fun _ _ _ q => by cases q; rfl)) hm (by decide) rfl rfl (fun h7 σ8 h7a σ8j σ8o h7o => ?_)
      have f16 := (σ8o 16 (by decide)).trans f16
      have f18 := (σ8o 18 (by decide)).trans f18
      have f19 := (σ8o 19 (by decide)).trans f19
      have f20 := (σ8o 20 (by decide)).trans f20
      have f17 := σ8j
      have fs := fs.step (by simp) σ8o
      have he1 := (h7o _ (cne he1 hm (by simp))).trans he1
      have he2 := (h7o _ (cne he2 hm (by simp))).trans he2
      have he3 := (h7o _ (cne he3 hm (by simp))).trans he3
      have he4 := (h7o _ (cne he4 hm (by simp))).trans he4
      have hm := h7a
      have fm := fm.step (by simp) h7o
      refine ev_aload_n d_Mo_takeCue_205 rfl rfl ?_
      refine ev_getF d_Mo_takeCue_206 fl_Mo_48 hm (by decide) f19 ?_
      refine ev_aload_n d_Mo_takeCue_209 rfl rfl ?_
      refine ev_getF d_Mo_takeCue_210 fl_Mo_140 hm (by decide) f18 ?_
      refine ev_lload d_Mo_takeCue_213 rfl ?_
      refine ez_lastore (F' := zup N1 c1 S.1) c1 d_Mo_takeCue_215 he1 (by omega) (by omega) (by decide) rfl (fun h9 h9a h9o => ?_)
      have hm := (h9o _ (cne hm he1 (by simp))).trans hm
      have he2 := (h9o _ (Ne.symm n_e)).trans he2
      have he3 := (h9o _ (cne he3 he1 (by simp))).trans he3
      have he4 := (h9o _ (cne he4 he1 (by simp))).trans he4
      have he1 := h9a
      have fm := fm.step (by simp) h9o
      refine ev_aload_n d_Mo_takeCue_216 rfl rfl ?_
      refine ev_getF d_Mo_takeCue_217 fl_Mo_51 hm (by decide) f20 ?_
      refine ev_aload_n d_Mo_takeCue_220 rfl rfl ?_
      refine ev_getF d_Mo_takeCue_221 fl_Mo_140 hm (by decide) f18 ?_
      refine ev_lload d_Mo_takeCue_224 rfl ?_
      refine ez_lastore (F' := zup N2 c1 S.2.1) c1 d_Mo_takeCue_226 he2 (by omega) (by omega) (by decide) rfl (fun h10 h10a h10o => ?_)
      have hm := (h10o _ (cne hm he2 (by simp))).trans hm
      have he1 := (h10o _ n_e).trans he1
      have he3 := (h10o _ (cne he3 he2 (by simp))).trans he3
      have he4 := (h10o _ (cne he4 he2 (by simp))).trans he4
      have he2 := h10a
      have fm := fm.step (by simp) h10o
      refine ev_aload_n d_Mo_takeCue_227 rfl rfl ?_
      refine ev_dup d_Mo_takeCue_228 rfl ?_
      refine ev_getF d_Mo_takeCue_229 fl_Mo_140 hm (by decide) f18 ?_
      refine ev_iconst (v := iZ 1) d_Mo_takeCue_232 rfl ?_
      refine ez_iadd d_Mo_takeCue_233 ?_
      rw [show ((c1 : Int) + 1 : Int) = ((c1 + 1 : Nat) : Int) from by omega]
      refine ev_putF2 d_Mo_takeCue_234 fw_Mo_140 (Or.inr (fun _ _ _ q => by cases q; rfl)) hm (by decide) rfl rfl (fun h11 σ12 h11a σ12j σ12o h11o => ?_)
      have f16 := (σ12o 16 (by decide)).trans f16
      have f17 := (σ12o 17 (by decide)).trans f17
      have f19 := (σ12o 19 (by decide)).trans f19
      have f20 := (σ12o 20 (by decide)).trans f20
      have f18 := σ12j
      have fs := fs.step (by simp) σ12o
      have he1 := (h11o _ (cne he1 hm (by simp))).trans he1
      have he2 := (h11o _ (cne he2 hm (by simp))).trans he2
      have he3 := (h11o _ (cne he3 hm (by simp))).trans he3
      have he4 := (h11o _ (cne he4 hm (by simp))).trans he4
      have hm := h11a
      have fm := fm.step (by simp) h11o
      have nok : ¬ lOK C S := fun w => by obtain ⟨w1, w2, w3, w4⟩ := w; omega
      exact ev_return d_Mo_takeCue_237 rfl (by decide) (by decide) (⟨rfl, fun S9 w1 w2 => (by rw [hcu] at w1; cases w1; exact absurd w2 nok), fun _ => ⟨⟨σ12, _, c1 + 1, hm, f16, by rw [show cuF (cuP f tk F n p) p = (p : Int) from by unfold cuF; rw [hcu]]; exact f17, f18, by omega, fs⟩, ⟨_, _, _, _, he1, he2, he3, he4⟩⟩, fm⟩)
    · refine ev_lload d_Mo_takeCue_183 rfl ?_
      refine ev_lload d_Mo_takeCue_185 rfl ?_
      refine ev_lcmp d_Mo_takeCue_187 ?_
      refine ez_lif_lt (tgt := 200) (by omega) (by omega) d_Mo_takeCue_188 rfl (fun c188 => ?_) (fun c188 => ?_)
      · refine ev_aload_n d_Mo_takeCue_200 rfl rfl ?_
        refine ev_iload_n d_Mo_takeCue_201 rfl rfl ?_
        refine ev_putF2 d_Mo_takeCue_202 fw_Mo_107 (Or.inr (fun _ _ _ q => by cases q; rfl)) hm (by decide) rfl rfl (fun h13 σ14 h13a σ14j σ14o h13o => ?_)
        have f16 := (σ14o 16 (by decide)).trans f16
        have f18 := (σ14o 18 (by decide)).trans f18
        have f19 := (σ14o 19 (by decide)).trans f19
        have f20 := (σ14o 20 (by decide)).trans f20
        have f17 := σ14j
        have fs := fs.step (by simp) σ14o
        have he1 := (h13o _ (cne he1 hm (by simp))).trans he1
        have he2 := (h13o _ (cne he2 hm (by simp))).trans he2
        have he3 := (h13o _ (cne he3 hm (by simp))).trans he3
        have he4 := (h13o _ (cne he4 hm (by simp))).trans he4
        have hm := h13a
        have fm := fm.step (by simp) h13o
        refine ev_aload_n d_Mo_takeCue_205 rfl rfl ?_
        refine ev_getF d_Mo_takeCue_206 fl_Mo_48 hm (by decide) f19 ?_
        refine ev_aload_n d_Mo_takeCue_209 rfl rfl ?_
        refine ev_getF d_Mo_takeCue_210 fl_Mo_140 hm (by decide) f18 ?_
        refine ev_lload d_Mo_takeCue_213 rfl ?_
        refine ez_lastore (F' := zup N1 c1 S.1) c1 d_Mo_takeCue_215 he1 (by omega) (by omega) (by decide) rfl (fun h15 h15a h15o => ?_)
        have hm := (h15o _ (cne hm he1 (by simp))).trans hm
        have he2 := (h15o _ (Ne.symm n_e)).trans he2
        have he3 := (h15o _ (cne he3 he1 (by simp))).trans he3
        have he4 := (h15o _ (cne he4 he1 (by simp))).trans he4
        have he1 := h15a
        have fm := fm.step (by simp) h15o
        refine ev_aload_n d_Mo_takeCue_216 rfl rfl ?_
        refine ev_getF d_Mo_takeCue_217 fl_Mo_51 hm (by decide) f20 ?_
        refine ev_aload_n d_Mo_takeCue_220 rfl rfl ?_
        refine ev_getF d_Mo_takeCue_221 fl_Mo_140 hm (by decide) f18 ?_
        refine ev_lload d_Mo_takeCue_224 rfl ?_
        refine ez_lastore (F' := zup N2 c1 S.2.1) c1 d_Mo_takeCue_226 he2 (by omega) (by omega) (by decide) rfl (fun h16 h16a h16o => ?_)
        have hm := (h16o _ (cne hm he2 (by simp))).trans hm
        have he1 := (h16o _ n_e).trans he1
        have he3 := (h16o _ (cne he3 he2 (by simp))).trans he3
        have he4 := (h16o _ (cne he4 he2 (by simp))).trans he4
        have he2 := h16a
        have fm := fm.step (by simp) h16o
        refine ev_aload_n d_Mo_takeCue_227 rfl rfl ?_
        refine ev_dup d_Mo_takeCue_228 rfl ?_
        refine ev_getF d_Mo_takeCue_229 fl_Mo_140 hm (by decide) f18 ?_
        refine ev_iconst (v := iZ 1) d_Mo_takeCue_232 rfl ?_
        refine ez_iadd d_Mo_takeCue_233 ?_
        rw [show ((c1 : Int) + 1 : Int) = ((c1 + 1 : Nat) : Int) from by omega]
        refine ev_putF2 d_Mo_takeCue_234 fw_Mo_140 (Or.inr (fun _ _ _ q => by cases q; rfl)) hm (by decide) rfl rfl (fun h17 σ18 h17a σ18j σ18o h17o => ?_)
        have f16 := (σ18o 16 (by decide)).trans f16
        have f17 := (σ18o 17 (by decide)).trans f17
        have f19 := (σ18o 19 (by decide)).trans f19
        have f20 := (σ18o 20 (by decide)).trans f20
        have f18 := σ18j
        have fs := fs.step (by simp) σ18o
        have he1 := (h17o _ (cne he1 hm (by simp))).trans he1
        have he2 := (h17o _ (cne he2 hm (by simp))).trans he2
        have he3 := (h17o _ (cne he3 hm (by simp))).trans he3
        have he4 := (h17o _ (cne he4 hm (by simp))).trans he4
        have hm := h17a
        have fm := fm.step (by simp) h17o
        have nok : ¬ lOK C S := fun w => by obtain ⟨w1, w2, w3, w4⟩ := w; omega
        exact ev_return d_Mo_takeCue_237 rfl (by decide) (by decide) (⟨rfl, fun S9 w1 w2 => (by rw [hcu] at w1; cases w1; exact absurd w2 nok), fun _ => ⟨⟨σ18, _, c1 + 1, hm, f16, by rw [show cuF (cuP f tk F n p) p = (p : Int) from by unfold cuF; rw [hcu]]; exact f17, f18, by omega, fs⟩, ⟨_, _, _, _, he1, he2, he3, he4⟩⟩, fm⟩)
      · refine ev_lload d_Mo_takeCue_191 rfl ?_
        refine ev_ldc2 (v := lZ 2540160000000) d_Mo_takeCue_193 kc_Mo_171 ?_
        refine ev_lcmp d_Mo_takeCue_196 ?_
        refine ez_lif_le (tgt := 205) (by omega) (by decide) d_Mo_takeCue_197 rfl (fun c197 => ?_) (fun c197 => ?_)
        · refine ev_aload_n d_Mo_takeCue_205 rfl rfl ?_
          refine ev_getF d_Mo_takeCue_206 fl_Mo_48 hm (by decide) f19 ?_
          refine ev_aload_n d_Mo_takeCue_209 rfl rfl ?_
          refine ev_getF d_Mo_takeCue_210 fl_Mo_140 hm (by decide) f18 ?_
          refine ev_lload d_Mo_takeCue_213 rfl ?_
          refine ez_lastore (F' := zup N1 c1 S.1) c1 d_Mo_takeCue_215 he1 (by omega) (by omega) (by decide) rfl (fun h19 h19a h19o => ?_)
          have hm := (h19o _ (cne hm he1 (by simp))).trans hm
          have he2 := (h19o _ (Ne.symm n_e)).trans he2
          have he3 := (h19o _ (cne he3 he1 (by simp))).trans he3
          have he4 := (h19o _ (cne he4 he1 (by simp))).trans he4
          have he1 := h19a
          have fm := fm.step (by simp) h19o
          refine ev_aload_n d_Mo_takeCue_216 rfl rfl ?_
          refine ev_getF d_Mo_takeCue_217 fl_Mo_51 hm (by decide) f20 ?_
          refine ev_aload_n d_Mo_takeCue_220 rfl rfl ?_
          refine ev_getF d_Mo_takeCue_221 fl_Mo_140 hm (by decide) f18 ?_
          refine ev_lload d_Mo_takeCue_224 rfl ?_
          refine ez_lastore (F' := zup N2 c1 S.2.1) c1 d_Mo_takeCue_226 he2 (by omega) (by omega) (by decide) rfl (fun h20 h20a h20o => ?_)
          have hm := (h20o _ (cne hm he2 (by simp))).trans hm
          have he1 := (h20o _ n_e).trans he1
          have he3 := (h20o _ (cne he3 he2 (by simp))).trans he3
          have he4 := (h20o _ (cne he4 he2 (by simp))).trans he4
          have he2 := h20a
          have fm := fm.step (by simp) h20o
          refine ev_aload_n d_Mo_takeCue_227 rfl rfl ?_
          refine ev_dup d_Mo_takeCue_228 rfl ?_
          refine ev_getF d_Mo_takeCue_229 fl_Mo_140 hm (by decide) f18 ?_
          refine ev_iconst (v := iZ 1) d_Mo_takeCue_232 rfl ?_
          refine ez_iadd d_Mo_takeCue_233 ?_
          rw [show ((c1 : Int) + 1 : Int) = ((c1 + 1 : Nat) : Int) from by omega]
          refine ev_putF2 d_Mo_takeCue_234 fw_Mo_140 (Or.inr (fun _ _ _ q => by cases q; rfl)) hm (by decide) rfl rfl (fun h21 σ22 h21a σ22j σ22o h21o => ?_)
          have f16 := (σ22o 16 (by decide)).trans f16
          have f17 := (σ22o 17 (by decide)).trans f17
          have f19 := (σ22o 19 (by decide)).trans f19
          have f20 := (σ22o 20 (by decide)).trans f20
          have f18 := σ22j
          have fs := fs.step (by simp) σ22o
          have he1 := (h21o _ (cne he1 hm (by simp))).trans he1
          have he2 := (h21o _ (cne he2 hm (by simp))).trans he2
          have he3 := (h21o _ (cne he3 hm (by simp))).trans he3
          have he4 := (h21o _ (cne he4 hm (by simp))).trans he4
          have hm := h21a
          have fm := fm.step (by simp) h21o
          have ok : lOK C S := ⟨by omega, by omega, by omega, by omega⟩
          obtain rfl : c1 = C.length := by omega
          exact ev_return d_Mo_takeCue_237 rfl (by decide) (by decide) (⟨rfl, fun S9 w1 _ => (by rw [hcu] at w1; cases w1; exact ⟨⟨σ22, hm, f16, f17, f18, fs⟩, he1, he2, he3, he4⟩), fun w1 => absurd ok (w1 S hcu), fm⟩)
        · refine ev_aload_n d_Mo_takeCue_200 rfl rfl ?_
          refine ev_iload_n d_Mo_takeCue_201 rfl rfl ?_
          refine ev_putF2 d_Mo_takeCue_202 fw_Mo_107 (Or.inr (fun _ _ _ q => by cases q; rfl)) hm (by decide) rfl rfl (fun h23 σ24 h23a σ24j σ24o h23o => ?_)
          have f16 := (σ24o 16 (by decide)).trans f16
          have f18 := (σ24o 18 (by decide)).trans f18
          have f19 := (σ24o 19 (by decide)).trans f19
          have f20 := (σ24o 20 (by decide)).trans f20
          have f17 := σ24j
          have fs := fs.step (by simp) σ24o
          have he1 := (h23o _ (cne he1 hm (by simp))).trans he1
          have he2 := (h23o _ (cne he2 hm (by simp))).trans he2
          have he3 := (h23o _ (cne he3 hm (by simp))).trans he3
          have he4 := (h23o _ (cne he4 hm (by simp))).trans he4
          have hm := h23a
          have fm := fm.step (by simp) h23o
          refine ev_aload_n d_Mo_takeCue_205 rfl rfl ?_
          refine ev_getF d_Mo_takeCue_206 fl_Mo_48 hm (by decide) f19 ?_
          refine ev_aload_n d_Mo_takeCue_209 rfl rfl ?_
          refine ev_getF d_Mo_takeCue_210 fl_Mo_140 hm (by decide) f18 ?_
          refine ev_lload d_Mo_takeCue_213 rfl ?_
          refine ez_lastore (F' := zup N1 c1 S.1) c1 d_Mo_takeCue_215 he1 (by omega) (by omega) (by decide) rfl (fun h25 h25a h25o => ?_)
          have hm := (h25o _ (cne hm he1 (by simp))).trans hm
          have he2 := (h25o _ (Ne.symm n_e)).trans he2
          have he3 := (h25o _ (cne he3 he1 (by simp))).trans he3
          have he4 := (h25o _ (cne he4 he1 (by simp))).trans he4
          have he1 := h25a
          have fm := fm.step (by simp) h25o
          refine ev_aload_n d_Mo_takeCue_216 rfl rfl ?_
          refine ev_getF d_Mo_takeCue_217 fl_Mo_51 hm (by decide) f20 ?_
          refine ev_aload_n d_Mo_takeCue_220 rfl rfl ?_
          refine ev_getF d_Mo_takeCue_221 fl_Mo_140 hm (by decide) f18 ?_
          refine ev_lload d_Mo_takeCue_224 rfl ?_
          refine ez_lastore (F' := zup N2 c1 S.2.1) c1 d_Mo_takeCue_226 he2 (by omega) (by omega) (by decide) rfl (fun h26 h26a h26o => ?_)
          have hm := (h26o _ (cne hm he2 (by simp))).trans hm
          have he1 := (h26o _ n_e).trans he1
          have he3 := (h26o _ (cne he3 he2 (by simp))).trans he3
          have he4 := (h26o _ (cne he4 he2 (by simp))).trans he4
          have he2 := h26a
          have fm := fm.step (by simp) h26o
          refine ev_aload_n d_Mo_takeCue_227 rfl rfl ?_
          refine ev_dup d_Mo_takeCue_228 rfl ?_
          refine ev_getF d_Mo_takeCue_229 fl_Mo_140 hm (by decide) f18 ?_
          refine ev_iconst (v := iZ 1) d_Mo_takeCue_232 rfl ?_
          refine ez_iadd d_Mo_takeCue_233 ?_
          rw [show ((c1 : Int) + 1 : Int) = ((c1 + 1 : Nat) : Int) from by omega]
          refine ev_putF2 d_Mo_takeCue_234 fw_Mo_140 (Or.inr (fun _ _ _ q => by cases q; rfl)) hm (by decide) rfl rfl (fun h27 σ28 h27a σ28j σ28o h27o => ?_)
          have f16 := (σ28o 16 (by decide)).trans f16
          have f17 := (σ28o 17 (by decide)).trans f17
          have f19 := (σ28o 19 (by decide)).trans f19
          have f20 := (σ28o 20 (by decide)).trans f20
          have f18 := σ28j
          have fs := fs.step (by simp) σ28o
          have he1 := (h27o _ (cne he1 hm (by simp))).trans he1
          have he2 := (h27o _ (cne he2 hm (by simp))).trans he2
          have he3 := (h27o _ (cne he3 hm (by simp))).trans he3
          have he4 := (h27o _ (cne he4 hm (by simp))).trans he4
          have hm := h27a
          have fm := fm.step (by simp) h27o
          have nok : ¬ lOK C S := fun w => by obtain ⟨w1, w2, w3, w4⟩ := w; omega
          exact ev_return d_Mo_takeCue_237 rfl (by decide) (by decide) (⟨rfl, fun S9 w1 w2 => (by rw [hcu] at w1; cases w1; exact absurd w2 nok), fun _ => ⟨⟨σ28, _, c1 + 1, hm, f16, by rw [show cuF (cuP f tk F n p) p = (p : Int) from by unfold cuF; rw [hcu]]; exact f17, f18, by omega, fs⟩, ⟨_, _, _, _, he1, he2, he3, he4⟩⟩, fm⟩)
set_option maxHeartbeats 4000000 in
set_option maxRecDepth 100000 in
theorem c_Mo_takeCue (G : GT) (h : HM) (σ : Nat → Value) (m bu e1 e2 e3 e4 n p : Nat) (F : Nat → Int) (C : List Qe) (N1 N2 N3 N4 : Nat → Int) (num den tk f : Int) (hm : h m = some (.inr (11, fsN 34 σ))) (f0 : σ 0 = .int (iZ (n : Int))) (f1 : σ 1 = .ref bu) (f16 : σ 16 = .int (iZ (p : Int))) (f17 : σ 17 = .int (iZ (-1))) (f2 : σ 2 = .int (iZ num)) (f3 : σ 3 = .int (iZ den)) (f18 : σ 18 = .int (iZ (C.length : Int))) (f19 : σ 19 = .ref e1) (f20 : σ 20 = .ref e2) (f21 : σ 21 = .ref e3) (f22 : σ 22 = .ref e4) (hbu : h bu = some (.inl (G_i G, 1000, .inl (iA F)))) (he1 : h e1 = some (.inl (G_j G, 16, .inr (.inl (lA N1))))) (he2 : h e2 = some (.inl (G_j G, 16, .inr (.inl (lA N2))))) (he3 : h e3 = some (.inl (G_i G, 16, .inl (iA N3)))) (he4 : h e4 = some (.inl (G_i G, 1024, .inl (iA N4)))) (n_e : e1 ≠ e2) (hn : n ≤ 1000) (hp : p ≤ n) (hF : ∀ k, 0 ≤ F k ∧ F k ≤ 255) (hnum : 1 ≤ num ∧ num ≤ 120000) (hden : 1 ≤ den ∧ den ≤ 1001) (htk : tk = 705600000 * den / num) (htk2 : 0 ≤ tk ∧ tk ≤ 705600000) (hfr : f = 0 ∨ f = 1 ∨ f = 2) (hrl : rowL C N1 N2 N3 N4) (hcr : cuesR C) : Rn G M_Mo_takeCue (rm 3 90) [.ref m, .int (iZ f)] h (fun r h' => r = none ∧ (∀ S, (cuP f tk F n p).2 = some S → lOK C S → (∃ σ', h' m = some (.inr (11, fsN 34 σ')) ∧ σ' 16 = .int (iZ (((cuP f tk F n p).1 : Nat) : Int)) ∧ σ' 17 = .int (iZ (-1)) ∧ σ' 18 = .int (iZ ((C.length + 1 : Nat) : Int)) ∧ Fs [16, 17, 18] σ σ') ∧ h' e1 = some (.inl (G_j G, 16, .inr (.inl (lA (zup N1 C.length S.1))))) ∧ h' e2 = some (.inl (G_j G, 16, .inr (.inl (lA (zup N2 C.length S.2.1))))) ∧ h' e3 = some (.inl (G_i G, 16, .inl (iA (zup N3 C.length (S.2.2.length : Int))))) ∧ h' e4 = some (.inl (G_i G, 1024, .inl (iA (tW N4 (64 * C.length) S.2.2))))) ∧ ((∀ S, (cuP f tk F n p).2 = some S → ¬ lOK C S) → (∃ σ', ∃ p2 c2 : Nat, h' m = some (.inr (11, fsN 34 σ')) ∧ σ' 16 = .int (iZ (p2 : Int)) ∧ σ' 17 = .int (iZ (cuF (cuP f tk F n p) p)) ∧ σ' 18 = .int (iZ (c2 : Int)) ∧ p2 ≤ 1000 ∧ Fs [16, 17, 18] σ σ') ∧ (∃ M1 M2 M3 M4 : Nat → Int, h' e1 = some (.inl (G_j G, 16, .inr (.inl (lA M1)))) ∧ h' e2 = some (.inl (G_j G, 16, .inr (.inl (lA M2)))) ∧ h' e3 = some (.inl (G_i G, 16, .inl (iA M3))) ∧ h' e4 = some (.inl (G_i G, 1024, .inl (iA M4))))) ∧ Fm [m, e1, e2, e3, e4] h h') := by
  refine rn_of (by decide) (Nat.le_of_ble_eq_true rfl) ?_
  show Ev G M_Mo_takeCue _ _ 0 [(0, .ref m), (1, .int (iZ f))] [] _ 0 0
  have fm : Fm [m, e1, e2, e3, e4] h h := Fm.rf
  have fs : Fs [16, 17, 18] σ σ := Fs.rf
  have hls := lstS_r hcr
  have hc6 := hcr.1
  refine ev_aload_n d_Mo_takeCue_0 rfl rfl ?_
  refine ev_getF d_Mo_takeCue_1 fl_Mo_110 hm (by decide) f16 ?_
  refine ev_istore_n (L' := [(0, .ref m), (1, .int (iZ f)), (2, .int (iZ (p : Int)))]) d_Mo_takeCue_4 rfl (by decide) rfl ?_
  refine ev_aload_n d_Mo_takeCue_5 rfl rfl ?_
  refine ev_getF d_Mo_takeCue_6 fl_Mo_140 hm (by decide) f18 ?_
  refine ev_bipush (v := iZ 16) d_Mo_takeCue_9 rfl ?_
  refine ez_icmp_ne (tgt := 18) (by omega) (by decide) d_Mo_takeCue_11 rfl (fun c11 => ?_) (fun c11 => ?_)
  · refine ev_iconst (v := iZ 0) d_Mo_takeCue_18 rfl ?_
    refine ev_istore_n (L' := [(0, .ref m), (1, .int (iZ f)), (2, .int (iZ (p : Int))), (3, .int (iZ 0))]) d_Mo_takeCue_19 rfl (by decide) rfl ?_
    refine ev_cut 42 [(0, .ref m), (1, .int (iZ f)), (2, .int (iZ (p : Int))), (3, .int (iZ 0))] [.long (lZ (lstS C))] (fun kk => ?_) ?_
    ·
      refine ev_aload_n d_Mo_takeCue_20 rfl rfl ?_
      refine ev_getF d_Mo_takeCue_21 fl_Mo_140 hm (by decide) f18 ?_
      refine ez_if_ne (tgt := 31) (by omega) d_Mo_takeCue_24 rfl (fun c24 => ?_) (fun c24 => ?_)
      · refine ev_aload_n d_Mo_takeCue_31 rfl rfl ?_
        refine ev_getF d_Mo_takeCue_32 fl_Mo_48 hm (by decide) f19 ?_
        refine ev_aload_n d_Mo_takeCue_35 rfl rfl ?_
        refine ev_getF d_Mo_takeCue_36 fl_Mo_140 hm (by decide) f18 ?_
        refine ev_iconst (v := iZ 1) d_Mo_takeCue_39 rfl ?_
        refine ez_isub d_Mo_takeCue_40 ?_
        refine ez_laload (C.length - 1) d_Mo_takeCue_41 he1 (by omega) (by omega) (by decide) ?_
        rw [lstS_k hrl, if_neg (by omega)] at kk
        exact kk
      · refine ev_lconst (v := lZ 0) d_Mo_takeCue_27 rfl ?_
        refine ev_goto (tgt := 42) d_Mo_takeCue_28 rfl ?_
        rw [lstS_k hrl, if_pos (by omega)] at kk
        exact kk
    refine ev_lstore (L' := [(0, .ref m), (1, .int (iZ f)), (2, .int (iZ (p : Int))), (3, .int (iZ 0)), (4, .long (lZ (lstS C)))]) d_Mo_takeCue_42 (by decide) rfl ?_
    refine ev_aload_n d_Mo_takeCue_44 rfl rfl ?_
    refine ev_iload_n d_Mo_takeCue_45 rfl rfl ?_
    refine ez_if_eq (tgt := 54) (by decide) d_Mo_takeCue_46 rfl (fun c46 => ?_) (fun c46 => absurd c46 (by omega))
    refine ev_aload_n d_Mo_takeCue_54 rfl rfl ?_
    refine ev_getF d_Mo_takeCue_55 fl_Mo_140 hm (by decide) f18 ?_
    refine ev_putF2 d_Mo_takeCue_58 fw_Mo_140 (Or.inr (fun _ _ _ q => by cases q; rfl)) hm (by decide) rfl rfl (fun h1 σ2 h1a σ2j σ2o h1o => ?_)
    have f0 := (σ2o 0 (by decide)).trans f0
    have f1 := (σ2o 1 (by decide)).trans f1
    have f2 := (σ2o 2 (by decide)).trans f2
    have f3 := (σ2o 3 (by decide)).trans f3
    have f16 := (σ2o 16 (by decide)).trans f16
    have f17 := (σ2o 17 (by decide)).trans f17
    have f19 := (σ2o 19 (by decide)).trans f19
    have f20 := (σ2o 20 (by decide)).trans f20
    have f21 := (σ2o 21 (by decide)).trans f21
    have f22 := (σ2o 22 (by decide)).trans f22
    have f18 := σ2j
    have fs := fs.step (by simp) σ2o
    have hbu := (h1o _ (cne hbu hm (by simp))).trans hbu
    have he1 := (h1o _ (cne he1 hm (by simp))).trans he1
    have he2 := (h1o _ (cne he2 hm (by simp))).trans he2
    have he3 := (h1o _ (cne he3 hm (by simp))).trans he3
    have he4 := (h1o _ (cne he4 hm (by simp))).trans he4
    have hm := h1a
    have fm := fm.step (by simp) h1o
    refine ev_aload_n d_Mo_takeCue_61 rfl rfl ?_
    refine ev_getF d_Mo_takeCue_62 fl_Mo_54 hm (by decide) f21 ?_
    refine ev_aload_n d_Mo_takeCue_65 rfl rfl ?_
    refine ev_getF d_Mo_takeCue_66 fl_Mo_140 hm (by decide) f18 ?_
    refine ev_iconst (v := iZ 0) d_Mo_takeCue_69 rfl ?_
    refine ez_iastore (F' := zup N3 C.length 0) C.length d_Mo_takeCue_70 he3 (by omega) (by omega) (by decide) rfl (fun h3 h3a h3o => ?_)
    have hm := (h3o _ (cne hm he3 (by simp))).trans hm
    have hbu := (h3o _ (cne hbu he3 (by simp))).trans hbu
    have he1 := (h3o _ (cne he1 he3 (by simp))).trans he1
    have he2 := (h3o _ (cne he2 he3 (by simp))).trans he2
    have he4 := (h3o _ (cne he4 he3 (by simp))).trans he4
    have he3 := h3a
    have fm := fm.step (by simp) h3o
    refine ev_lconst (v := lZ 0) d_Mo_takeCue_71 rfl ?_
    refine ev_lstore (L' := [(0, .ref m), (1, .int (iZ f)), (2, .int (iZ (p : Int))), (3, .int (iZ 0)), (4, .long (lZ (lstS C))), (6, .long (lZ 0))]) d_Mo_takeCue_72 (by decide) rfl ?_
    refine ev_lconst (v := lZ 0) d_Mo_takeCue_74 rfl ?_
    refine ev_lstore (L' := [(0, .ref m), (1, .int (iZ f)), (2, .int (iZ (p : Int))), (3, .int (iZ 0)), (4, .long (lZ (lstS C))), (6, .long (lZ 0)), (8, .long (lZ 0))]) d_Mo_takeCue_75 (by decide) rfl ?_
    obtain ⟨s0, es0⟩ : ∃ zz : Nat × Int, zz = (p, -1) := ⟨_, rfl⟩
    have f16 : σ2 16 = .int (iZ ((s0.1 : Nat) : Int)) := by rw [es0]; exact f16
    have f17 : σ2 17 = .int (iZ s0.2) := by rw [es0]; exact f17
    have b_s0 : s0.1 ≤ n ∧ -1 ≤ s0.2 ∧ s0.2 ≤ n := by rw [es0]; exact ⟨hp, by show (-1 : Int) ≤ -1; decide, by show (-1 : Int) ≤ n; omega⟩
    skip
    refine ev_iload_n d_Mo_takeCue_77 rfl rfl ?_
    refine ez_if_ne (tgt := 124) (by omega) d_Mo_takeCue_78 rfl (fun c78 => ?_) (fun c78 => ?_)
    · refine ev_iload_n d_Mo_takeCue_124 rfl rfl ?_
      refine ev_iconst (v := iZ 1) d_Mo_takeCue_125 rfl ?_
      refine ez_icmp_ne (tgt := 148) (by omega) (by decide) d_Mo_takeCue_126 rfl (fun c126 => ?_) (fun c126 => ?_)
      · refine ev_aload_n d_Mo_takeCue_148 rfl rfl ?_
        refine ev_callV M_Mo_takeSix (rm 1 40) _ (As := []) (c_Mo_takeSix G h3 σ2 m bu n F s0 hm f0 f1 f16 f17 hbu hn hF (by omega)) d_Mo_takeCue_149 mk_Mo_takeSix ml_Mo_165 mv_Mo_takeSix hm rfl rfl rfl (Nat.le_of_ble_eq_true rfl) ⟨by decide, by decide⟩ ⟨by decide, by decide⟩ (fun r h6 hq => ?_)
        obtain ⟨⟨v5, rfl, g_v5⟩, ⟨σ7, gm, g16, g17, gs⟩, fmc⟩ := hq
        obtain ⟨s4, e_s4⟩ : ∃ zz, zz = sq F n pat6 s0 := ⟨_, rfl⟩
        have b_s4 := sq_r (F := F) (n := n) (A := pat6) (s := s0) (by decide) (by omega) (by omega)
        rw [← e_s4] at b_s4 g16 g17 g_v5
        have hbu := (fmc _ (ninc (cne hbu hm (by simp)) nin0)).trans hbu
        have he1 := (fmc _ (ninc (cne he1 hm (by simp)) nin0)).trans he1
        have he2 := (fmc _ (ninc (cne he2 hm (by simp)) nin0)).trans he2
        have he3 := (fmc _ (ninc (cne he3 hm (by simp)) nin0)).trans he3
        have he4 := (fmc _ (ninc (cne he4 hm (by simp)) nin0)).trans he4
        have f0 := (gs 0 (by decide)).trans f0
        have f1 := (gs 1 (by decide)).trans f1
        have f2 := (gs 2 (by decide)).trans f2
        have f3 := (gs 3 (by decide)).trans f3
        have f18 := (gs 18 (by decide)).trans f18
        have f19 := (gs 19 (by decide)).trans f19
        have f20 := (gs 20 (by decide)).trans f20
        have f21 := (gs 21 (by decide)).trans f21
        have f22 := (gs 22 (by decide)).trans f22
        have f16 := g16
        have f17 := g17
        have hm := gm
        have fm := fm.call (by simp) fmc
        have fs := fs.call (by simp) gs
        refine ev_lstore (L' := [(0, .ref m), (1, .int (iZ f)), (2, .int (iZ (p : Int))), (3, .int (iZ 0)), (4, .long (lZ (lstS C))), (6, .long (lZ v5)), (8, .long (lZ 0))]) d_Mo_takeCue_152 (by decide) rfl ?_
        refine ev_aload_n d_Mo_takeCue_154 rfl rfl ?_
        refine ev_callV M_Mo_takeSix (rm 1 40) _ (As := []) (c_Mo_takeSix G h6 σ7 m bu n F s4 hm f0 f1 f16 f17 hbu hn hF (by omega)) d_Mo_takeCue_155 mk_Mo_takeSix ml_Mo_165 mv_Mo_takeSix hm rfl rfl rfl (Nat.le_of_ble_eq_true rfl) ⟨by decide, by decide⟩ ⟨by decide, by decide⟩ (fun r h10 hq => ?_)
        obtain ⟨⟨v9, rfl, g_v9⟩, ⟨σ11, gm, g16, g17, gs⟩, fmc⟩ := hq
        obtain ⟨s8, e_s8⟩ : ∃ zz, zz = sq F n pat6 s4 := ⟨_, rfl⟩
        have b_s8 := sq_r (F := F) (n := n) (A := pat6) (s := s4) (by decide) (by omega) (by omega)
        rw [← e_s8] at b_s8 g16 g17 g_v9
        have hbu := (fmc _ (ninc (cne hbu hm (by simp)) nin0)).trans hbu
        have he1 := (fmc _ (ninc (cne he1 hm (by simp)) nin0)).trans he1
        have he2 := (fmc _ (ninc (cne he2 hm (by simp)) nin0)).trans he2
        have he3 := (fmc _ (ninc (cne he3 hm (by simp)) nin0)).trans he3
        have he4 := (fmc _ (ninc (cne he4 hm (by simp)) nin0)).trans he4
        have f0 := (gs 0 (by decide)).trans f0
        have f1 := (gs 1 (by decide)).trans f1
        have f2 := (gs 2 (by decide)).trans f2
        have f3 := (gs 3 (by decide)).trans f3
        have f18 := (gs 18 (by decide)).trans f18
        have f19 := (gs 19 (by decide)).trans f19
        have f20 := (gs 20 (by decide)).trans f20
        have f21 := (gs 21 (by decide)).trans f21
        have f22 := (gs 22 (by decide)).trans f22
        have f16 := g16
        have f17 := g17
        have hm := gm
        have fm := fm.call (by simp) fmc
        have fs := fs.call (by simp) gs
        refine ev_lstore (L' := [(0, .ref m), (1, .int (iZ f)), (2, .int (iZ (p : Int))), (3, .int (iZ 0)), (4, .long (lZ (lstS C))), (6, .long (lZ v5)), (8, .long (lZ v9))]) d_Mo_takeCue_158 (by decide) rfl ?_
        refine ev_aload_n d_Mo_takeCue_160 rfl rfl ?_
        have eH : s8 = hq f F n p := by rw [← hq_2 c78 c126]; simp only [e_s8, e_s4, es0]
        have hle := hP_le (f := f) (F := F) hp
        by_cases hm0 : (hP f F n p).2 = true
        ·
          have eL : s8 = ((hP f F n p).1, (-1 : Int)) := by rw [eH]; exact Prod.ext rfl (if_pos hm0)
          have qL : s8.2 < 0 := by rw [eL]; show (-1 : Int) < 0; decide
          have o_s8 := sq_ok (F := F) (n := n) (A := pat6) (s := s4) (by rw [← e_s8]; exact qL)
          have l_s8 : s8.1 = s4.1 + 6 := by rw [e_s8]; exact o_s8.2.2.1
          have q_s4 := o_s8.1
          have q_s8 := qL
          have o_s4 := sq_ok (F := F) (n := n) (A := pat6) (s := s0) (by rw [← e_s4]; exact q_s4)
          have l_s4 : s4.1 = s0.1 + 6 := by rw [e_s4]; exact o_s4.2.2.1
          have q_s0 := o_s4.1
          have p0 : s0.1 = p := by rw [es0]
          have hv1 : v5 = hS f tk F n p := by rw [hS_2 c78 c126, g_v5 q_s4, p0]
          have hv2 : v9 = hE f tk F n p := by rw [hE_2 c78 c126, g_v9 q_s8, show s4.1 = p + 6 from by omega]
          rw [eL] at f16 f17
          replace f16 : σ11 16 = .int (iZ (((hP f F n p).1 : Nat) : Int)) := f16
          replace f17 : σ11 17 = .int (iZ (-1)) := f17
          refine ev_callV M_Mo_takeCounted (rm 1 40) _ (As := []) (c_Mo_takeCounted G h10 σ11 m bu e3 e4 n (hP f F n p).1 (C.length) F N3 N4 hm f0 f1 f16 f17 f18 f21 f22 hbu he3 he4 hn hle.2 hF (by omega)) d_Mo_takeCue_161 mk_Mo_takeCounted ml_Mo_168 mv_Mo_takeCounted hm rfl rfl rfl (Nat.le_of_ble_eq_true rfl) ⟨by decide, by decide⟩ ⟨by decide, by decide⟩ (fun r h12 hq => ?_)
          obtain ⟨rfl, ⟨σ13, gm, g16, g17, gs⟩, qy, ⟨Z9, E9, ge3, ge4⟩, fmc⟩ := hq
          rw [show tx2s F n (hP f F n p).1 = txP f F n (hP f F n p).1 from (txP_2 c78 c126).symm] at g16 g17 qy
          have hbu := (fmc _ (ninc (cne hbu hm (by simp)) (ninc (cne hbu he3 (by simp)) (ninc (cne hbu he4 (by simp)) nin0)))).trans hbu
          have he1 := (fmc _ (ninc (cne he1 hm (by simp)) (ninc (cne he1 he3 (by simp)) (ninc (cne he1 he4 (by simp)) nin0)))).trans he1
          have he2 := (fmc _ (ninc (cne he2 hm (by simp)) (ninc (cne he2 he3 (by simp)) (ninc (cne he2 he4 (by simp)) nin0)))).trans he2
          have f0 := (gs 0 (by decide)).trans f0
          have f1 := (gs 1 (by decide)).trans f1
          have f2 := (gs 2 (by decide)).trans f2
          have f3 := (gs 3 (by decide)).trans f3
          have f18 := (gs 18 (by decide)).trans f18
          have f19 := (gs 19 (by decide)).trans f19
          have f20 := (gs 20 (by decide)).trans f20
          have f21 := (gs 21 (by decide)).trans f21
          have f22 := (gs 22 (by decide)).trans f22
          have f16 := g16
          have f17 := g17
          have hm := gm
          have fm := fm.call (by simp) fmc
          have fs := fs.call (by simp) gs
          have hcu := cuP_ok (tk := tk) (show hP f F n p = ((hP f F n p).1, true) from Prod.ext rfl hm0)
          have cr := cuP_r (f := f) (tk := tk) hF hp htk2
          rcases hx : (txP f F n (hP f F n p).1).2 with _ | T1
          ·
            have he3 := ge3
            have he4 := ge4
            rw [show ftO (txP f F n (hP f F n p).1) = ((txP f F n (hP f F n p).1).1 : Int) from by unfold ftO; rw [hx]] at f17
            rw [hx] at hcu
            replace hcu : cuP f tk F n p = ((txP f F n (hP f F n p).1).1, none) := hcu
            have cq : (txP f F n (hP f F n p).1).1 ≤ n := by have := cr.2.1; rw [hcu] at this; exact this
            exact lp_Mo_cueN G h σ m e1 e2 e3 e4 n p F C N1 N2 N3 N4 f tk 0 (C.length) n_e hp hn (by omega) ((txP f F n (hP f F n p).1).1) ((txP f F n (hP f F n p).1).1) v5 v9 _ _ h12 σ13 hcu (by omega) (by omega) hm f16 f17 f18 f19 f20 he1 he2 he3 he4 fm fs
          ·
            obtain ⟨he3, he4⟩ := qy T1 hx
            rw [show ftO (txP f F n (hP f F n p).1) = -1 from by unfold ftO; rw [hx]] at f17
            rw [hx] at hcu
            replace hcu : cuP f tk F n p = ((txP f F n (hP f F n p).1).1, some (hS f tk F n p, hE f tk F n p, T1)) := hcu
            have cS := cr.2.2 _ (by rw [hcu])
            rw [show (txP f F n (hP f F n p).1).1 = (cuP f tk F n p).1 from by rw [hcu]] at f16
            rw [hv1, hv2]
            exact lp_Mo_cueS G h σ m e1 e2 e3 e4 n p F C N1 N2 N3 N4 f tk 0 (C.length) n_e hp hn (by omega) (hS f tk F n p, hE f tk F n p, T1) h12 σ13 (by rw [hcu]) (by have := cr.2.1; omega) cS hls hm f16 f17 f18 f19 f20 he1 he2 he3 he4 fm fs
        ·
          have eL : s8 = ((hP f F n p).1, ((hP f F n p).1 : Int)) := by rw [eH]; exact Prod.ext rfl (if_neg hm0)
          rw [eL] at f16 f17
          replace f16 : σ11 16 = .int (iZ (((hP f F n p).1 : Nat) : Int)) := f16
          replace f17 : σ11 17 = .int (iZ (((hP f F n p).1 : Nat) : Int)) := f17
          refine ev_callV M_Mo_takeCounted (rm 1 40) _ (As := []) (c_Mo_takeCountedB G h10 σ11 m bu n (hP f F n p).1 F ((hP f F n p).1 : Int) hm f0 f1 f16 f17 hbu hn hle.2 hF (by omega) (by omega)) d_Mo_takeCue_161 mk_Mo_takeCounted ml_Mo_168 mv_Mo_takeCounted hm rfl rfl rfl (Nat.le_of_ble_eq_true rfl) ⟨by decide, by decide⟩ ⟨by decide, by decide⟩ (fun r h14 hq => ?_)
          obtain ⟨rfl, ⟨σ15, gm, g16, g17, gs⟩, fmc⟩ := hq
          have hbu := (fmc _ (ninc (cne hbu hm (by simp)) nin0)).trans hbu
          have he1 := (fmc _ (ninc (cne he1 hm (by simp)) nin0)).trans he1
          have he2 := (fmc _ (ninc (cne he2 hm (by simp)) nin0)).trans he2
          have he3 := (fmc _ (ninc (cne he3 hm (by simp)) nin0)).trans he3
          have he4 := (fmc _ (ninc (cne he4 hm (by simp)) nin0)).trans he4
          have f0 := (gs 0 (by decide)).trans f0
          have f1 := (gs 1 (by decide)).trans f1
          have f2 := (gs 2 (by decide)).trans f2
          have f3 := (gs 3 (by decide)).trans f3
          have f18 := (gs 18 (by decide)).trans f18
          have f19 := (gs 19 (by decide)).trans f19
          have f20 := (gs 20 (by decide)).trans f20
          have f21 := (gs 21 (by decide)).trans f21
          have f22 := (gs 22 (by decide)).trans f22
          have f16 := g16
          have f17 := g17
          have hm := gm
          have fm := fm.call (by simp) fmc
          have fs := fs.call (by simp) gs
          have hcu : cuP f tk F n p = ((hP f F n p).1, none) := cuP_no (Prod.ext rfl (Bool.eq_false_iff.mpr hm0))
          have cq : (hP f F n p).1 ≤ n := hle.2
          exact lp_Mo_cueN G h σ m e1 e2 e3 e4 n p F C N1 N2 N3 N4 f tk 0 (C.length) n_e hp hn (by omega) ((hP f F n p).1) ((hP f F n p).1) v5 v9 _ _ h14 σ15 hcu (by omega) (by omega) hm f16 f17 f18 f19 f20 he1 he2 he3 he4 fm fs
      · refine ev_aload_n d_Mo_takeCue_129 rfl rfl ?_
        refine ev_callV M_Mo_takeFrames (rm 2 60) _ (As := []) (c_Mo_takeFrames G h3 σ2 m bu n F s0 num den tk hm f0 f1 f16 f17 f2 f3 hbu hn hF (by omega) hnum hden htk) d_Mo_takeCue_130 mk_Mo_takeFrames ml_Mo_159 mv_Mo_takeFrames hm rfl rfl rfl (Nat.le_of_ble_eq_true rfl) ⟨by decide, by decide⟩ ⟨by decide, by decide⟩ (fun r h18 hq => ?_)
        obtain ⟨⟨v17, rfl, g_v17⟩, ⟨σ19, gm, g16, g17, gs⟩, fmc⟩ := hq
        obtain ⟨s16, e_s16⟩ : ∃ zz, zz = fq F n s0 := ⟨_, rfl⟩
        have b_s16 := fq_r (F := F) (n := n) (s := s0) (by omega) (by omega)
        rw [← e_s16] at b_s16 g16 g17 g_v17
        have hbu := (fmc _ (ninc (cne hbu hm (by simp)) nin0)).trans hbu
        have he1 := (fmc _ (ninc (cne he1 hm (by simp)) nin0)).trans he1
        have he2 := (fmc _ (ninc (cne he2 hm (by simp)) nin0)).trans he2
        have he3 := (fmc _ (ninc (cne he3 hm (by simp)) nin0)).trans he3
        have he4 := (fmc _ (ninc (cne he4 hm (by simp)) nin0)).trans he4
        have f0 := (gs 0 (by decide)).trans f0
        have f1 := (gs 1 (by decide)).trans f1
        have f2 := (gs 2 (by decide)).trans f2
        have f3 := (gs 3 (by decide)).trans f3
        have f18 := (gs 18 (by decide)).trans f18
        have f19 := (gs 19 (by decide)).trans f19
        have f20 := (gs 20 (by decide)).trans f20
        have f21 := (gs 21 (by decide)).trans f21
        have f22 := (gs 22 (by decide)).trans f22
        have f16 := g16
        have f17 := g17
        have hm := gm
        have fm := fm.call (by simp) fmc
        have fs := fs.call (by simp) gs
        refine ev_lstore (L' := [(0, .ref m), (1, .int (iZ f)), (2, .int (iZ (p : Int))), (3, .int (iZ 0)), (4, .long (lZ (lstS C))), (6, .long (lZ v17)), (8, .long (lZ 0))]) d_Mo_takeCue_133 (by decide) rfl ?_
        refine ev_aload_n d_Mo_takeCue_135 rfl rfl ?_
        refine ev_callV M_Mo_takeFrames (rm 2 60) _ (As := []) (c_Mo_takeFrames G h18 σ19 m bu n F s16 num den tk hm f0 f1 f16 f17 f2 f3 hbu hn hF (by omega) hnum hden htk) d_Mo_takeCue_136 mk_Mo_takeFrames ml_Mo_159 mv_Mo_takeFrames hm rfl rfl rfl (Nat.le_of_ble_eq_true rfl) ⟨by decide, by decide⟩ ⟨by decide, by decide⟩ (fun r h22 hq => ?_)
        obtain ⟨⟨v21, rfl, g_v21⟩, ⟨σ23, gm, g16, g17, gs⟩, fmc⟩ := hq
        obtain ⟨s20, e_s20⟩ : ∃ zz, zz = fq F n s16 := ⟨_, rfl⟩
        have b_s20 := fq_r (F := F) (n := n) (s := s16) (by omega) (by omega)
        rw [← e_s20] at b_s20 g16 g17 g_v21
        have hbu := (fmc _ (ninc (cne hbu hm (by simp)) nin0)).trans hbu
        have he1 := (fmc _ (ninc (cne he1 hm (by simp)) nin0)).trans he1
        have he2 := (fmc _ (ninc (cne he2 hm (by simp)) nin0)).trans he2
        have he3 := (fmc _ (ninc (cne he3 hm (by simp)) nin0)).trans he3
        have he4 := (fmc _ (ninc (cne he4 hm (by simp)) nin0)).trans he4
        have f0 := (gs 0 (by decide)).trans f0
        have f1 := (gs 1 (by decide)).trans f1
        have f2 := (gs 2 (by decide)).trans f2
        have f3 := (gs 3 (by decide)).trans f3
        have f18 := (gs 18 (by decide)).trans f18
        have f19 := (gs 19 (by decide)).trans f19
        have f20 := (gs 20 (by decide)).trans f20
        have f21 := (gs 21 (by decide)).trans f21
        have f22 := (gs 22 (by decide)).trans f22
        have f16 := g16
        have f17 := g17
        have hm := gm
        have fm := fm.call (by simp) fmc
        have fs := fs.call (by simp) gs
        refine ev_lstore (L' := [(0, .ref m), (1, .int (iZ f)), (2, .int (iZ (p : Int))), (3, .int (iZ 0)), (4, .long (lZ (lstS C))), (6, .long (lZ v17)), (8, .long (lZ v21))]) d_Mo_takeCue_139 (by decide) rfl ?_
        refine ev_aload_n d_Mo_takeCue_141 rfl rfl ?_
        have eH : s20 = hq f F n p := by rw [← hq_1 c126]; simp only [e_s20, e_s16, es0]
        have hle := hP_le (f := f) (F := F) hp
        by_cases hm0 : (hP f F n p).2 = true
        ·
          have eL : s20 = ((hP f F n p).1, (-1 : Int)) := by rw [eH]; exact Prod.ext rfl (if_pos hm0)
          have qL : s20.2 < 0 := by rw [eL]; show (-1 : Int) < 0; decide
          have o_s20 := fq_ok (F := F) (n := n) (s := s16) (by rw [← e_s20]; exact qL)
          have l_s20 : s20.1 = (frP F n s16.1).1 := by rw [e_s20]; exact o_s20.2
          have q_s16 := o_s20.1
          have q_s20 := qL
          have o_s16 := fq_ok (F := F) (n := n) (s := s0) (by rw [← e_s16]; exact q_s16)
          have l_s16 : s16.1 = (frP F n s0.1).1 := by rw [e_s16]; exact o_s16.2
          have q_s0 := o_s16.1
          have p0 : s0.1 = p := by rw [es0]
          have hv1 : v17 = hS f tk F n p := by rw [hS_1 c126, g_v17 q_s16, p0]
          have hv2 : v21 = hE f tk F n p := by rw [hE_1 c126, g_v21 q_s20, l_s16, p0]
          rw [eL] at f16 f17
          replace f16 : σ23 16 = .int (iZ (((hP f F n p).1 : Nat) : Int)) := f16
          replace f17 : σ23 17 = .int (iZ (-1)) := f17
          refine ev_callV M_Mo_takeBars (rm 1 40) _ (As := []) (c_Mo_takeBars G h22 σ23 m bu e3 e4 n (hP f F n p).1 (C.length) F N3 N4 hm f0 f1 f16 f17 f18 f21 f22 hbu he3 he4 hn hle.2 hF (by omega)) d_Mo_takeCue_142 mk_Mo_takeBars ml_Mo_162 mv_Mo_takeBars hm rfl rfl rfl (Nat.le_of_ble_eq_true rfl) ⟨by decide, by decide⟩ ⟨by decide, by decide⟩ (fun r h24 hq => ?_)
          obtain ⟨rfl, ⟨σ25, gm, g16, g17, gs⟩, qy, ⟨Z9, E9, ge3, ge4⟩, fmc⟩ := hq
          rw [show tx1 F n (n + 1 - (hP f F n p).1) (hP f F n p).1 [] false = txP f F n (hP f F n p).1 from (txP_1 c126).symm] at g16 g17 qy
          have hbu := (fmc _ (ninc (cne hbu hm (by simp)) (ninc (cne hbu he3 (by simp)) (ninc (cne hbu he4 (by simp)) nin0)))).trans hbu
          have he1 := (fmc _ (ninc (cne he1 hm (by simp)) (ninc (cne he1 he3 (by simp)) (ninc (cne he1 he4 (by simp)) nin0)))).trans he1
          have he2 := (fmc _ (ninc (cne he2 hm (by simp)) (ninc (cne he2 he3 (by simp)) (ninc (cne he2 he4 (by simp)) nin0)))).trans he2
          have f0 := (gs 0 (by decide)).trans f0
          have f1 := (gs 1 (by decide)).trans f1
          have f2 := (gs 2 (by decide)).trans f2
          have f3 := (gs 3 (by decide)).trans f3
          have f18 := (gs 18 (by decide)).trans f18
          have f19 := (gs 19 (by decide)).trans f19
          have f20 := (gs 20 (by decide)).trans f20
          have f21 := (gs 21 (by decide)).trans f21
          have f22 := (gs 22 (by decide)).trans f22
          have f16 := g16
          have f17 := g17
          have hm := gm
          have fm := fm.call (by simp) fmc
          have fs := fs.call (by simp) gs
          have hcu := cuP_ok (tk := tk) (show hP f F n p = ((hP f F n p).1, true) from Prod.ext rfl hm0)
          have cr := cuP_r (f := f) (tk := tk) hF hp htk2
          rcases hx : (txP f F n (hP f F n p).1).2 with _ | T1
          ·
            have he3 := ge3
            have he4 := ge4
            rw [show ftO (txP f F n (hP f F n p).1) = ((txP f F n (hP f F n p).1).1 : Int) from by unfold ftO; rw [hx]] at f17
            rw [hx] at hcu
            replace hcu : cuP f tk F n p = ((txP f F n (hP f F n p).1).1, none) := hcu
            have cq : (txP f F n (hP f F n p).1).1 ≤ n := by have := cr.2.1; rw [hcu] at this; exact this
            refine ev_goto (tgt := 164) d_Mo_takeCue_145 rfl ?_
            exact lp_Mo_cueN G h σ m e1 e2 e3 e4 n p F C N1 N2 N3 N4 f tk 0 (C.length) n_e hp hn (by omega) ((txP f F n (hP f F n p).1).1) ((txP f F n (hP f F n p).1).1) v17 v21 _ _ h24 σ25 hcu (by omega) (by omega) hm f16 f17 f18 f19 f20 he1 he2 he3 he4 fm fs
          ·
            obtain ⟨he3, he4⟩ := qy T1 hx
            rw [show ftO (txP f F n (hP f F n p).1) = -1 from by unfold ftO; rw [hx]] at f17
            rw [hx] at hcu
            replace hcu : cuP f tk F n p = ((txP f F n (hP f F n p).1).1, some (hS f tk F n p, hE f tk F n p, T1)) := hcu
            have cS := cr.2.2 _ (by rw [hcu])
            rw [show (txP f F n (hP f F n p).1).1 = (cuP f tk F n p).1 from by rw [hcu]] at f16
            refine ev_goto (tgt := 164) d_Mo_takeCue_145 rfl ?_
            rw [hv1, hv2]
            exact lp_Mo_cueS G h σ m e1 e2 e3 e4 n p F C N1 N2 N3 N4 f tk 0 (C.length) n_e hp hn (by omega) (hS f tk F n p, hE f tk F n p, T1) h24 σ25 (by rw [hcu]) (by have := cr.2.1; omega) cS hls hm f16 f17 f18 f19 f20 he1 he2 he3 he4 fm fs
        ·
          have eL : s20 = ((hP f F n p).1, ((hP f F n p).1 : Int)) := by rw [eH]; exact Prod.ext rfl (if_neg hm0)
          rw [eL] at f16 f17
          replace f16 : σ23 16 = .int (iZ (((hP f F n p).1 : Nat) : Int)) := f16
          replace f17 : σ23 17 = .int (iZ (((hP f F n p).1 : Nat) : Int)) := f17
          refine ev_callV M_Mo_takeBars (rm 1 40) _ (As := []) (c_Mo_takeBarsB G h22 σ23 m ((hP f F n p).1 : Int) hm f17 (by omega)) d_Mo_takeCue_142 mk_Mo_takeBars ml_Mo_162 mv_Mo_takeBars hm rfl rfl rfl (Nat.le_of_ble_eq_true rfl) ⟨by decide, by decide⟩ ⟨by decide, by decide⟩ (fun r h26 hq => ?_)
          obtain ⟨rfl, ⟨σ27, gm, gs⟩, fmc⟩ := hq
          have hbu := (fmc _ (ninc (cne hbu hm (by simp)) nin0)).trans hbu
          have he1 := (fmc _ (ninc (cne he1 hm (by simp)) nin0)).trans he1
          have he2 := (fmc _ (ninc (cne he2 hm (by simp)) nin0)).trans he2
          have he3 := (fmc _ (ninc (cne he3 hm (by simp)) nin0)).trans he3
          have he4 := (fmc _ (ninc (cne he4 hm (by simp)) nin0)).trans he4
          have f0 := (gs 0 (by decide)).trans f0
          have f1 := (gs 1 (by decide)).trans f1
          have f16 := (gs 16 (by decide)).trans f16
          have f17 := (gs 17 (by decide)).trans f17
          have f2 := (gs 2 (by decide)).trans f2
          have f3 := (gs 3 (by decide)).trans f3
          have f18 := (gs 18 (by decide)).trans f18
          have f19 := (gs 19 (by decide)).trans f19
          have f20 := (gs 20 (by decide)).trans f20
          have f21 := (gs 21 (by decide)).trans f21
          have f22 := (gs 22 (by decide)).trans f22
          have hm := gm
          have fm := fm.call (by simp) fmc
          have fs := fs.call (by simp) gs
          have hcu : cuP f tk F n p = ((hP f F n p).1, none) := cuP_no (Prod.ext rfl (Bool.eq_false_iff.mpr hm0))
          have cq : (hP f F n p).1 ≤ n := hle.2
          refine ev_goto (tgt := 164) d_Mo_takeCue_145 rfl ?_
          exact lp_Mo_cueN G h σ m e1 e2 e3 e4 n p F C N1 N2 N3 N4 f tk 0 (C.length) n_e hp hn (by omega) ((hP f F n p).1) ((hP f F n p).1) v17 v21 _ _ h26 σ27 hcu (by omega) (by omega) hm f16 f17 f18 f19 f20 he1 he2 he3 he4 fm fs
    · refine ev_aload_n d_Mo_takeCue_81 rfl rfl ?_
      refine ev_callV M_Mo_takeClock (rm 2 60) _ (As := []) (c_Mo_takeClock G h3 σ2 m bu n F s0 hm f0 f1 f16 f17 hbu hn hF (by omega)) d_Mo_takeCue_82 mk_Mo_takeClock ml_Mo_153 mv_Mo_takeClock hm rfl rfl rfl (Nat.le_of_ble_eq_true rfl) ⟨by decide, by decide⟩ ⟨by decide, by decide⟩ (fun r h30 hq => ?_)
      obtain ⟨⟨v29, rfl, g_v29⟩, ⟨σ31, gm, g16, g17, gs⟩, fmc⟩ := hq
      obtain ⟨s28, e_s28⟩ : ∃ zz, zz = sq F n patT s0 := ⟨_, rfl⟩
      have b_s28 := sq_r (F := F) (n := n) (A := patT) (s := s0) (by decide) (by omega) (by omega)
      rw [← e_s28] at b_s28 g16 g17 g_v29
      have hbu := (fmc _ (ninc (cne hbu hm (by simp)) nin0)).trans hbu
      have he1 := (fmc _ (ninc (cne he1 hm (by simp)) nin0)).trans he1
      have he2 := (fmc _ (ninc (cne he2 hm (by simp)) nin0)).trans he2
      have he3 := (fmc _ (ninc (cne he3 hm (by simp)) nin0)).trans he3
      have he4 := (fmc _ (ninc (cne he4 hm (by simp)) nin0)).trans he4
      have f0 := (gs 0 (by decide)).trans f0
      have f1 := (gs 1 (by decide)).trans f1
      have f2 := (gs 2 (by decide)).trans f2
      have f3 := (gs 3 (by decide)).trans f3
      have f18 := (gs 18 (by decide)).trans f18
      have f19 := (gs 19 (by decide)).trans f19
      have f20 := (gs 20 (by decide)).trans f20
      have f21 := (gs 21 (by decide)).trans f21
      have f22 := (gs 22 (by decide)).trans f22
      have f16 := g16
      have f17 := g17
      have hm := gm
      have fm := fm.call (by simp) fmc
      have fs := fs.call (by simp) gs
      refine ev_lstore (L' := [(0, .ref m), (1, .int (iZ f)), (2, .int (iZ (p : Int))), (3, .int (iZ 0)), (4, .long (lZ (lstS C))), (6, .long (lZ v29)), (8, .long (lZ 0))]) d_Mo_takeCue_85 (by decide) rfl ?_
      refine ev_aload_n d_Mo_takeCue_87 rfl rfl ?_
      refine ev_bipush (v := iZ 32) d_Mo_takeCue_88 rfl ?_
      refine ev_callV M_Mo_takeByte (rm 1 30) _ (As := [.int (iZ 32)]) (c_Mo_takeByte G h30 σ31 m bu n s28.1 F s28.2 32 hm f0 f1 f16 f17 hbu hn (by omega) hF (by omega) (by decide)) d_Mo_takeCue_90 mk_Mo_takeByte ml_Mo_126 mv_Mo_takeByte hm rfl rfl rfl (Nat.le_of_ble_eq_true rfl) ⟨by decide, by decide⟩ ⟨by decide, by decide⟩ (fun r h33 hq => ?_)
      obtain ⟨rfl, ⟨σ34, gm, g16, g17, gs⟩, fmc⟩ := hq
      obtain ⟨s32, e_s32⟩ : ∃ zz, zz = sq F n [(32, 32)] s28 := ⟨_, rfl⟩
      rw [show sq F n [(32, 32)] (s28.1, s28.2) = s32 from e_s32.symm] at g16 g17
      have b_s32 := sq_r (F := F) (n := n) (A := [(32, 32)]) (s := s28) (by decide) (by omega) (by omega)
      rw [← e_s32] at b_s32
      have hbu := (fmc _ (ninc (cne hbu hm (by simp)) nin0)).trans hbu
      have he1 := (fmc _ (ninc (cne he1 hm (by simp)) nin0)).trans he1
      have he2 := (fmc _ (ninc (cne he2 hm (by simp)) nin0)).trans he2
      have he3 := (fmc _ (ninc (cne he3 hm (by simp)) nin0)).trans he3
      have he4 := (fmc _ (ninc (cne he4 hm (by simp)) nin0)).trans he4
      have f0 := (gs 0 (by decide)).trans f0
      have f1 := (gs 1 (by decide)).trans f1
      have f2 := (gs 2 (by decide)).trans f2
      have f3 := (gs 3 (by decide)).trans f3
      have f18 := (gs 18 (by decide)).trans f18
      have f19 := (gs 19 (by decide)).trans f19
      have f20 := (gs 20 (by decide)).trans f20
      have f21 := (gs 21 (by decide)).trans f21
      have f22 := (gs 22 (by decide)).trans f22
      have f16 := g16
      have f17 := g17
      have hm := gm
      have fm := fm.call (by simp) fmc
      have fs := fs.call (by simp) gs
      refine ev_aload_n d_Mo_takeCue_93 rfl rfl ?_
      refine ev_bipush (v := iZ 62) d_Mo_takeCue_94 rfl ?_
      refine ev_callV M_Mo_takeByte (rm 1 30) _ (As := [.int (iZ 62)]) (c_Mo_takeByte G h33 σ34 m bu n s32.1 F s32.2 62 hm f0 f1 f16 f17 hbu hn (by omega) hF (by omega) (by decide)) d_Mo_takeCue_96 mk_Mo_takeByte ml_Mo_126 mv_Mo_takeByte hm rfl rfl rfl (Nat.le_of_ble_eq_true rfl) ⟨by decide, by decide⟩ ⟨by decide, by decide⟩ (fun r h36 hq => ?_)
      obtain ⟨rfl, ⟨σ37, gm, g16, g17, gs⟩, fmc⟩ := hq
      obtain ⟨s35, e_s35⟩ : ∃ zz, zz = sq F n [(62, 62)] s32 := ⟨_, rfl⟩
      rw [show sq F n [(62, 62)] (s32.1, s32.2) = s35 from e_s35.symm] at g16 g17
      have b_s35 := sq_r (F := F) (n := n) (A := [(62, 62)]) (s := s32) (by decide) (by omega) (by omega)
      rw [← e_s35] at b_s35
      have hbu := (fmc _ (ninc (cne hbu hm (by simp)) nin0)).trans hbu
      have he1 := (fmc _ (ninc (cne he1 hm (by simp)) nin0)).trans he1
      have he2 := (fmc _ (ninc (cne he2 hm (by simp)) nin0)).trans he2
      have he3 := (fmc _ (ninc (cne he3 hm (by simp)) nin0)).trans he3
      have he4 := (fmc _ (ninc (cne he4 hm (by simp)) nin0)).trans he4
      have f0 := (gs 0 (by decide)).trans f0
      have f1 := (gs 1 (by decide)).trans f1
      have f2 := (gs 2 (by decide)).trans f2
      have f3 := (gs 3 (by decide)).trans f3
      have f18 := (gs 18 (by decide)).trans f18
      have f19 := (gs 19 (by decide)).trans f19
      have f20 := (gs 20 (by decide)).trans f20
      have f21 := (gs 21 (by decide)).trans f21
      have f22 := (gs 22 (by decide)).trans f22
      have f16 := g16
      have f17 := g17
      have hm := gm
      have fm := fm.call (by simp) fmc
      have fs := fs.call (by simp) gs
      refine ev_aload_n d_Mo_takeCue_99 rfl rfl ?_
      refine ev_bipush (v := iZ 32) d_Mo_takeCue_100 rfl ?_
      refine ev_callV M_Mo_takeByte (rm 1 30) _ (As := [.int (iZ 32)]) (c_Mo_takeByte G h36 σ37 m bu n s35.1 F s35.2 32 hm f0 f1 f16 f17 hbu hn (by omega) hF (by omega) (by decide)) d_Mo_takeCue_102 mk_Mo_takeByte ml_Mo_126 mv_Mo_takeByte hm rfl rfl rfl (Nat.le_of_ble_eq_true rfl) ⟨by decide, by decide⟩ ⟨by decide, by decide⟩ (fun r h39 hq => ?_)
      obtain ⟨rfl, ⟨σ40, gm, g16, g17, gs⟩, fmc⟩ := hq
      obtain ⟨s38, e_s38⟩ : ∃ zz, zz = sq F n [(32, 32)] s35 := ⟨_, rfl⟩
      rw [show sq F n [(32, 32)] (s35.1, s35.2) = s38 from e_s38.symm] at g16 g17
      have b_s38 := sq_r (F := F) (n := n) (A := [(32, 32)]) (s := s35) (by decide) (by omega) (by omega)
      rw [← e_s38] at b_s38
      have hbu := (fmc _ (ninc (cne hbu hm (by simp)) nin0)).trans hbu
      have he1 := (fmc _ (ninc (cne he1 hm (by simp)) nin0)).trans he1
      have he2 := (fmc _ (ninc (cne he2 hm (by simp)) nin0)).trans he2
      have he3 := (fmc _ (ninc (cne he3 hm (by simp)) nin0)).trans he3
      have he4 := (fmc _ (ninc (cne he4 hm (by simp)) nin0)).trans he4
      have f0 := (gs 0 (by decide)).trans f0
      have f1 := (gs 1 (by decide)).trans f1
      have f2 := (gs 2 (by decide)).trans f2
      have f3 := (gs 3 (by decide)).trans f3
      have f18 := (gs 18 (by decide)).trans f18
      have f19 := (gs 19 (by decide)).trans f19
      have f20 := (gs 20 (by decide)).trans f20
      have f21 := (gs 21 (by decide)).trans f21
      have f22 := (gs 22 (by decide)).trans f22
      have f16 := g16
      have f17 := g17
      have hm := gm
      have fm := fm.call (by simp) fmc
      have fs := fs.call (by simp) gs
      refine ev_aload_n d_Mo_takeCue_105 rfl rfl ?_
      refine ev_callV M_Mo_takeClock (rm 2 60) _ (As := []) (c_Mo_takeClock G h39 σ40 m bu n F s38 hm f0 f1 f16 f17 hbu hn hF (by omega)) d_Mo_takeCue_106 mk_Mo_takeClock ml_Mo_153 mv_Mo_takeClock hm rfl rfl rfl (Nat.le_of_ble_eq_true rfl) ⟨by decide, by decide⟩ ⟨by decide, by decide⟩ (fun r h43 hq => ?_)
      obtain ⟨⟨v42, rfl, g_v42⟩, ⟨σ44, gm, g16, g17, gs⟩, fmc⟩ := hq
      obtain ⟨s41, e_s41⟩ : ∃ zz, zz = sq F n patT s38 := ⟨_, rfl⟩
      have b_s41 := sq_r (F := F) (n := n) (A := patT) (s := s38) (by decide) (by omega) (by omega)
      rw [← e_s41] at b_s41 g16 g17 g_v42
      have hbu := (fmc _ (ninc (cne hbu hm (by simp)) nin0)).trans hbu
      have he1 := (fmc _ (ninc (cne he1 hm (by simp)) nin0)).trans he1
      have he2 := (fmc _ (ninc (cne he2 hm (by simp)) nin0)).trans he2
      have he3 := (fmc _ (ninc (cne he3 hm (by simp)) nin0)).trans he3
      have he4 := (fmc _ (ninc (cne he4 hm (by simp)) nin0)).trans he4
      have f0 := (gs 0 (by decide)).trans f0
      have f1 := (gs 1 (by decide)).trans f1
      have f2 := (gs 2 (by decide)).trans f2
      have f3 := (gs 3 (by decide)).trans f3
      have f18 := (gs 18 (by decide)).trans f18
      have f19 := (gs 19 (by decide)).trans f19
      have f20 := (gs 20 (by decide)).trans f20
      have f21 := (gs 21 (by decide)).trans f21
      have f22 := (gs 22 (by decide)).trans f22
      have f16 := g16
      have f17 := g17
      have hm := gm
      have fm := fm.call (by simp) fmc
      have fs := fs.call (by simp) gs
      refine ev_lstore (L' := [(0, .ref m), (1, .int (iZ f)), (2, .int (iZ (p : Int))), (3, .int (iZ 0)), (4, .long (lZ (lstS C))), (6, .long (lZ v29)), (8, .long (lZ v42))]) d_Mo_takeCue_109 (by decide) rfl ?_
      refine ev_aload_n d_Mo_takeCue_111 rfl rfl ?_
      refine ev_bipush (v := iZ 10) d_Mo_takeCue_112 rfl ?_
      refine ev_callV M_Mo_takeByte (rm 1 30) _ (As := [.int (iZ 10)]) (c_Mo_takeByte G h43 σ44 m bu n s41.1 F s41.2 10 hm f0 f1 f16 f17 hbu hn (by omega) hF (by omega) (by decide)) d_Mo_takeCue_114 mk_Mo_takeByte ml_Mo_126 mv_Mo_takeByte hm rfl rfl rfl (Nat.le_of_ble_eq_true rfl) ⟨by decide, by decide⟩ ⟨by decide, by decide⟩ (fun r h46 hq => ?_)
      obtain ⟨rfl, ⟨σ47, gm, g16, g17, gs⟩, fmc⟩ := hq
      obtain ⟨s45, e_s45⟩ : ∃ zz, zz = sq F n [(10, 10)] s41 := ⟨_, rfl⟩
      rw [show sq F n [(10, 10)] (s41.1, s41.2) = s45 from e_s45.symm] at g16 g17
      have b_s45 := sq_r (F := F) (n := n) (A := [(10, 10)]) (s := s41) (by decide) (by omega) (by omega)
      rw [← e_s45] at b_s45
      have hbu := (fmc _ (ninc (cne hbu hm (by simp)) nin0)).trans hbu
      have he1 := (fmc _ (ninc (cne he1 hm (by simp)) nin0)).trans he1
      have he2 := (fmc _ (ninc (cne he2 hm (by simp)) nin0)).trans he2
      have he3 := (fmc _ (ninc (cne he3 hm (by simp)) nin0)).trans he3
      have he4 := (fmc _ (ninc (cne he4 hm (by simp)) nin0)).trans he4
      have f0 := (gs 0 (by decide)).trans f0
      have f1 := (gs 1 (by decide)).trans f1
      have f2 := (gs 2 (by decide)).trans f2
      have f3 := (gs 3 (by decide)).trans f3
      have f18 := (gs 18 (by decide)).trans f18
      have f19 := (gs 19 (by decide)).trans f19
      have f20 := (gs 20 (by decide)).trans f20
      have f21 := (gs 21 (by decide)).trans f21
      have f22 := (gs 22 (by decide)).trans f22
      have f16 := g16
      have f17 := g17
      have hm := gm
      have fm := fm.call (by simp) fmc
      have fs := fs.call (by simp) gs
      refine ev_aload_n d_Mo_takeCue_117 rfl rfl ?_
      have eH : s45 = hq f F n p := by rw [← hq_0 c78]; simp only [e_s45, e_s41, e_s38, e_s35, e_s32, e_s28, es0, pat0, sq_app]
      have hle := hP_le (f := f) (F := F) hp
      by_cases hm0 : (hP f F n p).2 = true
      ·
        have eL : s45 = ((hP f F n p).1, (-1 : Int)) := by rw [eH]; exact Prod.ext rfl (if_pos hm0)
        have qL : s45.2 < 0 := by rw [eL]; show (-1 : Int) < 0; decide
        have o_s45 := sq_ok (F := F) (n := n) (A := [(10, 10)]) (s := s41) (by rw [← e_s45]; exact qL)
        have l_s45 : s45.1 = s41.1 + 1 := by rw [e_s45]; exact o_s45.2.2.1
        have q_s41 := o_s45.1
        have q_s45 := qL
        have o_s41 := sq_ok (F := F) (n := n) (A := patT) (s := s38) (by rw [← e_s41]; exact q_s41)
        have l_s41 : s41.1 = s38.1 + 12 := by rw [e_s41]; exact o_s41.2.2.1
        have q_s38 := o_s41.1
        have o_s38 := sq_ok (F := F) (n := n) (A := [(32, 32)]) (s := s35) (by rw [← e_s38]; exact q_s38)
        have l_s38 : s38.1 = s35.1 + 1 := by rw [e_s38]; exact o_s38.2.2.1
        have q_s35 := o_s38.1
        have o_s35 := sq_ok (F := F) (n := n) (A := [(62, 62)]) (s := s32) (by rw [← e_s35]; exact q_s35)
        have l_s35 : s35.1 = s32.1 + 1 := by rw [e_s35]; exact o_s35.2.2.1
        have q_s32 := o_s35.1
        have o_s32 := sq_ok (F := F) (n := n) (A := [(32, 32)]) (s := s28) (by rw [← e_s32]; exact q_s32)
        have l_s32 : s32.1 = s28.1 + 1 := by rw [e_s32]; exact o_s32.2.2.1
        have q_s28 := o_s32.1
        have o_s28 := sq_ok (F := F) (n := n) (A := patT) (s := s0) (by rw [← e_s28]; exact q_s28)
        have l_s28 : s28.1 = s0.1 + 12 := by rw [e_s28]; exact o_s28.2.2.1
        have q_s0 := o_s28.1
        have p0 : s0.1 = p := by rw [es0]
        have hv1 : v29 = hS f tk F n p := by rw [hS_0 c78, g_v29 q_s28, p0]
        have hv2 : v42 = hE f tk F n p := by rw [hE_0 c78, g_v42 q_s41, show s38.1 = p + 15 from by omega]
        rw [eL] at f16 f17
        replace f16 : σ47 16 = .int (iZ (((hP f F n p).1 : Nat) : Int)) := f16
        replace f17 : σ47 17 = .int (iZ (-1)) := f17
        refine ev_callV M_Mo_takeLines (rm 1 40) _ (As := []) (c_Mo_takeLines G h46 σ47 m bu e3 e4 n (hP f F n p).1 (C.length) F N3 N4 hm f0 f1 f16 f17 f18 f21 f22 hbu he3 he4 hn hle.2 hF (by omega)) d_Mo_takeCue_118 mk_Mo_takeLines ml_Mo_156 mv_Mo_takeLines hm rfl rfl rfl (Nat.le_of_ble_eq_true rfl) ⟨by decide, by decide⟩ ⟨by decide, by decide⟩ (fun r h48 hq => ?_)
        obtain ⟨rfl, ⟨σ49, gm, g16, g17, gs⟩, qy, ⟨Z9, E9, ge3, ge4⟩, fmc⟩ := hq
        rw [show tx0 F n (n + 1 - (hP f F n p).1) (hP f F n p).1 [] false = txP f F n (hP f F n p).1 from (txP_0 c78).symm] at g16 g17 qy
        have hbu := (fmc _ (ninc (cne hbu hm (by simp)) (ninc (cne hbu he3 (by simp)) (ninc (cne hbu he4 (by simp)) nin0)))).trans hbu
        have he1 := (fmc _ (ninc (cne he1 hm (by simp)) (ninc (cne he1 he3 (by simp)) (ninc (cne he1 he4 (by simp)) nin0)))).trans he1
        have he2 := (fmc _ (ninc (cne he2 hm (by simp)) (ninc (cne he2 he3 (by simp)) (ninc (cne he2 he4 (by simp)) nin0)))).trans he2
        have f0 := (gs 0 (by decide)).trans f0
        have f1 := (gs 1 (by decide)).trans f1
        have f2 := (gs 2 (by decide)).trans f2
        have f3 := (gs 3 (by decide)).trans f3
        have f18 := (gs 18 (by decide)).trans f18
        have f19 := (gs 19 (by decide)).trans f19
        have f20 := (gs 20 (by decide)).trans f20
        have f21 := (gs 21 (by decide)).trans f21
        have f22 := (gs 22 (by decide)).trans f22
        have f16 := g16
        have f17 := g17
        have hm := gm
        have fm := fm.call (by simp) fmc
        have fs := fs.call (by simp) gs
        have hcu := cuP_ok (tk := tk) (show hP f F n p = ((hP f F n p).1, true) from Prod.ext rfl hm0)
        have cr := cuP_r (f := f) (tk := tk) hF hp htk2
        rcases hx : (txP f F n (hP f F n p).1).2 with _ | T1
        ·
          have he3 := ge3
          have he4 := ge4
          rw [show ftO (txP f F n (hP f F n p).1) = ((txP f F n (hP f F n p).1).1 : Int) from by unfold ftO; rw [hx]] at f17
          rw [hx] at hcu
          replace hcu : cuP f tk F n p = ((txP f F n (hP f F n p).1).1, none) := hcu
          have cq : (txP f F n (hP f F n p).1).1 ≤ n := by have := cr.2.1; rw [hcu] at this; exact this
          refine ev_goto (tgt := 164) d_Mo_takeCue_121 rfl ?_
          exact lp_Mo_cueN G h σ m e1 e2 e3 e4 n p F C N1 N2 N3 N4 f tk 0 (C.length) n_e hp hn (by omega) ((txP f F n (hP f F n p).1).1) ((txP f F n (hP f F n p).1).1) v29 v42 _ _ h48 σ49 hcu (by omega) (by omega) hm f16 f17 f18 f19 f20 he1 he2 he3 he4 fm fs
        ·
          obtain ⟨he3, he4⟩ := qy T1 hx
          rw [show ftO (txP f F n (hP f F n p).1) = -1 from by unfold ftO; rw [hx]] at f17
          rw [hx] at hcu
          replace hcu : cuP f tk F n p = ((txP f F n (hP f F n p).1).1, some (hS f tk F n p, hE f tk F n p, T1)) := hcu
          have cS := cr.2.2 _ (by rw [hcu])
          rw [show (txP f F n (hP f F n p).1).1 = (cuP f tk F n p).1 from by rw [hcu]] at f16
          refine ev_goto (tgt := 164) d_Mo_takeCue_121 rfl ?_
          rw [hv1, hv2]
          exact lp_Mo_cueS G h σ m e1 e2 e3 e4 n p F C N1 N2 N3 N4 f tk 0 (C.length) n_e hp hn (by omega) (hS f tk F n p, hE f tk F n p, T1) h48 σ49 (by rw [hcu]) (by have := cr.2.1; omega) cS hls hm f16 f17 f18 f19 f20 he1 he2 he3 he4 fm fs
      ·
        have eL : s45 = ((hP f F n p).1, ((hP f F n p).1 : Int)) := by rw [eH]; exact Prod.ext rfl (if_neg hm0)
        rw [eL] at f16 f17
        replace f16 : σ47 16 = .int (iZ (((hP f F n p).1 : Nat) : Int)) := f16
        replace f17 : σ47 17 = .int (iZ (((hP f F n p).1 : Nat) : Int)) := f17
        refine ev_callV M_Mo_takeLines (rm 1 40) _ (As := []) (c_Mo_takeLinesB G h46 σ47 m ((hP f F n p).1 : Int) hm f17 (by omega)) d_Mo_takeCue_118 mk_Mo_takeLines ml_Mo_156 mv_Mo_takeLines hm rfl rfl rfl (Nat.le_of_ble_eq_true rfl) ⟨by decide, by decide⟩ ⟨by decide, by decide⟩ (fun r h50 hq => ?_)
        obtain ⟨rfl, ⟨σ51, gm, gs⟩, fmc⟩ := hq
        have hbu := (fmc _ (ninc (cne hbu hm (by simp)) nin0)).trans hbu
        have he1 := (fmc _ (ninc (cne he1 hm (by simp)) nin0)).trans he1
        have he2 := (fmc _ (ninc (cne he2 hm (by simp)) nin0)).trans he2
        have he3 := (fmc _ (ninc (cne he3 hm (by simp)) nin0)).trans he3
        have he4 := (fmc _ (ninc (cne he4 hm (by simp)) nin0)).trans he4
        have f0 := (gs 0 (by decide)).trans f0
        have f1 := (gs 1 (by decide)).trans f1
        have f16 := (gs 16 (by decide)).trans f16
        have f17 := (gs 17 (by decide)).trans f17
        have f2 := (gs 2 (by decide)).trans f2
        have f3 := (gs 3 (by decide)).trans f3
        have f18 := (gs 18 (by decide)).trans f18
        have f19 := (gs 19 (by decide)).trans f19
        have f20 := (gs 20 (by decide)).trans f20
        have f21 := (gs 21 (by decide)).trans f21
        have f22 := (gs 22 (by decide)).trans f22
        have hm := gm
        have fm := fm.call (by simp) fmc
        have fs := fs.call (by simp) gs
        have hcu : cuP f tk F n p = ((hP f F n p).1, none) := cuP_no (Prod.ext rfl (Bool.eq_false_iff.mpr hm0))
        have cq : (hP f F n p).1 ≤ n := hle.2
        refine ev_goto (tgt := 164) d_Mo_takeCue_121 rfl ?_
        exact lp_Mo_cueN G h σ m e1 e2 e3 e4 n p F C N1 N2 N3 N4 f tk 0 (C.length) n_e hp hn (by omega) ((hP f F n p).1) ((hP f F n p).1) v29 v42 _ _ h50 σ51 hcu (by omega) (by omega) hm f16 f17 f18 f19 f20 he1 he2 he3 he4 fm fs
  · refine ev_iconst (v := iZ 1) d_Mo_takeCue_14 rfl ?_
    refine ev_goto (tgt := 19) d_Mo_takeCue_15 rfl ?_
    refine ev_istore_n (L' := [(0, .ref m), (1, .int (iZ f)), (2, .int (iZ (p : Int))), (3, .int (iZ 1))]) d_Mo_takeCue_19 rfl (by decide) rfl ?_
    refine ev_cut 42 [(0, .ref m), (1, .int (iZ f)), (2, .int (iZ (p : Int))), (3, .int (iZ 1))] [.long (lZ (lstS C))] (fun kk => ?_) ?_
    ·
      refine ev_aload_n d_Mo_takeCue_20 rfl rfl ?_
      refine ev_getF d_Mo_takeCue_21 fl_Mo_140 hm (by decide) f18 ?_
      refine ez_if_ne (tgt := 31) (by omega) d_Mo_takeCue_24 rfl (fun c24 => ?_) (fun c24 => ?_)
      · refine ev_aload_n d_Mo_takeCue_31 rfl rfl ?_
        refine ev_getF d_Mo_takeCue_32 fl_Mo_48 hm (by decide) f19 ?_
        refine ev_aload_n d_Mo_takeCue_35 rfl rfl ?_
        refine ev_getF d_Mo_takeCue_36 fl_Mo_140 hm (by decide) f18 ?_
        refine ev_iconst (v := iZ 1) d_Mo_takeCue_39 rfl ?_
        refine ez_isub d_Mo_takeCue_40 ?_
        refine ez_laload (C.length - 1) d_Mo_takeCue_41 he1 (by omega) (by omega) (by decide) ?_
        rw [lstS_k hrl, if_neg (by omega)] at kk
        exact kk
      · refine ev_lconst (v := lZ 0) d_Mo_takeCue_27 rfl ?_
        refine ev_goto (tgt := 42) d_Mo_takeCue_28 rfl ?_
        rw [lstS_k hrl, if_pos (by omega)] at kk
        exact kk
    refine ev_lstore (L' := [(0, .ref m), (1, .int (iZ f)), (2, .int (iZ (p : Int))), (3, .int (iZ 1)), (4, .long (lZ (lstS C)))]) d_Mo_takeCue_42 (by decide) rfl ?_
    refine ev_aload_n d_Mo_takeCue_44 rfl rfl ?_
    refine ev_iload_n d_Mo_takeCue_45 rfl rfl ?_
    refine ez_if_eq (tgt := 54) (by decide) d_Mo_takeCue_46 rfl (fun c46 => absurd c46 (by omega)) (fun c46 => ?_)
    refine ev_bipush (v := iZ 15) d_Mo_takeCue_49 rfl ?_
    refine ev_goto (tgt := 58) d_Mo_takeCue_51 rfl ?_
    refine ev_putF2 d_Mo_takeCue_58 fw_Mo_140 (Or.inr (fun _ _ _ q => by cases q; rfl)) hm (by decide) rfl rfl (fun h52 σ53 h52a σ53j σ53o h52o => ?_)
    have f0 := (σ53o 0 (by decide)).trans f0
    have f1 := (σ53o 1 (by decide)).trans f1
    have f2 := (σ53o 2 (by decide)).trans f2
    have f3 := (σ53o 3 (by decide)).trans f3
    have f16 := (σ53o 16 (by decide)).trans f16
    have f17 := (σ53o 17 (by decide)).trans f17
    have f19 := (σ53o 19 (by decide)).trans f19
    have f20 := (σ53o 20 (by decide)).trans f20
    have f21 := (σ53o 21 (by decide)).trans f21
    have f22 := (σ53o 22 (by decide)).trans f22
    have f18 := σ53j
    have fs := fs.step (by simp) σ53o
    have hbu := (h52o _ (cne hbu hm (by simp))).trans hbu
    have he1 := (h52o _ (cne he1 hm (by simp))).trans he1
    have he2 := (h52o _ (cne he2 hm (by simp))).trans he2
    have he3 := (h52o _ (cne he3 hm (by simp))).trans he3
    have he4 := (h52o _ (cne he4 hm (by simp))).trans he4
    have hm := h52a
    have fm := fm.step (by simp) h52o
    refine ev_aload_n d_Mo_takeCue_61 rfl rfl ?_
    refine ev_getF d_Mo_takeCue_62 fl_Mo_54 hm (by decide) f21 ?_
    refine ev_aload_n d_Mo_takeCue_65 rfl rfl ?_
    refine ev_getF d_Mo_takeCue_66 fl_Mo_140 hm (by decide) f18 ?_
    refine ev_iconst (v := iZ 0) d_Mo_takeCue_69 rfl ?_
    refine ez_iastore (F' := zup N3 15 0) 15 d_Mo_takeCue_70 he3 (by omega) (by omega) (by decide) rfl (fun h54 h54a h54o => ?_)
    have hm := (h54o _ (cne hm he3 (by simp))).trans hm
    have hbu := (h54o _ (cne hbu he3 (by simp))).trans hbu
    have he1 := (h54o _ (cne he1 he3 (by simp))).trans he1
    have he2 := (h54o _ (cne he2 he3 (by simp))).trans he2
    have he4 := (h54o _ (cne he4 he3 (by simp))).trans he4
    have he3 := h54a
    have fm := fm.step (by simp) h54o
    refine ev_lconst (v := lZ 0) d_Mo_takeCue_71 rfl ?_
    refine ev_lstore (L' := [(0, .ref m), (1, .int (iZ f)), (2, .int (iZ (p : Int))), (3, .int (iZ 1)), (4, .long (lZ (lstS C))), (6, .long (lZ 0))]) d_Mo_takeCue_72 (by decide) rfl ?_
    refine ev_lconst (v := lZ 0) d_Mo_takeCue_74 rfl ?_
    refine ev_lstore (L' := [(0, .ref m), (1, .int (iZ f)), (2, .int (iZ (p : Int))), (3, .int (iZ 1)), (4, .long (lZ (lstS C))), (6, .long (lZ 0)), (8, .long (lZ 0))]) d_Mo_takeCue_75 (by decide) rfl ?_
    obtain ⟨s0, es0⟩ : ∃ zz : Nat × Int, zz = (p, -1) := ⟨_, rfl⟩
    have f16 : σ53 16 = .int (iZ ((s0.1 : Nat) : Int)) := by rw [es0]; exact f16
    have f17 : σ53 17 = .int (iZ s0.2) := by rw [es0]; exact f17
    have b_s0 : s0.1 ≤ n ∧ -1 ≤ s0.2 ∧ s0.2 ≤ n := by rw [es0]; exact ⟨hp, by show (-1 : Int) ≤ -1; decide, by show (-1 : Int) ≤ n; omega⟩
    skip
    refine ev_iload_n d_Mo_takeCue_77 rfl rfl ?_
    refine ez_if_ne (tgt := 124) (by omega) d_Mo_takeCue_78 rfl (fun c78 => ?_) (fun c78 => ?_)
    · refine ev_iload_n d_Mo_takeCue_124 rfl rfl ?_
      refine ev_iconst (v := iZ 1) d_Mo_takeCue_125 rfl ?_
      refine ez_icmp_ne (tgt := 148) (by omega) (by decide) d_Mo_takeCue_126 rfl (fun c126 => ?_) (fun c126 => ?_)
      · refine ev_aload_n d_Mo_takeCue_148 rfl rfl ?_
        refine ev_callV M_Mo_takeSix (rm 1 40) _ (As := []) (c_Mo_takeSix G h54 σ53 m bu n F s0 hm f0 f1 f16 f17 hbu hn hF (by omega)) d_Mo_takeCue_149 mk_Mo_takeSix ml_Mo_165 mv_Mo_takeSix hm rfl rfl rfl (Nat.le_of_ble_eq_true rfl) ⟨by decide, by decide⟩ ⟨by decide, by decide⟩ (fun r h57 hq => ?_)
        obtain ⟨⟨v56, rfl, g_v56⟩, ⟨σ58, gm, g16, g17, gs⟩, fmc⟩ := hq
        obtain ⟨s55, e_s55⟩ : ∃ zz, zz = sq F n pat6 s0 := ⟨_, rfl⟩
        have b_s55 := sq_r (F := F) (n := n) (A := pat6) (s := s0) (by decide) (by omega) (by omega)
        rw [← e_s55] at b_s55 g16 g17 g_v56
        have hbu := (fmc _ (ninc (cne hbu hm (by simp)) nin0)).trans hbu
        have he1 := (fmc _ (ninc (cne he1 hm (by simp)) nin0)).trans he1
        have he2 := (fmc _ (ninc (cne he2 hm (by simp)) nin0)).trans he2
        have he3 := (fmc _ (ninc (cne he3 hm (by simp)) nin0)).trans he3
        have he4 := (fmc _ (ninc (cne he4 hm (by simp)) nin0)).trans he4
        have f0 := (gs 0 (by decide)).trans f0
        have f1 := (gs 1 (by decide)).trans f1
        have f2 := (gs 2 (by decide)).trans f2
        have f3 := (gs 3 (by decide)).trans f3
        have f18 := (gs 18 (by decide)).trans f18
        have f19 := (gs 19 (by decide)).trans f19
        have f20 := (gs 20 (by decide)).trans f20
        have f21 := (gs 21 (by decide)).trans f21
        have f22 := (gs 22 (by decide)).trans f22
        have f16 := g16
        have f17 := g17
        have hm := gm
        have fm := fm.call (by simp) fmc
        have fs := fs.call (by simp) gs
        refine ev_lstore (L' := [(0, .ref m), (1, .int (iZ f)), (2, .int (iZ (p : Int))), (3, .int (iZ 1)), (4, .long (lZ (lstS C))), (6, .long (lZ v56)), (8, .long (lZ 0))]) d_Mo_takeCue_152 (by decide) rfl ?_
        refine ev_aload_n d_Mo_takeCue_154 rfl rfl ?_
        refine ev_callV M_Mo_takeSix (rm 1 40) _ (As := []) (c_Mo_takeSix G h57 σ58 m bu n F s55 hm f0 f1 f16 f17 hbu hn hF (by omega)) d_Mo_takeCue_155 mk_Mo_takeSix ml_Mo_165 mv_Mo_takeSix hm rfl rfl rfl (Nat.le_of_ble_eq_true rfl) ⟨by decide, by decide⟩ ⟨by decide, by decide⟩ (fun r h61 hq => ?_)
        obtain ⟨⟨v60, rfl, g_v60⟩, ⟨σ62, gm, g16, g17, gs⟩, fmc⟩ := hq
        obtain ⟨s59, e_s59⟩ : ∃ zz, zz = sq F n pat6 s55 := ⟨_, rfl⟩
        have b_s59 := sq_r (F := F) (n := n) (A := pat6) (s := s55) (by decide) (by omega) (by omega)
        rw [← e_s59] at b_s59 g16 g17 g_v60
        have hbu := (fmc _ (ninc (cne hbu hm (by simp)) nin0)).trans hbu
        have he1 := (fmc _ (ninc (cne he1 hm (by simp)) nin0)).trans he1
        have he2 := (fmc _ (ninc (cne he2 hm (by simp)) nin0)).trans he2
        have he3 := (fmc _ (ninc (cne he3 hm (by simp)) nin0)).trans he3
        have he4 := (fmc _ (ninc (cne he4 hm (by simp)) nin0)).trans he4
        have f0 := (gs 0 (by decide)).trans f0
        have f1 := (gs 1 (by decide)).trans f1
        have f2 := (gs 2 (by decide)).trans f2
        have f3 := (gs 3 (by decide)).trans f3
        have f18 := (gs 18 (by decide)).trans f18
        have f19 := (gs 19 (by decide)).trans f19
        have f20 := (gs 20 (by decide)).trans f20
        have f21 := (gs 21 (by decide)).trans f21
        have f22 := (gs 22 (by decide)).trans f22
        have f16 := g16
        have f17 := g17
        have hm := gm
        have fm := fm.call (by simp) fmc
        have fs := fs.call (by simp) gs
        refine ev_lstore (L' := [(0, .ref m), (1, .int (iZ f)), (2, .int (iZ (p : Int))), (3, .int (iZ 1)), (4, .long (lZ (lstS C))), (6, .long (lZ v56)), (8, .long (lZ v60))]) d_Mo_takeCue_158 (by decide) rfl ?_
        refine ev_aload_n d_Mo_takeCue_160 rfl rfl ?_
        have eH : s59 = hq f F n p := by rw [← hq_2 c78 c126]; simp only [e_s59, e_s55, es0]
        have hle := hP_le (f := f) (F := F) hp
        by_cases hm0 : (hP f F n p).2 = true
        ·
          have eL : s59 = ((hP f F n p).1, (-1 : Int)) := by rw [eH]; exact Prod.ext rfl (if_pos hm0)
          have qL : s59.2 < 0 := by rw [eL]; show (-1 : Int) < 0; decide
          have o_s59 := sq_ok (F := F) (n := n) (A := pat6) (s := s55) (by rw [← e_s59]; exact qL)
          have l_s59 : s59.1 = s55.1 + 6 := by rw [e_s59]; exact o_s59.2.2.1
          have q_s55 := o_s59.1
          have q_s59 := qL
          have o_s55 := sq_ok (F := F) (n := n) (A := pat6) (s := s0) (by rw [← e_s55]; exact q_s55)
          have l_s55 : s55.1 = s0.1 + 6 := by rw [e_s55]; exact o_s55.2.2.1
          have q_s0 := o_s55.1
          have p0 : s0.1 = p := by rw [es0]
          have hv1 : v56 = hS f tk F n p := by rw [hS_2 c78 c126, g_v56 q_s55, p0]
          have hv2 : v60 = hE f tk F n p := by rw [hE_2 c78 c126, g_v60 q_s59, show s55.1 = p + 6 from by omega]
          rw [eL] at f16 f17
          replace f16 : σ62 16 = .int (iZ (((hP f F n p).1 : Nat) : Int)) := f16
          replace f17 : σ62 17 = .int (iZ (-1)) := f17
          refine ev_callV M_Mo_takeCounted (rm 1 40) _ (As := []) (c_Mo_takeCounted G h61 σ62 m bu e3 e4 n (hP f F n p).1 (15) F N3 N4 hm f0 f1 f16 f17 f18 f21 f22 hbu he3 he4 hn hle.2 hF (by omega)) d_Mo_takeCue_161 mk_Mo_takeCounted ml_Mo_168 mv_Mo_takeCounted hm rfl rfl rfl (Nat.le_of_ble_eq_true rfl) ⟨by decide, by decide⟩ ⟨by decide, by decide⟩ (fun r h63 hq => ?_)
          obtain ⟨rfl, ⟨σ64, gm, g16, g17, gs⟩, qy, ⟨Z9, E9, ge3, ge4⟩, fmc⟩ := hq
          rw [show tx2s F n (hP f F n p).1 = txP f F n (hP f F n p).1 from (txP_2 c78 c126).symm] at g16 g17 qy
          have hbu := (fmc _ (ninc (cne hbu hm (by simp)) (ninc (cne hbu he3 (by simp)) (ninc (cne hbu he4 (by simp)) nin0)))).trans hbu
          have he1 := (fmc _ (ninc (cne he1 hm (by simp)) (ninc (cne he1 he3 (by simp)) (ninc (cne he1 he4 (by simp)) nin0)))).trans he1
          have he2 := (fmc _ (ninc (cne he2 hm (by simp)) (ninc (cne he2 he3 (by simp)) (ninc (cne he2 he4 (by simp)) nin0)))).trans he2
          have f0 := (gs 0 (by decide)).trans f0
          have f1 := (gs 1 (by decide)).trans f1
          have f2 := (gs 2 (by decide)).trans f2
          have f3 := (gs 3 (by decide)).trans f3
          have f18 := (gs 18 (by decide)).trans f18
          have f19 := (gs 19 (by decide)).trans f19
          have f20 := (gs 20 (by decide)).trans f20
          have f21 := (gs 21 (by decide)).trans f21
          have f22 := (gs 22 (by decide)).trans f22
          have f16 := g16
          have f17 := g17
          have hm := gm
          have fm := fm.call (by simp) fmc
          have fs := fs.call (by simp) gs
          have hcu := cuP_ok (tk := tk) (show hP f F n p = ((hP f F n p).1, true) from Prod.ext rfl hm0)
          have cr := cuP_r (f := f) (tk := tk) hF hp htk2
          rcases hx : (txP f F n (hP f F n p).1).2 with _ | T1
          ·
            have he3 := ge3
            have he4 := ge4
            rw [show ftO (txP f F n (hP f F n p).1) = ((txP f F n (hP f F n p).1).1 : Int) from by unfold ftO; rw [hx]] at f17
            rw [hx] at hcu
            replace hcu : cuP f tk F n p = ((txP f F n (hP f F n p).1).1, none) := hcu
            have cq : (txP f F n (hP f F n p).1).1 ≤ n := by have := cr.2.1; rw [hcu] at this; exact this
            exact lp_Mo_cueN G h σ m e1 e2 e3 e4 n p F C N1 N2 N3 N4 f tk 1 (15) n_e hp hn (by omega) ((txP f F n (hP f F n p).1).1) ((txP f F n (hP f F n p).1).1) v56 v60 _ _ h63 σ64 hcu (by omega) (by omega) hm f16 f17 f18 f19 f20 he1 he2 he3 he4 fm fs
          ·
            obtain ⟨he3, he4⟩ := qy T1 hx
            rw [show ftO (txP f F n (hP f F n p).1) = -1 from by unfold ftO; rw [hx]] at f17
            rw [hx] at hcu
            replace hcu : cuP f tk F n p = ((txP f F n (hP f F n p).1).1, some (hS f tk F n p, hE f tk F n p, T1)) := hcu
            have cS := cr.2.2 _ (by rw [hcu])
            rw [show (txP f F n (hP f F n p).1).1 = (cuP f tk F n p).1 from by rw [hcu]] at f16
            rw [hv1, hv2]
            exact lp_Mo_cueS G h σ m e1 e2 e3 e4 n p F C N1 N2 N3 N4 f tk 1 (15) n_e hp hn (by omega) (hS f tk F n p, hE f tk F n p, T1) h63 σ64 (by rw [hcu]) (by have := cr.2.1; omega) cS hls hm f16 f17 f18 f19 f20 he1 he2 he3 he4 fm fs
        ·
          have eL : s59 = ((hP f F n p).1, ((hP f F n p).1 : Int)) := by rw [eH]; exact Prod.ext rfl (if_neg hm0)
          rw [eL] at f16 f17
          replace f16 : σ62 16 = .int (iZ (((hP f F n p).1 : Nat) : Int)) := f16
          replace f17 : σ62 17 = .int (iZ (((hP f F n p).1 : Nat) : Int)) := f17
          refine ev_callV M_Mo_takeCounted (rm 1 40) _ (As := []) (c_Mo_takeCountedB G h61 σ62 m bu n (hP f F n p).1 F ((hP f F n p).1 : Int) hm f0 f1 f16 f17 hbu hn hle.2 hF (by omega) (by omega)) d_Mo_takeCue_161 mk_Mo_takeCounted ml_Mo_168 mv_Mo_takeCounted hm rfl rfl rfl (Nat.le_of_ble_eq_true rfl) ⟨by decide, by decide⟩ ⟨by decide, by decide⟩ (fun r h65 hq => ?_)
          obtain ⟨rfl, ⟨σ66, gm, g16, g17, gs⟩, fmc⟩ := hq
          have hbu := (fmc _ (ninc (cne hbu hm (by simp)) nin0)).trans hbu
          have he1 := (fmc _ (ninc (cne he1 hm (by simp)) nin0)).trans he1
          have he2 := (fmc _ (ninc (cne he2 hm (by simp)) nin0)).trans he2
          have he3 := (fmc _ (ninc (cne he3 hm (by simp)) nin0)).trans he3
          have he4 := (fmc _ (ninc (cne he4 hm (by simp)) nin0)).trans he4
          have f0 := (gs 0 (by decide)).trans f0
          have f1 := (gs 1 (by decide)).trans f1
          have f2 := (gs 2 (by decide)).trans f2
          have f3 := (gs 3 (by decide)).trans f3
          have f18 := (gs 18 (by decide)).trans f18
          have f19 := (gs 19 (by decide)).trans f19
          have f20 := (gs 20 (by decide)).trans f20
          have f21 := (gs 21 (by decide)).trans f21
          have f22 := (gs 22 (by decide)).trans f22
          have f16 := g16
          have f17 := g17
          have hm := gm
          have fm := fm.call (by simp) fmc
          have fs := fs.call (by simp) gs
          have hcu : cuP f tk F n p = ((hP f F n p).1, none) := cuP_no (Prod.ext rfl (Bool.eq_false_iff.mpr hm0))
          have cq : (hP f F n p).1 ≤ n := hle.2
          exact lp_Mo_cueN G h σ m e1 e2 e3 e4 n p F C N1 N2 N3 N4 f tk 1 (15) n_e hp hn (by omega) ((hP f F n p).1) ((hP f F n p).1) v56 v60 _ _ h65 σ66 hcu (by omega) (by omega) hm f16 f17 f18 f19 f20 he1 he2 he3 he4 fm fs
      · refine ev_aload_n d_Mo_takeCue_129 rfl rfl ?_
        refine ev_callV M_Mo_takeFrames (rm 2 60) _ (As := []) (c_Mo_takeFrames G h54 σ53 m bu n F s0 num den tk hm f0 f1 f16 f17 f2 f3 hbu hn hF (by omega) hnum hden htk) d_Mo_takeCue_130 mk_Mo_takeFrames ml_Mo_159 mv_Mo_takeFrames hm rfl rfl rfl (Nat.le_of_ble_eq_true rfl) ⟨by decide, by decide⟩ ⟨by decide, by decide⟩ (fun r h69 hq => ?_)
        obtain ⟨⟨v68, rfl, g_v68⟩, ⟨σ70, gm, g16, g17, gs⟩, fmc⟩ := hq
        obtain ⟨s67, e_s67⟩ : ∃ zz, zz = fq F n s0 := ⟨_, rfl⟩
        have b_s67 := fq_r (F := F) (n := n) (s := s0) (by omega) (by omega)
        rw [← e_s67] at b_s67 g16 g17 g_v68
        have hbu := (fmc _ (ninc (cne hbu hm (by simp)) nin0)).trans hbu
        have he1 := (fmc _ (ninc (cne he1 hm (by simp)) nin0)).trans he1
        have he2 := (fmc _ (ninc (cne he2 hm (by simp)) nin0)).trans he2
        have he3 := (fmc _ (ninc (cne he3 hm (by simp)) nin0)).trans he3
        have he4 := (fmc _ (ninc (cne he4 hm (by simp)) nin0)).trans he4
        have f0 := (gs 0 (by decide)).trans f0
        have f1 := (gs 1 (by decide)).trans f1
        have f2 := (gs 2 (by decide)).trans f2
        have f3 := (gs 3 (by decide)).trans f3
        have f18 := (gs 18 (by decide)).trans f18
        have f19 := (gs 19 (by decide)).trans f19
        have f20 := (gs 20 (by decide)).trans f20
        have f21 := (gs 21 (by decide)).trans f21
        have f22 := (gs 22 (by decide)).trans f22
        have f16 := g16
        have f17 := g17
        have hm := gm
        have fm := fm.call (by simp) fmc
        have fs := fs.call (by simp) gs
        refine ev_lstore (L' := [(0, .ref m), (1, .int (iZ f)), (2, .int (iZ (p : Int))), (3, .int (iZ 1)), (4, .long (lZ (lstS C))), (6, .long (lZ v68)), (8, .long (lZ 0))]) d_Mo_takeCue_133 (by decide) rfl ?_
        refine ev_aload_n d_Mo_takeCue_135 rfl rfl ?_
        refine ev_callV M_Mo_takeFrames (rm 2 60) _ (As := []) (c_Mo_takeFrames G h69 σ70 m bu n F s67 num den tk hm f0 f1 f16 f17 f2 f3 hbu hn hF (by omega) hnum hden htk) d_Mo_takeCue_136 mk_Mo_takeFrames ml_Mo_159 mv_Mo_takeFrames hm rfl rfl rfl (Nat.le_of_ble_eq_true rfl) ⟨by decide, by decide⟩ ⟨by decide, by decide⟩ (fun r h73 hq => ?_)
        obtain ⟨⟨v72, rfl, g_v72⟩, ⟨σ74, gm, g16, g17, gs⟩, fmc⟩ := hq
        obtain ⟨s71, e_s71⟩ : ∃ zz, zz = fq F n s67 := ⟨_, rfl⟩
        have b_s71 := fq_r (F := F) (n := n) (s := s67) (by omega) (by omega)
        rw [← e_s71] at b_s71 g16 g17 g_v72
        have hbu := (fmc _ (ninc (cne hbu hm (by simp)) nin0)).trans hbu
        have he1 := (fmc _ (ninc (cne he1 hm (by simp)) nin0)).trans he1
        have he2 := (fmc _ (ninc (cne he2 hm (by simp)) nin0)).trans he2
        have he3 := (fmc _ (ninc (cne he3 hm (by simp)) nin0)).trans he3
        have he4 := (fmc _ (ninc (cne he4 hm (by simp)) nin0)).trans he4
        have f0 := (gs 0 (by decide)).trans f0
        have f1 := (gs 1 (by decide)).trans f1
        have f2 := (gs 2 (by decide)).trans f2
        have f3 := (gs 3 (by decide)).trans f3
        have f18 := (gs 18 (by decide)).trans f18
        have f19 := (gs 19 (by decide)).trans f19
        have f20 := (gs 20 (by decide)).trans f20
        have f21 := (gs 21 (by decide)).trans f21
        have f22 := (gs 22 (by decide)).trans f22
        have f16 := g16
        have f17 := g17
        have hm := gm
        have fm := fm.call (by simp) fmc
        have fs := fs.call (by simp) gs
        refine ev_lstore (L' := [(0, .ref m), (1, .int (iZ f)), (2, .int (iZ (p : Int))), (3, .int (iZ 1)), (4, .long (lZ (lstS C))), (6, .long (lZ v68)), (8, .long (lZ v72))]) d_Mo_takeCue_139 (by decide) rfl ?_
        refine ev_aload_n d_Mo_takeCue_141 rfl rfl ?_
        have eH : s71 = hq f F n p := by rw [← hq_1 c126]; simp only [e_s71, e_s67, es0]
        have hle := hP_le (f := f) (F := F) hp
        by_cases hm0 : (hP f F n p).2 = true
        ·
          have eL : s71 = ((hP f F n p).1, (-1 : Int)) := by rw [eH]; exact Prod.ext rfl (if_pos hm0)
          have qL : s71.2 < 0 := by rw [eL]; show (-1 : Int) < 0; decide
          have o_s71 := fq_ok (F := F) (n := n) (s := s67) (by rw [← e_s71]; exact qL)
          have l_s71 : s71.1 = (frP F n s67.1).1 := by rw [e_s71]; exact o_s71.2
          have q_s67 := o_s71.1
          have q_s71 := qL
          have o_s67 := fq_ok (F := F) (n := n) (s := s0) (by rw [← e_s67]; exact q_s67)
          have l_s67 : s67.1 = (frP F n s0.1).1 := by rw [e_s67]; exact o_s67.2
          have q_s0 := o_s67.1
          have p0 : s0.1 = p := by rw [es0]
          have hv1 : v68 = hS f tk F n p := by rw [hS_1 c126, g_v68 q_s67, p0]
          have hv2 : v72 = hE f tk F n p := by rw [hE_1 c126, g_v72 q_s71, l_s67, p0]
          rw [eL] at f16 f17
          replace f16 : σ74 16 = .int (iZ (((hP f F n p).1 : Nat) : Int)) := f16
          replace f17 : σ74 17 = .int (iZ (-1)) := f17
          refine ev_callV M_Mo_takeBars (rm 1 40) _ (As := []) (c_Mo_takeBars G h73 σ74 m bu e3 e4 n (hP f F n p).1 (15) F N3 N4 hm f0 f1 f16 f17 f18 f21 f22 hbu he3 he4 hn hle.2 hF (by omega)) d_Mo_takeCue_142 mk_Mo_takeBars ml_Mo_162 mv_Mo_takeBars hm rfl rfl rfl (Nat.le_of_ble_eq_true rfl) ⟨by decide, by decide⟩ ⟨by decide, by decide⟩ (fun r h75 hq => ?_)
          obtain ⟨rfl, ⟨σ76, gm, g16, g17, gs⟩, qy, ⟨Z9, E9, ge3, ge4⟩, fmc⟩ := hq
          rw [show tx1 F n (n + 1 - (hP f F n p).1) (hP f F n p).1 [] false = txP f F n (hP f F n p).1 from (txP_1 c126).symm] at g16 g17 qy
          have hbu := (fmc _ (ninc (cne hbu hm (by simp)) (ninc (cne hbu he3 (by simp)) (ninc (cne hbu he4 (by simp)) nin0)))).trans hbu
          have he1 := (fmc _ (ninc (cne he1 hm (by simp)) (ninc (cne he1 he3 (by simp)) (ninc (cne he1 he4 (by simp)) nin0)))).trans he1
          have he2 := (fmc _ (ninc (cne he2 hm (by simp)) (ninc (cne he2 he3 (by simp)) (ninc (cne he2 he4 (by simp)) nin0)))).trans he2
          have f0 := (gs 0 (by decide)).trans f0
          have f1 := (gs 1 (by decide)).trans f1
          have f2 := (gs 2 (by decide)).trans f2
          have f3 := (gs 3 (by decide)).trans f3
          have f18 := (gs 18 (by decide)).trans f18
          have f19 := (gs 19 (by decide)).trans f19
          have f20 := (gs 20 (by decide)).trans f20
          have f21 := (gs 21 (by decide)).trans f21
          have f22 := (gs 22 (by decide)).trans f22
          have f16 := g16
          have f17 := g17
          have hm := gm
          have fm := fm.call (by simp) fmc
          have fs := fs.call (by simp) gs
          have hcu := cuP_ok (tk := tk) (show hP f F n p = ((hP f F n p).1, true) from Prod.ext rfl hm0)
          have cr := cuP_r (f := f) (tk := tk) hF hp htk2
          rcases hx : (txP f F n (hP f F n p).1).2 with _ | T1
          ·
            have he3 := ge3
            have he4 := ge4
            rw [show ftO (txP f F n (hP f F n p).1) = ((txP f F n (hP f F n p).1).1 : Int) from by unfold ftO; rw [hx]] at f17
            rw [hx] at hcu
            replace hcu : cuP f tk F n p = ((txP f F n (hP f F n p).1).1, none) := hcu
            have cq : (txP f F n (hP f F n p).1).1 ≤ n := by have := cr.2.1; rw [hcu] at this; exact this
            refine ev_goto (tgt := 164) d_Mo_takeCue_145 rfl ?_
            exact lp_Mo_cueN G h σ m e1 e2 e3 e4 n p F C N1 N2 N3 N4 f tk 1 (15) n_e hp hn (by omega) ((txP f F n (hP f F n p).1).1) ((txP f F n (hP f F n p).1).1) v68 v72 _ _ h75 σ76 hcu (by omega) (by omega) hm f16 f17 f18 f19 f20 he1 he2 he3 he4 fm fs
          ·
            obtain ⟨he3, he4⟩ := qy T1 hx
            rw [show ftO (txP f F n (hP f F n p).1) = -1 from by unfold ftO; rw [hx]] at f17
            rw [hx] at hcu
            replace hcu : cuP f tk F n p = ((txP f F n (hP f F n p).1).1, some (hS f tk F n p, hE f tk F n p, T1)) := hcu
            have cS := cr.2.2 _ (by rw [hcu])
            rw [show (txP f F n (hP f F n p).1).1 = (cuP f tk F n p).1 from by rw [hcu]] at f16
            refine ev_goto (tgt := 164) d_Mo_takeCue_145 rfl ?_
            rw [hv1, hv2]
            exact lp_Mo_cueS G h σ m e1 e2 e3 e4 n p F C N1 N2 N3 N4 f tk 1 (15) n_e hp hn (by omega) (hS f tk F n p, hE f tk F n p, T1) h75 σ76 (by rw [hcu]) (by have := cr.2.1; omega) cS hls hm f16 f17 f18 f19 f20 he1 he2 he3 he4 fm fs
        ·
          have eL : s71 = ((hP f F n p).1, ((hP f F n p).1 : Int)) := by rw [eH]; exact Prod.ext rfl (if_neg hm0)
          rw [eL] at f16 f17
          replace f16 : σ74 16 = .int (iZ (((hP f F n p).1 : Nat) : Int)) := f16
          replace f17 : σ74 17 = .int (iZ (((hP f F n p).1 : Nat) : Int)) := f17
          refine ev_callV M_Mo_takeBars (rm 1 40) _ (As := []) (c_Mo_takeBarsB G h73 σ74 m ((hP f F n p).1 : Int) hm f17 (by omega)) d_Mo_takeCue_142 mk_Mo_takeBars ml_Mo_162 mv_Mo_takeBars hm rfl rfl rfl (Nat.le_of_ble_eq_true rfl) ⟨by decide, by decide⟩ ⟨by decide, by decide⟩ (fun r h77 hq => ?_)
          obtain ⟨rfl, ⟨σ78, gm, gs⟩, fmc⟩ := hq
          have hbu := (fmc _ (ninc (cne hbu hm (by simp)) nin0)).trans hbu
          have he1 := (fmc _ (ninc (cne he1 hm (by simp)) nin0)).trans he1
          have he2 := (fmc _ (ninc (cne he2 hm (by simp)) nin0)).trans he2
          have he3 := (fmc _ (ninc (cne he3 hm (by simp)) nin0)).trans he3
          have he4 := (fmc _ (ninc (cne he4 hm (by simp)) nin0)).trans he4
          have f0 := (gs 0 (by decide)).trans f0
          have f1 := (gs 1 (by decide)).trans f1
          have f16 := (gs 16 (by decide)).trans f16
          have f17 := (gs 17 (by decide)).trans f17
          have f2 := (gs 2 (by decide)).trans f2
          have f3 := (gs 3 (by decide)).trans f3
          have f18 := (gs 18 (by decide)).trans f18
          have f19 := (gs 19 (by decide)).trans f19
          have f20 := (gs 20 (by decide)).trans f20
          have f21 := (gs 21 (by decide)).trans f21
          have f22 := (gs 22 (by decide)).trans f22
          have hm := gm
          have fm := fm.call (by simp) fmc
          have fs := fs.call (by simp) gs
          have hcu : cuP f tk F n p = ((hP f F n p).1, none) := cuP_no (Prod.ext rfl (Bool.eq_false_iff.mpr hm0))
          have cq : (hP f F n p).1 ≤ n := hle.2
          refine ev_goto (tgt := 164) d_Mo_takeCue_145 rfl ?_
          exact lp_Mo_cueN G h σ m e1 e2 e3 e4 n p F C N1 N2 N3 N4 f tk 1 (15) n_e hp hn (by omega) ((hP f F n p).1) ((hP f F n p).1) v68 v72 _ _ h77 σ78 hcu (by omega) (by omega) hm f16 f17 f18 f19 f20 he1 he2 he3 he4 fm fs
    · refine ev_aload_n d_Mo_takeCue_81 rfl rfl ?_
      refine ev_callV M_Mo_takeClock (rm 2 60) _ (As := []) (c_Mo_takeClock G h54 σ53 m bu n F s0 hm f0 f1 f16 f17 hbu hn hF (by omega)) d_Mo_takeCue_82 mk_Mo_takeClock ml_Mo_153 mv_Mo_takeClock hm rfl rfl rfl (Nat.le_of_ble_eq_true rfl) ⟨by decide, by decide⟩ ⟨by decide, by decide⟩ (fun r h81 hq => ?_)
      obtain ⟨⟨v80, rfl, g_v80⟩, ⟨σ82, gm, g16, g17, gs⟩, fmc⟩ := hq
      obtain ⟨s79, e_s79⟩ : ∃ zz, zz = sq F n patT s0 := ⟨_, rfl⟩
      have b_s79 := sq_r (F := F) (n := n) (A := patT) (s := s0) (by decide) (by omega) (by omega)
      rw [← e_s79] at b_s79 g16 g17 g_v80
      have hbu := (fmc _ (ninc (cne hbu hm (by simp)) nin0)).trans hbu
      have he1 := (fmc _ (ninc (cne he1 hm (by simp)) nin0)).trans he1
      have he2 := (fmc _ (ninc (cne he2 hm (by simp)) nin0)).trans he2
      have he3 := (fmc _ (ninc (cne he3 hm (by simp)) nin0)).trans he3
      have he4 := (fmc _ (ninc (cne he4 hm (by simp)) nin0)).trans he4
      have f0 := (gs 0 (by decide)).trans f0
      have f1 := (gs 1 (by decide)).trans f1
      have f2 := (gs 2 (by decide)).trans f2
      have f3 := (gs 3 (by decide)).trans f3
      have f18 := (gs 18 (by decide)).trans f18
      have f19 := (gs 19 (by decide)).trans f19
      have f20 := (gs 20 (by decide)).trans f20
      have f21 := (gs 21 (by decide)).trans f21
      have f22 := (gs 22 (by decide)).trans f22
      have f16 := g16
      have f17 := g17
      have hm := gm
      have fm := fm.call (by simp) fmc
      have fs := fs.call (by simp) gs
      refine ev_lstore (L' := [(0, .ref m), (1, .int (iZ f)), (2, .int (iZ (p : Int))), (3, .int (iZ 1)), (4, .long (lZ (lstS C))), (6, .long (lZ v80)), (8, .long (lZ 0))]) d_Mo_takeCue_85 (by decide) rfl ?_
      refine ev_aload_n d_Mo_takeCue_87 rfl rfl ?_
      refine ev_bipush (v := iZ 32) d_Mo_takeCue_88 rfl ?_
      refine ev_callV M_Mo_takeByte (rm 1 30) _ (As := [.int (iZ 32)]) (c_Mo_takeByte G h81 σ82 m bu n s79.1 F s79.2 32 hm f0 f1 f16 f17 hbu hn (by omega) hF (by omega) (by decide)) d_Mo_takeCue_90 mk_Mo_takeByte ml_Mo_126 mv_Mo_takeByte hm rfl rfl rfl (Nat.le_of_ble_eq_true rfl) ⟨by decide, by decide⟩ ⟨by decide, by decide⟩ (fun r h84 hq => ?_)
      obtain ⟨rfl, ⟨σ85, gm, g16, g17, gs⟩, fmc⟩ := hq
      obtain ⟨s83, e_s83⟩ : ∃ zz, zz = sq F n [(32, 32)] s79 := ⟨_, rfl⟩
      rw [show sq F n [(32, 32)] (s79.1, s79.2) = s83 from e_s83.symm] at g16 g17
      have b_s83 := sq_r (F := F) (n := n) (A := [(32, 32)]) (s := s79) (by decide) (by omega) (by omega)
      rw [← e_s83] at b_s83
      have hbu := (fmc _ (ninc (cne hbu hm (by simp)) nin0)).trans hbu
      have he1 := (fmc _ (ninc (cne he1 hm (by simp)) nin0)).trans he1
      have he2 := (fmc _ (ninc (cne he2 hm (by simp)) nin0)).trans he2
      have he3 := (fmc _ (ninc (cne he3 hm (by simp)) nin0)).trans he3
      have he4 := (fmc _ (ninc (cne he4 hm (by simp)) nin0)).trans he4
      have f0 := (gs 0 (by decide)).trans f0
      have f1 := (gs 1 (by decide)).trans f1
      have f2 := (gs 2 (by decide)).trans f2
      have f3 := (gs 3 (by decide)).trans f3
      have f18 := (gs 18 (by decide)).trans f18
      have f19 := (gs 19 (by decide)).trans f19
      have f20 := (gs 20 (by decide)).trans f20
      have f21 := (gs 21 (by decide)).trans f21
      have f22 := (gs 22 (by decide)).trans f22
      have f16 := g16
      have f17 := g17
      have hm := gm
      have fm := fm.call (by simp) fmc
      have fs := fs.call (by simp) gs
      refine ev_aload_n d_Mo_takeCue_93 rfl rfl ?_
      refine ev_bipush (v := iZ 62) d_Mo_takeCue_94 rfl ?_
      refine ev_callV M_Mo_takeByte (rm 1 30) _ (As := [.int (iZ 62)]) (c_Mo_takeByte G h84 σ85 m bu n s83.1 F s83.2 62 hm f0 f1 f16 f17 hbu hn (by omega) hF (by omega) (by decide)) d_Mo_takeCue_96 mk_Mo_takeByte ml_Mo_126 mv_Mo_takeByte hm rfl rfl rfl (Nat.le_of_ble_eq_true rfl) ⟨by decide, by decide⟩ ⟨by decide, by decide⟩ (fun r h87 hq => ?_)
      obtain ⟨rfl, ⟨σ88, gm, g16, g17, gs⟩, fmc⟩ := hq
      obtain ⟨s86, e_s86⟩ : ∃ zz, zz = sq F n [(62, 62)] s83 := ⟨_, rfl⟩
      rw [show sq F n [(62, 62)] (s83.1, s83.2) = s86 from e_s86.symm] at g16 g17
      have b_s86 := sq_r (F := F) (n := n) (A := [(62, 62)]) (s := s83) (by decide) (by omega) (by omega)
      rw [← e_s86] at b_s86
      have hbu := (fmc _ (ninc (cne hbu hm (by simp)) nin0)).trans hbu
      have he1 := (fmc _ (ninc (cne he1 hm (by simp)) nin0)).trans he1
      have he2 := (fmc _ (ninc (cne he2 hm (by simp)) nin0)).trans he2
      have he3 := (fmc _ (ninc (cne he3 hm (by simp)) nin0)).trans he3
      have he4 := (fmc _ (ninc (cne he4 hm (by simp)) nin0)).trans he4
      have f0 := (gs 0 (by decide)).trans f0
      have f1 := (gs 1 (by decide)).trans f1
      have f2 := (gs 2 (by decide)).trans f2
      have f3 := (gs 3 (by decide)).trans f3
      have f18 := (gs 18 (by decide)).trans f18
      have f19 := (gs 19 (by decide)).trans f19
      have f20 := (gs 20 (by decide)).trans f20
      have f21 := (gs 21 (by decide)).trans f21
      have f22 := (gs 22 (by decide)).trans f22
      have f16 := g16
      have f17 := g17
      have hm := gm
      have fm := fm.call (by simp) fmc
      have fs := fs.call (by simp) gs
      refine ev_aload_n d_Mo_takeCue_99 rfl rfl ?_
      refine ev_bipush (v := iZ 32) d_Mo_takeCue_100 rfl ?_
      refine ev_callV M_Mo_takeByte (rm 1 30) _ (As := [.int (iZ 32)]) (c_Mo_takeByte G h87 σ88 m bu n s86.1 F s86.2 32 hm f0 f1 f16 f17 hbu hn (by omega) hF (by omega) (by decide)) d_Mo_takeCue_102 mk_Mo_takeByte ml_Mo_126 mv_Mo_takeByte hm rfl rfl rfl (Nat.le_of_ble_eq_true rfl) ⟨by decide, by decide⟩ ⟨by decide, by decide⟩ (fun r h90 hq => ?_)
      obtain ⟨rfl, ⟨σ91, gm, g16, g17, gs⟩, fmc⟩ := hq
      obtain ⟨s89, e_s89⟩ : ∃ zz, zz = sq F n [(32, 32)] s86 := ⟨_, rfl⟩
      rw [show sq F n [(32, 32)] (s86.1, s86.2) = s89 from e_s89.symm] at g16 g17
      have b_s89 := sq_r (F := F) (n := n) (A := [(32, 32)]) (s := s86) (by decide) (by omega) (by omega)
      rw [← e_s89] at b_s89
      have hbu := (fmc _ (ninc (cne hbu hm (by simp)) nin0)).trans hbu
      have he1 := (fmc _ (ninc (cne he1 hm (by simp)) nin0)).trans he1
      have he2 := (fmc _ (ninc (cne he2 hm (by simp)) nin0)).trans he2
      have he3 := (fmc _ (ninc (cne he3 hm (by simp)) nin0)).trans he3
      have he4 := (fmc _ (ninc (cne he4 hm (by simp)) nin0)).trans he4
      have f0 := (gs 0 (by decide)).trans f0
      have f1 := (gs 1 (by decide)).trans f1
      have f2 := (gs 2 (by decide)).trans f2
      have f3 := (gs 3 (by decide)).trans f3
      have f18 := (gs 18 (by decide)).trans f18
      have f19 := (gs 19 (by decide)).trans f19
      have f20 := (gs 20 (by decide)).trans f20
      have f21 := (gs 21 (by decide)).trans f21
      have f22 := (gs 22 (by decide)).trans f22
      have f16 := g16
      have f17 := g17
      have hm := gm
      have fm := fm.call (by simp) fmc
      have fs := fs.call (by simp) gs
      refine ev_aload_n d_Mo_takeCue_105 rfl rfl ?_
      refine ev_callV M_Mo_takeClock (rm 2 60) _ (As := []) (c_Mo_takeClock G h90 σ91 m bu n F s89 hm f0 f1 f16 f17 hbu hn hF (by omega)) d_Mo_takeCue_106 mk_Mo_takeClock ml_Mo_153 mv_Mo_takeClock hm rfl rfl rfl (Nat.le_of_ble_eq_true rfl) ⟨by decide, by decide⟩ ⟨by decide, by decide⟩ (fun r h94 hq => ?_)
      obtain ⟨⟨v93, rfl, g_v93⟩, ⟨σ95, gm, g16, g17, gs⟩, fmc⟩ := hq
      obtain ⟨s92, e_s92⟩ : ∃ zz, zz = sq F n patT s89 := ⟨_, rfl⟩
      have b_s92 := sq_r (F := F) (n := n) (A := patT) (s := s89) (by decide) (by omega) (by omega)
      rw [← e_s92] at b_s92 g16 g17 g_v93
      have hbu := (fmc _ (ninc (cne hbu hm (by simp)) nin0)).trans hbu
      have he1 := (fmc _ (ninc (cne he1 hm (by simp)) nin0)).trans he1
      have he2 := (fmc _ (ninc (cne he2 hm (by simp)) nin0)).trans he2
      have he3 := (fmc _ (ninc (cne he3 hm (by simp)) nin0)).trans he3
      have he4 := (fmc _ (ninc (cne he4 hm (by simp)) nin0)).trans he4
      have f0 := (gs 0 (by decide)).trans f0
      have f1 := (gs 1 (by decide)).trans f1
      have f2 := (gs 2 (by decide)).trans f2
      have f3 := (gs 3 (by decide)).trans f3
      have f18 := (gs 18 (by decide)).trans f18
      have f19 := (gs 19 (by decide)).trans f19
      have f20 := (gs 20 (by decide)).trans f20
      have f21 := (gs 21 (by decide)).trans f21
      have f22 := (gs 22 (by decide)).trans f22
      have f16 := g16
      have f17 := g17
      have hm := gm
      have fm := fm.call (by simp) fmc
      have fs := fs.call (by simp) gs
      refine ev_lstore (L' := [(0, .ref m), (1, .int (iZ f)), (2, .int (iZ (p : Int))), (3, .int (iZ 1)), (4, .long (lZ (lstS C))), (6, .long (lZ v80)), (8, .long (lZ v93))]) d_Mo_takeCue_109 (by decide) rfl ?_
      refine ev_aload_n d_Mo_takeCue_111 rfl rfl ?_
      refine ev_bipush (v := iZ 10) d_Mo_takeCue_112 rfl ?_
      refine ev_callV M_Mo_takeByte (rm 1 30) _ (As := [.int (iZ 10)]) (c_Mo_takeByte G h94 σ95 m bu n s92.1 F s92.2 10 hm f0 f1 f16 f17 hbu hn (by omega) hF (by omega) (by decide)) d_Mo_takeCue_114 mk_Mo_takeByte ml_Mo_126 mv_Mo_takeByte hm rfl rfl rfl (Nat.le_of_ble_eq_true rfl) ⟨by decide, by decide⟩ ⟨by decide, by decide⟩ (fun r h97 hq => ?_)
      obtain ⟨rfl, ⟨σ98, gm, g16, g17, gs⟩, fmc⟩ := hq
      obtain ⟨s96, e_s96⟩ : ∃ zz, zz = sq F n [(10, 10)] s92 := ⟨_, rfl⟩
      rw [show sq F n [(10, 10)] (s92.1, s92.2) = s96 from e_s96.symm] at g16 g17
      have b_s96 := sq_r (F := F) (n := n) (A := [(10, 10)]) (s := s92) (by decide) (by omega) (by omega)
      rw [← e_s96] at b_s96
      have hbu := (fmc _ (ninc (cne hbu hm (by simp)) nin0)).trans hbu
      have he1 := (fmc _ (ninc (cne he1 hm (by simp)) nin0)).trans he1
      have he2 := (fmc _ (ninc (cne he2 hm (by simp)) nin0)).trans he2
      have he3 := (fmc _ (ninc (cne he3 hm (by simp)) nin0)).trans he3
      have he4 := (fmc _ (ninc (cne he4 hm (by simp)) nin0)).trans he4
      have f0 := (gs 0 (by decide)).trans f0
      have f1 := (gs 1 (by decide)).trans f1
      have f2 := (gs 2 (by decide)).trans f2
      have f3 := (gs 3 (by decide)).trans f3
      have f18 := (gs 18 (by decide)).trans f18
      have f19 := (gs 19 (by decide)).trans f19
      have f20 := (gs 20 (by decide)).trans f20
      have f21 := (gs 21 (by decide)).trans f21
      have f22 := (gs 22 (by decide)).trans f22
      have f16 := g16
      have f17 := g17
      have hm := gm
      have fm := fm.call (by simp) fmc
      have fs := fs.call (by simp) gs
      refine ev_aload_n d_Mo_takeCue_117 rfl rfl ?_
      have eH : s96 = hq f F n p := by rw [← hq_0 c78]; simp only [e_s96, e_s92, e_s89, e_s86, e_s83, e_s79, es0, pat0, sq_app]
      have hle := hP_le (f := f) (F := F) hp
      by_cases hm0 : (hP f F n p).2 = true
      ·
        have eL : s96 = ((hP f F n p).1, (-1 : Int)) := by rw [eH]; exact Prod.ext rfl (if_pos hm0)
        have qL : s96.2 < 0 := by rw [eL]; show (-1 : Int) < 0; decide
        have o_s96 := sq_ok (F := F) (n := n) (A := [(10, 10)]) (s := s92) (by rw [← e_s96]; exact qL)
        have l_s96 : s96.1 = s92.1 + 1 := by rw [e_s96]; exact o_s96.2.2.1
        have q_s92 := o_s96.1
        have q_s96 := qL
        have o_s92 := sq_ok (F := F) (n := n) (A := patT) (s := s89) (by rw [← e_s92]; exact q_s92)
        have l_s92 : s92.1 = s89.1 + 12 := by rw [e_s92]; exact o_s92.2.2.1
        have q_s89 := o_s92.1
        have o_s89 := sq_ok (F := F) (n := n) (A := [(32, 32)]) (s := s86) (by rw [← e_s89]; exact q_s89)
        have l_s89 : s89.1 = s86.1 + 1 := by rw [e_s89]; exact o_s89.2.2.1
        have q_s86 := o_s89.1
        have o_s86 := sq_ok (F := F) (n := n) (A := [(62, 62)]) (s := s83) (by rw [← e_s86]; exact q_s86)
        have l_s86 : s86.1 = s83.1 + 1 := by rw [e_s86]; exact o_s86.2.2.1
        have q_s83 := o_s86.1
        have o_s83 := sq_ok (F := F) (n := n) (A := [(32, 32)]) (s := s79) (by rw [← e_s83]; exact q_s83)
        have l_s83 : s83.1 = s79.1 + 1 := by rw [e_s83]; exact o_s83.2.2.1
        have q_s79 := o_s83.1
        have o_s79 := sq_ok (F := F) (n := n) (A := patT) (s := s0) (by rw [← e_s79]; exact q_s79)
        have l_s79 : s79.1 = s0.1 + 12 := by rw [e_s79]; exact o_s79.2.2.1
        have q_s0 := o_s79.1
        have p0 : s0.1 = p := by rw [es0]
        have hv1 : v80 = hS f tk F n p := by rw [hS_0 c78, g_v80 q_s79, p0]
        have hv2 : v93 = hE f tk F n p := by rw [hE_0 c78, g_v93 q_s92, show s89.1 = p + 15 from by omega]
        rw [eL] at f16 f17
        replace f16 : σ98 16 = .int (iZ (((hP f F n p).1 : Nat) : Int)) := f16
        replace f17 : σ98 17 = .int (iZ (-1)) := f17
        refine ev_callV M_Mo_takeLines (rm 1 40) _ (As := []) (c_Mo_takeLines G h97 σ98 m bu e3 e4 n (hP f F n p).1 (15) F N3 N4 hm f0 f1 f16 f17 f18 f21 f22 hbu he3 he4 hn hle.2 hF (by omega)) d_Mo_takeCue_118 mk_Mo_takeLines ml_Mo_156 mv_Mo_takeLines hm rfl rfl rfl (Nat.le_of_ble_eq_true rfl) ⟨by decide, by decide⟩ ⟨by decide, by decide⟩ (fun r h99 hq => ?_)
        obtain ⟨rfl, ⟨σ100, gm, g16, g17, gs⟩, qy, ⟨Z9, E9, ge3, ge4⟩, fmc⟩ := hq
        rw [show tx0 F n (n + 1 - (hP f F n p).1) (hP f F n p).1 [] false = txP f F n (hP f F n p).1 from (txP_0 c78).symm] at g16 g17 qy
        have hbu := (fmc _ (ninc (cne hbu hm (by simp)) (ninc (cne hbu he3 (by simp)) (ninc (cne hbu he4 (by simp)) nin0)))).trans hbu
        have he1 := (fmc _ (ninc (cne he1 hm (by simp)) (ninc (cne he1 he3 (by simp)) (ninc (cne he1 he4 (by simp)) nin0)))).trans he1
        have he2 := (fmc _ (ninc (cne he2 hm (by simp)) (ninc (cne he2 he3 (by simp)) (ninc (cne he2 he4 (by simp)) nin0)))).trans he2
        have f0 := (gs 0 (by decide)).trans f0
        have f1 := (gs 1 (by decide)).trans f1
        have f2 := (gs 2 (by decide)).trans f2
        have f3 := (gs 3 (by decide)).trans f3
        have f18 := (gs 18 (by decide)).trans f18
        have f19 := (gs 19 (by decide)).trans f19
        have f20 := (gs 20 (by decide)).trans f20
        have f21 := (gs 21 (by decide)).trans f21
        have f22 := (gs 22 (by decide)).trans f22
        have f16 := g16
        have f17 := g17
        have hm := gm
        have fm := fm.call (by simp) fmc
        have fs := fs.call (by simp) gs
        have hcu := cuP_ok (tk := tk) (show hP f F n p = ((hP f F n p).1, true) from Prod.ext rfl hm0)
        have cr := cuP_r (f := f) (tk := tk) hF hp htk2
        rcases hx : (txP f F n (hP f F n p).1).2 with _ | T1
        ·
          have he3 := ge3
          have he4 := ge4
          rw [show ftO (txP f F n (hP f F n p).1) = ((txP f F n (hP f F n p).1).1 : Int) from by unfold ftO; rw [hx]] at f17
          rw [hx] at hcu
          replace hcu : cuP f tk F n p = ((txP f F n (hP f F n p).1).1, none) := hcu
          have cq : (txP f F n (hP f F n p).1).1 ≤ n := by have := cr.2.1; rw [hcu] at this; exact this
          refine ev_goto (tgt := 164) d_Mo_takeCue_121 rfl ?_
          exact lp_Mo_cueN G h σ m e1 e2 e3 e4 n p F C N1 N2 N3 N4 f tk 1 (15) n_e hp hn (by omega) ((txP f F n (hP f F n p).1).1) ((txP f F n (hP f F n p).1).1) v80 v93 _ _ h99 σ100 hcu (by omega) (by omega) hm f16 f17 f18 f19 f20 he1 he2 he3 he4 fm fs
        ·
          obtain ⟨he3, he4⟩ := qy T1 hx
          rw [show ftO (txP f F n (hP f F n p).1) = -1 from by unfold ftO; rw [hx]] at f17
          rw [hx] at hcu
          replace hcu : cuP f tk F n p = ((txP f F n (hP f F n p).1).1, some (hS f tk F n p, hE f tk F n p, T1)) := hcu
          have cS := cr.2.2 _ (by rw [hcu])
          rw [show (txP f F n (hP f F n p).1).1 = (cuP f tk F n p).1 from by rw [hcu]] at f16
          refine ev_goto (tgt := 164) d_Mo_takeCue_121 rfl ?_
          rw [hv1, hv2]
          exact lp_Mo_cueS G h σ m e1 e2 e3 e4 n p F C N1 N2 N3 N4 f tk 1 (15) n_e hp hn (by omega) (hS f tk F n p, hE f tk F n p, T1) h99 σ100 (by rw [hcu]) (by have := cr.2.1; omega) cS hls hm f16 f17 f18 f19 f20 he1 he2 he3 he4 fm fs
      ·
        have eL : s96 = ((hP f F n p).1, ((hP f F n p).1 : Int)) := by rw [eH]; exact Prod.ext rfl (if_neg hm0)
        rw [eL] at f16 f17
        replace f16 : σ98 16 = .int (iZ (((hP f F n p).1 : Nat) : Int)) := f16
        replace f17 : σ98 17 = .int (iZ (((hP f F n p).1 : Nat) : Int)) := f17
        refine ev_callV M_Mo_takeLines (rm 1 40) _ (As := []) (c_Mo_takeLinesB G h97 σ98 m ((hP f F n p).1 : Int) hm f17 (by omega)) d_Mo_takeCue_118 mk_Mo_takeLines ml_Mo_156 mv_Mo_takeLines hm rfl rfl rfl (Nat.le_of_ble_eq_true rfl) ⟨by decide, by decide⟩ ⟨by decide, by decide⟩ (fun r h101 hq => ?_)
        obtain ⟨rfl, ⟨σ102, gm, gs⟩, fmc⟩ := hq
        have hbu := (fmc _ (ninc (cne hbu hm (by simp)) nin0)).trans hbu
        have he1 := (fmc _ (ninc (cne he1 hm (by simp)) nin0)).trans he1
        have he2 := (fmc _ (ninc (cne he2 hm (by simp)) nin0)).trans he2
        have he3 := (fmc _ (ninc (cne he3 hm (by simp)) nin0)).trans he3
        have he4 := (fmc _ (ninc (cne he4 hm (by simp)) nin0)).trans he4
        have f0 := (gs 0 (by decide)).trans f0
        have f1 := (gs 1 (by decide)).trans f1
        have f16 := (gs 16 (by decide)).trans f16
        have f17 := (gs 17 (by decide)).trans f17
        have f2 := (gs 2 (by decide)).trans f2
        have f3 := (gs 3 (by decide)).trans f3
        have f18 := (gs 18 (by decide)).trans f18
        have f19 := (gs 19 (by decide)).trans f19
        have f20 := (gs 20 (by decide)).trans f20
        have f21 := (gs 21 (by decide)).trans f21
        have f22 := (gs 22 (by decide)).trans f22
        have hm := gm
        have fm := fm.call (by simp) fmc
        have fs := fs.call (by simp) gs
        have hcu : cuP f tk F n p = ((hP f F n p).1, none) := cuP_no (Prod.ext rfl (Bool.eq_false_iff.mpr hm0))
        have cq : (hP f F n p).1 ≤ n := hle.2
        refine ev_goto (tgt := 164) d_Mo_takeCue_121 rfl ?_
        exact lp_Mo_cueN G h σ m e1 e2 e3 e4 n p F C N1 N2 N3 N4 f tk 1 (15) n_e hp hn (by omega) ((hP f F n p).1) ((hP f F n p).1) v80 v93 _ _ h101 σ102 hcu (by omega) (by omega) hm f16 f17 f18 f19 f20 he1 he2 he3 he4 fm fs
