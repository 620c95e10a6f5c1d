/-- two rows of n cues look alike -/
def vw (n : Nat) (K1 K2 K3 K4 S1 S2 S3 S4 : Nat → Int) : Prop := ∀ k, k < n → K1 k = S1 k ∧ K2 k = S2 k ∧ K3 k = S3 k ∧ ∀ j : Nat, (j : Int) < K3 k → K4 (k * 64 + j) = S4 (k * 64 + j)
def stE (n : Nat) (K1 K2 : Nat → Int) : Prop := ∀ k, k < n → K1 k < K2 k
section VW
variable {n : Nat} {K1 K2 K3 K4 S1 S2 S3 S4 : Nat → Int}
theorem v_cue (hv : vw n K1 K2 K3 K4 S1 S2 S3 S4) (i w : Int) : cueV K1 K2 K3 K4 n i w = cueV S1 S2 S3 S4 n i w := by
  unfold cueV
  split
  · rename_i q
    obtain ⟨e1, e2, e3, e4⟩ := hv i.toNat (by omega)
    rw [linesN_e (K := S4) (p := i.toNat * 64) (K3 i.toNat).toNat (fun j hj => e4 j (by omega)), cellsN_e (K := S4) (p := i.toNat * 64) (K3 i.toNat).toNat (fun j hj => e4 j (by omega)), e1, e2, e3]
  · rfl
theorem v_text (hv : vw n K1 K2 K3 K4 S1 S2 S3 S4) (i j : Int) : textV K3 K4 n i j = textV S3 S4 n i j := by
  unfold textV
  by_cases q : 0 ≤ i ∧ i < n
  · obtain ⟨e1, e2, e3, e4⟩ := hv i.toNat (by omega)
    rw [← e3]
    split
    · exact e4 j.toNat (by omega)
    · rfl
  · rw [if_neg (by omega), if_neg (by omega)]
theorem v_clash {v w : Int} (hv : vw n K1 K2 K3 K4 S1 S2 S3 S4) (a : clashP K1 K2 n v) (b : clashP S1 S2 n w) : v = w := by
  rcases a with ⟨a1, a2⟩ | ⟨k, a1, a2, a3, a4⟩ <;> rcases b with ⟨b1, b2⟩ | ⟨l, b1, b2, b3, b4⟩
  · omega
  · have := a2 l b2
    have e := (hv l (by omega)).2.1
    have f := (hv (l + 1) (by omega)).1
    omega
  · have := b2 k a2
    have e := (hv k (by omega)).2.1
    have f := (hv (k + 1) (by omega)).1
    omega
  · rcases Nat.lt_trichotomy k l with q | q | q
    · have := b4 k q
      have e := (hv k (by omega)).2.1
      have f := (hv (k + 1) (by omega)).1
      omega
    · omega
    · have := a4 l q
      have e := (hv l (by omega)).2.1
      have f := (hv (l + 1) (by omega)).1
      omega
theorem v_outs {f tk : Int} (hv : vw n K1 K2 K3 K4 S1 S2 S3 S4) : ∀ i, i ≤ n → outs f tk K1 K2 K3 K4 i = outs f tk S1 S2 S3 S4 i
  | 0, _ => rfl
  | i + 1, h => by
    obtain ⟨e1, e2, e3, e4⟩ := hv i (by omega)
    have t : ∀ e, txL K4 (i * 64) e (S3 i).toNat = txL S4 (i * 64) e (S3 i).toNat := fun e => by
      rw [← e3]
      exact txL_e _ (fun j hj => e4 j (by omega))
    have o : oCue f tk K1 K2 K3 K4 i = oCue f tk S1 S2 S3 S4 i := by
      unfold oCue oBlk oFra oPac
      simp only [e1, e2, e3, t]
    rw [outs, outs, v_outs hv i (by omega), o]
theorem v_shift {t : Int} (hv : vw n K1 K2 K3 K4 S1 S2 S3 S4) (hs : stE n K1 K2) : shOK K1 K2 n t ↔ shOM S1 S2 n t := by
  unfold shOK shOM
  constructor
  · rintro ⟨h1, h2⟩
    refine ⟨h1, fun i hi => ?_⟩
    obtain ⟨e1, e2, _⟩ := hv i hi
    have := h2 i hi
    have := hs i hi
    omega
  · rintro ⟨h1, h2⟩
    refine ⟨h1, fun i hi => ?_⟩
    obtain ⟨e1, e2, _⟩ := hv i hi
    have := h2 i hi
    omega
theorem v_tp {tk a c b d : Int} (h0 : 0 < tk) (hv : vw n K1 K2 K3 K4 S1 S2 S3 S4) : tpOK tk a c b d K1 K2 n ↔ tpOM tk a c b d S1 S2 n := by
  rw [tpOK_OM h0]
  unfold tpOK
  constructor
  · rintro ⟨h1, h2⟩
    refine ⟨h1, fun i hi => ?_⟩
    obtain ⟨e1, e2, _⟩ := hv i hi
    rw [← e1, ← e2]
    exact h2 i hi
  · rintro ⟨h1, h2⟩
    refine ⟨h1, fun i hi => ?_⟩
    obtain ⟨e1, e2, _⟩ := hv i hi
    rw [e1, e2]
    exact h2 i hi
theorem v_fU {f : Int → Int} (hv : vw n K1 K2 K3 K4 S1 S2 S3 S4) : vw n (fU f K1 n) (fU f K2 n) K3 K4 (fU f S1 n) (fU f S2 n) S3 S4 := by
  intro k hk
  obtain ⟨e1, e2, e3, e4⟩ := hv k hk
  refine ⟨?_, ?_, e3, e4⟩
  · show (if k < n then f (K1 k) else K1 k) = if k < n then f (S1 k) else S1 k
    rw [if_pos hk, if_pos hk, e1]
  · show (if k < n then f (K2 k) else K2 k) = if k < n then f (S2 k) else S2 k
    rw [if_pos hk, if_pos hk, e2]
theorem addU_f {K : Nat → Int} {t : Int} {i : Nat} : addU K t i = fU (fun x => x + t) K i := rfl
theorem fU_r {f : Int → Int} {K : Nat → Int} {a b : Int} (h : ∀ k, k < n → a ≤ f (K k) ∧ f (K k) ≤ b) (hK : ∀ k, a ≤ K k ∧ K k ≤ b) : ∀ k, a ≤ fU f K n k ∧ fU f K n k ≤ b := by
  intro k
  unfold fU
  split
  · rename_i q; exact h k q
  · exact hK k
theorem fU_st {f : Int → Int} (h : ∀ k, k < n → f (K1 k) < f (K2 k)) : stE n (fU f K1 n) (fU f K2 n) := by
  intro k hk
  show (if k < n then f (K1 k) else K1 k) < if k < n then f (K2 k) else K2 k
  rw [if_pos hk, if_pos hk]
  exact h k hk
theorem v_P (hv : vw n K1 K2 K3 K4 S1 S2 S3 S4) (num den tk g0 l0 m0 s0 : Int) (U : Nat → Int) (nu : Nat) : rpP n K1 K2 K3 K4 num den tk g0 l0 m0 s0 U nu = rpP n S1 S2 S3 S4 num den tk g0 l0 m0 s0 U nu := by
  have a : nrF K1 tk 0 n = nrF S1 tk 0 n := by
    funext c
    unfold nrF
    split
    · rename_i q; rw [(hv c q).1]
    · rfl
  have b : nrF K2 tk 0 n = nrF S2 tk 0 n := by
    funext c
    unfold nrF
    split
    · rename_i q; rw [(hv c q).2.1]
    · rfl
  have d : ccF K3 K4 n = ccF S3 S4 n := by
    funext c
    unfold ccF
    split
    · rename_i q
      obtain ⟨_, _, e3, e4⟩ := hv c q
      rw [← e3]
      exact cellsN_e _ (fun j hj => e4 j (by omega))
    · rfl
  unfold rpP
  rw [a, b, d]
theorem v_read {C : List Qe} (hk : rowL C K1 K2 K3 K4) (hs : rowL C S1 S2 S3 S4) : vw C.length K1 K2 K3 K4 S1 S2 S3 S4 := by
  intro k hk2
  obtain ⟨R, _, eR, a1, a2, a3, a4, a5⟩ := rowL_in hk hk2
  obtain ⟨b1, b2, b3, b4, b5⟩ := hs k R eR
  refine ⟨a1.trans b1.symm, a2.trans b2.symm, a3.trans b3.symm, fun j hj => ?_⟩
  have hj2 : j < R.2.2.length := by omega
  exact (a5 j _ (List.getElem?_eq_getElem hj2)).trans (b5 j _ (List.getElem?_eq_getElem hj2)).symm
theorem v_readS {C : List Qe} (hk : rowL C K1 K2 K3 K4) (hc : cuesR C) : stE C.length K1 K2 := by
  intro k hk2
  obtain ⟨R, hR, _, a1, a2, _⟩ := rowL_in hk hk2
  have := (hc.2.1 R hR).2.1
  omega
end VW
/-- joined: what lies where -/
theorem jn_v {n i u v k : Nat} {K4 : Nat → Int} (hk : k < n - 1) (hn : n ≤ 16) (hi : i + 1 < n) (hu : u + 1 + v ≤ 64) {j : Nat} (hj : j < 64) : (va_cpy (va_cpy (zup K4 (i * 64 + u) 10) (zup K4 (i * 64 + u) 10) ((i + 1) * 64) (i * 64 + u + 1) v) (va_cpy (zup K4 (i * 64 + u) 10) (zup K4 (i * 64 + u) 10) ((i + 1) * 64) (i * 64 + u + 1) v) ((i + 2) * 64) ((i + 1) * 64) ((n - (i + 2)) * 64)) (k * 64 + j) = if k < i then K4 (k * 64 + j) else if k = i then (if j < u then K4 (i * 64 + j) else if j = u then 10 else if j < u + 1 + v then K4 ((i + 1) * 64 + (j - (u + 1))) else K4 (i * 64 + j)) else K4 ((k + 1) * 64 + j) := by
  simp only [cpy_i]
  by_cases h1 : k < i
  · rw [if_pos h1, if_neg (by omega), if_neg (by omega), zup_n (by omega)]
  · rw [if_neg h1]
    by_cases h2 : k = i
    · subst h2
      rw [if_pos rfl, if_neg (by omega)]
      by_cases h3 : j < u
      · rw [if_pos h3, if_neg (by omega), zup_n (by omega)]
      · rw [if_neg h3]
        by_cases h4 : j = u
        · subst h4
          rw [if_pos rfl, if_neg (by omega), zup_s]
        · rw [if_neg h4]
          by_cases h5 : j < u + 1 + v
          · rw [if_pos h5, if_pos (by omega), zup_n (by omega)]
            congr 1
            omega
          · rw [if_neg h5, if_neg (by omega), zup_n (by omega)]
    · rw [if_neg h2, if_pos (by omega), if_neg (by omega), zup_n (by omega)]
      congr 1
      omega
theorem mv_v {K : Nat → Int} {n i k : Nat} (hk : k < n - 1) : va_cpy K K (i + 2) (i + 1) (n - (i + 2)) k = if k ≤ i then K k else K (k + 1) := by
  rw [cpy_i]
  by_cases q : k ≤ i
  · rw [if_neg (by omega), if_pos q]
  · rw [if_pos (by omega), if_neg q]
    congr 1
    omega
theorem v_jn {n i : Nat} {K1 K2 K3 K4 S1 S2 S3 S4 : Nat → Int} (hv : vw n K1 K2 K3 K4 S1 S2 S3 S4) (hn : n ≤ 16) (hi : i + 1 < n) (hZ : ∀ k, 0 ≤ K3 k ∧ K3 k ≤ 64) (hz : K3 i + 1 + K3 (i + 1) ≤ 64) : vw (n - 1) (jnC (n, K1, K2, K3, K4) i).2.1 (jnC (n, K1, K2, K3, K4) i).2.2.1 (jnC (n, K1, K2, K3, K4) i).2.2.2.1 (jnC (n, K1, K2, K3, K4) i).2.2.2.2 (jnC (n, S1, S2, S3, S4) i).2.1 (jnC (n, S1, S2, S3, S4) i).2.2.1 (jnC (n, S1, S2, S3, S4) i).2.2.2.1 (jnC (n, S1, S2, S3, S4) i).2.2.2.2 := by
  obtain ⟨a1, a2, a3, a4⟩ := hv i (by omega)
  obtain ⟨b1, b2, b3, b4⟩ := hv (i + 1) hi
  have z1 := hZ i
  have z2 := hZ (i + 1)
  intro k hk
  have q3 : (jnC (n, K1, K2, K3, K4) i).2.2.2.1 k = if k ≤ i then zup K3 i (K3 i + (1 + K3 (i + 1))) k else zup K3 i (K3 i + (1 + K3 (i + 1))) (k + 1) := mv_v hk
  refine ⟨?_, ?_, ?_, fun j hj => ?_⟩
  · show va_cpy K1 K1 (i + 2) (i + 1) (n - (i + 2)) k = va_cpy S1 S1 (i + 2) (i + 1) (n - (i + 2)) k
    rw [mv_v hk, mv_v hk]
    split
    · exact (hv k (by omega)).1
    · exact (hv (k + 1) (by omega)).1
  · show va_cpy (zup K2 i _) (zup K2 i _) (i + 2) (i + 1) (n - (i + 2)) k = va_cpy (zup S2 i _) (zup S2 i _) (i + 2) (i + 1) (n - (i + 2)) k
    rw [mv_v hk, mv_v hk]
    split
    · by_cases q : k = i
      · subst q; rw [zup_s, zup_s]; show max (K2 k) (K2 (k + 1)) = max (S2 k) (S2 (k + 1)); rw [a2, b2]
      · rw [zup_n q, zup_n q]; exact (hv k (by omega)).2.1
    · rw [zup_n (by omega), zup_n (by omega)]; exact (hv (k + 1) (by omega)).2.1
  · show va_cpy (zup K3 i _) (zup K3 i _) (i + 2) (i + 1) (n - (i + 2)) k = va_cpy (zup S3 i _) (zup S3 i _) (i + 2) (i + 1) (n - (i + 2)) k
    rw [mv_v hk, mv_v hk]
    split
    · by_cases q : k = i
      · subst q; rw [zup_s, zup_s]; show K3 k + (1 + K3 (k + 1)) = S3 k + (1 + S3 (k + 1)); rw [a3, b3]
      · rw [zup_n q, zup_n q]; exact (hv k (by omega)).2.2.1
    · rw [zup_n (by omega), zup_n (by omega)]; exact (hv (k + 1) (by omega)).2.2.1
  · have hj64 : j < 64 := by
      rw [q3] at hj
      split at hj
      · by_cases q : k = i
        · subst q; rw [zup_s] at hj; omega
        · rw [zup_n q] at hj; have := hZ k; omega
      · rw [zup_n (by omega)] at hj; have := hZ (k + 1); omega
    have l := jn_v (K4 := K4) (u := (K3 i).toNat) (v := (K3 (i + 1)).toNat) hk hn hi (by omega) hj64
    have r := jn_v (K4 := S4) (u := (K3 i).toNat) (v := (K3 (i + 1)).toNat) hk hn hi (by omega) hj64
    have er : (jnC (n, S1, S2, S3, S4) i).2.2.2.2 = va_cpy (va_cpy (zup S4 (i * 64 + (K3 i).toNat) 10) (zup S4 (i * 64 + (K3 i).toNat) 10) ((i + 1) * 64) (i * 64 + (K3 i).toNat + 1) (K3 (i + 1)).toNat) (va_cpy (zup S4 (i * 64 + (K3 i).toNat) 10) (zup S4 (i * 64 + (K3 i).toNat) 10) ((i + 1) * 64) (i * 64 + (K3 i).toNat + 1) (K3 (i + 1)).toNat) ((i + 2) * 64) ((i + 1) * 64) ((n - (i + 2)) * 64) := by
      rw [a3, b3]
      rfl
    rw [er, r]
    refine Eq.trans (show (jnC (n, K1, K2, K3, K4) i).2.2.2.2 (k * 64 + j) = _ from l) ?_
    rw [q3] at hj
    by_cases h1 : k < i
    · rw [if_pos h1, if_pos h1]
      rw [if_pos (by omega), zup_n (by omega)] at hj
      exact (hv k (by omega)).2.2.2 j hj
    · rw [if_neg h1, if_neg h1]
      by_cases h2 : k = i
      · subst h2
        rw [if_pos rfl, if_pos rfl]
        rw [if_pos (by omega), zup_s] at hj
        by_cases h3 : j < (K3 k).toNat
        · rw [if_pos h3, if_pos h3]; exact a4 j (by omega)
        · rw [if_neg h3, if_neg h3]
          by_cases h4 : j = (K3 k).toNat
          · rw [if_pos h4, if_pos h4]
          · rw [if_neg h4, if_neg h4, if_pos (by omega), if_pos (by omega)]
            exact b4 (j - ((K3 k).toNat + 1)) (by omega)
      · rw [if_neg h2, if_neg h2]
        rw [if_neg (by omega), zup_n (by omega)] at hj
        exact (hv (k + 1) (by omega)).2.2.2 j hj
theorem rgs_jn {n i : Nat} {K1 K2 K3 K4 : Nat → Int} (g : rgs K1 K2 K3 K4) (hz : K3 i + 1 + K3 (i + 1) ≤ 64) : rgs (jnC (n, K1, K2, K3, K4) i).2.1 (jnC (n, K1, K2, K3, K4) i).2.2.1 (jnC (n, K1, K2, K3, K4) i).2.2.2.1 (jnC (n, K1, K2, K3, K4) i).2.2.2.2 := by
  obtain ⟨g1, g2, g3, g4⟩ := g
  have a := g2 i
  have b := g2 (i + 1)
  have c := g3 i
  have d := g3 (i + 1)
  have z4 : ∀ k, 0 ≤ zup K4 (i * 64 + (K3 i).toNat) 10 k ∧ zup K4 (i * 64 + (K3 i).toNat) 10 k ≤ 255 := zup_r g4 (by omega)
  have z2 : ∀ k, 0 ≤ zup K2 i (max (K2 i) (K2 (i + 1))) k ∧ zup K2 i (max (K2 i) (K2 (i + 1))) k ≤ 2540160000000 := zup_r g2 (by omega)
  have z3 : ∀ k, 0 ≤ zup K3 i (K3 i + (1 + K3 (i + 1))) k ∧ zup K3 i (K3 i + (1 + K3 (i + 1))) k ≤ 64 := zup_r g3 (by omega)
  exact ⟨cpy_q g1 g1, cpy_q z2 z2, cpy_q z3 z3, cpy_q (cpy_q z4 z4) (cpy_q z4 z4)⟩
theorem st_jn {n i : Nat} {K1 K2 K3 K4 : Nat → Int} (h : stE n K1 K2) (hi : i + 1 < n) : stE (n - 1) (jnC (n, K1, K2, K3, K4) i).2.1 (jnC (n, K1, K2, K3, K4) i).2.2.1 := by
  intro k hk
  show va_cpy K1 K1 (i + 2) (i + 1) (n - (i + 2)) k < va_cpy (zup K2 i (max (K2 i) (K2 (i + 1)))) (zup K2 i (max (K2 i) (K2 (i + 1)))) (i + 2) (i + 1) (n - (i + 2)) k
  rw [mv_v hk, mv_v hk]
  split
  · have := h k (by omega)
    by_cases q : k = i
    · subst q; rw [zup_s]; omega
    · rw [zup_n q]; exact this
  · rw [zup_n (by omega)]; exact h (k + 1) (by omega)
/-- split: what lies where -/
theorem sp_v1 {K : Nat → Int} {n i k : Nat} {t : Int} (hk : k < n + 1) : zup (va_cpy K K (i + 1) (i + 2) (n - (i + 1))) (i + 1) t k = if k ≤ i then K k else if k = i + 1 then t else K (k - 1) := by
  by_cases q : k = i + 1
  · subst q
    rw [zup_s, if_neg (by omega), if_pos rfl]
  · rw [zup_n q, cpy_i]
    by_cases w : k ≤ i
    · rw [if_neg (by omega), if_pos w]
    · rw [if_pos (by omega), if_neg w, if_neg q]
      congr 1
      omega
theorem sp_w1 {K : Nat → Int} {n i k : Nat} {t : Int} (hk : k < n + 1) (hi : i < n) : zup (va_cpy K K i (i + 1) (n - i)) (i + 1) t k = if k ≤ i then K k else if k = i + 1 then t else K (k - 1) := by
  by_cases q : k = i + 1
  · subst q
    rw [zup_s, if_neg (by omega), if_pos rfl]
  · rw [zup_n q, cpy_i]
    by_cases w : k ≤ i
    · rw [if_neg (by omega), if_pos w]
    · rw [if_pos (by omega), if_neg w, if_neg q]
      congr 1
      omega
theorem sp_b {K4 : Nat → Int} {n i f z k j : Nat} (hn : n < 16) (hi : i < n) (hz : z ≤ 64) (hf : f ≤ z) (hk : k < n + 1) (hj : j < 64) : va_cpy (va_cpy K4 K4 ((i + 1) * 64) ((i + 2) * 64) ((n - (i + 1)) * 64)) (va_cpy K4 K4 ((i + 1) * 64) ((i + 2) * 64) ((n - (i + 1)) * 64)) (i * 64 + f) ((i + 1) * 64) (z - f) (k * 64 + j) = if k ≤ i then K4 (k * 64 + j) else if k = i + 1 then (if j < z - f then K4 (i * 64 + (f + j)) else K4 ((i + 1) * 64 + j)) else K4 ((k - 1) * 64 + j) := by
  simp only [cpy_i]
  by_cases w : k ≤ i
  · rw [if_neg (by omega), if_neg (by omega), if_pos w]
  · rw [if_neg w]
    by_cases q : k = i + 1
    · subst q
      rw [if_pos rfl]
      by_cases p : j < z - f
      · rw [if_pos (by omega), if_neg (by omega), if_pos p]
        congr 1
        omega
      · rw [if_neg (by omega), if_neg (by omega), if_neg p]
    · rw [if_neg (by omega), if_pos (by omega), if_neg q]
      congr 1
      omega
theorem sp_c {K4 : Nat → Int} {n i f z k j : Nat} (hn : n < 16) (hi : i < n) (hz : z ≤ 64) (hf : f ≤ z) (hk : k < n + 1) (hj : j < 64) : va_cpy (va_cpy K4 K4 (64 * i) (64 * (i + 1)) (64 * (n - i))) (va_cpy K4 K4 (64 * i) (64 * (i + 1)) (64 * (n - i))) (64 * i + f) (64 * i + 64) (z - f) (k * 64 + j) = if k ≤ i then K4 (k * 64 + j) else if k = i + 1 then (if j < z - f then K4 (i * 64 + (f + j)) else K4 (i * 64 + j)) else K4 ((k - 1) * 64 + j) := by
  simp only [cpy_i]
  by_cases w : k ≤ i
  · rw [if_neg (by omega), if_neg (by omega), if_pos w]
  · rw [if_neg w]
    by_cases q : k = i + 1
    · subst q
      rw [if_pos rfl]
      by_cases p : j < z - f
      · rw [if_pos (by omega), if_neg (by omega), if_pos p]
        congr 1
        omega
      · rw [if_neg (by omega), if_pos (by omega), if_neg p]
        congr 1
        omega
    · rw [if_neg (by omega), if_pos (by omega), if_neg q]
      congr 1
      omega
section SP
variable {n i j : Nat} {K1 K2 K3 K4 S1 S2 S3 S4 : Nat → Int}
theorem v_spT (hv : vw n K1 K2 K3 K4 S1 S2 S3 S4) (hi : i < n) (hj : (j : Int) < K3 i) : spTm K1 K2 K3 K4 i j = spTm S1 S2 S3 S4 i j := by
  obtain ⟨e1, e2, e3, e4⟩ := hv i hi
  unfold spTm
  rw [cellsN_e (K := S4) (p := i * 64) (K3 i).toNat (fun q hq => e4 q (by omega)), cellsN_e (K := S4) (p := i * 64) j (fun q hq => e4 q (by omega)), e1, e2, e3]
theorem v_spB (hv : vw n K1 K2 K3 K4 S1 S2 S3 S4) (hi : i < n) (hj : 1 ≤ j ∧ (j : Int) < K3 i) : spBad K1 K2 K3 K4 n i j ↔ spBad S1 S2 S3 S4 n i j := by
  obtain ⟨e1, e2, e3, e4⟩ := hv i hi
  unfold spBad
  rw [v_spT hv hi hj.2, e1, e2, e4 (j - 1) (by omega)]
  constructor
  · rintro (h | h | h | ⟨h1, h2⟩)
    · exact Or.inl h
    · exact Or.inr (Or.inl h)
    · exact Or.inr (Or.inr (Or.inl h))
    · exact Or.inr (Or.inr (Or.inr ⟨h1, by rw [← (hv (i + 1) h1).1]; exact h2⟩))
  · rintro (h | h | h | ⟨h1, h2⟩)
    · exact Or.inl h
    · exact Or.inr (Or.inl h)
    · exact Or.inr (Or.inr (Or.inl h))
    · exact Or.inr (Or.inr (Or.inr ⟨h1, by rw [(hv (i + 1) h1).1]; exact h2⟩))
theorem v_spF (hv : vw n K1 K2 K3 K4 S1 S2 S3 S4) (hi : i < n) (hj : (j : Int) < K3 i) : spF K4 i j = spF S4 i j := by
  unfold spF
  rw [(hv i hi).2.2.2 j hj]
theorem spC1 {t : Int} {k : Nat} (hk : k < n + 1) : (spC (n, K1, K2, K3, K4) i j t).2.1 k = if k ≤ i then K1 k else if k = i + 1 then t else K1 (k - 1) := sp_v1 hk
theorem spM1 {t : Int} {k : Nat} (hk : k < n + 1) (hi : i < n) : (spM (n, K1, K2, K3, K4) i j t).2.1 k = if k ≤ i then K1 k else if k = i + 1 then t else K1 (k - 1) := sp_w1 hk hi
theorem spC2 {t : Int} {k : Nat} (hk : k < n + 1) : (spC (n, K1, K2, K3, K4) i j t).2.2.1 k = if k = i then t else if k < i then K2 k else K2 (k - 1) := by
  show zup (zup (va_cpy K2 K2 (i + 1) (i + 2) (n - (i + 1))) (i + 1) (va_cpy K2 K2 (i + 1) (i + 2) (n - (i + 1)) i)) i t k = _
  by_cases q : k = i
  · subst q; rw [zup_s, if_pos rfl]
  · rw [zup_n q, sp_v1 hk, if_neg q]
    by_cases w : k < i
    · rw [if_pos (by omega), if_pos w]
    · rw [if_neg (by omega), if_neg w]
      by_cases p : k = i + 1
      · rw [if_pos p, cpy_i, if_neg (by omega), p]; rfl
      · rw [if_neg p]
theorem spM2 {t : Int} {k : Nat} (hk : k < n + 1) (hi : i < n) : (spM (n, K1, K2, K3, K4) i j t).2.2.1 k = if k = i then t else if k < i then K2 k else K2 (k - 1) := by
  show zup (va_cpy K2 K2 i (i + 1) (n - i)) i t k = _
  by_cases q : k = i
  · subst q; rw [zup_s, if_pos rfl]
  · rw [zup_n q, if_neg q, cpy_i]
    by_cases w : k < i
    · rw [if_neg (by omega), if_pos w]
    · rw [if_pos (by omega), if_neg w]
      congr 1
      omega
theorem spC3 {t : Int} {k : Nat} (hk : k < n + 1) : (spC (n, K1, K2, K3, K4) i j t).2.2.2.1 k = if k = i then (j : Int) else if k = i + 1 then K3 i - ((spF K4 i j : Nat) : Int) else if k < i then K3 k else K3 (k - 1) := by
  show zup (zup (va_cpy K3 K3 (i + 1) (i + 2) (n - (i + 1))) (i + 1) (K3 i - ((spF K4 i j : Nat) : Int))) i (j : Int) k = _
  by_cases q : k = i
  · subst q; rw [zup_s, if_pos rfl]
  · rw [zup_n q, sp_v1 hk, if_neg q]
    by_cases p : k = i + 1
    · rw [if_neg (by omega), if_pos p, if_pos p]
    · rw [if_neg p, if_neg p]
      by_cases w : k < i
      · rw [if_pos (by omega), if_pos w]
      · rw [if_neg (by omega), if_neg w]
theorem spM3 {t : Int} {k : Nat} (hk : k < n + 1) (hi : i < n) (hz : 0 ≤ K3 i) : (spM (n, K1, K2, K3, K4) i j t).2.2.2.1 k = if k = i then (j : Int) else if k = i + 1 then K3 i - ((spF K4 i j : Nat) : Int) else if k < i then K3 k else K3 (k - 1) := by
  show zup (zup (va_cpy K3 K3 i (i + 1) (n - i)) i (j : Int)) (i + 1) (((K3 i).toNat : Int) - ((spF K4 i j : Nat) : Int)) k = _
  by_cases p : k = i + 1
  · subst p
    rw [zup_s, if_neg (by omega), if_pos rfl, show (((K3 i).toNat : Nat) : Int) = K3 i from by omega]
  · rw [zup_n p, if_neg p]
    by_cases q : k = i
    · subst q; rw [zup_s, if_pos rfl]
    · rw [zup_n q, if_neg q, cpy_i]
      by_cases w : k < i
      · rw [if_neg (by omega), if_pos w]
      · rw [if_pos (by omega), if_neg w]
        congr 1
        omega
theorem v_sp {t : Int} (hv : vw n K1 K2 K3 K4 S1 S2 S3 S4) (hn : n < 16) (hi : i < n) (hj : 1 ≤ j ∧ (j : Int) < K3 i) (hZ : ∀ k, 0 ≤ K3 k ∧ K3 k ≤ 64) : vw (n + 1) (spC (n, K1, K2, K3, K4) i j t).2.1 (spC (n, K1, K2, K3, K4) i j t).2.2.1 (spC (n, K1, K2, K3, K4) i j t).2.2.2.1 (spC (n, K1, K2, K3, K4) i j t).2.2.2.2 (spM (n, S1, S2, S3, S4) i j t).2.1 (spM (n, S1, S2, S3, S4) i j t).2.2.1 (spM (n, S1, S2, S3, S4) i j t).2.2.2.1 (spM (n, S1, S2, S3, S4) i j t).2.2.2.2 := by
  obtain ⟨e1, e2, e3, e4⟩ := hv i hi
  have z := hZ i
  have ef := v_spF hv hi hj.2
  have fr := spF_r K4 i j
  intro k hk
  refine ⟨?_, ?_, ?_, fun q hq => ?_⟩
  · rw [spC1 hk, spM1 hk hi]
    split
    · exact (hv k (by omega)).1
    · split
      · rfl
      · exact (hv (k - 1) (by omega)).1
  · rw [spC2 hk, spM2 hk hi]
    split
    · rfl
    · split
      · exact (hv k (by omega)).2.1
      · exact (hv (k - 1) (by omega)).2.1
  · rw [spC3 hk, spM3 hk hi (by omega), ← ef, ← e3]
    split
    · rfl
    · split
      · rfl
      · split
        · exact (hv k (by omega)).2.2.1
        · exact (hv (k - 1) (by omega)).2.2.1
  · rw [spC3 hk] at hq
    have hq64 : q < 64 := by
      split at hq
      · omega
      · split at hq
        · omega
        · split at hq
          · have := hZ k; omega
          · have := hZ (k - 1); omega
    have l := sp_b (K4 := K4) (f := spF K4 i j) (z := (K3 i).toNat) hn hi (by omega) (by omega) hk hq64
    have r := sp_c (K4 := S4) (f := spF S4 i j) (z := (S3 i).toNat) hn hi (by omega) (by omega) hk hq64
    refine Eq.trans (show (spC (n, K1, K2, K3, K4) i j t).2.2.2.2 (k * 64 + q) = _ from l) (Eq.trans ?_ (show _ = (spM (n, S1, S2, S3, S4) i j t).2.2.2.2 (k * 64 + q) from r.symm))
    rw [← ef, ← e3]
    by_cases w : k ≤ i
    · rw [if_pos w, if_pos w]
      by_cases p : k = i
      · subst p
        rw [if_pos rfl] at hq
        exact e4 q (by omega)
      · rw [if_neg p, if_neg (by omega), if_pos (by omega)] at hq
        exact (hv k (by omega)).2.2.2 q hq
    · rw [if_neg w, if_neg w]
      rw [if_neg (by omega)] at hq
      by_cases p : k = i + 1
      · rw [if_pos p] at hq
        rw [if_pos p, if_pos p, if_pos (by omega), if_pos (by omega)]
        exact e4 (spF K4 i j + q) (by omega)
      · rw [if_neg p, if_neg (by omega)] at hq
        rw [if_neg p, if_neg p]
        exact (hv (k - 1) (by omega)).2.2.2 q hq
theorem rgs_spC {t : Int} (g : rgs K1 K2 K3 K4) (hj : (j : Int) < K3 i) (ht : 0 ≤ t ∧ t ≤ 2540160000000) : rgs (spC (n, K1, K2, K3, K4) i j t).2.1 (spC (n, K1, K2, K3, K4) i j t).2.2.1 (spC (n, K1, K2, K3, K4) i j t).2.2.2.1 (spC (n, K1, K2, K3, K4) i j t).2.2.2.2 := by
  obtain ⟨g1, g2, g3, g4⟩ := g
  have fr := spF_r K4 i j
  have z := g3 i
  have c2 := cpy_q (s := i + 1) (b := i + 2) (m := n - (i + 1)) g2 g2
  exact ⟨zup_r (cpy_q g1 g1) ht, zup_r (zup_r c2 (c2 i)) ht, zup_r (zup_r (cpy_q g3 g3) (show _ ∧ _ by show 0 ≤ K3 i - ((spF K4 i j : Nat) : Int) ∧ K3 i - ((spF K4 i j : Nat) : Int) ≤ 64; omega)) (by omega), cpy_q (cpy_q g4 g4) (cpy_q g4 g4)⟩
theorem rgs_spM {t : Int} (g : rgs K1 K2 K3 K4) (hj : (j : Int) < K3 i) (ht : 0 ≤ t ∧ t ≤ 2540160000000) : rgs (spM (n, K1, K2, K3, K4) i j t).2.1 (spM (n, K1, K2, K3, K4) i j t).2.2.1 (spM (n, K1, K2, K3, K4) i j t).2.2.2.1 (spM (n, K1, K2, K3, K4) i j t).2.2.2.2 := by
  obtain ⟨g1, g2, g3, g4⟩ := g
  have fr := spF_r K4 i j
  have z := g3 i
  exact ⟨zup_r (cpy_q g1 g1) ht, zup_r (cpy_q g2 g2) ht, zup_r (zup_r (cpy_q g3 g3) (show _ ∧ _ by show 0 ≤ (j : Int) ∧ (j : Int) ≤ 64; omega)) (show _ ∧ _ by show 0 ≤ (((K3 i).toNat : Nat) : Int) - ((spF K4 i j : Nat) : Int) ∧ (((K3 i).toNat : Nat) : Int) - ((spF K4 i j : Nat) : Int) ≤ 64; omega), cpy_q (cpy_q g4 g4) (cpy_q g4 g4)⟩
theorem st_sp {t : Int} (h : stE n K1 K2) (hi : i < n) (h1 : K1 i < t) (h2 : t < K2 i) : stE (n + 1) (spC (n, K1, K2, K3, K4) i j t).2.1 (spC (n, K1, K2, K3, K4) i j t).2.2.1 := by
  intro k hk
  rw [spC1 hk, spC2 hk]
  by_cases p : k = i
  · subst p
    rw [if_pos (by omega), if_pos rfl]
    exact h1
  · rw [if_neg p]
    by_cases w : k ≤ i
    · rw [if_pos w, if_pos (by omega)]
      exact h k (by omega)
    · rw [if_neg w, if_neg (show ¬ k < i by omega)]
      by_cases q : k = i + 1
      · rw [if_pos q, q]
        exact h2
      · rw [if_neg q]
        exact h (k - 1) (by omega)
end SP
/-- the drafts alike, so the breaks -/
theorem bOne_e {d e : Nat → Int} {z j : Nat} (h : ∀ q, q < z → d q = e q) (hj : j < z) : bOne d j = bOne e j := by
  unfold bOne
  rw [h j hj]
  exact cellsN_e _ (fun q hq => by rw [Nat.zero_add]; refine h q ?_; split at hq <;> omega)
theorem bTwo_e {d e : Nat → Int} {z j : Nat} (h : ∀ q, q < z → d q = e q) : bTwo d z j = bTwo e z j := cellsN_e _ (fun q hq => h _ (by omega))
theorem bOk_e {d e : Nat → Int} {z j : Nat} (h : ∀ q, q < z → d q = e q) (hj : j < z) : bOk d z j ↔ bOk e z j := by
  unfold bOk bPl
  rw [bOne_e h hj, bTwo_e h, h j hj]
theorem bestS_e {d e : Nat → Int} {z : Nat} (h : ∀ q, q < z → d q = e q) : ∀ m, m ≤ z → bestS d z m = bestS e z m
  | 0, _ => rfl
  | m + 1, hm => by
    have ih := bestS_e h m (by omega)
    have df : ∀ j, j < z → bDf d z j = bDf e z j := fun j hj => by unfold bDf; rw [bOne_e h hj, bTwo_e h]
    have r := bestS_r e z m
    have c : (bOk d z m ∧ (bestS d z m = -1 ∨ bDf d z m < bDf d z (bestS d z m).toNat)) ↔ (bOk e z m ∧ (bestS e z m = -1 ∨ bDf e z m < bDf e z (bestS e z m).toNat)) := by
      rw [ih, bOk_e h (by omega), df m (by omega)]
      by_cases q : bestS e z m = -1
      · constructor
        · exact fun w => ⟨w.1, Or.inl q⟩
        · exact fun w => ⟨w.1, Or.inl q⟩
      · rw [df (bestS e z m).toNat (by rcases r with r | r <;> omega)]
    unfold bestS
    by_cases q : bOk d z m ∧ (bestS d z m = -1 ∨ bDf d z m < bDf d z (bestS d z m).toNat)
    · rw [if_pos q, if_pos (c.mp q)]
    · rw [if_neg q, if_neg (fun w => q (c.mpr w)), ih]
theorem cells0_e {d e : Nat → Int} {z : Nat} (h : ∀ q, q < z → d q = e q) : cellsN d 0 z = cellsN e 0 z := cellsN_e _ (fun q hq => by rw [Nat.zero_add]; exact h q hq)
theorem brP_e {d e : Nat → Int} {z : Nat} (h : ∀ q, q < z → d q = e q) : brP d z = brP e z := by
  unfold brP
  rw [cells0_e h, bestS_e h z (Nat.le_refl _)]
theorem ntl_e {d e : Nat → Int} {z : Nat} (h : ∀ q, q < z → d q = e q) : ntl d (brP d z) z = ntl e (brP e z) z := by
  rw [brP_e h]
  unfold ntl
  rcases brP_r e z with q | ⟨q, q2, _⟩
  · rw [if_neg (by omega), if_neg (by omega)]
  · rw [h _ (by omega)]
theorem ntx_e {d e : Nat → Int} {z q : Nat} (h : ∀ q, q < z → d q = e q) (hq : q < ntl e (brP e z) z) : ntx d (brP d z) q = ntx e (brP e z) q := by
  rw [brP_e h]
  unfold ntx
  rcases brP_r e z with w | ⟨w, w2, _⟩
  · rw [if_pos (Or.inl (by omega)), if_pos (Or.inl (by omega))]
    rw [ntl_n (Or.inl (by omega))] at hq
    exact h q hq
  · rw [h (brP e z).toNat (by omega)]
    by_cases c : e (brP e z).toNat = 45
    · rw [ntl_y w c] at hq
      rw [if_pos c, if_pos c]
      split
      · exact h q (by omega)
      · split
        · rfl
        · split
          · rfl
          · exact h (q - 1) (by omega)
    · rw [ntl_n (Or.inr c)] at hq
      rw [if_neg c, if_neg c]
      split
      · exact h q hq
      · split
        · rfl
        · exact h q hq
theorem v_drf {n i : Nat} {K1 K2 K3 K4 S1 S2 S3 S4 : Nat → Int} (hv : vw n K1 K2 K3 K4 S1 S2 S3 S4) (hi : i < n) : ∀ q, q < (K3 i).toNat → drf K4 (i * 64) q = drf S4 (i * 64) q := by
  intro q hq
  unfold drf
  rw [(hv i hi).2.2.2 q (by omega)]
theorem v_nt {n i : Nat} {K1 K2 K3 K4 S1 S2 S3 S4 F' E' : Nat → Int} (hv : vw n K1 K2 K3 K4 S1 S2 S3 S4) (hi : i < n) (hZ : ∀ k, 0 ≤ K3 k ∧ K3 k ≤ 64) (a : ntR K4 F' i (drf K4 (i * 64)) (brP (drf K4 (i * 64)) (K3 i).toNat) (K3 i).toNat) (b : ntR S4 E' i (drf S4 (i * 64)) (brP (drf S4 (i * 64)) (S3 i).toNat) (S3 i).toNat) : vw n K1 K2 (zup K3 i ((ntl (drf K4 (i * 64)) (brP (drf K4 (i * 64)) (K3 i).toNat) (K3 i).toNat : Nat) : Int)) F' S1 S2 (zup S3 i ((ntl (drf S4 (i * 64)) (brP (drf S4 (i * 64)) (S3 i).toNat) (S3 i).toNat : Nat) : Int)) E' := by
  obtain ⟨_, _, e3, _⟩ := hv i hi
  have hd := v_drf hv hi
  rw [← e3] at b ⊢
  have nl := ntl_e hd
  intro k hk
  obtain ⟨c1, c2, c3, c4⟩ := hv k hk
  refine ⟨c1, c2, ?_, fun j hj => ?_⟩
  · by_cases q : k = i
    · subst q; rw [zup_s, zup_s, nl]
    · rw [zup_n q, zup_n q]; exact c3
  · by_cases q : k = i
    · subst q
      rw [zup_s] at hj
      rw [a.1 j (by omega), b.1 j (by omega)]
      exact ntx_e hd (by omega)
    · rw [zup_n q] at hj
      have := hZ k
      rw [a.2.1 _ (by omega), b.2.1 _ (by omega)]
      exact c4 j hj
