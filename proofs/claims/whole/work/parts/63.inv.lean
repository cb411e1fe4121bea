/-! ===== component and reference side by side ===== -/
theorem zR_cg {d : Nat → Nat → Int32} {o n K : Nat} {f f' : Nat → Int32} (h : ∀ j, j < 264 → f' j = f j) (hR : zR d o f n K) : zR d o f' n K := by
  obtain ⟨⟨a1, a2, a3, a4, a5, a6, a7⟩, b0, b1, b2, b3, ⟨S, s1, s2, s3⟩, b5, b6, b7⟩ := hR
  refine ⟨⟨a1, a2, by rw [h 0 (by decide)]; exact a3, by rw [h 1 (by decide)]; exact a4, fun a ha => ?_, fun t ht => ?_, fun a ha t ht => ?_⟩, b0, b1, by rw [h 3 (by decide)]; exact b2, by rw [h 2 (by decide)]; exact b3, ⟨S, s1, s2, fun a ha => ?_⟩, fun a ha => ?_, fun t ht => ?_, fun a ha t ht => ?_⟩
  · rw [h _ (by omega), h _ (by omega), h _ (by omega), h _ (by omega)]
    exact a5 a ha
  · rw [h _ (by omega), h _ (by omega)]
    exact a6 t ht
  · rw [h _ (by omega), h _ (by omega)]
    exact a7 a ha t ht
  · rw [s3 a ha, qOn, qOn, h _ (by omega)]
  · rw [h _ (by omega), h _ (by omega), h _ (by omega), h _ (by omega), h _ (by omega)]
    exact b5 a ha
  · rw [h _ (by omega), h _ (by omega), h _ (by omega), h _ (by omega)]
    exact b6 t ht
  · rw [zRn, h _ (by omega), h _ (by omega), h _ (by omega), h _ (by omega)]
    exact b7 a ha t ht
/-- the text -/
def zJt (d u : Nat → Nat → Int32) : Prop := ∃ L, L ≤ 120 ∧ d 1 1 = nI L ∧ u 0 2 = nI L ∧ d 2 = u 1
/-- the place of the i-th of c states, the next one at x -/
def qPl (x c i : Nat) : Nat := (x + 14 - c + i) % 14
def zJh (d u : Nat → Nat → Int32) : Prop := ∃ x c, x < 14 ∧ c ≤ 14 ∧ d 33 1 = nI x ∧ d 33 2 = nI c ∧ u 0 9 = nI c ∧ ∀ i, i < c → ∃ n K, zR d (35 + 15 * qPl x c i) (fun j => u 6 (264 * i + j)) n K
def zJs (d u : Nat → Nat → Int32) : Prop := ∃ F, F < 4 ∧ d 0 5 = nI F ∧ ∀ s, s ≤ 1 → (F.testBit s = true ∧ u 8 s = nI 1 ∧ ∃ n K, zR d (246 + 15 * s) (fun j => u 7 (264 * s + j)) n K) ∨ (F.testBit s = false ∧ u 8 s = nI 0)
def zJo (d u : Nat → Nat → Int32) (n K : Nat) : Prop := zR d 3 (u 3) n K ∧ zJt d u ∧ zJh d u ∧ zJs d u
def zJE (d u : Nat → Nat → Int32) : Prop := ∃ n K, zJo d u n K
theorem zJo_Sc {d u U : Nat → Nat → Int32} {n K : Nat} (hS : zSc u U) (h : zJo d u n K) : zJo d U n K := by
  obtain ⟨a1, a2, a3, a4, a5, a6, a7⟩ := hS
  obtain ⟨h1, ⟨L, t1, t2, t3, t4⟩, ⟨x, c, g1, g2, g3, g4, g5, g6⟩, ⟨F, f1, f2, f3⟩⟩ := h
  refine ⟨by rw [a2]; exact h1, ⟨L, t1, t2, by rw [a6]; exact t3, by rw [a1]; exact t4⟩, ⟨x, c, g1, g2, g3, g4, by rw [a7]; exact g5, by rw [a3]; exact g6⟩, ⟨F, f1, f2, by rw [a4, a5]; exact f3⟩⟩
theorem zJE_Sc {d u U : Nat → Nat → Int32} (hS : zSc u U) (h : zJE d u) : zJE d U := by
  obtain ⟨n, K, h⟩ := h
  exact ⟨n, K, zJo_Sc hS h⟩
theorem qPl_lt {x c i : Nat} : qPl x c i < 14 := Nat.mod_lt _ (by decide)
/-- all that counts but the state is the same -/
def zAg (d D : Nat → Nat → Int32) : Prop := ∀ c, c < 3 ∨ (33 ≤ c ∧ c < 276) → D c = d c
theorem zJo_w {d D u : Nat → Nat → Int32} {n K n' K' : Nat} {f : Nat → Int32} (hA : zAg d D) (hR : zR D 3 f n' K') (h : zJo d u n K) : zJo D (va_up u 3 f) n' K' := by
  obtain ⟨-, ⟨L, t1, t2, t3, t4⟩, ⟨x, c, g1, g2, g3, g4, g5, g6⟩, ⟨F, f1, f2, f3⟩⟩ := h
  refine ⟨hR, ⟨L, t1, by rw [hA 1 (by omega)]; exact t2, t3, by rw [hA 2 (by omega)]; exact t4⟩, ⟨x, c, g1, g2, by rw [hA 33 (by omega)]; exact g3, by rw [hA 33 (by omega)]; exact g4, g5, fun i hi => ?_⟩, ⟨F, f1, by rw [hA 0 (by omega)]; exact f2, fun s hs => ?_⟩⟩
  · obtain ⟨n, K, hh⟩ := g6 i hi
    have := qPl_lt (x := x) (c := c) (i := i)
    exact ⟨n, K, zR_same (fun q h1 h2 => hA q (by omega)) hh⟩
  · rcases f3 s hs with ⟨q1, q2, n, K, hh⟩ | hh
    · exact Or.inl ⟨q1, q2, n, K, zR_same (fun q h1 h2 => hA q (by omega)) hh⟩
    · exact Or.inr hh
theorem zJo_same {d D u : Nat → Nat → Int32} {n K : Nat} (hA : ∀ c, c < 18 ∨ (33 ≤ c ∧ c < 276) → D c = d c) (h : zJo d u n K) : zJo D u n K := by
  have h2 := zJo_w (D := D) (fun c hc => hA c (by omega)) (zR_same (fun c h1 h2 => hA c (by omega)) h.1) h
  rw [zu_self] at h2
  exact h2
/-- a state is remembered -/
theorem zJo_rem {d D D0 u : Nat → Nat → Int32} {n K x c : Nat} (h : zJo d u n K) (hx : x < 14) (hc : c ≤ 14) (h1 : d 33 1 = nI x) (h2 : d 33 2 = nI c) (hC : zCy d D0 (35 + 15 * x) 3) (hD : D = va_up D0 33 (va_up (va_up (d 33) 1 (nI ((x + 1) % 14))) 2 (nI (qC1 c)))) : zJo D (qNd u c) n K := by
  obtain ⟨hR, ⟨L, t1, t2, t3, t4⟩, ⟨x', c', g1, g2, g3, g4, g5, g6⟩, ⟨F, f1, f2, f3⟩⟩ := h
  obtain rfl : x' = x := (nI_eq (by omega) (by omega)).mp (g3.symm.trans h1)
  obtain rfl : c' = c := (nI_eq (by omega) (by omega)).mp (g4.symm.trans h2)
  have hO := hC.2.2.2
  have hD1 : ∀ q, q ≠ 33 → D q = D0 q := fun q hq => by rw [hD, zu_ne hq]
  have hN : zR D (35 + 15 * x') (u 3) n K := zR_same (fun q q1 q2 => hD1 q (by omega)) (zCy_R hC hR)
  have hK : ∀ p, p < 14 → p ≠ x' → ∀ f n K, zR d (35 + 15 * p) f n K → zR D (35 + 15 * p) f n K := fun p hp hpx f n K hh => zR_same (fun q q1 q2 => by rw [hD1 q (by omega)]; exact hO q (by omega)) hh
  refine ⟨zR_same (fun q q1 q2 => by rw [hD1 q (by omega)]; exact hO q (by omega)) hR, ⟨L, t1, by rw [hD1 1 (by decide), hO 1 (by omega)]; exact t2, t3, by rw [hD1 2 (by decide), hO 2 (by omega)]; exact t4⟩, ⟨(x' + 1) % 14, qC1 c', Nat.mod_lt _ (by decide), by rw [qC1]; split <;> omega, by rw [hD, zu_eq, zu_ne (by decide), zu_eq], by rw [hD, zu_eq, zu_eq], by rw [qNd, zu_eq, zu_eq], fun i hi => ?_⟩, ⟨F, f1, by rw [hD1 0 (by decide), hO 0 (by omega)]; exact f2, fun s hs => ?_⟩⟩
  · have e6 : qNd u c' 6 = qDi (u 6) (u 3) c' := by rw [qNd, zu_ne (by decide), zu_eq]
    rw [e6]
    by_cases h14 : c' = 14
    · subst h14
      have hq : qC1 14 = 14 := rfl
      rw [hq] at hi ⊢
      by_cases h13 : i = 13
      · subst h13
        have e1 : qPl ((x' + 1) % 14) 14 13 = x' := by rw [qPl]; omega
        rw [e1]
        refine ⟨n, K, zR_cg (fun j hj => ?_) hN⟩
        show qDi (u 6) (u 3) 14 (264 * 13 + j) = u 3 j
        rw [qDi, if_pos rfl, va_cpy, if_pos (by omega)]
        exact congrArg (u 3) (by omega)
      · have e1 : qPl ((x' + 1) % 14) 14 i = qPl x' 14 (i + 1) := by rw [qPl, qPl]; omega
        have e2 : qPl x' 14 (i + 1) ≠ x' := by rw [qPl]; omega
        obtain ⟨n', K', hh⟩ := g6 (i + 1) (by omega)
        rw [e1]
        refine ⟨n', K', zR_cg (fun j hj => ?_) (hK _ qPl_lt e2 _ _ _ hh)⟩
        show qDi (u 6) (u 3) 14 (264 * i + j) = u 6 (264 * (i + 1) + j)
        rw [qDi, if_pos rfl, va_cpy, if_neg (by omega), va_cpy, if_pos (by omega)]
        congr 1
        omega
    · have hq : qC1 c' = c' + 1 := if_neg h14
      rw [hq] at hi ⊢
      by_cases hic : i = c'
      · subst hic
        have e1 : qPl ((x' + 1) % 14) (i + 1) i = x' := by rw [qPl]; omega
        rw [e1]
        refine ⟨n, K, zR_cg (fun j hj => ?_) hN⟩
        show qDi (u 6) (u 3) i (264 * i + j) = u 3 j
        rw [qDi, if_neg h14, va_cpy, if_pos (by omega)]
        congr 1
        omega
      · have e1 : qPl ((x' + 1) % 14) (c' + 1) i = qPl x' c' i := by rw [qPl, qPl]; omega
        have e2 : qPl x' c' i ≠ x' := by rw [qPl]; omega
        obtain ⟨n', K', hh⟩ := g6 i (by omega)
        rw [e1]
        refine ⟨n', K', zR_cg (fun j hj => ?_) (hK _ qPl_lt e2 _ _ _ hh)⟩
        show qDi (u 6) (u 3) c' (264 * i + j) = u 6 (264 * i + j)
        rw [qDi, if_neg h14, va_cpy, if_neg (by omega)]
  · rcases f3 s hs with ⟨q1, q2, n', K', hh⟩ | hh
    · exact Or.inl ⟨q1, q2, n', K', zR_same (fun q q1 q2 => by rw [hD1 q (by omega)]; exact hO q (by omega)) hh⟩
    · exact Or.inr hh
/-- a state is taken back -/
theorem zJo_back {d D u : Nat → Nat → Int32} {n K x c : Nat} (h : zJo d u n K) (hx : x < 14) (hc : c < 14) (h1 : d 33 1 = nI x) (h2 : d 33 2 = nI (c + 1)) (hC : zCy (va_up d 33 (va_up (va_up (d 33) 1 (nI ((x + 13) % 14))) 2 (nI c))) D 3 (35 + 15 * ((x + 13) % 14))) : zJE D (va_up (va_up u 3 (va_cpy (u 6) (u 3) (264 * c) 0 264)) 0 (va_up (u 0) 9 (nI c))) := by
  obtain ⟨hR, ⟨L, t1, t2, t3, t4⟩, ⟨x', c', g1, g2, g3, g4, g5, g6⟩, ⟨F, f1, f2, f3⟩⟩ := h
  obtain rfl : x' = x := (nI_eq (by omega) (by omega)).mp (g3.symm.trans h1)
  obtain rfl : c' = c + 1 := (nI_eq (by omega) (by omega)).mp (g4.symm.trans h2)
  have hO := hC.2.2.2
  have hD : ∀ q, q < 3 ∨ 18 ≤ q → q ≠ 33 → D q = d q := fun q q1 q2 => by rw [hO q (by omega), zu_ne q2]
  have h33 : D 33 = va_up (va_up (d 33) 1 (nI ((x' + 13) % 14))) 2 (nI c) := by rw [hO 33 (by omega), zu_eq]
  obtain ⟨n', K', hl⟩ := g6 c (by omega)
  have e1 : qPl x' (c + 1) c = (x' + 13) % 14 := by rw [qPl]; omega
  rw [e1] at hl
  have hm : (x' + 13) % 14 < 14 := Nat.mod_lt _ (by decide)
  refine ⟨n', K', ?_, ⟨L, t1, by rw [hD 1 (by omega) (by decide)]; exact t2, t3, by rw [hD 2 (by omega) (by decide)]; exact t4⟩, ⟨(x' + 13) % 14, c, hm, by omega, by rw [h33, zu_ne (by decide), zu_eq], by rw [h33, zu_eq], by rw [zu_eq, zu_eq], fun i hi => ?_⟩, ⟨F, f1, by rw [hD 0 (by omega) (by decide)]; exact f2, fun s hs => ?_⟩⟩
  · refine zR_cg (f := fun j => u 6 (264 * c + j)) (fun j hj => ?_) (zCy_R hC (zR_same (fun q q1 q2 => zu_ne (by omega)) hl))
    show va_cpy (u 6) (u 3) (264 * c) 0 264 j = u 6 (264 * c + j)
    rw [va_cpy, if_pos (by omega), Nat.sub_zero]
  · have e2 : qPl ((x' + 13) % 14) c i = qPl x' (c + 1) i := by rw [qPl, qPl]; omega
    obtain ⟨n2, K2, hh⟩ := g6 i (by omega)
    have := qPl_lt (x := x') (c := c + 1) (i := i)
    rw [e2]
    exact ⟨n2, K2, zR_same (fun q q1 q2 => hD q (by omega) (by omega)) hh⟩
  · rcases f3 s hs with ⟨q1, q2, n2, K2, hh⟩ | hh
    · exact Or.inl ⟨q1, q2, n2, K2, zR_same (fun q q1 q2 => hD q (by omega) (by omega)) hh⟩
    · exact Or.inr hh
/-- a text is loaded -/
theorem zJo_load {d D u : Nat → Nat → Int32} {n K n' K' : Nat} {f : Nat → Int32} (h : zJo d u n K) (h0 : D 0 5 = nI 0) (h1 : D 1 = d 1) (h2 : D 2 = d 2) (h33 : D 33 1 = d 33 1) (h34 : D 33 2 = nI 0) (hR : zR D 3 f n' K') : zJE D (va_up (va_up (va_up u 3 f) 8 (va_up (va_up (u 8) 0 (nI 0)) 1 (nI 0))) 0 (va_up (u 0) 9 (nI 0))) := by
  obtain ⟨-, ⟨L, t1, t2, t3, t4⟩, ⟨x, c, g1, g2, g3, g4, g5, g6⟩, -⟩ := h
  refine ⟨n', K', hR, ⟨L, t1, by rw [h1]; exact t2, t3, by rw [h2]; exact t4⟩, ⟨x, 0, g1, by omega, by rw [h33]; exact g3, h34, by rw [zu_eq, zu_eq], fun i hi => by omega⟩, ⟨0, by decide, h0, fun s hs => Or.inr ⟨Nat.zero_testBit s, ?_⟩⟩⟩
  rcases (show s = 0 ∨ s = 1 by omega) with rfl | rfl <;> rfl
/-- the state is stored -/
theorem zJo_save {d D u : Nat → Nat → Int32} {n K s F : Nat} (h : zJo d u n K) (hs : s ≤ 1) (hF : d 0 5 = nI F) (hF4 : F < 4) (h0 : D 0 5 = nI (F ||| 2 ^ s)) (hC : zCy d D (246 + 15 * s) 3 ∨ ∃ D0, zCy d D0 (246 + 15 * s) 3 ∧ ∀ q, q ≠ 0 → D q = D0 q) : zJo D (va_up (va_up u 8 (va_up (u 8) s (nI 1))) 7 (va_cpy (u 3) (u 7) 0 (264 * s) 264)) n K := by
  obtain ⟨D0, hC, hD0⟩ : ∃ D0, zCy d D0 (246 + 15 * s) 3 ∧ ∀ q, q ≠ 0 → D q = D0 q := hC.elim (fun h => ⟨D, h, fun _ _ => rfl⟩) id
  obtain ⟨hR, ⟨L, t1, t2, t3, t4⟩, ⟨x, c, g1, g2, g3, g4, g5, g6⟩, ⟨F', f1, f2, f3⟩⟩ := h
  obtain rfl : F' = F := (nI_eq (by omega) (by omega)).mp (f2.symm.trans hF)
  have hO := hC.2.2.2
  have hD : ∀ q, q ≠ 0 → q < 246 + 15 * s ∨ 246 + 15 * s + 15 ≤ q → D q = d q := fun q q1 q2 => by rw [hD0 q q1]; exact hO q q2
  refine ⟨zR_same (fun q q1 q2 => hD q (by omega) (by omega)) hR, ⟨L, t1, by rw [hD 1 (by omega) (by omega)]; exact t2, t3, by rw [hD 2 (by omega) (by omega)]; exact t4⟩, ⟨x, c, g1, g2, by rw [hD 33 (by omega) (by omega)]; exact g3, by rw [hD 33 (by omega) (by omega)]; exact g4, g5, fun i hi => ?_⟩, ⟨F' ||| 2 ^ s, ?_, h0, fun t ht => ?_⟩⟩
  · obtain ⟨n2, K2, hh⟩ := g6 i hi
    have := qPl_lt (x := x) (c := c) (i := i)
    exact ⟨n2, K2, zR_same (fun q q1 q2 => hD q (by omega) (by omega)) hh⟩
  · exact Nat.or_lt_two_pow (n := 2) hF4 (Nat.pow_lt_pow_right (by decide) (by omega))
  · by_cases hts : t = s
    · subst hts
      left
      refine ⟨by rw [Nat.testBit_or, Nat.testBit_two_pow]; simp, ?_, n, K, zR_cg (f := u 3) (fun j hj => ?_) (zR_same (fun q q1 q2 => hD0 q (by omega)) (zCy_R hC hR))⟩
      · rw [zu_ne (by decide), zu_eq, zu_eq]
      · show va_cpy (u 3) (u 7) 0 (264 * t) 264 (264 * t + j) = u 3 j
        rw [va_cpy, if_pos (by omega)]
        congr 1
        omega
    · have e1 : (F' ||| 2 ^ s).testBit t = F'.testBit t := by
        rw [Nat.testBit_or, Nat.testBit_two_pow, decide_eq_false (show ¬ s = t by omega), Bool.or_false]
      have e2 : va_up (va_up u 8 (va_up (u 8) s (nI 1))) 7 (va_cpy (u 3) (u 7) 0 (264 * s) 264) 8 t = u 8 t := by
        rw [zu_ne (by decide), zu_eq, zu_ne hts]
      rw [e1, e2]
      rcases f3 t ht with ⟨q1, q2, n2, K2, hh⟩ | hh
      · refine Or.inl ⟨q1, q2, n2, K2, zR_cg (f := fun j => u 7 (264 * t + j)) (fun j hj => ?_) (zR_same (fun q q1 q2 => hD q (by omega) (by omega)) hh)⟩
        show va_cpy (u 3) (u 7) 0 (264 * s) 264 (264 * t + j) = u 7 (264 * t + j)
        rw [va_cpy, if_neg (by omega)]
      · exact Or.inr hh
/-- a stored state is taken -/
theorem zJo_restore {d D u : Nat → Nat → Int32} {n K n' K' s : Nat} (h : zJo d u n K) (hs : s ≤ 1) (hl : zR d (246 + 15 * s) (fun j => u 7 (264 * s + j)) n' K') {D0 : Nat → Nat → Int32} (hC : zCy d D0 3 (246 + 15 * s)) (hD : D = va_up D0 33 (va_up (D0 33) 2 (nI 0))) : zJo D (va_up (va_up u 3 (va_cpy (u 7) (u 3) (264 * s) 0 264)) 0 (va_up (u 0) 9 (nI 0))) n' K' := by
  obtain ⟨hR, ⟨L, t1, t2, t3, t4⟩, ⟨x, c, g1, g2, g3, g4, g5, g6⟩, ⟨F, f1, f2, f3⟩⟩ := h
  have hO := hC.2.2.2
  have hD0 : ∀ q, q ≠ 33 → D q = D0 q := fun q hq => by rw [hD, zu_ne hq]
  have h33 : D 33 = va_up (d 33) 2 (nI 0) := by rw [hD, zu_eq, hO 33 (by omega)]
  refine ⟨zR_cg (f := fun j => u 7 (264 * s + j)) (fun j hj => ?_) (zR_same (fun q q1 q2 => hD0 q (by omega)) (zCy_R hC hl)), ⟨L, t1, by rw [hD0 1 (by decide), hO 1 (by omega)]; exact t2, t3, by rw [hD0 2 (by decide), hO 2 (by omega)]; exact t4⟩, ⟨x, 0, g1, by omega, by rw [h33, zu_ne (by decide)]; exact g3, by rw [h33, zu_eq], by rw [zu_eq, zu_eq], fun i hi => by omega⟩, ⟨F, f1, by rw [hD0 0 (by decide), hO 0 (by omega)]; exact f2, fun t ht => ?_⟩⟩
  · show va_cpy (u 7) (u 3) (264 * s) 0 264 j = u 7 (264 * s + j)
    rw [va_cpy, if_pos (by omega), Nat.sub_zero]
  · rcases f3 t ht with ⟨q1, q2, n2, K2, hh⟩ | hh
    · exact Or.inl ⟨q1, q2, n2, K2, zR_same (fun q q1 q2 => by rw [hD0 q (by omega)]; exact hO q (by omega)) hh⟩
    · exact Or.inr hh
/-- at the start -/
theorem zJE_0 : zJE zd0 (va_up (fun _ _ => 0) 3 (va_up (fun _ => 0) 3 (nI 5))) := by
  have w3 : zd0 3 = va_up (fun _ => 0) 2 (nI 5) := zd0_o (by decide)
  have w1 : zd0 1 = fun _ => 0 := zd0_n (by decide)
  have w2 : zd0 2 = fun _ => 0 := zd0_n (by decide)
  have w33 : zd0 33 = fun _ => 0 := zd0_n (by decide)
  have w0 : zd0 0 = fun _ => 0 := zd0_n (by decide)
  refine ⟨0, 0, ⟨⟨by decide, by decide, rfl, rfl, fun a ha => by omega, fun t ht => by omega, fun a ha => by omega⟩, by rw [w3]; rfl, by rw [w3]; rfl, by rw [w3]; rfl, by rw [w3]; rfl, ⟨0, by decide, by rw [w3]; rfl, fun a ha => by omega⟩, fun a ha => by omega, fun t ht => by omega, fun a ha => by omega⟩, ⟨0, by decide, by rw [w1]; rfl, rfl, by rw [w2]; rfl⟩, ⟨0, 0, by decide, by decide, by rw [w33]; rfl, by rw [w33]; rfl, rfl, fun i hi => by omega⟩, ⟨0, by decide, by rw [w0]; rfl, fun s hs => Or.inr ⟨Nat.zero_testBit s, rfl⟩⟩⟩
