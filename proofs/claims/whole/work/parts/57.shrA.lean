/-! ===== sharing: the best way, and how it is found first ===== -/
/-- the first of the best among those below i that are allowed -/
def qBe (ok : Nat → Bool) (u : Nat → Nat) : Nat → Option Nat
  | 0 => none
  | i + 1 => match qBe ok u i with
    | none => if ok i then some i else none
    | some j => if ok i && decide (u j < u i) then some i else some j
theorem qBe_n {ok : Nat → Bool} {u : Nat → Nat} {i : Nat} (h : qBe ok u i = none) : ∀ c, c < i → ok c = false := by
  induction i with
  | zero => intro c hc; omega
  | succ i ih =>
    intro c hc
    rw [qBe] at h
    cases h1 : qBe ok u i with
    | none =>
      simp only [h1] at h
      by_cases ho : ok i = true
      · rw [if_pos ho] at h
        cases h
      · rcases Nat.lt_succ_iff_lt_or_eq.mp hc with h9 | rfl
        · exact ih h1 c h9
        · simpa using ho
    | some j =>
      simp only [h1] at h
      split at h <;> cases h
theorem qBe_s {ok : Nat → Bool} {u : Nat → Nat} {i j : Nat} (h : qBe ok u i = some j) : j < i ∧ ok j = true ∧ (∀ c, c < i → ok c = true → u c ≤ u j) ∧ ∀ c, c < j → ok c = true → u c < u j := by
  induction i generalizing j with
  | zero => cases h
  | succ i ih =>
    rw [qBe] at h
    cases h1 : qBe ok u i with
    | none =>
      simp only [h1] at h
      by_cases ho : ok i = true
      · rw [if_pos ho] at h
        cases h
        have h2 := qBe_n h1
        refine ⟨by omega, ho, fun c hc hk => ?_, fun c hc hk => ?_⟩
        · rcases Nat.lt_succ_iff_lt_or_eq.mp hc with h9 | rfl
          · rw [h2 c h9] at hk
            cases hk
          · exact Nat.le_refl _
        · rw [h2 c hc] at hk
          cases hk
      · rw [if_neg ho] at h
        cases h
    | some k =>
      simp only [h1] at h
      obtain ⟨g1, g2, g3, g4⟩ := ih h1
      by_cases ho : (ok i && decide (u k < u i)) = true
      · rw [if_pos ho] at h
        cases h
        rw [Bool.and_eq_true, decide_eq_true_eq] at ho
        refine ⟨by omega, ho.1, fun c hc hk => ?_, fun c hc hk => ?_⟩
        · rcases Nat.lt_succ_iff_lt_or_eq.mp hc with h9 | rfl
          · have := g3 c h9 hk
            omega
          · exact Nat.le_refl _
        · have := g3 c hc hk
          omega
      · rw [if_neg ho] at h
        cases h
        refine ⟨by omega, g2, fun c hc hk => ?_, g4⟩
        rcases Nat.lt_succ_iff_lt_or_eq.mp hc with h9 | rfl
        · exact g3 c h9 hk
        · rw [hk, Bool.true_and, decide_eq_true_eq] at ho
          omega
/-- worth of the best so far -/
def qWB (B : Int32 × Int32 × (Nat → Int32)) : Int := 1000 * B.1.toInt - B.2.1.toInt
def qOkB (B : Int32 × Int32 × (Nat → Int32)) : Prop := 0 ≤ B.2.1.toInt ∧ B.2.1.toInt < 1000
/-- trying all that is allowed in turn -/
theorem qIt_be {F : Nat → (Int32 × Int32 × (Nat → Int32)) → Int32 × Int32 × (Nat → Int32)} {ok : Nat → Bool} {u : Nat → Nat} {z : Int} {X : Nat → Int32 × Int32 × (Nat → Int32)} {B : Int32 × Int32 × (Nat → Int32)} (hB : qOkB B) {N : Nat}
    (hF0 : ∀ c C, c < N → ok c = false → F c C = C) (hF1 : ∀ c C, c < N → ok c = true → qOkB C → F c C = if qWB C < z + u c then X c else C) (hX : ∀ c, c < N → ok c = true → qOkB (X c) ∧ qWB (X c) = z + u c) (i : Nat) (hi : i ≤ N) :
    qOkB (qIt F B i) ∧ qIt F B i = match qBe ok u i with
      | none => B
      | some j => if qWB B < z + u j then X j else B := by
  induction i with
  | zero => exact ⟨hB, rfl⟩
  | succ i ih =>
    obtain ⟨h0, h1⟩ := ih (by omega)
    have e : qIt F B (i + 1) = F i (qIt F B i) := rfl
    by_cases ho : ok i = true
    · have e2 := hF1 i (qIt F B i) (by omega) ho h0
      rw [e, e2, qBe]
      obtain ⟨x1, x2⟩ := hX i (by omega) ho
      refine ⟨?_, ?_⟩
      · split
        · exact x1
        · exact h0
      · cases hb : qBe ok u i with
        | none =>
          simp only [hb] at h1
          rw [h1]
          simp only [ho, if_true]
        | some j =>
          simp only [hb] at h1
          obtain ⟨j1, j2, -, -⟩ := qBe_s hb
          obtain ⟨y1, y2⟩ := hX j (by omega) j2
          by_cases hw : qWB B < z + u j
          · rw [if_pos hw] at h1
            rw [h1, y2]
            by_cases hu : u j < u i
            · rw [if_pos (by omega)]
              simp only [ho, hu, decide_true, Bool.and_self, if_true]
              rw [if_pos (by omega)]
            · rw [if_neg (by omega)]
              simp only [ho, hu, decide_false, Bool.and_false]
              rw [if_neg (by decide)]
              simp only [if_pos hw]
          · rw [if_neg hw] at h1
            rw [h1]
            by_cases hu : u j < u i
            · simp only [ho, hu, decide_true, Bool.and_self, if_true]
            · simp only [ho, hu, decide_false, Bool.and_false]
              rw [if_neg (by omega), if_neg (by decide)]
              simp only [if_neg hw]
    · have ho' : ok i = false := by simpa using ho
      have e2 := hF0 i (qIt F B i) (by omega) ho'
      rw [e, e2, qBe]
      refine ⟨h0, ?_⟩
      rw [h1]
      cases hb : qBe ok u i with
      | none => simp [ho']
      | some j => simp [ho']
/-- a way as a number -/
def qWn (f : Nat → Int32) (a t : Nat) : Nat := (qFar f a t).toNatClampNeg
theorem qSz_12 : ∀ p q : Fin 12, ∃ m : Fin 12, qSz (nI p.1 - nI q.1) = nI m.1 := by decide +kernel
theorem qWn_v {f : Nat → Int32} {n K a t : Nat} (h : zWF f n K) (ha : a < n) (ht : t < K) : qFar f a t = nI (qWn f a t) ∧ qWn f a t ≤ 22 := by
  obtain ⟨⟨p1, h1, e1⟩, ⟨p2, h2, e2⟩, -⟩ := zWF_a h ha
  obtain ⟨⟨p3, h3, e3⟩, ⟨p4, h4, e4⟩⟩ := zWF_t h ht
  obtain ⟨m1, g1⟩ := qSz_12 ⟨p1, h1⟩ ⟨p3, h3⟩
  obtain ⟨m2, g2⟩ := qSz_12 ⟨p2, h2⟩ ⟨p4, h4⟩
  have e : qFar f a t = nI (m1.1 + m2.1) := by
    rw [qFar, e1, e2, e3, e4]
    rw [show qSz (nI p1 - nI p3) = nI m1.1 from g1, show qSz (nI p2 - nI p4) = nI m2.1 from g2, nI_add]
  have l1 := m1.2
  have l2 := m2.2
  have e5 : qWn f a t = m1.1 + m2.1 := by rw [qWn, e, nI_clamp (by omega)]
  rw [e5]
  exact ⟨e, by omega⟩
/-- may a get c (8: nothing) -/
def qOkc (f : Nat → Int32) (K a M c : Nat) : Bool := decide (c = 8) || qGet f K a c M
def qU (f : Nat → Int32) (V : Nat → Nat → Nat) (a M c : Nat) : Nat := if c = 8 then V (a + 1) M else 1000 - qWn f a c + V (a + 1) (M ||| 2 ^ c)
/-- the most that e agents from a on can be worth -/
def qV (f : Nat → Int32) (K : Nat) : Nat → Nat → Nat → Nat
  | 0, _, _ => 0
  | e + 1, a, M => match qBe (qOkc f K a M) (qU f (qV f K e) a M) 9 with
    | some j => qU f (qV f K e) a M j
    | none => 0
/-- what a gets -/
def qJ (f : Nat → Int32) (K e a M : Nat) : Nat := (qBe (qOkc f K a M) (qU f (qV f K e) a M) 9).getD 8
theorem qJ_s {f : Nat → Int32} {K e a M : Nat} : qBe (qOkc f K a M) (qU f (qV f K e) a M) 9 = some (qJ f K e a M) := by
  cases h : qBe (qOkc f K a M) (qU f (qV f K e) a M) 9 with
  | none =>
    have := qBe_n h 8 (by decide)
    simp [qOkc] at this
  | some j => rw [qJ, h]; rfl
theorem qV_s {f : Nat → Int32} {K e a M : Nat} : qV f K (e + 1) a M = qU f (qV f K e) a M (qJ f K e a M) := by
  rw [qV]
  simp only [qJ_s]
/-- how many, how far, who gets what -/
def qRs (f : Nat → Int32) (K : Nat) : Nat → Nat → Nat → (Nat → Int32) → Nat × Nat × (Nat → Int32)
  | 0, _, _, s => (0, 0, s)
  | e + 1, a, M, s => if qJ f K e a M = 8 then qRs f K e (a + 1) M (va_up s a (nI 8)) else
      ((qRs f K e (a + 1) (M ||| 2 ^ qJ f K e a M) (va_up s a (nI (qJ f K e a M)))).1 + 1, (qRs f K e (a + 1) (M ||| 2 ^ qJ f K e a M) (va_up s a (nI (qJ f K e a M)))).2.1 + qWn f a (qJ f K e a M), (qRs f K e (a + 1) (M ||| 2 ^ qJ f K e a M) (va_up s a (nI (qJ f K e a M)))).2.2)
theorem qRs_8 {f : Nat → Int32} {K e a M : Nat} {s : Nat → Int32} (h : qJ f K e a M = 8) : qRs f K (e + 1) a M s = qRs f K e (a + 1) M (va_up s a (nI 8)) := by rw [qRs, if_pos h]
theorem qRs_j {f : Nat → Int32} {K e a M j : Nat} {s : Nat → Int32} (h : ¬ j = 8) (hj : qJ f K e a M = j) : qRs f K (e + 1) a M s = ((qRs f K e (a + 1) (M ||| 2 ^ j) (va_up s a (nI j))).1 + 1, (qRs f K e (a + 1) (M ||| 2 ^ j) (va_up s a (nI j))).2.1 + qWn f a j, (qRs f K e (a + 1) (M ||| 2 ^ j) (va_up s a (nI j))).2.2) := by
  subst hj
  rw [qRs, if_neg h]
theorem qGet_K {f : Nat → Int32} {K a c M : Nat} (h : qGet f K a c M = true) : c < K := by
  simp only [qGet, Bool.and_eq_true, decide_eq_true_eq] at h
  exact h.1.1.2
theorem qJ_lt {f : Nat → Int32} {n K e a M : Nat} (hW : zWF f n K) : qJ f K e a M = 8 ∨ qJ f K e a M < K := by
  obtain ⟨h1, h2, -⟩ := qBe_s (qJ_s (f := f) (K := K) (e := e) (a := a) (M := M))
  rw [qOkc, Bool.or_eq_true, decide_eq_true_eq] at h2
  rcases h2 with h2 | h2
  · exact Or.inl h2
  · exact Or.inr (qGet_K h2)
theorem qRs_v {f : Nat → Int32} {n K : Nat} (hW : zWF f n K) : ∀ e a M s, a + e = n → (qRs f K e a M s).1 ≤ e ∧ (qRs f K e a M s).2.1 ≤ 22 * e ∧ 1000 * (qRs f K e a M s).1 = qV f K e a M + (qRs f K e a M s).2.1 := by
  intro e
  induction e with
  | zero => intro a M s _; exact ⟨Nat.le_refl _, Nat.le_refl _, rfl⟩
  | succ e ih =>
    intro a M s hae
    rw [qV_s]
    by_cases h8 : qJ f K e a M = 8
    · rw [qRs_8 h8, h8, qU, if_pos rfl]
      obtain ⟨i1, i2, i3⟩ := ih (a + 1) M (va_up s a (nI 8)) (by omega)
      exact ⟨by omega, by omega, i3⟩
    · have hj := (qJ_lt (e := e) (a := a) (M := M) hW).resolve_left h8
      obtain ⟨-, w2⟩ := qWn_v (a := a) hW (by omega) hj
      rw [qRs_j h8 rfl, qU, if_neg h8]
      obtain ⟨i1, i2, i3⟩ := ih (a + 1) (M ||| 2 ^ qJ f K e a M) (va_up s a (nI (qJ f K e a M))) (by omega)
      refine ⟨?_, ?_, ?_⟩
      · show _ + 1 ≤ _
        omega
      · show _ + qWn f a _ ≤ _
        omega
      · show 1000 * (_ + 1) = _ + (_ + qWn f a _)
        omega
theorem qV_le {f : Nat → Int32} {n K e a M : Nat} (hW : zWF f n K) (h : a + e = n) : qV f K e a M ≤ 1000 * e := by
  obtain ⟨h1, h2, h3⟩ := qRs_v hW e a M (fun _ => -1) h
  omega
theorem qHb_v {B : Int32 × Int32 × (Nat → Int32)} {k d : Nat} {s : Nat → Int32} (hB : qOkB B) (hk : k < 1000) (hd : d < 1000) : qHb B k (nI d) s = if qWB B < 1000 * (k : Int) - (d : Int) then (nI k, nI d, s) else B := by
  have e : (B.1 < nI k ∨ (nI k = B.1 ∧ nI d < B.2.1)) ↔ qWB B < 1000 * (k : Int) - (d : Int) := by
    obtain ⟨b1, b2⟩ := hB
    rw [Int32.lt_iff_toInt_lt, Int32.lt_iff_toInt_lt, ← Int32.toInt_inj, nI_toInt (by omega), nI_toInt (by omega), qWB]
    omega
  rw [qHb]
  by_cases h : B.1 < nI k ∨ (nI k = B.1 ∧ nI d < B.2.1)
  · rw [if_pos h, if_pos (e.mp h)]
  · rw [if_neg h, if_neg (fun hh => h (e.mpr hh))]
theorem qX_ok {k d : Nat} {s : Nat → Int32} (hk : k < 1000) (hd : d < 1000) : qOkB (nI k, nI d, s) ∧ qWB (nI k, nI d, s) = 1000 * (k : Int) - (d : Int) := by
  refine ⟨⟨?_, ?_⟩, ?_⟩
  · show 0 ≤ (nI d).toInt
    rw [nI_toInt (by omega)]
    omega
  · show (nI d).toInt < 1000
    rw [nI_toInt (by omega)]
    omega
  · show 1000 * (nI k).toInt - (nI d).toInt = _
    rw [nI_toInt (by omega), nI_toInt (by omega)]
set_option maxHeartbeats 4000000 in
theorem qEx_v {f : Nat → Int32} {n K : Nat} (hW : zWF f n K) : ∀ e a M k d s B, a + e = n → qOkB B → k ≤ a → d ≤ 22 * a → qEx f K e a M k (nI d) s B = if qWB B < 1000 * (k : Int) - (d : Int) + (qV f K e a M : Int) then (nI (k + (qRs f K e a M s).1), nI (d + (qRs f K e a M s).2.1), (qRs f K e a M s).2.2) else B := by
  have hn6 := hW.1
  intro e
  induction e with
  | zero =>
    intro a M k d s B hae hB hk hd
    rw [qEx, qHb_v hB (by omega) (by omega), qV, show ((0 : Nat) : Int) = 0 from rfl, Int.add_zero]
    rfl
  | succ e ih =>
    intro a M k d s B hae hB hk hd
    have hX8 : ∀ c, c = 8 → ∀ C, qOkB C → qEx f K e (a + 1) M k (nI d) (va_up s a (nI 8)) C = if qWB C < (1000 * (k : Int) - (d : Int)) + ((qU f (qV f K e) a M c : Nat) : Int) then (nI (k + (qRs f K e (a + 1) M (va_up s a (nI 8))).1), nI (d + (qRs f K e (a + 1) M (va_up s a (nI 8))).2.1), (qRs f K e (a + 1) M (va_up s a (nI 8))).2.2) else C := by
      intro c hc C hC
      rw [ih (a + 1) M k d (va_up s a (nI 8)) C (by omega) hC (by omega) (by omega), qU, if_pos hc]
    have hXj : ∀ c, ¬ c = 8 → c < K → ∀ C, qOkB C → qEx f K e (a + 1) (M ||| 2 ^ c) (k + 1) (nI d + qFar f a c) (va_up s a (nI c)) C = if qWB C < (1000 * (k : Int) - (d : Int)) + ((qU f (qV f K e) a M c : Nat) : Int) then (nI (k + ((qRs f K e (a + 1) (M ||| 2 ^ c) (va_up s a (nI c))).1 + 1)), nI (d + ((qRs f K e (a + 1) (M ||| 2 ^ c) (va_up s a (nI c))).2.1 + qWn f a c)), (qRs f K e (a + 1) (M ||| 2 ^ c) (va_up s a (nI c))).2.2) else C := by
      intro c hc hcK C hC
      obtain ⟨w1, w2⟩ := qWn_v (a := a) hW (by omega) hcK
      rw [w1, nI_add, ih (a + 1) (M ||| 2 ^ c) (k + 1) (d + qWn f a c) (va_up s a (nI c)) C (by omega) hC (by omega) (by omega), qU, if_neg hc]
      have e1 : (1000 * ((k + 1 : Nat) : Int) - ((d + qWn f a c : Nat) : Int) + (qV f K e (a + 1) (M ||| 2 ^ c) : Int)) = (1000 * (k : Int) - (d : Int)) + ((1000 - qWn f a c + qV f K e (a + 1) (M ||| 2 ^ c) : Nat) : Int) := by omega
      rw [e1, show k + 1 + (qRs f K e (a + 1) (M ||| 2 ^ c) (va_up s a (nI c))).1 = k + ((qRs f K e (a + 1) (M ||| 2 ^ c) (va_up s a (nI c))).1 + 1) by omega, show d + qWn f a c + (qRs f K e (a + 1) (M ||| 2 ^ c) (va_up s a (nI c))).2.1 = d + ((qRs f K e (a + 1) (M ||| 2 ^ c) (va_up s a (nI c))).2.1 + qWn f a c) by omega]
    rw [qEx]
    have key := (qIt_be (F := fun c B => if c = 8 then qEx f K e (a + 1) M k (nI d) (va_up s a (nI 8)) B else if qGet f K a c M then qEx f K e (a + 1) (M ||| 2 ^ c) (k + 1) (nI d + qFar f a c) (va_up s a (nI c)) B else B)
      (ok := qOkc f K a M) (u := qU f (qV f K e) a M) (z := 1000 * (k : Int) - (d : Int))
      (X := fun c => if c = 8 then (nI (k + (qRs f K e (a + 1) M (va_up s a (nI 8))).1), nI (d + (qRs f K e (a + 1) M (va_up s a (nI 8))).2.1), (qRs f K e (a + 1) M (va_up s a (nI 8))).2.2) else (nI (k + ((qRs f K e (a + 1) (M ||| 2 ^ c) (va_up s a (nI c))).1 + 1)), nI (d + ((qRs f K e (a + 1) (M ||| 2 ^ c) (va_up s a (nI c))).2.1 + qWn f a c)), (qRs f K e (a + 1) (M ||| 2 ^ c) (va_up s a (nI c))).2.2))
      hB (N := 9) (fun c C hc ho => ?_) (fun c C hc ho hC => ?_) (fun c hc ho => ?_) 9 (Nat.le_refl 9)).2
    · rw [key, qJ_s, qV_s]
      show (if _ then _ else _) = _
      by_cases h8 : qJ f K e a M = 8
      · rw [qRs_8 h8]
        simp only [if_pos h8]
      · rw [qRs_j h8 rfl]
        simp only [if_neg h8]
    · rw [qOkc, Bool.or_eq_false_iff, decide_eq_false_iff_not] at ho
      show (if _ then _ else _) = _
      rw [if_neg ho.1, ho.2, if_neg (by decide)]
    · rw [qOkc, Bool.or_eq_true, decide_eq_true_eq] at ho
      show (if _ then _ else _) = _
      by_cases h8 : c = 8
      · rw [if_pos h8]
        rw [hX8 c h8 C hC]
        simp only [if_pos h8]
      · have hg := ho.resolve_left h8
        rw [if_neg h8, hg, if_pos rfl, hXj c h8 (qGet_K hg) C hC]
        simp only [if_neg h8]
    · rw [qOkc, Bool.or_eq_true, decide_eq_true_eq] at ho
      by_cases h8 : c = 8
      · simp only [if_pos h8]
        obtain ⟨i1, i2, i3⟩ := qRs_v hW e (a + 1) M (va_up s a (nI 8)) (by omega)
        obtain ⟨x1, x2⟩ := qX_ok (k := k + (qRs f K e (a + 1) M (va_up s a (nI 8))).1) (d := d + (qRs f K e (a + 1) M (va_up s a (nI 8))).2.1) (s := (qRs f K e (a + 1) M (va_up s a (nI 8))).2.2) (by omega) (by omega)
        refine ⟨x1, ?_⟩
        rw [x2, qU, if_pos h8]
        omega
      · have hg := ho.resolve_left h8
        simp only [if_neg h8]
        obtain ⟨-, w2⟩ := qWn_v (a := a) hW (by omega) (qGet_K hg)
        obtain ⟨i1, i2, i3⟩ := qRs_v hW e (a + 1) (M ||| 2 ^ c) (va_up s a (nI c)) (by omega)
        obtain ⟨x1, x2⟩ := qX_ok (k := k + ((qRs f K e (a + 1) (M ||| 2 ^ c) (va_up s a (nI c))).1 + 1)) (d := d + ((qRs f K e (a + 1) (M ||| 2 ^ c) (va_up s a (nI c))).2.1 + qWn f a c)) (s := (qRs f K e (a + 1) (M ||| 2 ^ c) (va_up s a (nI c))).2.2) (by omega) (by omega)
        refine ⟨x1, ?_⟩
        rw [x2, qU, if_neg h8]
        omega
theorem qSh_v {f b0 : Nat → Int32} {n K : Nat} (hW : zWF f n K) : (qSh f n K b0).2.1 = nI (qRs f K n 0 0 (fun _ => -1)).2.1 ∧ (qSh f n K b0).2.2 = (qRs f K n 0 0 (fun _ => -1)).2.2 := by
  have hB : qOkB (-1, nI 0, b0) := ⟨show (0 : Int) ≤ (nI 0).toInt by decide, show (nI 0).toInt < 1000 by decide⟩
  have hv : qWB (-1, nI 0, b0) = -1000 := by
    show 1000 * (-1 : Int32).toInt - (nI 0).toInt = -1000
    decide
  rw [qSh, qEx_v hW n 0 0 0 0 _ _ (by omega) hB (by omega) (by omega), hv, if_pos (by omega), Nat.zero_add, Nat.zero_add]
  exact ⟨rfl, rfl⟩
