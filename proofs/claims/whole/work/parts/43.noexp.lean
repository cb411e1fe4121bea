/-! ===== behind listening no agent that is on has an expired claim ===== -/
theorem qL1_lay {e F : Nat → Int32} {n a t : Nat} : ∃ x y z w, qL1 e n a t F = qLay F (72 + 4 * (8 * a + t)) x y z w ∧ ¬ (x = nI 1 ∧ w ≤ F 2) := by
  by_cases h : e (qBst e n a t) = nI 1 ∧ e (qBst e n a t + 3) ≤ F 2
  · exact ⟨_, _, _, _, qL1_x h, fun h9 => absurd h9.1 (by decide)⟩
  · exact ⟨_, _, _, _, qL1_n h, h⟩
theorem qLay_o {F : Nat → Int32} {P j : Nat} {x y z w : Int32} (h : j < P ∨ P + 4 ≤ j) : qLay F P x y z w j = F j := by
  rw [qLay, zu_ne (by omega), zu_ne (by omega), zu_ne (by omega), zu_ne (by omega)]
theorem qLt_o {e F : Nat → Int32} {n a i j : Nat} (hi : i ≤ 8) (hj : j < 72 + 32 * a ∨ 72 + 32 * a + 32 ≤ j) : qLt e n a F i j = F j := by
  induction i with
  | zero => rfl
  | succ i ih =>
    rw [qLt_s]
    split
    · obtain ⟨x, y, z, w, h1, -⟩ := qL1_lay (e := e) (F := qLt e n a F i) (n := n) (a := a) (t := i)
      rw [h1, qLay_o (by omega)]
      exact ih (by omega)
    · exact ih (by omega)
theorem qLt_nx {e F : Nat → Int32} {n a i : Nat} (hon : qOn F a = true) : zNx (qLt e n a F i) i a := by
  induction i with
  | zero => exact fun t ht => absurd ht (Nat.not_lt_zero t)
  | succ i ih =>
    have honD : qOn (qLt e n a F i) a = true := by
      by_cases ha : 4 + 6 * a + 3 < 72
      · rw [qOn, qLt_lt ha]; exact hon
      · rw [qOn]
        have h9 : ∀ i, qLt e n a F i (4 + 6 * a + 3) = F (4 + 6 * a + 3) := by
          intro i
          induction i with
          | zero => rfl
          | succ i ih2 =>
            rw [qLt_s]
            split
            · obtain ⟨x, y, z, w, h1, -⟩ := qL1_lay (e := e) (F := qLt e n a F i) (n := n) (a := a) (t := i)
              rw [h1, qLay_o (by omega)]
              exact ih2
            · exact ih2
        rw [h9]
        exact hon
    rw [qLt_s, if_pos honD]
    obtain ⟨x, y, z, w, h1, h2⟩ := qL1_lay (e := e) (F := qLt e n a F i) (n := n) (a := a) (t := i)
    rw [h1]
    intro t ht hk h3
    by_cases hti : t = i
    · subst hti
      rw [qLay_0] at hk
      rw [qLay_3, qLay_lt (by omega)] at h3
      exact h2 ⟨hk, h3⟩
    · rw [qLay_o (by omega)] at hk
      rw [qLay_o (by omega), qLay_lt (by omega)] at h3
      exact ih t (by omega) hk h3
theorem zNx_cg {f f' : Nat → Int32} {K a : Nat} (hK : K ≤ 8) (h : ∀ j, 72 + 32 * a ≤ j → j < 72 + 32 * a + 32 → f' j = f j) (h2 : f' 2 = f 2) (hx : zNx f K a) : zNx f' K a := by
  intro t ht hk
  rw [h _ (by omega) (by omega)] at hk
  rw [h _ (by omega) (by omega), h2]
  exact hx t ht hk
theorem qLs_s {e F : Nat → Int32} {n K i : Nat} : qLs e n F K (i + 1) = qLt e n i (qLs e n F K i) K := rfl
theorem qOn_lt {f f' : Nat → Int32} {a : Nat} (ha : a < 6) (h : ∀ j, j < 72 → f' j = f j) : qOn f' a = qOn f a := by rw [qOn, qOn, h _ (by omega)]
theorem qLs_nx {e F : Nat → Int32} {n K i : Nat} (hK : K ≤ 8) (hi : i ≤ 6) : ∀ a, a < i → qOn F a = true → zNx (qLs e n F K i) K a := by
  induction i with
  | zero => exact fun a ha => absurd ha (Nat.not_lt_zero a)
  | succ i ih =>
    intro a ha hon
    rw [qLs_s]
    have honD : qOn (qLs e n F K i) a = true := by rw [qOn_lt (by omega) (fun j hj => qLs_lt hj)]; exact hon
    rcases Nat.lt_succ_iff_lt_or_eq.mp ha with h9 | rfl
    · exact zNx_cg hK (fun j h1 h2 => qLt_o hK (by omega)) (qLt_lt (by decide)) (ih (by omega) a h9 hon)
    · exact qLt_nx honD
theorem qClaim_o {f : Nat → Int32} {K a j : Nat} (hK : K ≤ 8) (hj : j < 72 + 32 * a ∨ 72 + 32 * a + 32 ≤ j) : qClaim f K a j = f j := by
  cases h1 : qNear (qOwn f a) (qFar f a) K with
  | some k =>
    have hk : k < K := (qNear_lt h1).1
    rw [qClaim, h1]
    show qLay (qKeep f a k K) _ _ _ _ _ j = _
    rw [qLay_o (by omega), qKeep_e, qErs, if_neg (by omega)]
  | none =>
    cases h2 : qNear (qFree f a) (qFar f a) K with
    | some k =>
      have hk : k < K := (qNear_lt h2).1
      rw [qClaim, h1, h2]
      show qLay f _ _ _ _ _ j = _
      rw [qLay_o (by omega)]
    | none => rw [qClaim, h1, h2]
theorem qClA_nx {f : Nat → Int32} {K a i : Nat} (hK : K ≤ 8) (hi : i ≤ a) (hx : zNx f K a) : zNx (qClA f K i) K a := by
  induction i with
  | zero => exact hx
  | succ i ih =>
    rw [qClA_s]
    split
    · exact zNx_cg hK (fun j h1 h2 => qClaim_o hK (by omega)) (qClaim_lt (by decide)) (ih (by omega))
    · exact ih (by omega)
