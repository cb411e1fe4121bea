/-! ===== the component: a world under reading ===== -/
set_option maxRecDepth 100000 in
set_option maxHeartbeats 4000000 in
theorem ct_X2_makeAllEmpty {g : zGl} {h : zHp} {b p : Nat} {d : Nat → Nat → Int32} (hp : zNo p) : zC g mX2_makeAllEmpty [.ref (b + p)] (zpT g h b d) (zTU g h b (fun D => (∀ i, i < 48 → D (p + 1) i = nI 0) ∧ ∀ c, c ≠ p + 1 → D c = d c) none) 0 0 := by
  refine zC_ofA (lv := [some (.ref (b + p)), none]) (by decide) rfl (Nat.le_of_ble_eq_true rfl) ?_
  have loop : ∀ r i D, i + r = 48 → (∀ j, j < i → D (p + 1) j = nI 0) → (∀ c, c ≠ p + 1 → D c = d c) → zA g (zZc g mX2_makeAllEmpty (zTU g h b (fun D => (∀ i, i < 48 → D (p + 1) i = nI 0) ∧ ∀ c, c ≠ p + 1 → D c = d c) none) 0 0) 0 0 2 [some (.ref (b + p)), some (.int (nI i))] [] (zpT g h b D) := by
    intro r
    induction r using Nat.strongRecOn with
    | ind r ih =>
      intro i D hi hD hO
      refine z_iload_n (q := 3) dX2_makeAllEmpty_2 rfl rfl ?_
      refine z_aload_n (q := 4) dX2_makeAllEmpty_3 rfl rfl ?_
      refine z_get (q := 7) dX2_makeAllEmpty_4 zfX2_9 (by first | exact zT_o hw | exact zT_w hw rfl | exact zT_N (zNo_w hw) | exact zT_n (zNo_w hw) (by decide) | exact zT_N hp | exact zT_n hp (by decide)) rfl rfl ?_
      refine z_alen (q := 8) dX2_makeAllEmpty_7 (by first | exact zT_o hw | exact zT_w hw rfl | exact zT_N (zNo_w hw) | exact zT_n (zNo_w hw) (by decide) | exact zT_N hp | exact zT_n hp (by decide)) rfl ?_
      refine z_icmp_geN (tg := 24) (q := 11) dX2_makeAllEmpty_8 rfl rfl (by omega) (by omega) ?_ ?_
      · intro hc8
        exact z_ret dX2_makeAllEmpty_24 rfl (⟨rfl, D, rfl, fun j hj => hD j (by omega), hO⟩)
      · intro hc8
        refine z_aload_n (q := 12) dX2_makeAllEmpty_11 rfl rfl ?_
        refine z_get (q := 15) dX2_makeAllEmpty_12 zfX2_9 (by first | exact zT_o hw | exact zT_w hw rfl | exact zT_N (zNo_w hw) | exact zT_n (zNo_w hw) (by decide) | exact zT_N hp | exact zT_n hp (by decide)) rfl rfl ?_
        refine z_iload_n (q := 16) dX2_makeAllEmpty_15 rfl rfl ?_
        refine z_iconst (q := 17) dX2_makeAllEmpty_16 zci_0 rfl ?_
        refine z_iastT (q := 18) dX2_makeAllEmpty_17 (zNo_T hp (by decide)) (by omega) rfl ?_
        refine z_iincN (q := 21) dX2_makeAllEmpty_18 rfl rfl rfl ?_
        refine z_goto (q := 0) (tg := 2) dX2_makeAllEmpty_21 rfl ?_
        refine ih (r - 1) (by omega) (i + 1) _ (by omega) (fun j hj => ?_) (fun c hc => by rw [zu_ne hc]; exact hO c hc)
        rw [zu_eq]
        by_cases hji : j = i
        · subst hji
          rw [zu_eq]
        · rw [zu_ne hji]
          exact hD j (by omega)
  refine z_iconst (q := 1) dX2_makeAllEmpty_0 zci_0 rfl ?_
  refine z_istore_n (q := 2) dX2_makeAllEmpty_1 (Nat.le_of_ble_eq_true rfl) rfl rfl ?_
  exact loop 48 0 d (by omega) (fun j hj => absurd hj (Nat.not_lt_zero j)) (fun c _ => rfl)
/-- the row is empty behind its agents and tasks, all notes are empty -/
def zRb (d : Nat → Nat → Int32) (o : Nat) (f : Nat → Int32) (n K : Nat) : Prop :=
  zR d o f n K ∧ (∀ i, i < 48 → d (o + 10 + 1) i = nI 0 ∧ f (72 + 4 * i) = nI 0) ∧ (∀ a, n ≤ a → a < 6 → f (4 + 6 * a + 4) = nI 0 ∧ f (4 + 6 * a + 5) = nI 0) ∧ (∀ t, K ≤ t → t < 8 → f (40 + 4 * t + 3) = nI 0)
theorem nI01 : ¬ nI 0 = nI 1 := by decide
theorem zRb_0 {D : Nat → Nat → Int32} {o : Nat} {x : Int32} (h0 : D o 0 = nI 0) (h1 : D o 1 = nI 0) (h2 : D o 2 = x) (h3 : D o 3 = nI 0) (h4 : D o 4 = nI 0) (h5 : ∀ i, i < 48 → D (o + 10 + 1) i = nI 0) : zRb D o (va_up qZero 3 x) 0 0 := by
  refine ⟨⟨⟨by decide, by decide, rfl, rfl, fun a ha => by omega, fun t ht => by omega, fun a ha => by omega⟩, h0, h1, h2, h3, ⟨0, by decide, h4, fun a ha => by omega⟩, fun a ha => by omega, fun t ht => by omega, fun a ha => by omega⟩, fun i hi => ⟨h5 i hi, ?_⟩, fun a _ _ => ⟨?_, ?_⟩, fun t _ _ => ?_⟩
  all_goals
    rw [zu_ne (by omega)]
    rfl
set_option maxRecDepth 100000 in
set_option maxHeartbeats 4000000 in
theorem ct_X6_makeBare {g : zGl} {h : zHp} {b o : Nat} {x : Int32} {d : Nat → Nat → Int32} (hw : zWo o) : zC g mX6_makeBare [.ref (b + o), .int x] (zpT g h b d) (zTU g h b (fun D => zRb D o (va_up qZero 3 x) 0 0 ∧ zOut d D o 15) none) 0 0 := by
  refine zC_ofA (lv := [some (.ref (b + o)), some (.int x)]) (by decide) rfl (Nat.le_of_ble_eq_true rfl) ?_
  refine z_aload_n (q := 1) dX6_makeBare_0 rfl rfl ?_
  refine z_iconst (q := 2) dX6_makeBare_1 zci_0 rfl ?_
  refine z_putT (q := 5) hw dX6_makeBare_2 zfX6_50 (by decide) rfl ?_
  refine z_aload_n (q := 6) dX6_makeBare_5 rfl rfl ?_
  refine z_iconst (q := 7) dX6_makeBare_6 zci_0 rfl ?_
  refine z_putT (q := 10) hw dX6_makeBare_7 zfX6_53 (by decide) rfl ?_
  refine z_aload_n (q := 11) dX6_makeBare_10 rfl rfl ?_
  refine z_iload_n (q := 12) dX6_makeBare_11 rfl rfl ?_
  refine z_putT (q := 15) hw dX6_makeBare_12 zfX6_9 (by decide) rfl ?_
  refine z_aload_n (q := 16) dX6_makeBare_15 rfl rfl ?_
  refine z_iconst (q := 17) dX6_makeBare_16 zci_0 rfl ?_
  refine z_putT (q := 20) hw dX6_makeBare_17 zfX6_56 (by decide) rfl ?_
  refine z_aload_n (q := 21) dX6_makeBare_20 rfl rfl ?_
  refine z_iconst (q := 22) dX6_makeBare_21 zci_0 rfl ?_
  refine z_putT (q := 25) hw dX6_makeBare_22 zfX6_59 (by decide) rfl ?_
  refine z_aload_n (q := 26) dX6_makeBare_25 rfl rfl ?_
  refine z_get (q := 29) dX6_makeBare_26 zfX6_46 (by first | exact zT_o hw | exact zT_w hw rfl | exact zT_N (zNo_w hw) | exact zT_n (zNo_w hw) (by decide) | exact zT_N hp | exact zT_n hp (by decide)) rfl rfl ?_
  refine z_V0 (q := 32) dX6_makeBare_29 zkX6_72 zt_mX2_makeAllEmpty rfl (by first | exact zT_o hw | exact zT_w hw rfl | exact zT_N (zNo_w hw) | exact zT_n (zNo_w hw) (by decide) | exact zT_N hp | exact zT_n hp (by decide)) rfl (Nat.le_of_ble_eq_true rfl) (ct_X2_makeAllEmpty (zNo_w hw)) (Nat.zero_le _) (Nat.zero_le _) rfl ?_
  rintro _ _ ⟨rfl, D, rfl, hD, hO⟩
  have eo : D o = va_up (va_up (va_up (va_up (va_up (d o) 0 (nI 0)) 1 (nI 0)) 2 x) 3 (nI 0)) 4 (nI 0) := by
    rw [hO o (by omega)]
    simp only [zu_eq, zu_up]
  exact z_ret dX6_makeBare_32 rfl (⟨rfl, D, rfl, zRb_0 (by rw [eo]; rfl) (by rw [eo]; rfl) (by rw [eo]; rfl) (by rw [eo]; rfl) (by rw [eo]; rfl) hD, fun c hc => by rw [hO c (by omega), zu_ne (by omega), zu_ne (by omega), zu_ne (by omega), zu_ne (by omega), zu_ne (by omega)]⟩)
theorem qAddA_o {R : Nat → Int32} {k x y r j : Nat} (h0 : j ≠ 0) (h : j < 4 + 6 * k ∨ 4 + 6 * k + 4 ≤ j) : qAddA R k x y r j = R j := by
  unfold qAddA
  rw [zu_ne (by omega), zu_ne (by omega), zu_ne (by omega), zu_ne (by omega), zu_ne (by omega)]
theorem qAddA_v {R : Nat → Int32} {k x y r : Nat} : qAddA R k x y r 0 = nI (k + 1) ∧ qAddA R k x y r (4 + 6 * k) = nI x ∧ qAddA R k x y r (4 + 6 * k + 1) = nI y ∧ qAddA R k x y r (4 + 6 * k + 2) = nI r ∧ qAddA R k x y r (4 + 6 * k + 3) = nI 1 := by
  unfold qAddA
  refine ⟨?_, ?_, ?_, ?_, ?_⟩
  · rw [zu_eq]
  · rw [zu_ne (by omega), zu_ne (by omega), zu_ne (by omega), zu_ne (by omega), zu_eq]
  · rw [zu_ne (by omega), zu_ne (by omega), zu_ne (by omega), zu_eq]
  · rw [zu_ne (by omega), zu_ne (by omega), zu_eq]
  · rw [zu_ne (by omega), zu_eq]
theorem qAddT_o {R : Nat → Int32} {k x y r j : Nat} (h0 : j ≠ 1) (h : j < 40 + 4 * k ∨ 40 + 4 * k + 3 ≤ j) : qAddT R k x y r j = R j := by
  unfold qAddT
  rw [zu_ne (by omega), zu_ne (by omega), zu_ne (by omega), zu_ne (by omega)]
theorem qAddT_v {R : Nat → Int32} {k x y r : Nat} : qAddT R k x y r 1 = nI (k + 1) ∧ qAddT R k x y r (40 + 4 * k) = nI x ∧ qAddT R k x y r (40 + 4 * k + 1) = nI y ∧ qAddT R k x y r (40 + 4 * k + 2) = nI r := by
  unfold qAddT
  refine ⟨?_, ?_, ?_, ?_⟩
  · rw [zu_eq]
  · rw [zu_ne (by omega), zu_ne (by omega), zu_ne (by omega), zu_eq]
  · rw [zu_ne (by omega), zu_ne (by omega), zu_eq]
  · rw [zu_ne (by omega), zu_eq]
theorem zPl_up {x : Int32} {n m : Nat} (h : zPl x n) (hm : n ≤ m) : zPl x m := by
  obtain ⟨p, hp, e⟩ := h
  exact ⟨p, by omega, e⟩
theorem zRb_A {d D : Nat → Nat → Int32} {o n K x y r S : Nat} {R : Nat → Int32} (h : zRb d o R n K) (hn : n < 6) (hx : x < 12) (hy : y < 12) (hr : r < 23) (hS : d o 4 = nI S) (hS2 : S < 2 ^ n) (hSb : ∀ a, a < n → S.testBit a = qOn R a)
    (e0 : D o = va_up (va_up (d o) 4 (nI (S ||| 2 ^ n))) 0 (nI (n + 1))) (e1 : D (o + 1) = va_up (d (o + 1)) n (nI x)) (e2 : D (o + 2) = va_up (d (o + 2)) n (nI y)) (e3 : D (o + 3) = va_up (d (o + 3)) n (nI r)) (e4 : D (o + 4) = va_up (d (o + 4)) n (nI 0)) (e5 : D (o + 5) = va_up (d (o + 5)) n (nI 0)) (e6 : ∀ c, 6 ≤ c → D (o + c) = d (o + c)) : zRb D o (qAddA R n x y r) (n + 1) K := by
  obtain ⟨⟨⟨a1, a2, a3, a4, a5, a6, a7⟩, b0, b1, b2, b3, -, b5, b6, b7⟩, hE, hA, hT⟩ := h
  obtain ⟨v0, v1, v2, v3, v4⟩ := qAddA_v (R := R) (k := n) (x := x) (y := y) (r := r)
  have lo : ∀ a j, a < n → j < 6 → qAddA R n x y r (4 + 6 * a + j) = R (4 + 6 * a + j) := fun a j ha hj => qAddA_o (by omega) (by omega)
  have up : ∀ j, 40 ≤ j → qAddA R n x y r j = R j := fun j hj => qAddA_o (by omega) (by omega)
  have w4 : qAddA R n x y r (4 + 6 * n + 4) = nI 0 := (qAddA_o (by omega) (by omega)).trans (hA n (Nat.le_refl n) hn).1
  have w5 : qAddA R n x y r (4 + 6 * n + 5) = nI 0 := (qAddA_o (by omega) (by omega)).trans (hA n (Nat.le_refl n) hn).2
  have on1 : ∀ a, a < n → qOn (qAddA R n x y r) a = qOn R a := fun a ha => by rw [qOn, qOn, lo a 3 ha (by decide)]
  refine ⟨⟨⟨by omega, a2, v0, by rw [qAddA_1 hn]; exact a4, fun a ha => ?_, fun t ht => ?_, fun a ha t ht => ?_⟩, ?_, ?_, ?_, ?_, ⟨S ||| 2 ^ n, ?_, ?_, fun a ha => ?_⟩, fun a ha => ?_, fun t ht => ?_, fun a ha t ht => ?_⟩, fun i hi => ⟨?_, ?_⟩, fun a g1 g2 => ⟨?_, ?_⟩, fun t g1 g2 => ?_⟩
  · rcases Nat.lt_succ_iff_lt_or_eq.mp ha with h9 | rfl
    · have q := a5 a h9
      have p0 := lo a 0 h9 (by decide)
      rw [Nat.add_zero] at p0
      rw [p0, lo a 1 h9 (by decide), lo a 2 h9 (by decide), lo a 3 h9 (by decide)]
      exact q
    · rw [v1, v2, v3, v4]
      exact ⟨⟨x, hx, rfl⟩, ⟨y, hy, rfl⟩, ⟨r, hr, rfl⟩, ⟨1, by decide, rfl⟩⟩
  · rw [up _ (by omega), up _ (by omega)]
    exact a6 t ht
  · rw [up _ (by omega), up _ (by omega)]
    rcases Nat.lt_succ_iff_lt_or_eq.mp ha with h9 | rfl
    · exact ⟨(a7 a h9 t ht).1, fun hk => zPl_up ((a7 a h9 t ht).2 hk) (by omega)⟩
    · have hz := (hE (8 * a + t) (by omega)).2
      rw [hz]
      exact ⟨⟨0, by decide, rfl⟩, fun hk => absurd hk nI01⟩
  · rw [e0, zu_eq]
  · rw [e0, zu_ne (by decide), zu_ne (by decide)]
    exact b1
  · rw [e0, zu_ne (by decide), zu_ne (by decide), qAddA_o (by decide) (by omega)]
    exact b2
  · rw [e0, zu_ne (by decide), zu_ne (by decide), qAddA_o (by decide) (by omega)]
    exact b3
  · exact Nat.or_lt_two_pow (Nat.lt_of_lt_of_le hS2 (Nat.pow_le_pow_right (by decide) (by omega))) (Nat.pow_lt_pow_right (by decide) (by omega))
  · rw [e0, zu_ne (by decide), zu_eq]
  · rw [Nat.testBit_or, Nat.testBit_two_pow]
    rcases Nat.lt_succ_iff_lt_or_eq.mp ha with h9 | rfl
    · rw [hSb a h9, on1 a h9, decide_eq_false (show ¬ n = a by omega), Bool.or_false]
    · rw [decide_eq_true rfl, Bool.or_true, qOn, v4]
      rfl
  · rw [e1, e2, e3, e4, e5]
    rcases Nat.lt_succ_iff_lt_or_eq.mp ha with h9 | rfl
    · have q := b5 a h9
      have p0 := lo a 0 h9 (by decide)
      rw [Nat.add_zero] at p0
      rw [p0, lo a 1 h9 (by decide), lo a 2 h9 (by decide), lo a 4 h9 (by decide), lo a 5 h9 (by decide), zu_ne (by omega), zu_ne (by omega), zu_ne (by omega), zu_ne (by omega), zu_ne (by omega)]
      exact q
    · rw [v1, v2, v3, w4, w5, zu_eq, zu_eq, zu_eq, zu_eq, zu_eq]
      exact ⟨rfl, rfl, rfl, rfl, rfl⟩
  · rw [e6 6 (by decide), e6 7 (by decide), e6 8 (by decide), e6 9 (by decide), up _ (by omega), up _ (by omega), up _ (by omega), up _ (by omega)]
    exact b6 t ht
  · have g1 : ∀ c, D (o + 10 + c) = d (o + 10 + c) := fun c => by
      rw [Nat.add_assoc]
      exact e6 _ (by omega)
    rw [zRn, g1 1, g1 2, g1 3, g1 4, up _ (by omega), up _ (by omega), up _ (by omega), up _ (by omega)]
    rcases Nat.lt_succ_iff_lt_or_eq.mp ha with h9 | rfl
    · exact b7 a h9 t ht
    · obtain ⟨z1, z2⟩ := hE (8 * a + t) (by omega)
      rw [z1, z2]
      exact ⟨rfl, fun hk => absurd hk nI01⟩
  · rw [Nat.add_assoc, e6 _ (by decide)]
    exact (hE i hi).1
  · rw [up _ (by omega)]
    exact (hE i hi).2
  · rw [qAddA_o (by omega) (by omega)]
    exact (hA a (by omega) g2).1
  · rw [qAddA_o (by omega) (by omega)]
    exact (hA a (by omega) g2).2
  · rw [up _ (by omega)]
    exact hT t g1 g2
theorem zRb_T {d D : Nat → Nat → Int32} {o n K x y r : Nat} {R : Nat → Int32} (h : zRb d o R n K) (hK : K < 8) (hx : x < 12) (hy : y < 12)
    (e0 : D o = va_up (d o) 1 (nI (K + 1))) (e6 : D (o + 6) = va_up (d (o + 6)) K (nI x)) (e7 : D (o + 7) = va_up (d (o + 7)) K (nI y)) (e8 : D (o + 8) = va_up (d (o + 8)) K (nI r)) (e9 : D (o + 9) = va_up (d (o + 9)) K (nI 0)) (e1 : ∀ c, 1 ≤ c → c ≤ 5 → D (o + c) = d (o + c)) (e10 : ∀ c, 10 ≤ c → D (o + c) = d (o + c)) : zRb D o (qAddT R K x y r) n (K + 1) := by
  obtain ⟨⟨⟨a1, a2, a3, a4, a5, a6, a7⟩, b0, b1, b2, b3, ⟨S, s1, s2, s3⟩, b5, b6, b7⟩, hE, hA, hT⟩ := h
  obtain ⟨v0, v1, v2, v3⟩ := qAddT_v (R := R) (k := K) (x := x) (y := y) (r := r)
  have lo : ∀ j, j ≠ 1 → j < 40 → qAddT R K x y r j = R j := fun j h1 hj => qAddT_o h1 (by omega)
  have mi : ∀ t j, t < K → j < 4 → qAddT R K x y r (40 + 4 * t + j) = R (40 + 4 * t + j) := fun t j ht hj => qAddT_o (by omega) (by omega)
  have up : ∀ j, 72 ≤ j → qAddT R K x y r j = R j := fun j hj => qAddT_o (by omega) (by omega)
  have w3 : qAddT R K x y r (40 + 4 * K + 3) = nI 0 := (qAddT_o (by omega) (by omega)).trans (hT K (Nat.le_refl K) hK)
  refine ⟨⟨⟨a1, by omega, by rw [lo 0 (by decide) (by decide)]; exact a3, v0, fun a ha => ?_, fun t ht => ?_, fun a ha t ht => ?_⟩, ?_, ?_, ?_, ?_, ⟨S, s1, ?_, fun a ha => ?_⟩, fun a ha => ?_, fun t ht => ?_, fun a ha t ht => ?_⟩, fun i hi => ⟨?_, ?_⟩, fun a g1 g2 => ⟨?_, ?_⟩, fun t g1 g2 => ?_⟩
  · rw [lo _ (by omega) (by omega), lo _ (by omega) (by omega), lo _ (by omega) (by omega), lo _ (by omega) (by omega)]
    exact a5 a ha
  · rcases Nat.lt_succ_iff_lt_or_eq.mp ht with h9 | rfl
    · have p0 := mi t 0 h9 (by decide)
      rw [Nat.add_zero] at p0
      rw [p0, mi t 1 h9 (by decide)]
      exact a6 t h9
    · rw [v1, v2]
      exact ⟨⟨x, hx, rfl⟩, ⟨y, hy, rfl⟩⟩
  · rw [up _ (by omega), up _ (by omega)]
    rcases Nat.lt_succ_iff_lt_or_eq.mp ht with h9 | rfl
    · exact a7 a ha t h9
    · rw [(hE (8 * a + t) (by omega)).2]
      exact ⟨⟨0, by decide, rfl⟩, fun hk => absurd hk nI01⟩
  · rw [e0, zu_ne (by decide)]
    exact b0
  · rw [e0, zu_eq]
  · rw [e0, zu_ne (by decide), lo 3 (by decide) (by decide)]
    exact b2
  · rw [e0, zu_ne (by decide), lo 2 (by decide) (by decide)]
    exact b3
  · rw [e0, zu_ne (by decide)]
    exact s2
  · rw [s3 a ha, qOn, qOn, lo _ (by omega) (by omega)]
  · rw [e1 1 (by decide) (by decide), e1 2 (by decide) (by decide), e1 3 (by decide) (by decide), e1 4 (by decide) (by decide), e1 5 (by decide) (by decide), lo _ (by omega) (by omega), lo _ (by omega) (by omega), lo _ (by omega) (by omega), lo _ (by omega) (by omega), lo _ (by omega) (by omega)]
    exact b5 a ha
  · rw [e6, e7, e8, e9]
    rcases Nat.lt_succ_iff_lt_or_eq.mp ht with h9 | rfl
    · have p0 := mi t 0 h9 (by decide)
      rw [Nat.add_zero] at p0
      rw [p0, mi t 1 h9 (by decide), mi t 2 h9 (by decide), mi t 3 h9 (by decide), zu_ne (by omega), zu_ne (by omega), zu_ne (by omega), zu_ne (by omega)]
      exact b6 t h9
    · rw [v1, v2, v3, w3, zu_eq, zu_eq, zu_eq, zu_eq]
      exact ⟨rfl, rfl, rfl, rfl⟩
  · have g1 : ∀ c, D (o + 10 + c) = d (o + 10 + c) := fun c => by
      rw [Nat.add_assoc]
      exact e10 _ (by omega)
    rw [zRn, g1 1, g1 2, g1 3, g1 4, up _ (by omega), up _ (by omega), up _ (by omega), up _ (by omega)]
    rcases Nat.lt_succ_iff_lt_or_eq.mp ht with h9 | rfl
    · exact b7 a ha t h9
    · obtain ⟨z1, z2⟩ := hE (8 * a + t) (by omega)
      rw [z1, z2]
      exact ⟨rfl, fun hk => absurd hk nI01⟩
  · rw [Nat.add_assoc, e10 _ (by decide)]
    exact (hE i hi).1
  · rw [up _ (by omega)]
    exact (hE i hi).2
  · rw [lo _ (by omega) (by omega)]
    exact (hA a g1 g2).1
  · rw [lo _ (by omega) (by omega)]
    exact (hA a g1 g2).2
  · rw [qAddT_o (by omega) (by omega)]
    exact hT t (by omega) g2
set_option maxRecDepth 100000 in
set_option maxHeartbeats 4000000 in
theorem ct_X6_addAgent {g : zGl} {h : zHp} {b o n K x y r : Nat} {d : Nat → Nat → Int32} {R : Nat → Int32} (hw : zWo o) (hR : zRb d o R n K) (hn : n < 6) (hx : x < 12) (hy : y < 12) (hr : r < 23) : zC g mX6_addAgent [.ref (b + o), .int (nI x), .int (nI y), .int (nI r)] (zpT g h b d) (zTU g h b (fun D => zRb D o (qAddA R n x y r) (n + 1) K ∧ zOut d D o 15) none) 0 0 := by
  obtain ⟨S, hS, h4, hb⟩ := zR_S hR.1
  refine zC_ofA (lv := [some (.ref (b + o)), some (.int (nI x)), some (.int (nI y)), some (.int (nI r)), none]) (by decide) rfl (Nat.le_of_ble_eq_true rfl) ?_
  refine z_aload_n (q := 1) dX6_addAgent_0 rfl rfl ?_
  refine z_get (q := 4) dX6_addAgent_1 zfX6_50 (by first | exact zT_o hw | exact zT_w hw rfl | exact zT_N (zNo_w hw) | exact zT_n (zNo_w hw) (by decide) | exact zT_N hp | exact zT_n hp (by decide)) rfl rfl ?_
  refine z_eqi (zR_0 hR.1) ?_
  refine z_istore (q := 6) dX6_addAgent_4 (Nat.le_of_ble_eq_true rfl) rfl rfl ?_
  refine z_iload (q := 8) dX6_addAgent_6 rfl rfl ?_
  refine z_bipush (q := 10) dX6_addAgent_8 zcb_6 rfl ?_
  refine z_icmp_ltN (tg := 14) (q := 13) dX6_addAgent_10 rfl rfl (by omega) (by omega) ?_ ?_
  · intro hc10
    refine z_aload_n (q := 15) dX6_addAgent_14 rfl rfl ?_
    refine z_get (q := 18) dX6_addAgent_15 zfX6_15 (by first | exact zT_o hw | exact zT_w hw rfl | exact zT_N (zNo_w hw) | exact zT_n (zNo_w hw) (by decide) | exact zT_N hp | exact zT_n hp (by decide)) rfl rfl ?_
    refine z_iload (q := 20) dX6_addAgent_18 rfl rfl ?_
    refine z_iload_n (q := 21) dX6_addAgent_20 rfl rfl ?_
    refine z_iastT (q := 22) dX6_addAgent_21 (zWl_T hw rfl) (by omega) rfl ?_
    refine z_aload_n (q := 23) dX6_addAgent_22 rfl rfl ?_
    refine z_get (q := 26) dX6_addAgent_23 zfX6_19 (by first | exact zT_o hw | exact zT_w hw rfl | exact zT_N (zNo_w hw) | exact zT_n (zNo_w hw) (by decide) | exact zT_N hp | exact zT_n hp (by decide)) rfl rfl ?_
    refine z_iload (q := 28) dX6_addAgent_26 rfl rfl ?_
    refine z_iload_n (q := 29) dX6_addAgent_28 rfl rfl ?_
    refine z_iastT (q := 30) dX6_addAgent_29 (zWl_T hw rfl) (by omega) rfl ?_
    refine z_aload_n (q := 31) dX6_addAgent_30 rfl rfl ?_
    refine z_get (q := 34) dX6_addAgent_31 zfX6_22 (by first | exact zT_o hw | exact zT_w hw rfl | exact zT_N (zNo_w hw) | exact zT_n (zNo_w hw) (by decide) | exact zT_N hp | exact zT_n hp (by decide)) rfl rfl ?_
    refine z_iload (q := 36) dX6_addAgent_34 rfl rfl ?_
    refine z_iload_n (q := 37) dX6_addAgent_36 rfl rfl ?_
    refine z_iastT (q := 38) dX6_addAgent_37 (zWl_T hw rfl) (by omega) rfl ?_
    refine z_aload_n (q := 39) dX6_addAgent_38 rfl rfl ?_
    refine z_get (q := 42) dX6_addAgent_39 zfX6_25 (by first | exact zT_o hw | exact zT_w hw rfl | exact zT_N (zNo_w hw) | exact zT_n (zNo_w hw) (by decide) | exact zT_N hp | exact zT_n hp (by decide)) rfl rfl ?_
    refine z_iload (q := 44) dX6_addAgent_42 rfl rfl ?_
    refine z_iconst (q := 45) dX6_addAgent_44 zci_0 rfl ?_
    refine z_iastT (q := 46) dX6_addAgent_45 (zWl_T hw rfl) (by omega) rfl ?_
    refine z_aload_n (q := 47) dX6_addAgent_46 rfl rfl ?_
    refine z_get (q := 50) dX6_addAgent_47 zfX6_28 (by first | exact zT_o hw | exact zT_w hw rfl | exact zT_N (zNo_w hw) | exact zT_n (zNo_w hw) (by decide) | exact zT_N hp | exact zT_n hp (by decide)) rfl rfl ?_
    refine z_iload (q := 52) dX6_addAgent_50 rfl rfl ?_
    refine z_iconst (q := 53) dX6_addAgent_52 zci_0 rfl ?_
    refine z_iastT (q := 54) dX6_addAgent_53 (zWl_T hw rfl) (by omega) rfl ?_
    refine z_aload_n (q := 55) dX6_addAgent_54 rfl rfl ?_
    refine z_dup (q := 56) dX6_addAgent_55 rfl rfl ?_
    refine z_get (q := 59) dX6_addAgent_56 zfX6_59 (by first | exact zT_o hw | exact zT_w hw rfl | exact zT_N (zNo_w hw) | exact zT_n (zNo_w hw) (by decide) | exact zT_N hp | exact zT_n hp (by decide)) rfl rfl ?_
    refine z_eqi (show _ = nI S by rw [zu_ne (by omega), zu_ne (by omega), zu_ne (by omega), zu_ne (by omega), zu_ne (by omega)]; exact h4) ?_
    refine z_iconst (q := 60) dX6_addAgent_59 zci_1 rfl ?_
    refine z_iload (q := 62) dX6_addAgent_60 rfl rfl ?_
    refine z_ishl (q := 63) dX6_addAgent_62 rfl ?_
    refine z_eqi (nI_shl (by omega)) ?_
    refine z_ior (q := 64) dX6_addAgent_63 rfl ?_
    refine z_eqi (nI_or _ _) ?_
    refine z_putT (q := 67) hw dX6_addAgent_64 zfX6_59 (by decide) rfl ?_
    refine z_aload_n (q := 68) dX6_addAgent_67 rfl rfl ?_
    refine z_iload (q := 70) dX6_addAgent_68 rfl rfl ?_
    refine z_iconst (q := 71) dX6_addAgent_70 zci_1 rfl ?_
    refine z_iaddN (q := 72) dX6_addAgent_71 rfl ?_
    refine z_putT (q := 75) hw dX6_addAgent_72 zfX6_50 (by decide) rfl ?_
    exact z_ret dX6_addAgent_75 rfl (⟨rfl, _, rfl, zRb_A hR hn hx hy hr h4 hS hb (by simp (disch := omega) only [zu_eq, zu_ne]) (by simp (disch := omega) only [zu_eq, zu_ne]) (by simp (disch := omega) only [zu_eq, zu_ne]) (by simp (disch := omega) only [zu_eq, zu_ne]) (by simp (disch := omega) only [zu_eq, zu_ne]) (by simp (disch := omega) only [zu_eq, zu_ne]) (fun c hc => by simp (disch := omega) only [zu_eq, zu_ne]), fun c hc => by simp (disch := omega) only [zu_eq, zu_ne]⟩)
  · intro hc10
    omega
set_option maxRecDepth 100000 in
set_option maxHeartbeats 4000000 in
theorem ct_X6_addTask {g : zGl} {h : zHp} {b o n K x y r : Nat} {d : Nat → Nat → Int32} {R : Nat → Int32} (hw : zWo o) (hR : zRb d o R n K) (hK : K < 8) (hx : x < 12) (hy : y < 12) : zC g mX6_addTask [.ref (b + o), .int (nI x), .int (nI y), .int (nI r)] (zpT g h b d) (zTU g h b (fun D => zRb D o (qAddT R K x y r) n (K + 1) ∧ zOut d D o 15) none) 0 0 := by
  refine zC_ofA (lv := [some (.ref (b + o)), some (.int (nI x)), some (.int (nI y)), some (.int (nI r)), none]) (by decide) rfl (Nat.le_of_ble_eq_true rfl) ?_
  refine z_aload_n (q := 1) dX6_addTask_0 rfl rfl ?_
  refine z_get (q := 4) dX6_addTask_1 zfX6_53 (by first | exact zT_o hw | exact zT_w hw rfl | exact zT_N (zNo_w hw) | exact zT_n (zNo_w hw) (by decide) | exact zT_N hp | exact zT_n hp (by decide)) rfl rfl ?_
  refine z_eqi (zR_1 hR.1) ?_
  refine z_istore (q := 6) dX6_addTask_4 (Nat.le_of_ble_eq_true rfl) rfl rfl ?_
  refine z_iload (q := 8) dX6_addTask_6 rfl rfl ?_
  refine z_bipush (q := 10) dX6_addTask_8 zcb_8 rfl ?_
  refine z_icmp_ltN (tg := 14) (q := 13) dX6_addTask_10 rfl rfl (by omega) (by omega) ?_ ?_
  · intro hc10
    refine z_aload_n (q := 15) dX6_addTask_14 rfl rfl ?_
    refine z_get (q := 18) dX6_addTask_15 zfX6_31 (by first | exact zT_o hw | exact zT_w hw rfl | exact zT_N (zNo_w hw) | exact zT_n (zNo_w hw) (by decide) | exact zT_N hp | exact zT_n hp (by decide)) rfl rfl ?_
    refine z_iload (q := 20) dX6_addTask_18 rfl rfl ?_
    refine z_iload_n (q := 21) dX6_addTask_20 rfl rfl ?_
    refine z_iastT (q := 22) dX6_addTask_21 (zWl_T hw rfl) (by omega) rfl ?_
    refine z_aload_n (q := 23) dX6_addTask_22 rfl rfl ?_
    refine z_get (q := 26) dX6_addTask_23 zfX6_34 (by first | exact zT_o hw | exact zT_w hw rfl | exact zT_N (zNo_w hw) | exact zT_n (zNo_w hw) (by decide) | exact zT_N hp | exact zT_n hp (by decide)) rfl rfl ?_
    refine z_iload (q := 28) dX6_addTask_26 rfl rfl ?_
    refine z_iload_n (q := 29) dX6_addTask_28 rfl rfl ?_
    refine z_iastT (q := 30) dX6_addTask_29 (zWl_T hw rfl) (by omega) rfl ?_
    refine z_aload_n (q := 31) dX6_addTask_30 rfl rfl ?_
    refine z_get (q := 34) dX6_addTask_31 zfX6_37 (by first | exact zT_o hw | exact zT_w hw rfl | exact zT_N (zNo_w hw) | exact zT_n (zNo_w hw) (by decide) | exact zT_N hp | exact zT_n hp (by decide)) rfl rfl ?_
    refine z_iload (q := 36) dX6_addTask_34 rfl rfl ?_
    refine z_iload_n (q := 37) dX6_addTask_36 rfl rfl ?_
    refine z_iastT (q := 38) dX6_addTask_37 (zWl_T hw rfl) (by omega) rfl ?_
    refine z_aload_n (q := 39) dX6_addTask_38 rfl rfl ?_
    refine z_get (q := 42) dX6_addTask_39 zfX6_40 (by first | exact zT_o hw | exact zT_w hw rfl | exact zT_N (zNo_w hw) | exact zT_n (zNo_w hw) (by decide) | exact zT_N hp | exact zT_n hp (by decide)) rfl rfl ?_
    refine z_iload (q := 44) dX6_addTask_42 rfl rfl ?_
    refine z_iconst (q := 45) dX6_addTask_44 zci_0 rfl ?_
    refine z_iastT (q := 46) dX6_addTask_45 (zWl_T hw rfl) (by omega) rfl ?_
    refine z_aload_n (q := 47) dX6_addTask_46 rfl rfl ?_
    refine z_iload (q := 49) dX6_addTask_47 rfl rfl ?_
    refine z_iconst (q := 50) dX6_addTask_49 zci_1 rfl ?_
    refine z_iaddN (q := 51) dX6_addTask_50 rfl ?_
    refine z_putT (q := 54) hw dX6_addTask_51 zfX6_53 (by decide) rfl ?_
    exact z_ret dX6_addTask_54 rfl (⟨rfl, _, rfl, zRb_T hR hK hx hy (by simp (disch := omega) only [zu_eq, zu_ne]) (by simp (disch := omega) only [zu_eq, zu_ne]) (by simp (disch := omega) only [zu_eq, zu_ne]) (by simp (disch := omega) only [zu_eq, zu_ne]) (by simp (disch := omega) only [zu_eq, zu_ne]) (fun c g1 g2 => by simp (disch := omega) only [zu_eq, zu_ne]) (fun c hc => by simp (disch := omega) only [zu_eq, zu_ne]), fun c hc => by simp (disch := omega) only [zu_eq, zu_ne]⟩)
  · intro hc10
    omega
