/-! ===== the component: a world against a row of the reference ===== -/
def zPl (x : Int32) (N : Nat) : Prop := ∃ p, p < N ∧ x = nI p
/-- what holds of a row: its bounds -/
def zWF (f : Nat → Int32) (n K : Nat) : Prop :=
  n ≤ 6 ∧ K ≤ 8 ∧ f 0 = nI n ∧ f 1 = nI K ∧
  (∀ a, a < n → zPl (f (4 + 6 * a)) 12 ∧ zPl (f (4 + 6 * a + 1)) 12 ∧ zPl (f (4 + 6 * a + 2)) 23 ∧ zPl (f (4 + 6 * a + 3)) 2) ∧
  (∀ t, t < K → zPl (f (40 + 4 * t)) 12 ∧ zPl (f (40 + 4 * t + 1)) 12) ∧
  (∀ a, a < n → ∀ t, t < K → zPl (f (72 + 4 * (8 * a + t))) 3 ∧ (f (72 + 4 * (8 * a + t)) = nI 1 → zPl (f (72 + 4 * (8 * a + t) + 1)) n))
/-- a note of a world, a note of the row -/
def zRn (d : Nat → Nat → Int32) (p : Nat) (f : Nat → Int32) (i : Nat) : Prop :=
  d (p + 1) i = f (72 + 4 * i) ∧ (f (72 + 4 * i) = nI 1 → d (p + 2) i = f (72 + 4 * i + 1) ∧ d (p + 3) i = f (72 + 4 * i + 2) ∧ d (p + 4) i = f (72 + 4 * i + 3))
/-- the world at o says the same as the row f -/
def zRl (d : Nat → Nat → Int32) (o : Nat) (f : Nat → Int32) (n K : Nat) : Prop :=
  d o 0 = nI n ∧ d o 1 = nI K ∧ d o 2 = f 3 ∧ d o 3 = f 2 ∧
  (∃ S, S < 2 ^ n ∧ d o 4 = nI S ∧ ∀ a, a < n → S.testBit a = qOn f a) ∧
  (∀ a, a < n → d (o + 1) a = f (4 + 6 * a) ∧ d (o + 2) a = f (4 + 6 * a + 1) ∧ d (o + 3) a = f (4 + 6 * a + 2) ∧ d (o + 4) a = f (4 + 6 * a + 4) ∧ d (o + 5) a = f (4 + 6 * a + 5)) ∧
  (∀ t, t < K → d (o + 6) t = f (40 + 4 * t) ∧ d (o + 7) t = f (40 + 4 * t + 1) ∧ d (o + 8) t = f (40 + 4 * t + 2) ∧ d (o + 9) t = f (40 + 4 * t + 3)) ∧
  (∀ a, a < n → ∀ t, t < K → zRn d (o + 10) f (8 * a + t))
def zR (d : Nat → Nat → Int32) (o : Nat) (f : Nat → Int32) (n K : Nat) : Prop := zWF f n K ∧ zRl d o f n K
theorem zR_n6 {d : Nat → Nat → Int32} {o n K : Nat} {f : Nat → Int32} (h : zR d o f n K) : n ≤ 6 := h.1.1
theorem zR_K8 {d : Nat → Nat → Int32} {o n K : Nat} {f : Nat → Int32} (h : zR d o f n K) : K ≤ 8 := h.1.2.1
theorem zR_f0 {d : Nat → Nat → Int32} {o n K : Nat} {f : Nat → Int32} (h : zR d o f n K) : f 0 = nI n := h.1.2.2.1
theorem zR_f1 {d : Nat → Nat → Int32} {o n K : Nat} {f : Nat → Int32} (h : zR d o f n K) : f 1 = nI K := h.1.2.2.2.1
theorem zR_0 {d : Nat → Nat → Int32} {o n K : Nat} {f : Nat → Int32} (h : zR d o f n K) : d o 0 = nI n := h.2.1
theorem zR_1 {d : Nat → Nat → Int32} {o n K : Nat} {f : Nat → Int32} (h : zR d o f n K) : d o 1 = nI K := h.2.2.1
theorem zR_2 {d : Nat → Nat → Int32} {o n K : Nat} {f : Nat → Int32} (h : zR d o f n K) : d o 2 = f 3 := h.2.2.2.1
theorem zR_3 {d : Nat → Nat → Int32} {o n K : Nat} {f : Nat → Int32} (h : zR d o f n K) : d o 3 = f 2 := h.2.2.2.2.1
theorem zR_S {d : Nat → Nat → Int32} {o n K : Nat} {f : Nat → Int32} (h : zR d o f n K) : ∃ S, S < 2 ^ n ∧ d o 4 = nI S ∧ ∀ a, a < n → S.testBit a = qOn f a := h.2.2.2.2.2.1
theorem zR_a {d : Nat → Nat → Int32} {o n K a : Nat} {f : Nat → Int32} (h : zR d o f n K) (ha : a < n) : d (o + 1) a = f (4 + 6 * a) ∧ d (o + 2) a = f (4 + 6 * a + 1) ∧ d (o + 3) a = f (4 + 6 * a + 2) ∧ d (o + 4) a = f (4 + 6 * a + 4) ∧ d (o + 5) a = f (4 + 6 * a + 5) := h.2.2.2.2.2.2.1 a ha
theorem zR_t {d : Nat → Nat → Int32} {o n K t : Nat} {f : Nat → Int32} (h : zR d o f n K) (ht : t < K) : d (o + 6) t = f (40 + 4 * t) ∧ d (o + 7) t = f (40 + 4 * t + 1) ∧ d (o + 8) t = f (40 + 4 * t + 2) ∧ d (o + 9) t = f (40 + 4 * t + 3) := h.2.2.2.2.2.2.2.1 t ht
theorem zR_n {d : Nat → Nat → Int32} {o n K a t : Nat} {f : Nat → Int32} (h : zR d o f n K) (ha : a < n) (ht : t < K) : zRn d (o + 10) f (8 * a + t) := h.2.2.2.2.2.2.2.2 a ha t ht
theorem zWF_a {n K a : Nat} {f : Nat → Int32} (h : zWF f n K) (ha : a < n) : zPl (f (4 + 6 * a)) 12 ∧ zPl (f (4 + 6 * a + 1)) 12 ∧ zPl (f (4 + 6 * a + 2)) 23 ∧ zPl (f (4 + 6 * a + 3)) 2 := h.2.2.2.2.1 a ha
theorem zWF_t {n K t : Nat} {f : Nat → Int32} (h : zWF f n K) (ht : t < K) : zPl (f (40 + 4 * t)) 12 ∧ zPl (f (40 + 4 * t + 1)) 12 := h.2.2.2.2.2.1 t ht
theorem zWF_n {n K a t : Nat} {f : Nat → Int32} (h : zWF f n K) (ha : a < n) (ht : t < K) : zPl (f (72 + 4 * (8 * a + t))) 3 ∧ (f (72 + 4 * (8 * a + t)) = nI 1 → zPl (f (72 + 4 * (8 * a + t) + 1)) n) := h.2.2.2.2.2.2 a ha t ht
theorem zbi_1 {b : Bool} (h : zbi b = nI 1) : b = true := by
  cases b
  · exact absurd h (by decide)
  · rfl
theorem zbi_n1 {b : Bool} (h : ¬ zbi b = nI 1) : b = false := by
  cases b
  · rfl
  · exact absurd rfl h
theorem tb_i {S a : Nat} (hS : S < 2 ^ 31) (ha : a < 31) : (nI S >>> (nI a &&& 31)) &&& nI 1 = zbi (S.testBit a) := by
  rw [nI_shr hS ha, nI_and1, Nat.testBit_eq_decide_div_mod_eq]
  rcases (show S / 2 ^ a % 2 = 0 ∨ S / 2 ^ a % 2 = 1 by omega) with h | h <;> rw [h] <;> decide
set_option maxRecDepth 100000 in
set_option maxHeartbeats 4000000 in
theorem ct_X7_isIn {g : zGl} {h : zHp} {S a : Nat} (hS : S < 2 ^ 31) (ha : a < 31) : zC g mX7_isIn [.int (nI S), .int (nI a)] h (zV h (.int (zbi (S.testBit a)))) 0 0 := by
  refine zC_ofA (lv := [some (.int (nI S)), some (.int (nI a))]) (by decide) rfl (Nat.le_of_ble_eq_true rfl) ?_
  refine z_iload_n (q := 1) dX7_isIn_0 rfl rfl ?_
  refine z_iload_n (q := 2) dX7_isIn_1 rfl rfl ?_
  refine z_ishr (q := 3) dX7_isIn_2 rfl ?_
  refine z_iconst (q := 4) dX7_isIn_3 zci_1 rfl ?_
  refine z_iand (q := 5) dX7_isIn_4 rfl ?_
  refine z_eqi (tb_i hS ha) ?_
  refine z_iconst (q := 6) dX7_isIn_5 zci_1 rfl ?_
  refine z_icmp_ne (tg := 13) (q := 9) dX7_isIn_6 rfl rfl ?_ ?_
  · intro hc6
    refine z_iconst (q := 14) dX7_isIn_13 zci_0 rfl ?_
    exact z_retz dX7_isIn_14 rfl (by first | exact Or.inl rfl | exact Or.inr rfl) (by first | exact zVt (zbi_1 hc6) | exact zVf (zbi_n1 hc6))
  · intro hc6
    refine z_iconst (q := 10) dX7_isIn_9 zci_1 rfl ?_
    refine z_goto (q := 0) (tg := 14) dX7_isIn_10 rfl ?_
    exact z_retz dX7_isIn_14 rfl (by first | exact Or.inl rfl | exact Or.inr rfl) (by first | exact zVt (zbi_1 hc6) | exact zVf (zbi_n1 hc6))
set_option maxRecDepth 100000 in
set_option maxHeartbeats 4000000 in
theorem ct_X6_isOnS {g : zGl} {h : zHp} {b o S a : Nat} {d : Nat → Nat → Int32} (hw : zWo o) (h4 : d o 4 = nI S) (hS : S < 2 ^ 31) (ha : a < 31) : zC g mX6_isOn [.ref (b + o), .int (nI a)] (zpT g h b d) (zV (zpT g h b d) (.int (zbi (S.testBit a)))) 0 0 := by
  refine zC_ofA (lv := [some (.ref (b + o)), some (.int (nI a))]) (by decide) rfl (Nat.le_of_ble_eq_true rfl) ?_
  refine z_aload_n (q := 1) dX6_isOn_0 rfl rfl ?_
  refine z_get (q := 4) dX6_isOn_1 zfX6_59 (by first | exact zT_o hw | exact zT_w hw rfl | exact zT_N (zNo_w hw) | exact zT_n (zNo_w hw) (by decide) | exact zT_N hp | exact zT_n hp (by decide)) rfl rfl ?_
  refine z_eqi h4 ?_
  refine z_iload_n (q := 5) dX6_isOn_4 rfl rfl ?_
  refine z_ishr (q := 6) dX6_isOn_5 rfl ?_
  refine z_iconst (q := 7) dX6_isOn_6 zci_1 rfl ?_
  refine z_iand (q := 8) dX6_isOn_7 rfl ?_
  refine z_eqi (tb_i hS ha) ?_
  refine z_iconst (q := 9) dX6_isOn_8 zci_1 rfl ?_
  refine z_icmp_ne (tg := 16) (q := 12) dX6_isOn_9 rfl rfl ?_ ?_
  · intro hc9
    refine z_iconst (q := 17) dX6_isOn_16 zci_0 rfl ?_
    exact z_retz dX6_isOn_17 rfl (by first | exact Or.inl rfl | exact Or.inr rfl) (by first | exact zVt (zbi_1 hc9) | exact zVf (zbi_n1 hc9))
  · intro hc9
    refine z_iconst (q := 13) dX6_isOn_12 zci_1 rfl ?_
    refine z_goto (q := 0) (tg := 17) dX6_isOn_13 rfl ?_
    exact z_retz dX6_isOn_17 rfl (by first | exact Or.inl rfl | exact Or.inr rfl) (by first | exact zVt (zbi_1 hc9) | exact zVf (zbi_n1 hc9))
theorem zS_31 {S n : Nat} (hS : S < 2 ^ n) (hn : n ≤ 6) : S < 64 := Nat.lt_of_lt_of_le hS (Nat.pow_le_pow_right (by decide) hn : 2 ^ n ≤ 2 ^ 6)
theorem ct_X6_isOn {g : zGl} {h : zHp} {b o n K a : Nat} {d : Nat → Nat → Int32} {f : Nat → Int32} (hw : zWo o) (hR : zR d o f n K) (ha : a < n) : zC g mX6_isOn [.ref (b + o), .int (nI a)] (zpT g h b d) (zV (zpT g h b d) (.int (zbi (qOn f a)))) 0 0 := by
  obtain ⟨S, hS, h4, hb⟩ := zR_S hR
  have hn := zR_n6 hR
  have h6 := zS_31 hS hn
  rw [← hb a ha]
  exact ct_X6_isOnS hw h4 (by omega) (by omega)
set_option maxRecDepth 100000 in
set_option maxHeartbeats 4000000 in
theorem ct_X6_hasAgent {g : zGl} {h : zHp} {b o n : Nat} {d : Nat → Nat → Int32} {x : Int32} (hw : zWo o) (h0 : d o 0 = nI n) : zC g mX6_hasAgent [.ref (b + o), .int x] (zpT g h b d) (zV (zpT g h b d) (.int (zbi (qHas x n)))) 0 0 := by
  refine zC_ofA (lv := [some (.ref (b + o)), some (.int x)]) (by decide) rfl (Nat.le_of_ble_eq_true rfl) ?_
  have e2 : True := trivial
  refine z_iload_n (q := 1) dX6_hasAgent_0 rfl rfl ?_
  refine z_if_lt (tg := 16) (q := 4) dX6_hasAgent_1 rfl rfl ?_ ?_
  · intro hc1
    have e : ¬ nI 0 ≤ x := Int32.not_le.mpr hc1
    refine z_iconst (q := 17) dX6_hasAgent_16 zci_0 rfl ?_
    exact z_retz dX6_hasAgent_17 rfl (by first | exact Or.inl rfl | exact Or.inr rfl) (by first | exact zVt (by simp [qHas, e, e2]; done) | exact zVf (by simp [qHas, e, e2]))
  · intro hc1
    have e : nI 0 ≤ x := Int32.not_lt.mp hc1
    refine z_iload_n (q := 5) dX6_hasAgent_4 rfl rfl ?_
    refine z_aload_n (q := 6) dX6_hasAgent_5 rfl rfl ?_
    refine z_get (q := 9) dX6_hasAgent_6 zfX6_50 (by first | exact zT_o hw | exact zT_w hw rfl | exact zT_N (zNo_w hw) | exact zT_n (zNo_w hw) (by decide) | exact zT_N hp | exact zT_n hp (by decide)) rfl rfl ?_
    refine z_eqi h0 ?_
    refine z_icmp_ge (tg := 16) (q := 12) dX6_hasAgent_9 rfl rfl ?_ ?_
    · intro hc9
      have e2 : ¬ x < nI n := Int32.not_lt.mpr hc9
      refine z_iconst (q := 17) dX6_hasAgent_16 zci_0 rfl ?_
      exact z_retz dX6_hasAgent_17 rfl (by first | exact Or.inl rfl | exact Or.inr rfl) (by first | exact zVt (by simp [qHas, e, e2]; done) | exact zVf (by simp [qHas, e, e2]))
    · intro hc9
      have e2 : x < nI n := Int32.not_le.mp hc9
      refine z_iconst (q := 13) dX6_hasAgent_12 zci_1 rfl ?_
      refine z_goto (q := 0) (tg := 17) dX6_hasAgent_13 rfl ?_
      exact z_retz dX6_hasAgent_17 rfl (by first | exact Or.inl rfl | exact Or.inr rfl) (by first | exact zVt (by simp [qHas, e, e2]; done) | exact zVf (by simp [qHas, e, e2]))
set_option maxRecDepth 100000 in
set_option maxHeartbeats 4000000 in
theorem ct_X6_hasTask {g : zGl} {h : zHp} {b o n : Nat} {d : Nat → Nat → Int32} {x : Int32} (hw : zWo o) (h0 : d o 1 = nI n) : zC g mX6_hasTask [.ref (b + o), .int x] (zpT g h b d) (zV (zpT g h b d) (.int (zbi (qHas x n)))) 0 0 := by
  refine zC_ofA (lv := [some (.ref (b + o)), some (.int x)]) (by decide) rfl (Nat.le_of_ble_eq_true rfl) ?_
  have e2 : True := trivial
  refine z_iload_n (q := 1) dX6_hasTask_0 rfl rfl ?_
  refine z_if_lt (tg := 16) (q := 4) dX6_hasTask_1 rfl rfl ?_ ?_
  · intro hc1
    have e : ¬ nI 0 ≤ x := Int32.not_le.mpr hc1
    refine z_iconst (q := 17) dX6_hasTask_16 zci_0 rfl ?_
    exact z_retz dX6_hasTask_17 rfl (by first | exact Or.inl rfl | exact Or.inr rfl) (by first | exact zVt (by simp [qHas, e, e2]; done) | exact zVf (by simp [qHas, e, e2]))
  · intro hc1
    have e : nI 0 ≤ x := Int32.not_lt.mp hc1
    refine z_iload_n (q := 5) dX6_hasTask_4 rfl rfl ?_
    refine z_aload_n (q := 6) dX6_hasTask_5 rfl rfl ?_
    refine z_get (q := 9) dX6_hasTask_6 zfX6_53 (by first | exact zT_o hw | exact zT_w hw rfl | exact zT_N (zNo_w hw) | exact zT_n (zNo_w hw) (by decide) | exact zT_N hp | exact zT_n hp (by decide)) rfl rfl ?_
    refine z_eqi h0 ?_
    refine z_icmp_ge (tg := 16) (q := 12) dX6_hasTask_9 rfl rfl ?_ ?_
    · intro hc9
      have e2 : ¬ x < nI n := Int32.not_lt.mpr hc9
      refine z_iconst (q := 17) dX6_hasTask_16 zci_0 rfl ?_
      exact z_retz dX6_hasTask_17 rfl (by first | exact Or.inl rfl | exact Or.inr rfl) (by first | exact zVt (by simp [qHas, e, e2]; done) | exact zVf (by simp [qHas, e, e2]))
    · intro hc9
      have e2 : x < nI n := Int32.not_le.mp hc9
      refine z_iconst (q := 13) dX6_hasTask_12 zci_1 rfl ?_
      refine z_goto (q := 0) (tg := 17) dX6_hasTask_13 rfl ?_
      exact z_retz dX6_hasTask_17 rfl (by first | exact Or.inl rfl | exact Or.inr rfl) (by first | exact zVt (by simp [qHas, e, e2]; done) | exact zVf (by simp [qHas, e, e2]))
set_option maxRecDepth 100000 in
set_option maxHeartbeats 4000000 in
theorem ct_X6_isFinished {g : zGl} {h : zHp} {b o n K t : Nat} {d : Nat → Nat → Int32} {f : Nat → Int32} (hw : zWo o) (hR : zR d o f n K) (ht : t < K) : zC g mX6_isFinished [.ref (b + o), .int (nI t)] (zpT g h b d) (zV (zpT g h b d) (.int (zbi (qDone f t)))) 0 0 := by
  have hK := zR_K8 hR
  obtain ⟨-, -, e1, e2⟩ := zR_t hR ht
  refine zC_ofA (lv := [some (.ref (b + o)), some (.int (nI t))]) (by decide) rfl (Nat.le_of_ble_eq_true rfl) ?_
  refine z_aload_n (q := 1) dX6_isFinished_0 rfl rfl ?_
  refine z_get (q := 4) dX6_isFinished_1 zfX6_40 (by first | exact zT_o hw | exact zT_w hw rfl | exact zT_N (zNo_w hw) | exact zT_n (zNo_w hw) (by decide) | exact zT_N hp | exact zT_n hp (by decide)) rfl rfl ?_
  refine z_iload_n (q := 5) dX6_isFinished_4 rfl rfl ?_
  refine z_iald (q := 6) dX6_isFinished_5 (by first | exact zT_o hw | exact zT_w hw rfl | exact zT_N (zNo_w hw) | exact zT_n (zNo_w hw) (by decide) | exact zT_N hp | exact zT_n hp (by decide)) (by omega) (by omega) rfl ?_
  refine z_eqi e2 ?_
  refine z_aload_n (q := 7) dX6_isFinished_6 rfl rfl ?_
  refine z_get (q := 10) dX6_isFinished_7 zfX6_37 (by first | exact zT_o hw | exact zT_w hw rfl | exact zT_N (zNo_w hw) | exact zT_n (zNo_w hw) (by decide) | exact zT_N hp | exact zT_n hp (by decide)) rfl rfl ?_
  refine z_iload_n (q := 11) dX6_isFinished_10 rfl rfl ?_
  refine z_iald (q := 12) dX6_isFinished_11 (by first | exact zT_o hw | exact zT_w hw rfl | exact zT_N (zNo_w hw) | exact zT_n (zNo_w hw) (by decide) | exact zT_N hp | exact zT_n hp (by decide)) (by omega) (by omega) rfl ?_
  refine z_eqi e1 ?_
  refine z_icmp_ne (tg := 19) (q := 15) dX6_isFinished_12 rfl rfl ?_ ?_
  · intro hc12
    refine z_iconst (q := 20) dX6_isFinished_19 zci_0 rfl ?_
    exact z_retz dX6_isFinished_20 rfl (by first | exact Or.inl rfl | exact Or.inr rfl) (by first | exact zVt (by simp [qDone, hc12]; done) | exact zVf (by simp [qDone, hc12]))
  · intro hc12
    refine z_iconst (q := 16) dX6_isFinished_15 zci_1 rfl ?_
    refine z_goto (q := 0) (tg := 20) dX6_isFinished_16 rfl ?_
    exact z_retz dX6_isFinished_20 rfl (by first | exact Or.inl rfl | exact Or.inr rfl) (by first | exact zVt (by simp [qDone, hc12]; done) | exact zVf (by simp [qDone, hc12]))
def qDst (x y : Int32) : Int32 := if x < y then y - x else x - y
theorem qDst_sz {x y : Int32} (hx : zPl x 12) (hy : zPl y 12) : qDst x y = qSz (x - y) := by
  obtain ⟨p, hp, rfl⟩ := hx
  obtain ⟨q, hq, rfl⟩ := hy
  have H : ∀ p q : Fin 12, qDst (nI p) (nI q) = qSz (nI p - nI q) := by decide +kernel
  exact H ⟨p, hp⟩ ⟨q, hq⟩
set_option maxRecDepth 100000 in
set_option maxHeartbeats 4000000 in
theorem ct_X7_distanceOf {g : zGl} {h : zHp} {x1 y1 x2 y2 : Int32} : zC g mX7_distanceOf [.int x1, .int y1, .int x2, .int y2] h (zV h (.int (qDst x1 x2 + qDst y1 y2))) 0 0 := by
  refine zC_ofA (lv := [some (.int x1), some (.int y1), some (.int x2), some (.int y2), none, none]) (by decide) rfl (Nat.le_of_ble_eq_true rfl) ?_
  refine z_iload_n (q := 1) dX7_distanceOf_0 rfl rfl ?_
  refine z_iload_n (q := 2) dX7_distanceOf_1 rfl rfl ?_
  refine z_icmp_ge (tg := 11) (q := 5) dX7_distanceOf_2 rfl rfl ?_ ?_
  · intro hc2
    have e : ¬ x1 < x2 := Int32.not_lt.mpr hc2
    refine z_iload_n (q := 12) dX7_distanceOf_11 rfl rfl ?_
    refine z_iload_n (q := 13) dX7_distanceOf_12 rfl rfl ?_
    refine z_isub (q := 14) dX7_distanceOf_13 rfl ?_
    refine z_istore (q := 16) dX7_distanceOf_14 (Nat.le_of_ble_eq_true rfl) rfl rfl ?_
    refine z_iload_n (q := 17) dX7_distanceOf_16 rfl rfl ?_
    refine z_iload_n (q := 18) dX7_distanceOf_17 rfl rfl ?_
    refine z_icmp_ge (tg := 27) (q := 21) dX7_distanceOf_18 rfl rfl ?_ ?_
    · intro hc18
      have e2 : ¬ y1 < y2 := Int32.not_lt.mpr hc18
      refine z_iload_n (q := 28) dX7_distanceOf_27 rfl rfl ?_
      refine z_iload_n (q := 29) dX7_distanceOf_28 rfl rfl ?_
      refine z_isub (q := 30) dX7_distanceOf_29 rfl ?_
      refine z_istore (q := 32) dX7_distanceOf_30 (Nat.le_of_ble_eq_true rfl) rfl rfl ?_
      refine z_iload (q := 34) dX7_distanceOf_32 rfl rfl ?_
      refine z_iload (q := 36) dX7_distanceOf_34 rfl rfl ?_
      refine z_iadd (q := 37) dX7_distanceOf_36 rfl ?_
      exact z_reti dX7_distanceOf_37 rfl (⟨by simp only [qDst, e, e2, if_true, if_false], rfl⟩)
    · intro hc18
      have e2 : y1 < y2 := Int32.not_le.mp hc18
      refine z_iload_n (q := 22) dX7_distanceOf_21 rfl rfl ?_
      refine z_iload_n (q := 23) dX7_distanceOf_22 rfl rfl ?_
      refine z_isub (q := 24) dX7_distanceOf_23 rfl ?_
      refine z_goto (q := 0) (tg := 30) dX7_distanceOf_24 rfl ?_
      refine z_istore (q := 32) dX7_distanceOf_30 (Nat.le_of_ble_eq_true rfl) rfl rfl ?_
      refine z_iload (q := 34) dX7_distanceOf_32 rfl rfl ?_
      refine z_iload (q := 36) dX7_distanceOf_34 rfl rfl ?_
      refine z_iadd (q := 37) dX7_distanceOf_36 rfl ?_
      exact z_reti dX7_distanceOf_37 rfl (⟨by simp only [qDst, e, e2, if_true, if_false], rfl⟩)
  · intro hc2
    have e : x1 < x2 := Int32.not_le.mp hc2
    refine z_iload_n (q := 6) dX7_distanceOf_5 rfl rfl ?_
    refine z_iload_n (q := 7) dX7_distanceOf_6 rfl rfl ?_
    refine z_isub (q := 8) dX7_distanceOf_7 rfl ?_
    refine z_goto (q := 0) (tg := 14) dX7_distanceOf_8 rfl ?_
    refine z_istore (q := 16) dX7_distanceOf_14 (Nat.le_of_ble_eq_true rfl) rfl rfl ?_
    refine z_iload_n (q := 17) dX7_distanceOf_16 rfl rfl ?_
    refine z_iload_n (q := 18) dX7_distanceOf_17 rfl rfl ?_
    refine z_icmp_ge (tg := 27) (q := 21) dX7_distanceOf_18 rfl rfl ?_ ?_
    · intro hc18
      have e2 : ¬ y1 < y2 := Int32.not_lt.mpr hc18
      refine z_iload_n (q := 28) dX7_distanceOf_27 rfl rfl ?_
      refine z_iload_n (q := 29) dX7_distanceOf_28 rfl rfl ?_
      refine z_isub (q := 30) dX7_distanceOf_29 rfl ?_
      refine z_istore (q := 32) dX7_distanceOf_30 (Nat.le_of_ble_eq_true rfl) rfl rfl ?_
      refine z_iload (q := 34) dX7_distanceOf_32 rfl rfl ?_
      refine z_iload (q := 36) dX7_distanceOf_34 rfl rfl ?_
      refine z_iadd (q := 37) dX7_distanceOf_36 rfl ?_
      exact z_reti dX7_distanceOf_37 rfl (⟨by simp only [qDst, e, e2, if_true, if_false], rfl⟩)
    · intro hc18
      have e2 : y1 < y2 := Int32.not_le.mp hc18
      refine z_iload_n (q := 22) dX7_distanceOf_21 rfl rfl ?_
      refine z_iload_n (q := 23) dX7_distanceOf_22 rfl rfl ?_
      refine z_isub (q := 24) dX7_distanceOf_23 rfl ?_
      refine z_goto (q := 0) (tg := 30) dX7_distanceOf_24 rfl ?_
      refine z_istore (q := 32) dX7_distanceOf_30 (Nat.le_of_ble_eq_true rfl) rfl rfl ?_
      refine z_iload (q := 34) dX7_distanceOf_32 rfl rfl ?_
      refine z_iload (q := 36) dX7_distanceOf_34 rfl rfl ?_
      refine z_iadd (q := 37) dX7_distanceOf_36 rfl ?_
      exact z_reti dX7_distanceOf_37 rfl (⟨by simp only [qDst, e, e2, if_true, if_false], rfl⟩)
set_option maxRecDepth 100000 in
set_option maxHeartbeats 4000000 in
theorem ct_X7_noteIndex {g : zGl} {h : zHp} {a t : Nat} : zC g mX7_noteIndex [.int (nI a), .int (nI t)] h (zV h (.int (nI (8 * a + t)))) 0 0 := by
  refine zC_ofA (lv := [some (.int (nI a)), some (.int (nI t))]) (by decide) rfl (Nat.le_of_ble_eq_true rfl) ?_
  refine z_iload_n (q := 1) dX7_noteIndex_0 rfl rfl ?_
  refine z_bipush (q := 3) dX7_noteIndex_1 zcb_8 rfl ?_
  refine z_imulN (q := 4) dX7_noteIndex_3 rfl ?_
  refine z_iload_n (q := 5) dX7_noteIndex_4 rfl rfl ?_
  refine z_iaddN (q := 6) dX7_noteIndex_5 rfl ?_
  exact z_reti dX7_noteIndex_6 rfl (⟨by rw [Nat.mul_comm 8 a], rfl⟩)
set_option maxRecDepth 100000 in
set_option maxHeartbeats 4000000 in
theorem ct_X6_wayToTask {g : zGl} {h : zHp} {b o n K a t : Nat} {d : Nat → Nat → Int32} {f : Nat → Int32} (hw : zWo o) (hR : zR d o f n K) (ha : a < n) (ht : t < K) : zC g mX6_wayToTask [.ref (b + o), .int (nI a), .int (nI t)] (zpT g h b d) (zV (zpT g h b d) (.int (qFar f a t))) 0 0 := by
  have hK := zR_K8 hR
  have hn := zR_n6 hR
  obtain ⟨e1, e2, -⟩ := zR_a hR ha
  obtain ⟨e3, e4, -⟩ := zR_t hR ht
  have w1 := zWF_a hR.1 ha
  have w2 := zWF_t hR.1 ht
  refine zC_ofA (lv := [some (.ref (b + o)), some (.int (nI a)), some (.int (nI t))]) (by decide) rfl (Nat.le_of_ble_eq_true rfl) ?_
  refine z_aload_n (q := 1) dX6_wayToTask_0 rfl rfl ?_
  refine z_get (q := 4) dX6_wayToTask_1 zfX6_15 (by first | exact zT_o hw | exact zT_w hw rfl | exact zT_N (zNo_w hw) | exact zT_n (zNo_w hw) (by decide) | exact zT_N hp | exact zT_n hp (by decide)) rfl rfl ?_
  refine z_iload_n (q := 5) dX6_wayToTask_4 rfl rfl ?_
  refine z_iald (q := 6) dX6_wayToTask_5 (by first | exact zT_o hw | exact zT_w hw rfl | exact zT_N (zNo_w hw) | exact zT_n (zNo_w hw) (by decide) | exact zT_N hp | exact zT_n hp (by decide)) (by omega) (by omega) rfl ?_
  refine z_eqi e1 ?_
  refine z_aload_n (q := 7) dX6_wayToTask_6 rfl rfl ?_
  refine z_get (q := 10) dX6_wayToTask_7 zfX6_19 (by first | exact zT_o hw | exact zT_w hw rfl | exact zT_N (zNo_w hw) | exact zT_n (zNo_w hw) (by decide) | exact zT_N hp | exact zT_n hp (by decide)) rfl rfl ?_
  refine z_iload_n (q := 11) dX6_wayToTask_10 rfl rfl ?_
  refine z_iald (q := 12) dX6_wayToTask_11 (by first | exact zT_o hw | exact zT_w hw rfl | exact zT_N (zNo_w hw) | exact zT_n (zNo_w hw) (by decide) | exact zT_N hp | exact zT_n hp (by decide)) (by omega) (by omega) rfl ?_
  refine z_eqi e2 ?_
  refine z_aload_n (q := 13) dX6_wayToTask_12 rfl rfl ?_
  refine z_get (q := 16) dX6_wayToTask_13 zfX6_31 (by first | exact zT_o hw | exact zT_w hw rfl | exact zT_N (zNo_w hw) | exact zT_n (zNo_w hw) (by decide) | exact zT_N hp | exact zT_n hp (by decide)) rfl rfl ?_
  refine z_iload_n (q := 17) dX6_wayToTask_16 rfl rfl ?_
  refine z_iald (q := 18) dX6_wayToTask_17 (by first | exact zT_o hw | exact zT_w hw rfl | exact zT_N (zNo_w hw) | exact zT_n (zNo_w hw) (by decide) | exact zT_N hp | exact zT_n hp (by decide)) (by omega) (by omega) rfl ?_
  refine z_eqi e3 ?_
  refine z_aload_n (q := 19) dX6_wayToTask_18 rfl rfl ?_
  refine z_get (q := 22) dX6_wayToTask_19 zfX6_34 (by first | exact zT_o hw | exact zT_w hw rfl | exact zT_N (zNo_w hw) | exact zT_n (zNo_w hw) (by decide) | exact zT_N hp | exact zT_n hp (by decide)) rfl rfl ?_
  refine z_iload_n (q := 23) dX6_wayToTask_22 rfl rfl ?_
  refine z_iald (q := 24) dX6_wayToTask_23 (by first | exact zT_o hw | exact zT_w hw rfl | exact zT_N (zNo_w hw) | exact zT_n (zNo_w hw) (by decide) | exact zT_N hp | exact zT_n hp (by decide)) (by omega) (by omega) rfl ?_
  refine z_eqi e4 ?_
  refine z_s4 (q := 27) dX6_wayToTask_24 zkX6_75 zt_mX7_distanceOf rfl (Nat.le_of_ble_eq_true rfl) (ct_X7_distanceOf) rfl ?_
  exact z_reti dX6_wayToTask_27 rfl (⟨by rw [qFar, qDst_sz w1.1 w2.1, qDst_sz w1.2.1 w2.2], rfl⟩)
set_option maxRecDepth 100000 in
set_option maxHeartbeats 4000000 in
theorem ct_X2_isClaimOf {g : zGl} {h : zHp} {b p i : Nat} {x : Int32} {d : Nat → Nat → Int32} (hp : zNo p) (hi : i < 48) : zC g mX2_isClaimOf [.ref (b + p), .int (nI i), .int x] (zpT g h b d) (zV (zpT g h b d) (.int (zbi (decide (d (p + 1) i = nI 1) && decide (d (p + 2) i = x))))) 0 0 := by
  refine zC_ofA (lv := [some (.ref (b + p)), some (.int (nI i)), some (.int x)]) (by decide) rfl (Nat.le_of_ble_eq_true rfl) ?_
  refine z_aload_n (q := 1) dX2_isClaimOf_0 rfl rfl ?_
  refine z_get (q := 4) dX2_isClaimOf_1 zfX2_9 (by first | exact zT_o hw | exact zT_w hw rfl | exact zT_N (zNo_w hw) | exact zT_n (zNo_w hw) (by decide) | exact zT_N hp | exact zT_n hp (by decide)) rfl rfl ?_
  refine z_iload_n (q := 5) dX2_isClaimOf_4 rfl rfl ?_
  refine z_iald (q := 6) dX2_isClaimOf_5 (by first | exact zT_o hw | exact zT_w hw rfl | exact zT_N (zNo_w hw) | exact zT_n (zNo_w hw) (by decide) | exact zT_N hp | exact zT_n hp (by decide)) (by omega) (by omega) rfl ?_
  refine z_iconst (q := 7) dX2_isClaimOf_6 zci_1 rfl ?_
  refine z_icmp_ne (tg := 24) (q := 10) dX2_isClaimOf_7 rfl rfl ?_ ?_
  · intro hc7
    refine z_iconst (q := 25) dX2_isClaimOf_24 zci_0 rfl ?_
    exact z_retz dX2_isClaimOf_25 rfl (by first | exact Or.inl rfl | exact Or.inr rfl) (by first | exact zVt (by simp [hc7]; done) | exact zVf (by simp [hc7]))
  · intro hc7
    refine z_aload_n (q := 11) dX2_isClaimOf_10 rfl rfl ?_
    refine z_get (q := 14) dX2_isClaimOf_11 zfX2_15 (by first | exact zT_o hw | exact zT_w hw rfl | exact zT_N (zNo_w hw) | exact zT_n (zNo_w hw) (by decide) | exact zT_N hp | exact zT_n hp (by decide)) rfl rfl ?_
    refine z_iload_n (q := 15) dX2_isClaimOf_14 rfl rfl ?_
    refine z_iald (q := 16) dX2_isClaimOf_15 (by first | exact zT_o hw | exact zT_w hw rfl | exact zT_N (zNo_w hw) | exact zT_n (zNo_w hw) (by decide) | exact zT_N hp | exact zT_n hp (by decide)) (by omega) (by omega) rfl ?_
    refine z_iload_n (q := 17) dX2_isClaimOf_16 rfl rfl ?_
    refine z_icmp_ne (tg := 24) (q := 20) dX2_isClaimOf_17 rfl rfl ?_ ?_
    · intro hc17
      refine z_iconst (q := 25) dX2_isClaimOf_24 zci_0 rfl ?_
      exact z_retz dX2_isClaimOf_25 rfl (by first | exact Or.inl rfl | exact Or.inr rfl) (by first | exact zVt (by simp [hc7, hc17]; done) | exact zVf (by simp [hc7, hc17]))
    · intro hc17
      refine z_iconst (q := 21) dX2_isClaimOf_20 zci_1 rfl ?_
      refine z_goto (q := 0) (tg := 25) dX2_isClaimOf_21 rfl ?_
      exact z_retz dX2_isClaimOf_25 rfl (by first | exact Or.inl rfl | exact Or.inr rfl) (by first | exact zVt (by simp [hc7, hc17]; done) | exact zVf (by simp [hc7, hc17]))
set_option maxRecDepth 100000 in
set_option maxHeartbeats 4000000 in
theorem ct_X2_isLiveClaim {g : zGl} {h : zHp} {b p i : Nat} {x : Int32} {d : Nat → Nat → Int32} (hp : zNo p) (hi : i < 48) : zC g mX2_isLiveClaim [.ref (b + p), .int (nI i), .int x] (zpT g h b d) (zV (zpT g h b d) (.int (zbi (decide (d (p + 1) i = nI 1) && !decide (d (p + 4) i ≤ x))))) 0 0 := by
  refine zC_ofA (lv := [some (.ref (b + p)), some (.int (nI i)), some (.int x)]) (by decide) rfl (Nat.le_of_ble_eq_true rfl) ?_
  refine z_aload_n (q := 1) dX2_isLiveClaim_0 rfl rfl ?_
  refine z_get (q := 4) dX2_isLiveClaim_1 zfX2_9 (by first | exact zT_o hw | exact zT_w hw rfl | exact zT_N (zNo_w hw) | exact zT_n (zNo_w hw) (by decide) | exact zT_N hp | exact zT_n hp (by decide)) rfl rfl ?_
  refine z_iload_n (q := 5) dX2_isLiveClaim_4 rfl rfl ?_
  refine z_iald (q := 6) dX2_isLiveClaim_5 (by first | exact zT_o hw | exact zT_w hw rfl | exact zT_N (zNo_w hw) | exact zT_n (zNo_w hw) (by decide) | exact zT_N hp | exact zT_n hp (by decide)) (by omega) (by omega) rfl ?_
  refine z_iconst (q := 7) dX2_isLiveClaim_6 zci_1 rfl ?_
  refine z_icmp_ne (tg := 24) (q := 10) dX2_isLiveClaim_7 rfl rfl ?_ ?_
  · intro hc7
    refine z_iconst (q := 25) dX2_isLiveClaim_24 zci_0 rfl ?_
    exact z_retz dX2_isLiveClaim_25 rfl (by first | exact Or.inl rfl | exact Or.inr rfl) (by first | exact zVt (by simp [hc7]; done) | exact zVf (by simp [hc7]))
  · intro hc7
    refine z_aload_n (q := 11) dX2_isLiveClaim_10 rfl rfl ?_
    refine z_get (q := 14) dX2_isLiveClaim_11 zfX2_21 (by first | exact zT_o hw | exact zT_w hw rfl | exact zT_N (zNo_w hw) | exact zT_n (zNo_w hw) (by decide) | exact zT_N hp | exact zT_n hp (by decide)) rfl rfl ?_
    refine z_iload_n (q := 15) dX2_isLiveClaim_14 rfl rfl ?_
    refine z_iald (q := 16) dX2_isLiveClaim_15 (by first | exact zT_o hw | exact zT_w hw rfl | exact zT_N (zNo_w hw) | exact zT_n (zNo_w hw) (by decide) | exact zT_N hp | exact zT_n hp (by decide)) (by omega) (by omega) rfl ?_
    refine z_iload_n (q := 17) dX2_isLiveClaim_16 rfl rfl ?_
    refine z_icmp_le (tg := 24) (q := 20) dX2_isLiveClaim_17 rfl rfl ?_ ?_
    · intro hc17
      refine z_iconst (q := 25) dX2_isLiveClaim_24 zci_0 rfl ?_
      exact z_retz dX2_isLiveClaim_25 rfl (by first | exact Or.inl rfl | exact Or.inr rfl) (by first | exact zVt (by simp [hc7, hc17]; done) | exact zVf (by simp [hc7, hc17]))
    · intro hc17
      refine z_iconst (q := 21) dX2_isLiveClaim_20 zci_1 rfl ?_
      refine z_goto (q := 0) (tg := 25) dX2_isLiveClaim_21 rfl ?_
      exact z_retz dX2_isLiveClaim_25 rfl (by first | exact Or.inl rfl | exact Or.inr rfl) (by first | exact zVt (by simp [hc7, hc17]; done) | exact zVf (by simp [hc7, hc17]))
set_option maxRecDepth 100000 in
set_option maxHeartbeats 4000000 in
theorem ct_X2_isExpiredClaim {g : zGl} {h : zHp} {b p i : Nat} {x : Int32} {d : Nat → Nat → Int32} (hp : zNo p) (hi : i < 48) : zC g mX2_isExpiredClaim [.ref (b + p), .int (nI i), .int x] (zpT g h b d) (zV (zpT g h b d) (.int (zbi (decide (d (p + 1) i = nI 1) && decide (d (p + 4) i ≤ x))))) 0 0 := by
  refine zC_ofA (lv := [some (.ref (b + p)), some (.int (nI i)), some (.int x)]) (by decide) rfl (Nat.le_of_ble_eq_true rfl) ?_
  have e : True := trivial
  refine z_aload_n (q := 1) dX2_isExpiredClaim_0 rfl rfl ?_
  refine z_get (q := 4) dX2_isExpiredClaim_1 zfX2_9 (by first | exact zT_o hw | exact zT_w hw rfl | exact zT_N (zNo_w hw) | exact zT_n (zNo_w hw) (by decide) | exact zT_N hp | exact zT_n hp (by decide)) rfl rfl ?_
  refine z_iload_n (q := 5) dX2_isExpiredClaim_4 rfl rfl ?_
  refine z_iald (q := 6) dX2_isExpiredClaim_5 (by first | exact zT_o hw | exact zT_w hw rfl | exact zT_N (zNo_w hw) | exact zT_n (zNo_w hw) (by decide) | exact zT_N hp | exact zT_n hp (by decide)) (by omega) (by omega) rfl ?_
  refine z_iconst (q := 7) dX2_isExpiredClaim_6 zci_1 rfl ?_
  refine z_icmp_ne (tg := 24) (q := 10) dX2_isExpiredClaim_7 rfl rfl ?_ ?_
  · intro hc7
    refine z_iconst (q := 25) dX2_isExpiredClaim_24 zci_0 rfl ?_
    exact z_retz dX2_isExpiredClaim_25 rfl (by first | exact Or.inl rfl | exact Or.inr rfl) (by first | exact zVt (by simp [hc7, e]; done) | exact zVf (by simp [hc7, e]))
  · intro hc7
    refine z_aload_n (q := 11) dX2_isExpiredClaim_10 rfl rfl ?_
    refine z_get (q := 14) dX2_isExpiredClaim_11 zfX2_21 (by first | exact zT_o hw | exact zT_w hw rfl | exact zT_N (zNo_w hw) | exact zT_n (zNo_w hw) (by decide) | exact zT_N hp | exact zT_n hp (by decide)) rfl rfl ?_
    refine z_iload_n (q := 15) dX2_isExpiredClaim_14 rfl rfl ?_
    refine z_iald (q := 16) dX2_isExpiredClaim_15 (by first | exact zT_o hw | exact zT_w hw rfl | exact zT_N (zNo_w hw) | exact zT_n (zNo_w hw) (by decide) | exact zT_N hp | exact zT_n hp (by decide)) (by omega) (by omega) rfl ?_
    refine z_iload_n (q := 17) dX2_isExpiredClaim_16 rfl rfl ?_
    refine z_icmp_gt (tg := 24) (q := 20) dX2_isExpiredClaim_17 rfl rfl ?_ ?_
    · intro hc17
      have e : ¬ d (p + 4) i ≤ x := Int32.not_le.mpr hc17
      refine z_iconst (q := 25) dX2_isExpiredClaim_24 zci_0 rfl ?_
      exact z_retz dX2_isExpiredClaim_25 rfl (by first | exact Or.inl rfl | exact Or.inr rfl) (by first | exact zVt (by simp [hc7, hc17, e]; done) | exact zVf (by simp [hc7, hc17, e]))
    · intro hc17
      have e : d (p + 4) i ≤ x := Int32.not_lt.mp hc17
      refine z_iconst (q := 21) dX2_isExpiredClaim_20 zci_1 rfl ?_
      refine z_goto (q := 0) (tg := 25) dX2_isExpiredClaim_21 rfl ?_
      exact z_retz dX2_isExpiredClaim_25 rfl (by first | exact Or.inl rfl | exact Or.inr rfl) (by first | exact zVt (by simp [hc7, hc17, e]; done) | exact zVf (by simp [hc7, hc17, e]))
theorem zRn_own {d : Nat → Nat → Int32} {p i : Nat} {f : Nat → Int32} {x : Int32} (h : zRn d p f i) : (decide (d (p + 1) i = nI 1) && decide (d (p + 2) i = x)) = (decide (f (72 + 4 * i) = nI 1) && decide (f (72 + 4 * i + 1) = x)) := by
  rw [h.1]
  by_cases hk : f (72 + 4 * i) = nI 1
  · rw [(h.2 hk).1]
  · simp [hk]
theorem zRn_live {d : Nat → Nat → Int32} {p i : Nat} {f : Nat → Int32} {x : Int32} (h : zRn d p f i) : (decide (d (p + 1) i = nI 1) && !decide (d (p + 4) i ≤ x)) = qLive f (72 + 4 * i) x := by
  rw [h.1, qLive]
  by_cases hk : f (72 + 4 * i) = nI 1
  · rw [(h.2 hk).2.2]
  · simp [hk]
set_option maxRecDepth 100000 in
set_option maxHeartbeats 4000000 in
theorem ct_X6_ownsLiveClaim {g : zGl} {h : zHp} {b o n K a t : Nat} {d : Nat → Nat → Int32} {f : Nat → Int32} (hw : zWo o) (hR : zR d o f n K) (ha : a < n) (ht : t < K) : zC g mX6_ownsLiveClaim [.ref (b + o), .int (nI a), .int (nI t)] (zpT g h b d) (zV (zpT g h b d) (.int (zbi (qOwn f a t)))) 0 0 := by
  have hK := zR_K8 hR
  have hn := zR_n6 hR
  have hN := zR_n hR ha ht
  refine zC_ofA (lv := [some (.ref (b + o)), some (.int (nI a)), some (.int (nI t)), none]) (by decide) rfl (Nat.le_of_ble_eq_true rfl) ?_
  refine z_iload_n (q := 1) dX6_ownsLiveClaim_0 rfl rfl ?_
  refine z_iload_n (q := 2) dX6_ownsLiveClaim_1 rfl rfl ?_
  refine z_s2 (q := 5) dX6_ownsLiveClaim_2 zkX6_79 zt_mX7_noteIndex rfl (Nat.le_of_ble_eq_true rfl) (ct_X7_noteIndex) rfl ?_
  refine z_istore_n (q := 6) dX6_ownsLiveClaim_5 (Nat.le_of_ble_eq_true rfl) rfl rfl ?_
  refine z_aload_n (q := 7) dX6_ownsLiveClaim_6 rfl rfl ?_
  refine z_get (q := 10) dX6_ownsLiveClaim_7 zfX6_46 (by first | exact zT_o hw | exact zT_w hw rfl | exact zT_N (zNo_w hw) | exact zT_n (zNo_w hw) (by decide) | exact zT_N hp | exact zT_n hp (by decide)) rfl rfl ?_
  refine z_iload_n (q := 11) dX6_ownsLiveClaim_10 rfl rfl ?_
  refine z_iload_n (q := 12) dX6_ownsLiveClaim_11 rfl rfl ?_
  refine z_v2 (q := 15) dX6_ownsLiveClaim_12 zkX6_83 zt_mX2_isClaimOf rfl (by first | exact zT_o hw | exact zT_w hw rfl | exact zT_N (zNo_w hw) | exact zT_n (zNo_w hw) (by decide) | exact zT_N hp | exact zT_n hp (by decide)) rfl (Nat.le_of_ble_eq_true rfl) (ct_X2_isClaimOf (zNo_w hw) (by omega)) rfl ?_
  refine z_ifb_eq (tg := 37) (q := 18) dX6_ownsLiveClaim_15 rfl rfl ?_ ?_
  · intro hc15
    rw [zRn_own hN] at hc15
    refine z_iconst (q := 38) dX6_ownsLiveClaim_37 zci_0 rfl ?_
    exact z_retz dX6_ownsLiveClaim_38 rfl (by first | exact Or.inl rfl | exact Or.inr rfl) (by first | exact zVt (by simp_all [qOwn]; done) | exact zVf (by simp_all [qOwn, qLive]))
  · intro hc15
    rw [zRn_own hN] at hc15
    refine z_aload_n (q := 19) dX6_ownsLiveClaim_18 rfl rfl ?_
    refine z_get (q := 22) dX6_ownsLiveClaim_19 zfX6_46 (by first | exact zT_o hw | exact zT_w hw rfl | exact zT_N (zNo_w hw) | exact zT_n (zNo_w hw) (by decide) | exact zT_N hp | exact zT_n hp (by decide)) rfl rfl ?_
    refine z_iload_n (q := 23) dX6_ownsLiveClaim_22 rfl rfl ?_
    refine z_aload_n (q := 24) dX6_ownsLiveClaim_23 rfl rfl ?_
    refine z_get (q := 27) dX6_ownsLiveClaim_24 zfX6_56 (by first | exact zT_o hw | exact zT_w hw rfl | exact zT_N (zNo_w hw) | exact zT_n (zNo_w hw) (by decide) | exact zT_N hp | exact zT_n hp (by decide)) rfl rfl ?_
    refine z_eqi (zR_3 hR) ?_
    refine z_v2 (q := 30) dX6_ownsLiveClaim_27 zkX6_87 zt_mX2_isLiveClaim rfl (by first | exact zT_o hw | exact zT_w hw rfl | exact zT_N (zNo_w hw) | exact zT_n (zNo_w hw) (by decide) | exact zT_N hp | exact zT_n hp (by decide)) rfl (Nat.le_of_ble_eq_true rfl) (ct_X2_isLiveClaim (zNo_w hw) (by omega)) rfl ?_
    refine z_ifb_eq (tg := 37) (q := 33) dX6_ownsLiveClaim_30 rfl rfl ?_ ?_
    · intro hc30
      rw [zRn_live hN] at hc30
      refine z_iconst (q := 38) dX6_ownsLiveClaim_37 zci_0 rfl ?_
      exact z_retz dX6_ownsLiveClaim_38 rfl (by first | exact Or.inl rfl | exact Or.inr rfl) (by first | exact zVt (by simp_all [qOwn]; done) | exact zVf (by simp_all [qOwn, qLive]))
    · intro hc30
      rw [zRn_live hN] at hc30
      refine z_iconst (q := 34) dX6_ownsLiveClaim_33 zci_1 rfl ?_
      refine z_goto (q := 0) (tg := 38) dX6_ownsLiveClaim_34 rfl ?_
      exact z_retz dX6_ownsLiveClaim_38 rfl (by first | exact Or.inl rfl | exact Or.inr rfl) (by first | exact zVt (by simp_all [qOwn]; done) | exact zVf (by simp_all [qOwn, qLive]))
set_option maxRecDepth 100000 in
set_option maxHeartbeats 4000000 in
theorem ct_X6_ownTask {g : zGl} {h : zHp} {b o n K a : Nat} {d : Nat → Nat → Int32} {f : Nat → Int32} (hw : zWo o) (hR : zR d o f n K) (ha : a < n) : zC g mX6_ownTask [.ref (b + o), .int (nI a)] (zpT g h b d) (zV (zpT g h b d) (.int (qT (qOwnTask f K a)))) 0 0 := by
  have hK := zR_K8 hR
  refine zC_ofA (lv := [some (.ref (b + o)), some (.int (nI a)), none]) (by decide) rfl (Nat.le_of_ble_eq_true rfl) ?_
  have loop : ∀ r i, i + r = K → (∀ j, j < i → qOwn f a j = false) → zA g (zZc g mX6_ownTask (zV (zpT g h b d) (.int (qT (qOwnTask f K a)))) 0 0) 0 0 2 [some (.ref (b + o)), some (.int (nI a)), some (.int (nI i))] [] (zpT g h b d) := by
    intro r
    induction r using Nat.strongRecOn with
    | ind r ih =>
      intro i hi hj
      refine z_iload_n (q := 3) dX6_ownTask_2 rfl rfl ?_
      refine z_aload_n (q := 4) dX6_ownTask_3 rfl rfl ?_
      refine z_get (q := 7) dX6_ownTask_4 zfX6_53 (by first | exact zT_o hw | exact zT_w hw rfl | exact zT_N (zNo_w hw) | exact zT_n (zNo_w hw) (by decide) | exact zT_N hp | exact zT_n hp (by decide)) rfl rfl ?_
      refine z_eqi (zR_1 hR) ?_
      refine z_icmp_geN (tg := 27) (q := 10) dX6_ownTask_7 rfl rfl (by omega) (by omega) ?_ ?_
      · intro hc7
        refine z_bipush (q := 29) dX6_ownTask_27 zcb_m9 rfl ?_
        exact z_reti dX6_ownTask_29 rfl (⟨by rw [qOwnTask, qFst_none (fun j hj2 => hj j (by omega))]; rfl, rfl⟩)
      · intro hc7
        refine z_aload_n (q := 11) dX6_ownTask_10 rfl rfl ?_
        refine z_iload_n (q := 12) dX6_ownTask_11 rfl rfl ?_
        refine z_iload_n (q := 13) dX6_ownTask_12 rfl rfl ?_
        refine z_v2 (q := 16) dX6_ownTask_13 zkX6_90 zt_mX6_ownsLiveClaim rfl (by first | exact zT_o hw | exact zT_w hw rfl | exact zT_N (zNo_w hw) | exact zT_n (zNo_w hw) (by decide) | exact zT_N hp | exact zT_n hp (by decide)) rfl (Nat.le_of_ble_eq_true rfl) (ct_X6_ownsLiveClaim hw hR ha (by omega)) rfl ?_
        refine z_ifb_eq (tg := 21) (q := 19) dX6_ownTask_16 rfl rfl ?_ ?_
        · intro hc16
          refine z_iincN (q := 24) dX6_ownTask_21 rfl rfl rfl ?_
          refine z_goto (q := 0) (tg := 2) dX6_ownTask_24 rfl ?_
          refine ih (r - 1) (by omega) (i + 1) (by omega) (fun j hj2 => ?_)
          rcases Nat.lt_succ_iff_lt_or_eq.mp hj2 with h9 | rfl
          · exact hj j h9
          · exact hc16
        · intro hc16
          refine z_iload_n (q := 20) dX6_ownTask_19 rfl rfl ?_
          exact z_reti dX6_ownTask_20 rfl (⟨by rw [qOwnTask, qFst_some (i := i) (by omega) hc16 hj]; rfl, rfl⟩)
  refine z_iconst (q := 1) dX6_ownTask_0 zci_0 rfl ?_
  refine z_istore_n (q := 2) dX6_ownTask_1 (Nat.le_of_ble_eq_true rfl) rfl rfl ?_
  exact loop K 0 (by omega) (fun j hj => absurd hj (Nat.not_lt_zero j))
