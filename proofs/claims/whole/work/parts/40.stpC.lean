/-! ===== the component: an agent chooses its claim ===== -/
/-- of a's first i notes those are empty that c holds of -/
def qErs (c : Nat → Bool) (f : Nat → Int32) (a i : Nat) : Nat → Int32 := fun j => if 72 + 32 * a ≤ j ∧ j < 72 + 32 * a + 4 * i ∧ c ((j - 72 - 32 * a) / 4) = true then nI 0 else f j
theorem qErs_0 {c : Nat → Bool} {f : Nat → Int32} {a : Nat} : qErs c f a 0 = f := by
  funext j
  rw [qErs, if_neg (by omega)]
theorem qErs_t {c : Nat → Bool} {f : Nat → Int32} {a i : Nat} (h : c i = true) : qLay (qErs c f a i) (72 + 4 * (8 * a + i)) (nI 0) (nI 0) (nI 0) (nI 0) = qErs c f a (i + 1) := by
  funext j
  by_cases hb : 72 + 4 * (8 * a + i) ≤ j ∧ j < 72 + 4 * (8 * a + i) + 4
  · have e : (j - 72 - 32 * a) / 4 = i := by omega
    have r : qErs c f a (i + 1) j = nI 0 := by
      rw [qErs, e]
      exact if_pos ⟨by omega, by omega, h⟩
    rw [r]
    simp only [qLay, va_up]
    rcases (show j = 72 + 4 * (8 * a + i) ∨ j = 72 + 4 * (8 * a + i) + 1 ∨ j = 72 + 4 * (8 * a + i) + 2 ∨ j = 72 + 4 * (8 * a + i) + 3 by omega) with rfl | rfl | rfl | rfl <;> simp
  · have l : qLay (qErs c f a i) (72 + 4 * (8 * a + i)) (nI 0) (nI 0) (nI 0) (nI 0) j = qErs c f a i j := by
      rw [qLay, zu_ne (by omega), zu_ne (by omega), zu_ne (by omega), zu_ne (by omega)]
    rw [l, qErs, qErs]
    by_cases h1 : 72 + 32 * a ≤ j ∧ j < 72 + 32 * a + 4 * i ∧ c ((j - 72 - 32 * a) / 4) = true
    · rw [if_pos h1, if_pos ⟨h1.1, by omega, h1.2.2⟩]
    · rw [if_neg h1, if_neg (fun h2 => h1 ⟨h2.1, by omega, h2.2.2⟩)]
theorem qErs_f {c : Nat → Bool} {f : Nat → Int32} {a i : Nat} (h : c i = false) : qErs c f a i = qErs c f a (i + 1) := by
  funext j
  rw [qErs, qErs]
  by_cases h1 : 72 + 32 * a ≤ j ∧ j < 72 + 32 * a + 4 * i ∧ c ((j - 72 - 32 * a) / 4) = true
  · rw [if_pos h1, if_pos ⟨h1.1, by omega, h1.2.2⟩]
  · rw [if_neg h1, if_neg (fun h2 => ?_)]
    by_cases hb : 72 + 4 * (8 * a + i) ≤ j
    · have e : (j - 72 - 32 * a) / 4 = i := by omega
      have h3 := h2.2.2
      rw [e, h] at h3
      exact Bool.false_ne_true h3
    · exact h1 ⟨h2.1, by omega, h2.2.2⟩
theorem qErs_n {c : Nat → Bool} {f : Nat → Int32} {a i t w : Nat} (ht : i ≤ t) (hw : w < 4) : qErs c f a i (72 + 4 * (8 * a + t) + w) = f (72 + 4 * (8 * a + t) + w) := by
  rw [qErs, if_neg (by omega)]
theorem qErs_l {c : Nat → Bool} {f : Nat → Int32} {a i j : Nat} (hj : j < 72) : qErs c f a i j = f j := by
  rw [qErs, if_neg (by omega)]
def qOc (f : Nat → Int32) (a t : Nat) : Bool := decide (f (72 + 4 * (8 * a + t)) = nI 1) && decide (f (72 + 4 * (8 * a + t) + 1) = nI a)
theorem qDrop_e {f : Nat → Int32} {a i : Nat} : (qDrop f a i).1 = qErs (qOc f a) f a i := by
  induction i with
  | zero => exact qErs_0.symm
  | succ i ih =>
    have e0 : (qDrop f a i).1 (72 + 4 * (8 * a + i)) = f (72 + 4 * (8 * a + i)) := by rw [ih]; exact qErs_n (w := 0) (Nat.le_refl i) (by decide)
    have e1 : (qDrop f a i).1 (72 + 4 * (8 * a + i) + 1) = f (72 + 4 * (8 * a + i) + 1) := by rw [ih]; exact qErs_n (Nat.le_refl i) (by decide)
    cases hc : qOc f a i with
    | true =>
      rw [qDrop_y (by rw [e0, e1]; exact hc)]
      show qLay (qDrop f a i).1 _ _ _ _ _ = _
      rw [ih]
      exact qErs_t hc
    | false =>
      rw [qDrop_n (by rw [e0, e1]; exact hc), ih]
      exact qErs_f hc
theorem qOwn_c {f g : Nat → Int32} {a t : Nat} (h0 : g (72 + 4 * (8 * a + t)) = f (72 + 4 * (8 * a + t))) (h1 : g (72 + 4 * (8 * a + t) + 1) = f (72 + 4 * (8 * a + t) + 1)) (h3 : g (72 + 4 * (8 * a + t) + 3) = f (72 + 4 * (8 * a + t) + 3)) (h2 : g 2 = f 2) : qOwn g a t = qOwn f a t := by
  rw [qOwn, qOwn, qLive, qLive, h0, h1, h2, h3]
theorem qKeep_e {f : Nat → Int32} {a k i : Nat} : qKeep f a k i = qErs (fun t => qOwn f a t && !decide (t = k)) f a i := by
  induction i with
  | zero => exact qErs_0.symm
  | succ i ih =>
    have e : qOwn (qKeep f a k i) a i = qOwn f a i := by
      rw [ih]
      exact qOwn_c (qErs_n (w := 0) (Nat.le_refl i) (by decide)) (qErs_n (Nat.le_refl i) (by decide)) (qErs_n (Nat.le_refl i) (by decide)) (qErs_l (by decide))
    have s : qKeep f a k (i + 1) = if qOwn (qKeep f a k i) a i && !decide (i = k) then qLay (qKeep f a k i) (72 + 4 * (8 * a + i)) (nI 0) (nI 0) (nI 0) (nI 0) else qKeep f a k i := rfl
    rw [s, e]
    cases hc : (qOwn f a i && !decide (i = k)) with
    | true =>
      rw [if_pos rfl, ih]
      exact qErs_t hc
    | false =>
      rw [if_neg (by decide), ih]
      exact qErs_f hc
/-- a has no claim of its own that is expired -/
def zNx (f : Nat → Int32) (K a : Nat) : Prop := ∀ t, t < K → f (72 + 4 * (8 * a + t)) = nI 1 → ¬ f (72 + 4 * (8 * a + t) + 3) ≤ f 2
theorem zNx_o {f : Nat → Int32} {K a t : Nat} (h : zNx f K a) (ht : t < K) : qOc f a t = qOwn f a t := by
  rw [qOc, qOwn, qLive]
  by_cases hk : f (72 + 4 * (8 * a + t)) = nI 1
  · have h3 := h t ht hk
    simp [hk, h3]
  · simp [hk]
theorem qLay_cg {A B : Nat → Int32} {p : Nat} {x y z w : Int32} (h : ∀ j, j < p ∨ p + 4 ≤ j → A j = B j) : qLay A p x y z w = qLay B p x y z w := by
  funext j
  simp only [qLay, va_up]
  by_cases h3 : j = p + 3
  · simp [h3]
  · by_cases h2 : j = p + 2
    · simp [h2]
    · by_cases h1 : j = p + 1
      · simp [h1]
      · by_cases h0 : j = p
        · simp [h0]
        · simp only [h3, h2, h1, h0, if_false]
          exact h j (by omega)
theorem drop_keep {f : Nat → Int32} {K a k : Nat} {x y z w : Int32} (h : zNx f K a) : qLay (qDrop f a K).1 (72 + 4 * (8 * a + k)) x y z w = qLay (qKeep f a k K) (72 + 4 * (8 * a + k)) x y z w := by
  refine qLay_cg (fun j hj => ?_)
  rw [qDrop_e, qKeep_e, qErs, qErs]
  by_cases hb : 72 + 32 * a ≤ j ∧ j < 72 + 32 * a + 4 * K
  · have ht : (j - 72 - 32 * a) / 4 < K := by omega
    have hk : ¬ (j - 72 - 32 * a) / 4 = k := by omega
    simp only [zNx_o h ht, hk, decide_false, Bool.not_false, Bool.and_true]
  · rw [if_neg (fun h2 => hb ⟨h2.1, h2.2.1⟩), if_neg (fun h2 => hb ⟨h2.1, h2.2.1⟩)]
theorem near_none {p : Nat → Bool} {D : Nat → Int32} {K t : Nat} (h : qNear p D K = none) (ht : t < K) : p t = false := by
  induction K with
  | zero => omega
  | succ K ih =>
    cases e : qNear p D K with
    | some k =>
      exfalso
      have h3 : ¬ qNear p D (K + 1) = none := by
        rw [qNear_s', e]
        by_cases h9 : (p K && !decide (D k ≤ D K)) = true
        · simp [h9]
        · simp [h9]
      exact h3 h
    | none =>
      have hp : p K = false := by
        cases hp : p K with
        | false => rfl
        | true =>
          rw [qNear_0 e hp] at h
          cases h
      rcases Nat.lt_succ_iff_lt_or_eq.mp ht with h9 | rfl
      · exact ih e h9
      · exact hp
theorem drop_none {f : Nat → Int32} {K a : Nat} (h : zNx f K a) (hN : qNear (qOwn f a) (qFar f a) K = none) : (qDrop f a K).1 = f := by
  rw [qDrop_e]
  funext j
  rw [qErs]
  refine if_neg (fun h2 => ?_)
  have ht : (j - 72 - 32 * a) / 4 < K := by omega
  have h3 := h2.2.2
  rw [zNx_o h ht, near_none hN ht] at h3
  exact Bool.false_ne_true h3
set_option maxRecDepth 100000 in
set_option maxHeartbeats 4000000 in
theorem ct_X4_chooseClaim {g : zGl} {h : zHp} {b o n K a : Nat} {d : Nat → Nat → Int32} {f : Nat → Int32} (hw : zWo o) (hR : zR d o f n K) (ha : a < n) (hx : zNx f K a) : zC g mX4_chooseClaim [.ref (b + o), .int (nI a)] (zpT g h b d) (zTU g h b (fun D => zR D o (qClaim f K a) n K ∧ zOut d D o 15) none) 0 0 := by
  have hn := zR_n6 hR
  have hK := zR_K8 hR
  have han : zPl (nI a) n := ⟨a, ha, rfl⟩
  refine zC_ofA (lv := [some (.ref (b + o)), some (.int (nI a)), none]) (by decide) rfl (Nat.le_of_ble_eq_true rfl) ?_
  have fin : ∀ k, k < K → qClaim f K a = qLay (qDrop f a K).1 (72 + 4 * (8 * a + k)) (nI 1) (nI a) (qFar (qDrop f a K).1 a k) (f 2 + f 3) → zA g (zZc g mX4_chooseClaim (zTU g h b (fun D => zR D o (qClaim f K a) n K ∧ zOut d D o 15) none) 0 0) 0 0 27 [some (.ref (b + o)), some (.int (nI a)), some (.int (nI k))] [] (zpT g h b d) := by
    intro k hk hq
    refine z_aload_n (q := 28) dX4_chooseClaim_27 rfl rfl ?_
    refine z_iload_n (q := 29) dX4_chooseClaim_28 rfl rfl ?_
    refine z_V1 (q := 32) dX4_chooseClaim_29 zkX4_86 zt_mX6_dropClaims rfl (by first | exact zT_o hw | exact zT_w hw rfl | exact zT_N (zNo_w hw) | exact zT_n (zNo_w hw) (by decide)) rfl (Nat.le_of_ble_eq_true rfl) (ct_X6_dropClaims hw hR ha) (Nat.zero_le _) (Nat.zero_le _) rfl ?_
    rintro _ _ ⟨rfl, D, rfl, hD, hO⟩
    refine z_pop (q := 33) dX4_chooseClaim_32 rfl rfl ?_
    refine z_aload_n (q := 34) dX4_chooseClaim_33 rfl rfl ?_
    refine z_get (q := 37) dX4_chooseClaim_34 zfX4_18 (by first | exact zT_o hw | exact zT_w hw rfl | exact zT_N (zNo_w hw) | exact zT_n (zNo_w hw) (by decide)) rfl rfl ?_
    refine z_iload_n (q := 38) dX4_chooseClaim_37 rfl rfl ?_
    refine z_iload_n (q := 39) dX4_chooseClaim_38 rfl rfl ?_
    refine z_s2 (q := 42) dX4_chooseClaim_39 zkX4_55 zt_mX7_noteIndex rfl (Nat.le_of_ble_eq_true rfl) (ct_X7_noteIndex) rfl ?_
    refine z_iload_n (q := 43) dX4_chooseClaim_42 rfl rfl ?_
    refine z_aload_n (q := 44) dX4_chooseClaim_43 rfl rfl ?_
    refine z_iload_n (q := 45) dX4_chooseClaim_44 rfl rfl ?_
    refine z_iload_n (q := 46) dX4_chooseClaim_45 rfl rfl ?_
    refine z_v2 (q := 49) dX4_chooseClaim_46 zkX4_89 zt_mX6_wayToTask rfl (by first | exact zT_o hw | exact zT_w hw rfl | exact zT_N (zNo_w hw) | exact zT_n (zNo_w hw) (by decide)) rfl (Nat.le_of_ble_eq_true rfl) (ct_X6_wayToTask hw hD ha hk) rfl ?_
    refine z_aload_n (q := 50) dX4_chooseClaim_49 rfl rfl ?_
    refine z_get (q := 53) dX4_chooseClaim_50 zfX4_45 (by first | exact zT_o hw | exact zT_w hw rfl | exact zT_N (zNo_w hw) | exact zT_n (zNo_w hw) (by decide)) rfl rfl ?_
    refine z_eqi ((zR_3 hD).trans (qDrop_lt (by decide))) ?_
    refine z_aload_n (q := 54) dX4_chooseClaim_53 rfl rfl ?_
    refine z_get (q := 57) dX4_chooseClaim_54 zfX4_92 (by first | exact zT_o hw | exact zT_w hw rfl | exact zT_N (zNo_w hw) | exact zT_n (zNo_w hw) (by decide)) rfl rfl ?_
    refine z_eqi ((zR_2 hD).trans (qDrop_lt (by decide))) ?_
    refine z_iadd (q := 58) dX4_chooseClaim_57 rfl ?_
    refine z_w4 (q := 61) dX4_chooseClaim_58 zkX4_95 zt_mX2_makeClaim rfl (by first | exact zT_o hw | exact zT_w hw rfl | exact zT_N (zNo_w hw) | exact zT_n (zNo_w hw) (by decide)) rfl (Nat.le_of_ble_eq_true rfl) (ct_X2_makeClaim (zNo_w hw) (by omega)) rfl ?_
    exact z_ret dX4_chooseClaim_61 rfl (⟨rfl, _, rfl, by rw [hq]; exact zR_cl ha hk han hD, zOut_cl hO⟩)
  cases h1 : qNear (qOwn f a) (qFar f a) K with
  | some k =>
    have hk : k < K := (qNear_lt h1).1
    have hq : qClaim f K a = qLay (qDrop f a K).1 (72 + 4 * (8 * a + k)) (nI 1) (nI a) (qFar (qDrop f a K).1 a k) (f 2 + f 3) := by
      rw [qClaim, h1]
      show qLay (qKeep f a k K) _ _ _ _ _ = _
      rw [drop_keep hx]
      congr 1
      rw [qDrop_e, qKeep_e, qFar, qFar, qErs_l (by omega), qErs_l (by omega), qErs_l (by omega), qErs_l (by omega), qErs_l (by omega), qErs_l (by omega), qErs_l (by omega), qErs_l (by omega)]
    refine z_aload_n (q := 1) dX4_chooseClaim_0 rfl rfl ?_
    refine z_iload_n (q := 2) dX4_chooseClaim_1 rfl rfl ?_
    refine z_iconst (q := 3) dX4_chooseClaim_2 zci_1 rfl ?_
    refine z_s3 (q := 6) dX4_chooseClaim_3 zkX4_82 zt_mX4_nearest rfl (Nat.le_of_ble_eq_true rfl) (ct_X4_nearest1 hw hR ha) rfl ?_
    refine z_eqi (show qT (qNear (qOwn f a) (qFar f a) K) = nI k by rw [h1]; rfl) ?_
    refine z_istore_n (q := 7) dX4_chooseClaim_6 (Nat.le_of_ble_eq_true rfl) rfl rfl ?_
    refine z_iload_n (q := 8) dX4_chooseClaim_7 rfl rfl ?_
    refine z_bipush (q := 10) dX4_chooseClaim_8 zcb_m9 rfl ?_
    refine z_icmp_ne (tg := 20) (q := 13) dX4_chooseClaim_10 rfl rfl ?_ ?_
    · intro hc10
      refine z_iload_n (q := 21) dX4_chooseClaim_20 rfl rfl ?_
      refine z_bipush (q := 23) dX4_chooseClaim_21 zcb_m9 rfl ?_
      refine z_icmp_ne (tg := 27) (q := 26) dX4_chooseClaim_23 rfl rfl ?_ ?_
      · intro hc23
        exact fin k hk hq
      · intro hc23
        exact absurd hc23 (nI_nm9 (by omega))
    · intro hc10
      exact absurd hc10 (nI_nm9 (by omega))
  | none =>
    cases h2 : qNear (qFree f a) (qFar f a) K with
    | some k =>
      have hk : k < K := (qNear_lt h2).1
      have hq : qClaim f K a = qLay (qDrop f a K).1 (72 + 4 * (8 * a + k)) (nI 1) (nI a) (qFar (qDrop f a K).1 a k) (f 2 + f 3) := by
        rw [drop_none hx h1, qClaim, h1, h2]
      refine z_aload_n (q := 1) dX4_chooseClaim_0 rfl rfl ?_
      refine z_iload_n (q := 2) dX4_chooseClaim_1 rfl rfl ?_
      refine z_iconst (q := 3) dX4_chooseClaim_2 zci_1 rfl ?_
      refine z_s3 (q := 6) dX4_chooseClaim_3 zkX4_82 zt_mX4_nearest rfl (Nat.le_of_ble_eq_true rfl) (ct_X4_nearest1 hw hR ha) rfl ?_
      refine z_eqi (show qT (qNear (qOwn f a) (qFar f a) K) = -9 by rw [h1]; rfl) ?_
      refine z_istore_n (q := 7) dX4_chooseClaim_6 (Nat.le_of_ble_eq_true rfl) rfl rfl ?_
      refine z_iload_n (q := 8) dX4_chooseClaim_7 rfl rfl ?_
      refine z_bipush (q := 10) dX4_chooseClaim_8 zcb_m9 rfl ?_
      refine z_icmp_ne (tg := 20) (q := 13) dX4_chooseClaim_10 rfl rfl ?_ ?_
      · intro hc10
        exact absurd rfl hc10
      · intro hc10
        refine z_aload_n (q := 14) dX4_chooseClaim_13 rfl rfl ?_
        refine z_iload_n (q := 15) dX4_chooseClaim_14 rfl rfl ?_
        refine z_iconst (q := 16) dX4_chooseClaim_15 zci_0 rfl ?_
        refine z_s3 (q := 19) dX4_chooseClaim_16 zkX4_82 zt_mX4_nearest rfl (Nat.le_of_ble_eq_true rfl) (ct_X4_nearest0 hw hR ha) rfl ?_
        refine z_eqi (show qT (qNear (qFree f a) (qFar f a) K) = nI k by rw [h2]; rfl) ?_
        refine z_istore_n (q := 20) dX4_chooseClaim_19 (Nat.le_of_ble_eq_true rfl) rfl rfl ?_
        refine z_iload_n (q := 21) dX4_chooseClaim_20 rfl rfl ?_
        refine z_bipush (q := 23) dX4_chooseClaim_21 zcb_m9 rfl ?_
        refine z_icmp_ne (tg := 27) (q := 26) dX4_chooseClaim_23 rfl rfl ?_ ?_
        · intro hc23
          exact fin k hk hq
        · intro hc23
          exact absurd hc23 (nI_nm9 (by omega))
    | none =>
      have hq : qClaim f K a = f := by rw [qClaim, h1, h2]
      refine z_aload_n (q := 1) dX4_chooseClaim_0 rfl rfl ?_
      refine z_iload_n (q := 2) dX4_chooseClaim_1 rfl rfl ?_
      refine z_iconst (q := 3) dX4_chooseClaim_2 zci_1 rfl ?_
      refine z_s3 (q := 6) dX4_chooseClaim_3 zkX4_82 zt_mX4_nearest rfl (Nat.le_of_ble_eq_true rfl) (ct_X4_nearest1 hw hR ha) rfl ?_
      refine z_eqi (show qT (qNear (qOwn f a) (qFar f a) K) = -9 by rw [h1]; rfl) ?_
      refine z_istore_n (q := 7) dX4_chooseClaim_6 (Nat.le_of_ble_eq_true rfl) rfl rfl ?_
      refine z_iload_n (q := 8) dX4_chooseClaim_7 rfl rfl ?_
      refine z_bipush (q := 10) dX4_chooseClaim_8 zcb_m9 rfl ?_
      refine z_icmp_ne (tg := 20) (q := 13) dX4_chooseClaim_10 rfl rfl ?_ ?_
      · intro hc10
        exact absurd rfl hc10
      · intro hc10
        refine z_aload_n (q := 14) dX4_chooseClaim_13 rfl rfl ?_
        refine z_iload_n (q := 15) dX4_chooseClaim_14 rfl rfl ?_
        refine z_iconst (q := 16) dX4_chooseClaim_15 zci_0 rfl ?_
        refine z_s3 (q := 19) dX4_chooseClaim_16 zkX4_82 zt_mX4_nearest rfl (Nat.le_of_ble_eq_true rfl) (ct_X4_nearest0 hw hR ha) rfl ?_
        refine z_eqi (show qT (qNear (qFree f a) (qFar f a) K) = -9 by rw [h2]; rfl) ?_
        refine z_istore_n (q := 20) dX4_chooseClaim_19 (Nat.le_of_ble_eq_true rfl) rfl rfl ?_
        refine z_iload_n (q := 21) dX4_chooseClaim_20 rfl rfl ?_
        refine z_bipush (q := 23) dX4_chooseClaim_21 zcb_m9 rfl ?_
        refine z_icmp_ne (tg := 27) (q := 26) dX4_chooseClaim_23 rfl rfl ?_ ?_
        · intro hc23
          exact absurd rfl hc23
        · intro hc23
          exact z_ret dX4_chooseClaim_26 rfl (⟨rfl, _, rfl, by rw [hq]; exact hR, zOut_r⟩)
