/-! ===== the reference: forecasts ===== -/
/-- now into trial, and the trial as it is then -/
theorem z_try {g : zGl} {Z : zZt} {k n pc : Nat} {lv : List (Option Value)} {st : List Value} {h : zHp} {m : Nat} {U : Nat → Nat → Int32} {f : Nat → Int32} (h3 : U 3 = f) (kk : zA g Z k n pc lv st (zpM g h m (va_up U 4 f))) : zA g Z k n pc lv st (zpM g h m (va_up U 4 (va_cpy (U 3) (U 4) 0 0 264))) := by
  refine z_cgM (c := 4) (N := 264) (f := f) rfl (fun j hj => by rw [zu_eq, h3]; exact cpy_all j hj) ?_
  rw [zu_up]
  exact kk
theorem zSc_st {u U : Nat → Nat → Int32} {f e : Nat → Int32} (hS : zSc u U) : zSc u (va_up (va_up U 5 e) 4 f) := zSc_t hS (zSc_t (zSc_w (c := 5) (by decide)).1 (zSc_w (c := 4) (by decide)).1)
def qFA (f : Nat → Int32) (n K k : Nat) : Int32 := qT (qFst (fun i => !decide (qFin (qSteps f n K i) K < nI k)) 151)
set_option maxRecDepth 100000 in
set_option maxHeartbeats 4000000 in
theorem ct_X8_finishedAfter1 {g : zGl} {h : zHp} {m : Nat} {x : Int32} {u : Nat → Nat → Int32} (hv : qBt x 0 8 = false) : zC g mX8_finishedAfter [.ref m, .int x] (zpM g h m u) (zMP g h m u (nI 1) (nI 0)) 0 0 := by
  refine zC_ofA (lv := [some (.ref m), some (.int x), none]) (by decide) rfl (Nat.le_of_ble_eq_true rfl) ?_
  refine z_aload_n (q := 1) dX8_finishedAfter_0 rfl rfl ?_
  refine z_iload_n (q := 2) dX8_finishedAfter_1 rfl rfl ?_
  refine z_i2l (q := 3) dX8_finishedAfter_2 rfl rfl ?_
  refine z_lconst (q := 4) (v := 0) dX8_finishedAfter_3 (by decide) rfl ?_
  refine z_ldc2 (q := 7) dX8_finishedAfter_4 zqX8_216 rfl ?_
  refine z_s3 (q := 10) dX8_finishedAfter_7 zkX8_57 zt_mX8_in rfl (Nat.le_of_ble_eq_true rfl) (ct_X8_in) rfl ?_
  refine z_eqi ((congrArg zbi ((qIn_bt (by decide) (by decide) (by decide) (by decide)).trans hv)).trans zbi_f) ?_
  refine z_if_eq (tg := 17) (q := 13) dX8_finishedAfter_10 rfl rfl ?_ ?_
  · intro hc10
    refine z_iconst (q := 18) dX8_finishedAfter_17 zci_1 rfl ?_
    refine z_x1 (q := 21) dX8_finishedAfter_18 zkX8_126 zt_mX8_refused rfl (by first | exact zpM_0 | exact zpM_a rfl | exact zpM_8) rfl (Nat.le_of_ble_eq_true rfl) (ct_X8_refused) rfl ?_
    refine z_eqi (show zbi (!decide (nI 1 ≤ 0)) = nI 1 by decide) ?_
    refine z_if_eq (tg := 26) (q := 24) dX8_finishedAfter_21 rfl rfl ?_ ?_
    · intro hc21
      exact absurd hc21 (by decide)
    · intro hc21
      refine z_iconst (q := 25) dX8_finishedAfter_24 zci_0 rfl ?_
      exact z_reti dX8_finishedAfter_25 rfl (zMP_i rfl zSc_rf rfl)
  · intro hc10
    exact absurd hc10 (by decide)
set_option maxRecDepth 100000 in
set_option maxHeartbeats 4000000 in
theorem ct_X8_finishedAfter0 {g : zGl} {h : zHp} {m n K x : Nat} {u : Nat → Nat → Int32} (hn : u 3 0 = nI n) (hn6 : n ≤ 6) (hK : u 3 1 = nI K) (hK8 : K ≤ 8) (hx : x ≤ 8) : zC g mX8_finishedAfter [.ref m, .int (nI x)] (zpM g h m u) (zMP g h m u (nI 0) (qFA (u 3) n K x)) 0 0 := by
  have hv : qBt (nI x) 0 8 = true := qBt_i (by omega) hx (by decide)
  refine zC_ofA (lv := [some (.ref m), some (.int (nI x)), none]) (by decide) rfl (Nat.le_of_ble_eq_true rfl) ?_
  have loop : ∀ d i U, i + d = 151 → (∀ j, j < i → (!decide (qFin (qSteps (u 3) n K j) K < nI x)) = false) → zSc u U → U 0 0 = nI 0 → U 4 = qSteps (u 3) n K i → zA g (zZc g mX8_finishedAfter (zMP g h m u (nI 0) (qFA (u 3) n K x)) 0 0) 0 0 44 [some (.ref m), some (.int (nI x)), some (.int (nI i))] [] (zpM g h m U) := by
    intro d
    induction d using Nat.strongRecOn with
    | ind d ih =>
      intro i U hi hj hS hrf h4
      have hn' : U 4 0 = nI n := by rw [h4, qSteps_0]; exact hn
      have hK' : U 4 1 = nI K := by rw [h4, qSteps_1]; exact hK
      refine z_iload_n (q := 45) dX8_finishedAfter_44 rfl rfl ?_
      refine z_sipush (q := 48) dX8_finishedAfter_45 zcs_150 rfl ?_
      refine z_icmp_gtN (tg := 78) (q := 51) dX8_finishedAfter_48 rfl rfl (by omega) (by omega) ?_ ?_
      · intro hc48
        refine z_bipush (q := 80) dX8_finishedAfter_78 zcb_m9 rfl ?_
        exact z_reti dX8_finishedAfter_80 rfl (zMP_i (by rw [qFA, qFst_none (fun j hj2 => hj j (by omega))]; rfl) hS hrf)
      · intro hc48
        refine z_aload_n (q := 52) dX8_finishedAfter_51 rfl rfl ?_
        refine z_get (q := 55) dX8_finishedAfter_52 zfX8_19 (by first | exact zpM_0 | exact zpM_a rfl | exact zpM_8) rfl rfl ?_
        refine z_s1 (q := 58) dX8_finishedAfter_55 zkX8_152 zt_mX8_finished rfl (Nat.le_of_ble_eq_true rfl) (ct_X8_finished (by first | exact zpM_0 | exact zpM_a rfl | exact zpM_8) (by assumption) (by omega)) rfl ?_
        refine z_iload_n (q := 59) dX8_finishedAfter_58 rfl rfl ?_
        refine z_icmp_lt (tg := 64) (q := 62) dX8_finishedAfter_59 rfl rfl ?_ ?_
        · intro hc59
          rw [h4] at hc59
          refine z_aload_n (q := 65) dX8_finishedAfter_64 rfl rfl ?_
          refine z_aload_n (q := 66) dX8_finishedAfter_65 rfl rfl ?_
          refine z_get (q := 69) dX8_finishedAfter_66 zfX8_19 (by first | exact zpM_0 | exact zpM_a rfl | exact zpM_8) rfl rfl ?_
          refine z_w1 (q := 72) dX8_finishedAfter_69 zkX8_177 zt_mX8_stepOn rfl (by first | exact zpM_0 | exact zpM_a rfl | exact zpM_8) rfl (Nat.le_of_ble_eq_true rfl) (ct_M_stepOn (Or.inr rfl) hn' hn6 hK' hK8) rfl ?_
          refine z_iincN (q := 75) dX8_finishedAfter_72 rfl rfl rfl ?_
          refine z_goto (q := 0) (tg := 44) dX8_finishedAfter_75 rfl ?_
          refine ih (d - 1) (by omega) (i + 1) _ (by omega) (fun j hj2 => ?_) (zSc_st hS) hrf (by rw [zu_eq, h4]; rfl)
          rcases Nat.lt_succ_iff_lt_or_eq.mp hj2 with h9 | rfl
          · exact hj j h9
          · simpa using hc59
        · intro hc59
          rw [h4] at hc59
          refine z_iload_n (q := 63) dX8_finishedAfter_62 rfl rfl ?_
          exact z_reti dX8_finishedAfter_63 rfl (zMP_i (by rw [qFA, qFst_some (i := i) (by omega) (by simpa using hc59) hj]; rfl) hS hrf)
  refine z_aload_n (q := 1) dX8_finishedAfter_0 rfl rfl ?_
  refine z_iload_n (q := 2) dX8_finishedAfter_1 rfl rfl ?_
  refine z_i2l (q := 3) dX8_finishedAfter_2 rfl rfl ?_
  refine z_lconst (q := 4) (v := 0) dX8_finishedAfter_3 (by decide) rfl ?_
  refine z_ldc2 (q := 7) dX8_finishedAfter_4 zqX8_216 rfl ?_
  refine z_s3 (q := 10) dX8_finishedAfter_7 zkX8_57 zt_mX8_in rfl (Nat.le_of_ble_eq_true rfl) (ct_X8_in) rfl ?_
  refine z_eqi ((congrArg zbi ((qIn_bt (by decide) (by decide) (by decide) (by decide)).trans hv)).trans zbi_t) ?_
  refine z_if_eq (tg := 17) (q := 13) dX8_finishedAfter_10 rfl rfl ?_ ?_
  · intro hc10
    exact absurd hc10 (by decide)
  · intro hc10
    refine z_iconst (q := 14) dX8_finishedAfter_13 zci_0 rfl ?_
    refine z_goto (q := 0) (tg := 18) dX8_finishedAfter_14 rfl ?_
    refine z_x1 (q := 21) dX8_finishedAfter_18 zkX8_126 zt_mX8_refused rfl (by first | exact zpM_0 | exact zpM_a rfl | exact zpM_8) rfl (Nat.le_of_ble_eq_true rfl) (ct_X8_refused) rfl ?_
    refine z_eqi (show zbi (!decide (nI 0 ≤ 0)) = nI 0 by decide) ?_
    refine z_if_eq (tg := 26) (q := 24) dX8_finishedAfter_21 rfl rfl ?_ ?_
    · intro hc21
      generalize hU : va_up u 0 (va_up (u 0) 0 (nI 0)) = U
      have hS : zSc u U := by subst hU; exact zSc_rf
      have hrf : U 0 0 = nI 0 := by subst hU; rfl
      have h3 : U 3 = u 3 := hS.2.1
      refine z_aload_n (q := 27) dX8_finishedAfter_26 rfl rfl ?_
      refine z_get (q := 30) dX8_finishedAfter_27 zfX8_16 (by first | exact zpM_0 | exact zpM_a rfl | exact zpM_8) rfl rfl ?_
      refine z_iconst (q := 31) dX8_finishedAfter_30 zci_0 rfl ?_
      refine z_aload_n (q := 32) dX8_finishedAfter_31 rfl rfl ?_
      refine z_get (q := 35) dX8_finishedAfter_32 zfX8_19 (by first | exact zpM_0 | exact zpM_a rfl | exact zpM_8) rfl rfl ?_
      refine z_iconst (q := 36) dX8_finishedAfter_35 zci_0 rfl ?_
      refine z_sipush (q := 39) dX8_finishedAfter_36 zcs_264 rfl ?_
      refine z_u5 (q := 42) dX8_finishedAfter_39 zkX8_53 zt_mX8_copy rfl (Nat.le_of_ble_eq_true rfl) (ct_M_copy (c := 3) (d := 4) rfl rfl (by decide) (by omega) (by omega)) rfl ?_
      refine z_try h3 ?_
      refine z_iconst (q := 43) dX8_finishedAfter_42 zci_0 rfl ?_
      refine z_istore_n (q := 44) dX8_finishedAfter_43 (Nat.le_of_ble_eq_true rfl) rfl rfl ?_
      exact loop 151 0 _ (by omega) (fun j hj => absurd hj (Nat.not_lt_zero j)) (zSc_t hS (zSc_w (c := 4) (by decide)).1) hrf (zu_eq _ _ _)
    · intro hc21
      exact absurd hc21 (by decide)
def qKA (f : Nat → Int32) (n K t : Nat) : Int32 := qT (qFst (fun i => qKnw (qSteps f n K i) n t) 151)
set_option maxRecDepth 100000 in
set_option maxHeartbeats 4000000 in
theorem ct_X8_knownAfter1 {g : zGl} {h : zHp} {m K : Nat} {x : Int32} {u : Nat → Nat → Int32} (hK : u 3 1 = nI K) (hK8 : K ≤ 8) (hv : qHas x K = false) : zC g mX8_knownAfter [.ref m, .int x] (zpM g h m u) (zMP g h m u (nI 1) (nI 0)) 0 0 := by
  refine zC_ofA (lv := [some (.ref m), some (.int x), none]) (by decide) rfl (Nat.le_of_ble_eq_true rfl) ?_
  refine z_aload_n (q := 1) dX8_knownAfter_0 rfl rfl ?_
  refine z_aload_n (q := 2) dX8_knownAfter_1 rfl rfl ?_
  refine z_iload_n (q := 3) dX8_knownAfter_2 rfl rfl ?_
  refine z_v1 (q := 6) dX8_knownAfter_3 zkX8_162 zt_mX8_isTask rfl (by first | exact zpM_0 | exact zpM_a rfl | exact zpM_8) rfl (Nat.le_of_ble_eq_true rfl) (ct_X8_isTask (by assumption) (by omega)) rfl ?_
  refine z_eqi ((congrArg zbi (hv)).trans zbi_f) ?_
  refine z_if_eq (tg := 13) (q := 9) dX8_knownAfter_6 rfl rfl ?_ ?_
  · intro hc6
    refine z_iconst (q := 14) dX8_knownAfter_13 zci_1 rfl ?_
    refine z_x1 (q := 17) dX8_knownAfter_14 zkX8_126 zt_mX8_refused rfl (by first | exact zpM_0 | exact zpM_a rfl | exact zpM_8) rfl (Nat.le_of_ble_eq_true rfl) (ct_X8_refused) rfl ?_
    refine z_eqi (show zbi (!decide (nI 1 ≤ 0)) = nI 1 by decide) ?_
    refine z_if_eq (tg := 22) (q := 20) dX8_knownAfter_17 rfl rfl ?_ ?_
    · intro hc17
      exact absurd hc17 (by decide)
    · intro hc17
      refine z_iconst (q := 21) dX8_knownAfter_20 zci_0 rfl ?_
      exact z_reti dX8_knownAfter_21 rfl (zMP_i rfl zSc_rf rfl)
  · intro hc6
    exact absurd hc6 (by decide)
set_option maxRecDepth 100000 in
set_option maxHeartbeats 4000000 in
theorem ct_X8_knownAfter0 {g : zGl} {h : zHp} {m n K x : Nat} {u : Nat → Nat → Int32} (hn : u 3 0 = nI n) (hn6 : n ≤ 6) (hK : u 3 1 = nI K) (hK8 : K ≤ 8) (hx : x < K) : zC g mX8_knownAfter [.ref m, .int (nI x)] (zpM g h m u) (zMP g h m u (nI 0) (qKA (u 3) n K x)) 0 0 := by
  have hv : qHas (nI x) K = true := qHas_i hx (by omega)
  refine zC_ofA (lv := [some (.ref m), some (.int (nI x)), none]) (by decide) rfl (Nat.le_of_ble_eq_true rfl) ?_
  have loop : ∀ d i U, i + d = 151 → (∀ j, j < i → qKnw (qSteps (u 3) n K j) n x = false) → zSc u U → U 0 0 = nI 0 → U 4 = qSteps (u 3) n K i → zA g (zZc g mX8_knownAfter (zMP g h m u (nI 0) (qKA (u 3) n K x)) 0 0) 0 0 40 [some (.ref m), some (.int (nI x)), some (.int (nI i))] [] (zpM g h m U) := by
    intro d
    induction d using Nat.strongRecOn with
    | ind d ih =>
      intro i U hi hj hS hrf h4
      have hn' : U 4 0 = nI n := by rw [h4, qSteps_0]; exact hn
      have hK' : U 4 1 = nI K := by rw [h4, qSteps_1]; exact hK
      refine z_iload_n (q := 41) dX8_knownAfter_40 rfl rfl ?_
      refine z_sipush (q := 44) dX8_knownAfter_41 zcs_150 rfl ?_
      refine z_icmp_gtN (tg := 74) (q := 47) dX8_knownAfter_44 rfl rfl (by omega) (by omega) ?_ ?_
      · intro hc44
        refine z_bipush (q := 76) dX8_knownAfter_74 zcb_m9 rfl ?_
        exact z_reti dX8_knownAfter_76 rfl (zMP_i (by rw [qKA, qFst_none (fun j hj2 => hj j (by omega))]; rfl) hS hrf)
      · intro hc44
        refine z_aload_n (q := 48) dX8_knownAfter_47 rfl rfl ?_
        refine z_get (q := 51) dX8_knownAfter_48 zfX8_19 (by first | exact zpM_0 | exact zpM_a rfl | exact zpM_8) rfl rfl ?_
        refine z_iload_n (q := 52) dX8_knownAfter_51 rfl rfl ?_
        refine z_s2 (q := 55) dX8_knownAfter_52 zkX8_218 zt_mX8_isKnown rfl (Nat.le_of_ble_eq_true rfl) (ct_X8_isKnown (by first | exact zpM_0 | exact zpM_a rfl | exact zpM_8) (by assumption) (by omega) (by omega)) rfl ?_
        refine z_ifb_eq (tg := 60) (q := 58) dX8_knownAfter_55 rfl rfl ?_ ?_
        · intro hc55
          rw [h4] at hc55
          refine z_aload_n (q := 61) dX8_knownAfter_60 rfl rfl ?_
          refine z_aload_n (q := 62) dX8_knownAfter_61 rfl rfl ?_
          refine z_get (q := 65) dX8_knownAfter_62 zfX8_19 (by first | exact zpM_0 | exact zpM_a rfl | exact zpM_8) rfl rfl ?_
          refine z_w1 (q := 68) dX8_knownAfter_65 zkX8_177 zt_mX8_stepOn rfl (by first | exact zpM_0 | exact zpM_a rfl | exact zpM_8) rfl (Nat.le_of_ble_eq_true rfl) (ct_M_stepOn (Or.inr rfl) hn' hn6 hK' hK8) rfl ?_
          refine z_iincN (q := 71) dX8_knownAfter_68 rfl rfl rfl ?_
          refine z_goto (q := 0) (tg := 40) dX8_knownAfter_71 rfl ?_
          refine ih (d - 1) (by omega) (i + 1) _ (by omega) (fun j hj2 => ?_) (zSc_st hS) hrf (by rw [zu_eq, h4]; rfl)
          rcases Nat.lt_succ_iff_lt_or_eq.mp hj2 with h9 | rfl
          · exact hj j h9
          · exact hc55
        · intro hc55
          rw [h4] at hc55
          refine z_iload_n (q := 59) dX8_knownAfter_58 rfl rfl ?_
          exact z_reti dX8_knownAfter_59 rfl (zMP_i (by rw [qKA, qFst_some (i := i) (by omega) hc55 hj]; rfl) hS hrf)
  refine z_aload_n (q := 1) dX8_knownAfter_0 rfl rfl ?_
  refine z_aload_n (q := 2) dX8_knownAfter_1 rfl rfl ?_
  refine z_iload_n (q := 3) dX8_knownAfter_2 rfl rfl ?_
  refine z_v1 (q := 6) dX8_knownAfter_3 zkX8_162 zt_mX8_isTask rfl (by first | exact zpM_0 | exact zpM_a rfl | exact zpM_8) rfl (Nat.le_of_ble_eq_true rfl) (ct_X8_isTask (by assumption) (by omega)) rfl ?_
  refine z_eqi ((congrArg zbi (hv)).trans zbi_t) ?_
  refine z_if_eq (tg := 13) (q := 9) dX8_knownAfter_6 rfl rfl ?_ ?_
  · intro hc6
    exact absurd hc6 (by decide)
  · intro hc6
    refine z_iconst (q := 10) dX8_knownAfter_9 zci_0 rfl ?_
    refine z_goto (q := 0) (tg := 14) dX8_knownAfter_10 rfl ?_
    refine z_x1 (q := 17) dX8_knownAfter_14 zkX8_126 zt_mX8_refused rfl (by first | exact zpM_0 | exact zpM_a rfl | exact zpM_8) rfl (Nat.le_of_ble_eq_true rfl) (ct_X8_refused) rfl ?_
    refine z_eqi (show zbi (!decide (nI 0 ≤ 0)) = nI 0 by decide) ?_
    refine z_if_eq (tg := 22) (q := 20) dX8_knownAfter_17 rfl rfl ?_ ?_
    · intro hc17
      generalize hU : va_up u 0 (va_up (u 0) 0 (nI 0)) = U
      have hS : zSc u U := by subst hU; exact zSc_rf
      have hrf : U 0 0 = nI 0 := by subst hU; rfl
      have h3 : U 3 = u 3 := hS.2.1
      refine z_aload_n (q := 23) dX8_knownAfter_22 rfl rfl ?_
      refine z_get (q := 26) dX8_knownAfter_23 zfX8_16 (by first | exact zpM_0 | exact zpM_a rfl | exact zpM_8) rfl rfl ?_
      refine z_iconst (q := 27) dX8_knownAfter_26 zci_0 rfl ?_
      refine z_aload_n (q := 28) dX8_knownAfter_27 rfl rfl ?_
      refine z_get (q := 31) dX8_knownAfter_28 zfX8_19 (by first | exact zpM_0 | exact zpM_a rfl | exact zpM_8) rfl rfl ?_
      refine z_iconst (q := 32) dX8_knownAfter_31 zci_0 rfl ?_
      refine z_sipush (q := 35) dX8_knownAfter_32 zcs_264 rfl ?_
      refine z_u5 (q := 38) dX8_knownAfter_35 zkX8_53 zt_mX8_copy rfl (Nat.le_of_ble_eq_true rfl) (ct_M_copy (c := 3) (d := 4) rfl rfl (by decide) (by omega) (by omega)) rfl ?_
      refine z_try h3 ?_
      refine z_iconst (q := 39) dX8_knownAfter_38 zci_0 rfl ?_
      refine z_istore_n (q := 40) dX8_knownAfter_39 (Nat.le_of_ble_eq_true rfl) rfl rfl ?_
      exact loop 151 0 _ (by omega) (fun j hj => absurd hj (Nat.not_lt_zero j)) (zSc_t hS (zSc_w (c := 4) (by decide)).1) hrf (zu_eq _ _ _)
    · intro hc17
      exact absurd hc17 (by decide)
set_option maxRecDepth 100000 in
set_option maxHeartbeats 4000000 in
theorem ct_X8_wastedIf1 {g : zGl} {h : zHp} {m : Nat} {x y : Int32} {u : Nat → Nat → Int32} (hv : (qBt x 0 22 && qBt y 1 99) = false) : zC g mX8_wastedIf [.ref m, .int x, .int y] (zpM g h m u) (zMP g h m u (nI 1) (nI 0)) 0 0 := by
  refine zC_ofA (lv := [some (.ref m), some (.int x), some (.int y), none]) (by decide) rfl (Nat.le_of_ble_eq_true rfl) ?_
  by_cases hx : qBt x 0 22 = true
  · have hy : qBt y 1 99 = false := by simpa [hx] using hv
    refine z_aload_n (q := 1) dX8_wastedIf_0 rfl rfl ?_
    refine z_iload_n (q := 2) dX8_wastedIf_1 rfl rfl ?_
    refine z_i2l (q := 3) dX8_wastedIf_2 rfl rfl ?_
    refine z_lconst (q := 4) (v := 0) dX8_wastedIf_3 (by decide) rfl ?_
    refine z_ldc2 (q := 7) dX8_wastedIf_4 zqX8_180 rfl ?_
    refine z_s3 (q := 10) dX8_wastedIf_7 zkX8_57 zt_mX8_in rfl (Nat.le_of_ble_eq_true rfl) (ct_X8_in) rfl ?_
    refine z_eqi ((congrArg zbi ((qIn_bt (by decide) (by decide) (by decide) (by decide)).trans hx)).trans zbi_t) ?_
    refine z_if_eq (tg := 29) (q := 13) dX8_wastedIf_10 rfl rfl ?_ ?_
    · intro hc10
      exact absurd hc10 (by decide)
    · intro hc10
      refine z_iload_n (q := 14) dX8_wastedIf_13 rfl rfl ?_
      refine z_i2l (q := 15) dX8_wastedIf_14 rfl rfl ?_
      refine z_lconst (q := 16) (v := 1) dX8_wastedIf_15 (by decide) rfl ?_
      refine z_ldc2 (q := 19) dX8_wastedIf_16 zqX8_172 rfl ?_
      refine z_s3 (q := 22) dX8_wastedIf_19 zkX8_57 zt_mX8_in rfl (Nat.le_of_ble_eq_true rfl) (ct_X8_in) rfl ?_
      refine z_eqi ((congrArg zbi ((qIn_bt (by decide) (by decide) (by decide) (by decide)).trans hy)).trans zbi_f) ?_
      refine z_if_eq (tg := 29) (q := 25) dX8_wastedIf_22 rfl rfl ?_ ?_
      · intro hc22
        refine z_iconst (q := 30) dX8_wastedIf_29 zci_1 rfl ?_
        refine z_x1 (q := 33) dX8_wastedIf_30 zkX8_126 zt_mX8_refused rfl (by first | exact zpM_0 | exact zpM_a rfl | exact zpM_8) rfl (Nat.le_of_ble_eq_true rfl) (ct_X8_refused) rfl ?_
        refine z_eqi (show zbi (!decide (nI 1 ≤ 0)) = nI 1 by decide) ?_
        refine z_if_eq (tg := 38) (q := 36) dX8_wastedIf_33 rfl rfl ?_ ?_
        · intro hc33
          exact absurd hc33 (by decide)
        · intro hc33
          refine z_iconst (q := 37) dX8_wastedIf_36 zci_0 rfl ?_
          exact z_reti dX8_wastedIf_37 rfl (zMP_i rfl zSc_rf rfl)
      · intro hc22
        exact absurd hc22 (by decide)
  · have hx : qBt x 0 22 = false := by simpa using hx
    refine z_aload_n (q := 1) dX8_wastedIf_0 rfl rfl ?_
    refine z_iload_n (q := 2) dX8_wastedIf_1 rfl rfl ?_
    refine z_i2l (q := 3) dX8_wastedIf_2 rfl rfl ?_
    refine z_lconst (q := 4) (v := 0) dX8_wastedIf_3 (by decide) rfl ?_
    refine z_ldc2 (q := 7) dX8_wastedIf_4 zqX8_180 rfl ?_
    refine z_s3 (q := 10) dX8_wastedIf_7 zkX8_57 zt_mX8_in rfl (Nat.le_of_ble_eq_true rfl) (ct_X8_in) rfl ?_
    refine z_eqi ((congrArg zbi ((qIn_bt (by decide) (by decide) (by decide) (by decide)).trans hx)).trans zbi_f) ?_
    refine z_if_eq (tg := 29) (q := 13) dX8_wastedIf_10 rfl rfl ?_ ?_
    · intro hc10
      refine z_iconst (q := 30) dX8_wastedIf_29 zci_1 rfl ?_
      refine z_x1 (q := 33) dX8_wastedIf_30 zkX8_126 zt_mX8_refused rfl (by first | exact zpM_0 | exact zpM_a rfl | exact zpM_8) rfl (Nat.le_of_ble_eq_true rfl) (ct_X8_refused) rfl ?_
      refine z_eqi (show zbi (!decide (nI 1 ≤ 0)) = nI 1 by decide) ?_
      refine z_if_eq (tg := 38) (q := 36) dX8_wastedIf_33 rfl rfl ?_ ?_
      · intro hc33
        exact absurd hc33 (by decide)
      · intro hc33
        refine z_iconst (q := 37) dX8_wastedIf_36 zci_0 rfl ?_
        exact z_reti dX8_wastedIf_37 rfl (zMP_i rfl zSc_rf rfl)
    · intro hc10
      exact absurd hc10 (by decide)
set_option maxRecDepth 100000 in
set_option maxHeartbeats 4000000 in
theorem ct_X8_wastedIf0 {g : zGl} {h : zHp} {m n K y : Nat} {x : Int32} {u : Nat → Nat → Int32} (hn : u 3 0 = nI n) (hn6 : n ≤ 6) (hK : u 3 1 = nI K) (hK8 : K ≤ 8) (hx : qBt x 0 22 = true) (hy1 : 1 ≤ y) (hy2 : y ≤ 99) : zC g mX8_wastedIf [.ref m, .int x, .int (nI y)] (zpM g h m u) (zMP g h m u (nI 0) (qSum (qSteps (qRng (u 3) n x) n K y) n 5)) 0 0 := by
  have hv : qBt (nI y) 1 99 = true := qBt_i hy1 hy2 (by decide)
  refine zC_ofA (lv := [some (.ref m), some (.int x), some (.int (nI y)), none]) (by decide) rfl (Nat.le_of_ble_eq_true rfl) ?_
  have loop : ∀ d i U, i + d = y → zSc u U → U 0 0 = nI 0 → U 4 = qSteps (qRng (u 3) n x) n K i → zA g (zZc g mX8_wastedIf (zMP g h m u (nI 0) (qSum (qSteps (qRng (u 3) n x) n K y) n 5)) 0 0) 0 0 65 [some (.ref m), some (.int x), some (.int (nI y)), some (.int (nI i))] [] (zpM g h m U) := by
    intro d
    induction d using Nat.strongRecOn with
    | ind d ih =>
      intro i U hi hS hrf h4
      have hn' : U 4 0 = nI n := by rw [h4, qSteps_0, qRng_lt (by omega)]; exact hn
      have hK' : U 4 1 = nI K := by rw [h4, qSteps_1, qRng_lt (by omega)]; exact hK
      refine z_iload_n (q := 66) dX8_wastedIf_65 rfl rfl ?_
      refine z_iload_n (q := 67) dX8_wastedIf_66 rfl rfl ?_
      refine z_icmp_geN (tg := 84) (q := 70) dX8_wastedIf_67 rfl rfl (by omega) (by omega) ?_ ?_
      · intro hc67
        refine z_aload_n (q := 85) dX8_wastedIf_84 rfl rfl ?_
        refine z_get (q := 88) dX8_wastedIf_85 zfX8_19 (by first | exact zpM_0 | exact zpM_a rfl | exact zpM_8) rfl rfl ?_
        refine z_iconst (q := 89) dX8_wastedIf_88 zci_5 rfl ?_
        refine z_s2 (q := 92) dX8_wastedIf_89 zkX8_156 zt_mX8_sumOf rfl (Nat.le_of_ble_eq_true rfl) (ct_X8_sumOf (by first | exact zpM_0 | exact zpM_a rfl | exact zpM_8) (by assumption) (by omega) (by omega)) rfl ?_
        exact z_reti dX8_wastedIf_92 rfl (zMP_i (by rw [h4, show i = y by omega]) hS hrf)
      · intro hc67
        refine z_aload_n (q := 71) dX8_wastedIf_70 rfl rfl ?_
        refine z_aload_n (q := 72) dX8_wastedIf_71 rfl rfl ?_
        refine z_get (q := 75) dX8_wastedIf_72 zfX8_19 (by first | exact zpM_0 | exact zpM_a rfl | exact zpM_8) rfl rfl ?_
        refine z_w1 (q := 78) dX8_wastedIf_75 zkX8_177 zt_mX8_stepOn rfl (by first | exact zpM_0 | exact zpM_a rfl | exact zpM_8) rfl (Nat.le_of_ble_eq_true rfl) (ct_M_stepOn (Or.inr rfl) hn' hn6 hK' hK8) rfl ?_
        refine z_iincN (q := 81) dX8_wastedIf_78 rfl rfl rfl ?_
        refine z_goto (q := 0) (tg := 65) dX8_wastedIf_81 rfl ?_
        exact ih (d - 1) (by omega) (i + 1) _ (by omega) (zSc_st hS) hrf (by rw [zu_eq, h4]; rfl)
  refine z_aload_n (q := 1) dX8_wastedIf_0 rfl rfl ?_
  refine z_iload_n (q := 2) dX8_wastedIf_1 rfl rfl ?_
  refine z_i2l (q := 3) dX8_wastedIf_2 rfl rfl ?_
  refine z_lconst (q := 4) (v := 0) dX8_wastedIf_3 (by decide) rfl ?_
  refine z_ldc2 (q := 7) dX8_wastedIf_4 zqX8_180 rfl ?_
  refine z_s3 (q := 10) dX8_wastedIf_7 zkX8_57 zt_mX8_in rfl (Nat.le_of_ble_eq_true rfl) (ct_X8_in) rfl ?_
  refine z_eqi ((congrArg zbi ((qIn_bt (by decide) (by decide) (by decide) (by decide)).trans hx)).trans zbi_t) ?_
  refine z_if_eq (tg := 29) (q := 13) dX8_wastedIf_10 rfl rfl ?_ ?_
  · intro hc10
    exact absurd hc10 (by decide)
  · intro hc10
    refine z_iload_n (q := 14) dX8_wastedIf_13 rfl rfl ?_
    refine z_i2l (q := 15) dX8_wastedIf_14 rfl rfl ?_
    refine z_lconst (q := 16) (v := 1) dX8_wastedIf_15 (by decide) rfl ?_
    refine z_ldc2 (q := 19) dX8_wastedIf_16 zqX8_172 rfl ?_
    refine z_s3 (q := 22) dX8_wastedIf_19 zkX8_57 zt_mX8_in rfl (Nat.le_of_ble_eq_true rfl) (ct_X8_in) rfl ?_
    refine z_eqi ((congrArg zbi ((qIn_bt (by decide) (by decide) (by decide) (by decide)).trans hv)).trans zbi_t) ?_
    refine z_if_eq (tg := 29) (q := 25) dX8_wastedIf_22 rfl rfl ?_ ?_
    · intro hc22
      exact absurd hc22 (by decide)
    · intro hc22
      refine z_iconst (q := 26) dX8_wastedIf_25 zci_0 rfl ?_
      refine z_goto (q := 0) (tg := 30) dX8_wastedIf_26 rfl ?_
      refine z_x1 (q := 33) dX8_wastedIf_30 zkX8_126 zt_mX8_refused rfl (by first | exact zpM_0 | exact zpM_a rfl | exact zpM_8) rfl (Nat.le_of_ble_eq_true rfl) (ct_X8_refused) rfl ?_
      refine z_eqi (show zbi (!decide (nI 0 ≤ 0)) = nI 0 by decide) ?_
      refine z_if_eq (tg := 38) (q := 36) dX8_wastedIf_33 rfl rfl ?_ ?_
      · intro hc33
        generalize hU : va_up u 0 (va_up (u 0) 0 (nI 0)) = U
        have hS : zSc u U := by subst hU; exact zSc_rf
        have hrf : U 0 0 = nI 0 := by subst hU; rfl
        have h3 : U 3 = u 3 := hS.2.1
        refine z_aload_n (q := 39) dX8_wastedIf_38 rfl rfl ?_
        refine z_get (q := 42) dX8_wastedIf_39 zfX8_16 (by first | exact zpM_0 | exact zpM_a rfl | exact zpM_8) rfl rfl ?_
        refine z_iconst (q := 43) dX8_wastedIf_42 zci_0 rfl ?_
        refine z_aload_n (q := 44) dX8_wastedIf_43 rfl rfl ?_
        refine z_get (q := 47) dX8_wastedIf_44 zfX8_19 (by first | exact zpM_0 | exact zpM_a rfl | exact zpM_8) rfl rfl ?_
        refine z_iconst (q := 48) dX8_wastedIf_47 zci_0 rfl ?_
        refine z_sipush (q := 51) dX8_wastedIf_48 zcs_264 rfl ?_
        refine z_u5 (q := 54) dX8_wastedIf_51 zkX8_53 zt_mX8_copy rfl (Nat.le_of_ble_eq_true rfl) (ct_M_copy (c := 3) (d := 4) rfl rfl (by decide) (by omega) (by omega)) rfl ?_
        refine z_try h3 ?_
        refine z_aload_n (q := 55) dX8_wastedIf_54 rfl rfl ?_
        refine z_aload_n (q := 56) dX8_wastedIf_55 rfl rfl ?_
        refine z_get (q := 59) dX8_wastedIf_56 zfX8_19 (by first | exact zpM_0 | exact zpM_a rfl | exact zpM_8) rfl rfl ?_
        refine z_iload_n (q := 60) dX8_wastedIf_59 rfl rfl ?_
        refine z_w2 (q := 63) dX8_wastedIf_60 zkX8_208 zt_mX8_setRanges rfl (by first | exact zpM_0 | exact zpM_a rfl | exact zpM_8) rfl (Nat.le_of_ble_eq_true rfl) (ct_M_setRanges (show va_up U 4 (u 3) 4 0 = nI n from hn) hn6) rfl ?_
        refine z_iconst (q := 64) dX8_wastedIf_63 zci_0 rfl ?_
        refine z_istore_n (q := 65) dX8_wastedIf_64 (Nat.le_of_ble_eq_true rfl) rfl rfl ?_
        exact loop y 0 _ (by omega) (zSc_t hS (zSc_t (zSc_w (c := 4) (by decide)).1 (zSc_w (c := 4) (by decide)).1)) hrf (by rw [zu_eq, zu_eq]; rfl)
      · intro hc33
        exact absurd hc33 (by decide)
def qLossP (f : Nat → Int32) (n K x a : Nat) : Int32 := qPrg (qSteps (va_up f (4 + 6 * a + 3) (nI 0)) n K x) K
def qL2 (f : Nat → Int32) (n K x a : Nat) (s : Option Nat × Int32) : Option Nat × Int32 := if qOn f a && (match s.1 with
  | none => true
  | some _ => !decide (s.2 ≤ qLossP f n K x a)) then (some a, qLossP f n K x a) else s
def qLoss (f : Nat → Int32) (n K x i : Nat) : Option Nat × Int32 := qIt (fun a s => qL2 f n K x a s) (none, nI 0) i
theorem qLoss_s {f : Nat → Int32} {n K x i : Nat} : qLoss f n K x (i + 1) = qL2 f n K x i (qLoss f n K x i) := rfl
theorem qLoss_lt {f : Nat → Int32} {n K x i k : Nat} (h : (qLoss f n K x i).1 = some k) : k < i := by
  induction i with
  | zero => simp [qLoss, qIt] at h
  | succ i ih =>
    rw [qLoss_s, qL2] at h
    by_cases hp : (qOn f i && (match (qLoss f n K x i).1 with
      | none => true
      | some _ => !decide ((qLoss f n K x i).2 ≤ qLossP f n K x i))) = true
    · rw [if_pos hp] at h
      cases h
      exact Nat.lt_succ_self _
    · rw [if_neg hp] at h
      exact Nat.lt_succ_of_lt (ih h)
set_option maxRecDepth 100000 in
set_option maxHeartbeats 4000000 in
theorem ct_X8_worstLoss1 {g : zGl} {h : zHp} {m : Nat} {x : Int32} {u : Nat → Nat → Int32} (hv : qBt x 1 99 = false) : zC g mX8_worstLoss [.ref m, .int x] (zpM g h m u) (zMP g h m u (nI 1) (nI 0)) 0 0 := by
  refine zC_ofA (lv := [some (.ref m), some (.int x), none, none, none, none]) (by decide) rfl (Nat.le_of_ble_eq_true rfl) ?_
  refine z_aload_n (q := 1) dX8_worstLoss_0 rfl rfl ?_
  refine z_iload_n (q := 2) dX8_worstLoss_1 rfl rfl ?_
  refine z_i2l (q := 3) dX8_worstLoss_2 rfl rfl ?_
  refine z_lconst (q := 4) (v := 1) dX8_worstLoss_3 (by decide) rfl ?_
  refine z_ldc2 (q := 7) dX8_worstLoss_4 zqX8_172 rfl ?_
  refine z_s3 (q := 10) dX8_worstLoss_7 zkX8_57 zt_mX8_in rfl (Nat.le_of_ble_eq_true rfl) (ct_X8_in) rfl ?_
  refine z_eqi ((congrArg zbi ((qIn_bt (by decide) (by decide) (by decide) (by decide)).trans hv)).trans zbi_f) ?_
  refine z_if_eq (tg := 17) (q := 13) dX8_worstLoss_10 rfl rfl ?_ ?_
  · intro hc10
    refine z_iconst (q := 18) dX8_worstLoss_17 zci_1 rfl ?_
    refine z_x1 (q := 21) dX8_worstLoss_18 zkX8_126 zt_mX8_refused rfl (by first | exact zpM_0 | exact zpM_a rfl | exact zpM_8) rfl (Nat.le_of_ble_eq_true rfl) (ct_X8_refused) rfl ?_
    refine z_eqi (show zbi (!decide (nI 1 ≤ 0)) = nI 1 by decide) ?_
    refine z_if_eq (tg := 26) (q := 24) dX8_worstLoss_21 rfl rfl ?_ ?_
    · intro hc21
      exact absurd hc21 (by decide)
    · intro hc21
      refine z_iconst (q := 25) dX8_worstLoss_24 zci_0 rfl ?_
      exact z_reti dX8_worstLoss_25 rfl (zMP_i rfl zSc_rf rfl)
  · intro hc10
    exact absurd hc10 (by decide)
set_option maxRecDepth 100000 in
set_option maxHeartbeats 4000000 in
theorem ct_X8_worstLoss0 {g : zGl} {h : zHp} {m n K x : Nat} {u : Nat → Nat → Int32} (hn : u 3 0 = nI n) (hn6 : n ≤ 6) (hK : u 3 1 = nI K) (hK8 : K ≤ 8) (hx1 : 1 ≤ x) (hx : x ≤ 99) : zC g mX8_worstLoss [.ref m, .int (nI x)] (zpM g h m u) (zMP g h m u (nI 0) (qT (qLoss (u 3) n K x n).1)) 0 0 := by
  have hv : qBt (nI x) 1 99 = true := qBt_i hx1 hx (by decide)
  refine zC_ofA (lv := [some (.ref m), some (.int (nI x)), none, none, none, none]) (by decide) rfl (Nat.le_of_ble_eq_true rfl) ?_
  have loopS : ∀ (a : Nat) (y2 y3 : Option Value), a < n → (∀ U z, zSc u U → U 0 0 = nI 0 → U 4 = qSteps (va_up (u 3) (4 + 6 * a + 3) (nI 0)) n K x → zA g (zZc g mX8_worstLoss (zMP g h m u (nI 0) (qT (qLoss (u 3) n K x n).1)) 0 0) 0 0 109 [some (.ref m), some (.int (nI x)), y2, y3, some (.int (nI a)), z] [] (zpM g h m U)) →
      ∀ d i U, i + d = x → zSc u U → U 0 0 = nI 0 → U 4 = qSteps (va_up (u 3) (4 + 6 * a + 3) (nI 0)) n K i → zA g (zZc g mX8_worstLoss (zMP g h m u (nI 0) (qT (qLoss (u 3) n K x n).1)) 0 0) 0 0 89 [some (.ref m), some (.int (nI x)), y2, y3, some (.int (nI a)), some (.int (nI i))] [] (zpM g h m U) := by
    intro a y2 y3 ha after d
    induction d using Nat.strongRecOn with
    | ind d ih =>
      intro i U hi hS hrf h4
      have hn' : U 4 0 = nI n := by rw [h4, qSteps_0, zu_ne (by omega)]; exact hn
      have hK' : U 4 1 = nI K := by rw [h4, qSteps_1, zu_ne (by omega)]; exact hK
      refine z_iload (q := 91) dX8_worstLoss_89 rfl rfl ?_
      refine z_iload_n (q := 92) dX8_worstLoss_91 rfl rfl ?_
      refine z_icmp_geN (tg := 109) (q := 95) dX8_worstLoss_92 rfl rfl (by omega) (by omega) ?_ ?_
      · intro hc92
        have e8 : i = x := by omega
        subst e8
        exact after U _ hS hrf h4
      · intro hc92
        refine z_aload_n (q := 96) dX8_worstLoss_95 rfl rfl ?_
        refine z_aload_n (q := 97) dX8_worstLoss_96 rfl rfl ?_
        refine z_get (q := 100) dX8_worstLoss_97 zfX8_19 (by first | exact zpM_0 | exact zpM_a rfl | exact zpM_8) rfl rfl ?_
        refine z_w1 (q := 103) dX8_worstLoss_100 zkX8_177 zt_mX8_stepOn rfl (by first | exact zpM_0 | exact zpM_a rfl | exact zpM_8) rfl (Nat.le_of_ble_eq_true rfl) (ct_M_stepOn (Or.inr rfl) hn' hn6 hK' hK8) rfl ?_
        refine z_iincN (q := 106) dX8_worstLoss_103 rfl rfl rfl ?_
        refine z_goto (q := 0) (tg := 89) dX8_worstLoss_106 rfl ?_
        exact ih (d - 1) (by omega) (i + 1) _ (by omega) (zSc_st hS) hrf (by rw [zu_eq, h4]; rfl)
  have loopA : ∀ d i U (s : Option Nat × Int32) z, i + d = n → s = qLoss (u 3) n K x i → zSc u U → U 0 0 = nI 0 → zA g (zZc g mX8_worstLoss (zMP g h m u (nI 0) (qT (qLoss (u 3) n K x n).1)) 0 0) 0 0 34 [some (.ref m), some (.int (nI x)), some (.int (qT s.1)), some (.int s.2), some (.int (nI i)), z] [] (zpM g h m U) := by
    intro d
    induction d using Nat.strongRecOn with
    | ind d ih =>
      intro i U s z hi hs hS hrf
      have h3 : U 3 = u 3 := hS.2.1
      have hn' : U 3 0 = nI n := by rw [h3]; exact hn
      have hes : qLoss (u 3) n K x (i + 1) = qL2 (u 3) n K x i s := by rw [qLoss_s, hs]
      obtain ⟨s1, s2⟩ := s
      rcases s1 with _ | k
      · have after : ∀ U z, qOn (u 3) i = true → i < n → zSc u U → U 0 0 = nI 0 → U 4 = qSteps (va_up (u 3) (4 + 6 * i + 3) (nI 0)) n K x → zA g (zZc g mX8_worstLoss (zMP g h m u (nI 0) (qT (qLoss (u 3) n K x n).1)) 0 0) 0 0 109 [some (.ref m), some (.int (nI x)), some (.int (-9)), some (.int s2), some (.int (nI i)), z] [] (zpM g h m U) := by
          intro U z hon hin hS hrf h4
          have hK' : U 4 1 = nI K := by rw [h4, qSteps_1, zu_ne (by omega)]; exact hK
          have e9 : qLoss (u 3) n K x (i + 1) = (some i, qLossP (u 3) n K x i) := by rw [hes]; simp [qL2, hon]
          have e8 : qPrg (U 4) K = qLossP (u 3) n K x i := by rw [h4]; rfl
          refine z_iload_n (q := 110) dX8_worstLoss_109 rfl rfl ?_
          refine z_bipush (q := 112) dX8_worstLoss_110 zcb_m9 rfl ?_
          refine z_icmp_eq (tg := 126) (q := 115) dX8_worstLoss_112 rfl rfl ?_ ?_
          · intro hc112
            refine z_iload (q := 128) dX8_worstLoss_126 rfl rfl ?_
            refine z_istore_n (q := 129) dX8_worstLoss_128 (Nat.le_of_ble_eq_true rfl) rfl rfl ?_
            refine z_aload_n (q := 130) dX8_worstLoss_129 rfl rfl ?_
            refine z_get (q := 133) dX8_worstLoss_130 zfX8_19 (by first | exact zpM_0 | exact zpM_a rfl | exact zpM_8) rfl rfl ?_
            refine z_s1 (q := 136) dX8_worstLoss_133 zkX8_221 zt_mX8_progress rfl (Nat.le_of_ble_eq_true rfl) (ct_X8_progress (by first | exact zpM_0 | exact zpM_a rfl | exact zpM_8) (by assumption) (by omega)) rfl ?_
            refine z_eqi e8 ?_
            refine z_istore_n (q := 137) dX8_worstLoss_136 (Nat.le_of_ble_eq_true rfl) rfl rfl ?_
            refine z_iincN (q := 140) dX8_worstLoss_137 rfl rfl rfl ?_
            refine z_goto (q := 0) (tg := 34) dX8_worstLoss_140 rfl ?_
            exact ih (d - 1) (by omega) (i + 1) U (some i, qLossP (u 3) n K x i) _ (by omega) e9.symm hS hrf
          · intro hc112
            exact absurd rfl hc112
        show zA g (zZc g mX8_worstLoss (zMP g h m u (nI 0) (qT (qLoss (u 3) n K x n).1)) 0 0) 0 0 34 [some (.ref m), some (.int (nI x)), some (.int (-9)), some (.int s2), some (.int (nI i)), z] [] (zpM g h m U)
        refine z_iload (q := 36) dX8_worstLoss_34 rfl rfl ?_
        refine z_aload_n (q := 37) dX8_worstLoss_36 rfl rfl ?_
        refine z_get (q := 40) dX8_worstLoss_37 zfX8_16 (by first | exact zpM_0 | exact zpM_a rfl | exact zpM_8) rfl rfl ?_
        refine z_iconst (q := 41) dX8_worstLoss_40 zci_0 rfl ?_
        refine z_iald (q := 42) dX8_worstLoss_41 (by first | exact zpM_0 | exact zpM_a rfl | exact zpM_8) (by omega) (by omega) rfl ?_
        refine z_eqi hn' ?_
        refine z_icmp_geN (tg := 143) (q := 45) dX8_worstLoss_42 rfl rfl (by omega) (by omega) ?_ ?_
        · intro hc42
          refine z_iload_n (q := 144) dX8_worstLoss_143 rfl rfl ?_
          exact z_reti dX8_worstLoss_144 rfl (zMP_i (by rw [show i = n by omega] at hs; rw [← hs]; rfl) hS hrf)
        · intro hc42
          refine z_aload_n (q := 46) dX8_worstLoss_45 rfl rfl ?_
          refine z_get (q := 49) dX8_worstLoss_46 zfX8_16 (by first | exact zpM_0 | exact zpM_a rfl | exact zpM_8) rfl rfl ?_
          refine z_iload (q := 51) dX8_worstLoss_49 rfl rfl ?_
          refine z_s2 (q := 54) dX8_worstLoss_51 zkX8_71 zt_mX8_isOn rfl (Nat.le_of_ble_eq_true rfl) (ct_X8_isOn (by first | exact zpM_0 | exact zpM_a rfl | exact zpM_8) (by omega)) rfl ?_
          refine z_ifb_eq (tg := 137) (q := 57) dX8_worstLoss_54 rfl rfl ?_ ?_
          · intro hc54
            rw [h3] at hc54
            refine z_iincN (q := 140) dX8_worstLoss_137 rfl rfl rfl ?_
            refine z_goto (q := 0) (tg := 34) dX8_worstLoss_140 rfl ?_
            exact ih (d - 1) (by omega) (i + 1) U (none, s2) _ (by omega) (by rw [hes]; simp [qL2, hc54]) hS hrf
          · intro hc54
            rw [h3] at hc54
            refine z_aload_n (q := 58) dX8_worstLoss_57 rfl rfl ?_
            refine z_get (q := 61) dX8_worstLoss_58 zfX8_16 (by first | exact zpM_0 | exact zpM_a rfl | exact zpM_8) rfl rfl ?_
            refine z_iconst (q := 62) dX8_worstLoss_61 zci_0 rfl ?_
            refine z_aload_n (q := 63) dX8_worstLoss_62 rfl rfl ?_
            refine z_get (q := 66) dX8_worstLoss_63 zfX8_19 (by first | exact zpM_0 | exact zpM_a rfl | exact zpM_8) rfl rfl ?_
            refine z_iconst (q := 67) dX8_worstLoss_66 zci_0 rfl ?_
            refine z_sipush (q := 70) dX8_worstLoss_67 zcs_264 rfl ?_
            refine z_u5 (q := 73) dX8_worstLoss_70 zkX8_53 zt_mX8_copy rfl (Nat.le_of_ble_eq_true rfl) (ct_M_copy (c := 3) (d := 4) rfl rfl (by decide) (by omega) (by omega)) rfl ?_
            refine z_try h3 ?_
            refine z_aload_n (q := 74) dX8_worstLoss_73 rfl rfl ?_
            refine z_get (q := 77) dX8_worstLoss_74 zfX8_19 (by first | exact zpM_0 | exact zpM_a rfl | exact zpM_8) rfl rfl ?_
            refine z_iload (q := 79) dX8_worstLoss_77 rfl rfl ?_
            refine z_s1 (q := 82) dX8_worstLoss_79 zkX8_61 zt_mX8_agentAt rfl (Nat.le_of_ble_eq_true rfl) (ct_X8_agentAt) rfl ?_
            refine z_iconst (q := 83) dX8_worstLoss_82 zci_3 rfl ?_
            refine z_iaddN (q := 84) dX8_worstLoss_83 rfl ?_
            refine z_iconst (q := 85) dX8_worstLoss_84 zci_0 rfl ?_
            refine z_iastM (q := 86) dX8_worstLoss_85 rfl (by omega) rfl ?_
            rw [zu_eq, zu_up]
            refine z_iconst (q := 87) dX8_worstLoss_86 zci_0 rfl ?_
            refine z_istore (q := 89) dX8_worstLoss_87 (Nat.le_of_ble_eq_true rfl) rfl rfl ?_
            exact loopS i _ _ hc42 (fun U z a1 a2 a3 => after U z hc54 hc42 a1 a2 a3) x 0 _ (by omega) (zSc_t hS (zSc_w (c := 4) (by decide)).1) hrf (by rw [zu_eq]; rfl)
      · have hk : k < i := qLoss_lt (f := u 3) (n := n) (K := K) (x := x) (by rw [← hs])
        have after : ∀ U z, qOn (u 3) i = true → i < n → zSc u U → U 0 0 = nI 0 → U 4 = qSteps (va_up (u 3) (4 + 6 * i + 3) (nI 0)) n K x → zA g (zZc g mX8_worstLoss (zMP g h m u (nI 0) (qT (qLoss (u 3) n K x n).1)) 0 0) 0 0 109 [some (.ref m), some (.int (nI x)), some (.int (nI k)), some (.int s2), some (.int (nI i)), z] [] (zpM g h m U) := by
          intro U z hon hin hS hrf h4
          have hK' : U 4 1 = nI K := by rw [h4, qSteps_1, zu_ne (by omega)]; exact hK
          have e8 : qPrg (U 4) K = qLossP (u 3) n K x i := by rw [h4]; rfl
          refine z_iload_n (q := 110) dX8_worstLoss_109 rfl rfl ?_
          refine z_bipush (q := 112) dX8_worstLoss_110 zcb_m9 rfl ?_
          refine z_icmp_eq (tg := 126) (q := 115) dX8_worstLoss_112 rfl rfl ?_ ?_
          · intro hc112
            exact absurd hc112 (nI_nm9 (by omega))
          · intro hc112
            refine z_aload_n (q := 116) dX8_worstLoss_115 rfl rfl ?_
            refine z_get (q := 119) dX8_worstLoss_116 zfX8_19 (by first | exact zpM_0 | exact zpM_a rfl | exact zpM_8) rfl rfl ?_
            refine z_s1 (q := 122) dX8_worstLoss_119 zkX8_221 zt_mX8_progress rfl (Nat.le_of_ble_eq_true rfl) (ct_X8_progress (by first | exact zpM_0 | exact zpM_a rfl | exact zpM_8) (by assumption) (by omega)) rfl ?_
            refine z_eqi e8 ?_
            refine z_iload_n (q := 123) dX8_worstLoss_122 rfl rfl ?_
            refine z_icmp_ge (tg := 137) (q := 126) dX8_worstLoss_123 rfl rfl ?_ ?_
            · intro hc123
              have e9 : qLoss (u 3) n K x (i + 1) = (some k, s2) := by rw [hes]; simp [qL2, hon, hc123]
              refine z_iincN (q := 140) dX8_worstLoss_137 rfl rfl rfl ?_
              refine z_goto (q := 0) (tg := 34) dX8_worstLoss_140 rfl ?_
              exact ih (d - 1) (by omega) (i + 1) U (_, _) _ (by omega) e9.symm hS hrf
            · intro hc123
              have e9 : qLoss (u 3) n K x (i + 1) = (some i, qLossP (u 3) n K x i) := by rw [hes]; simp only [qL2, hon, hc123, decide_false, Bool.not_false, Bool.and_self, if_true]
              refine z_iload (q := 128) dX8_worstLoss_126 rfl rfl ?_
              refine z_istore_n (q := 129) dX8_worstLoss_128 (Nat.le_of_ble_eq_true rfl) rfl rfl ?_
              refine z_aload_n (q := 130) dX8_worstLoss_129 rfl rfl ?_
              refine z_get (q := 133) dX8_worstLoss_130 zfX8_19 (by first | exact zpM_0 | exact zpM_a rfl | exact zpM_8) rfl rfl ?_
              refine z_s1 (q := 136) dX8_worstLoss_133 zkX8_221 zt_mX8_progress rfl (Nat.le_of_ble_eq_true rfl) (ct_X8_progress (by first | exact zpM_0 | exact zpM_a rfl | exact zpM_8) (by assumption) (by omega)) rfl ?_
              refine z_eqi e8 ?_
              refine z_istore_n (q := 137) dX8_worstLoss_136 (Nat.le_of_ble_eq_true rfl) rfl rfl ?_
              refine z_iincN (q := 140) dX8_worstLoss_137 rfl rfl rfl ?_
              refine z_goto (q := 0) (tg := 34) dX8_worstLoss_140 rfl ?_
              exact ih (d - 1) (by omega) (i + 1) U (_, _) _ (by omega) e9.symm hS hrf
        show zA g (zZc g mX8_worstLoss (zMP g h m u (nI 0) (qT (qLoss (u 3) n K x n).1)) 0 0) 0 0 34 [some (.ref m), some (.int (nI x)), some (.int (nI k)), some (.int s2), some (.int (nI i)), z] [] (zpM g h m U)
        refine z_iload (q := 36) dX8_worstLoss_34 rfl rfl ?_
        refine z_aload_n (q := 37) dX8_worstLoss_36 rfl rfl ?_
        refine z_get (q := 40) dX8_worstLoss_37 zfX8_16 (by first | exact zpM_0 | exact zpM_a rfl | exact zpM_8) rfl rfl ?_
        refine z_iconst (q := 41) dX8_worstLoss_40 zci_0 rfl ?_
        refine z_iald (q := 42) dX8_worstLoss_41 (by first | exact zpM_0 | exact zpM_a rfl | exact zpM_8) (by omega) (by omega) rfl ?_
        refine z_eqi hn' ?_
        refine z_icmp_geN (tg := 143) (q := 45) dX8_worstLoss_42 rfl rfl (by omega) (by omega) ?_ ?_
        · intro hc42
          refine z_iload_n (q := 144) dX8_worstLoss_143 rfl rfl ?_
          exact z_reti dX8_worstLoss_144 rfl (zMP_i (by rw [show i = n by omega] at hs; rw [← hs]; rfl) hS hrf)
        · intro hc42
          refine z_aload_n (q := 46) dX8_worstLoss_45 rfl rfl ?_
          refine z_get (q := 49) dX8_worstLoss_46 zfX8_16 (by first | exact zpM_0 | exact zpM_a rfl | exact zpM_8) rfl rfl ?_
          refine z_iload (q := 51) dX8_worstLoss_49 rfl rfl ?_
          refine z_s2 (q := 54) dX8_worstLoss_51 zkX8_71 zt_mX8_isOn rfl (Nat.le_of_ble_eq_true rfl) (ct_X8_isOn (by first | exact zpM_0 | exact zpM_a rfl | exact zpM_8) (by omega)) rfl ?_
          refine z_ifb_eq (tg := 137) (q := 57) dX8_worstLoss_54 rfl rfl ?_ ?_
          · intro hc54
            rw [h3] at hc54
            refine z_iincN (q := 140) dX8_worstLoss_137 rfl rfl rfl ?_
            refine z_goto (q := 0) (tg := 34) dX8_worstLoss_140 rfl ?_
            exact ih (d - 1) (by omega) (i + 1) U (some k, s2) _ (by omega) (by rw [hes]; simp [qL2, hc54]) hS hrf
          · intro hc54
            rw [h3] at hc54
            refine z_aload_n (q := 58) dX8_worstLoss_57 rfl rfl ?_
            refine z_get (q := 61) dX8_worstLoss_58 zfX8_16 (by first | exact zpM_0 | exact zpM_a rfl | exact zpM_8) rfl rfl ?_
            refine z_iconst (q := 62) dX8_worstLoss_61 zci_0 rfl ?_
            refine z_aload_n (q := 63) dX8_worstLoss_62 rfl rfl ?_
            refine z_get (q := 66) dX8_worstLoss_63 zfX8_19 (by first | exact zpM_0 | exact zpM_a rfl | exact zpM_8) rfl rfl ?_
            refine z_iconst (q := 67) dX8_worstLoss_66 zci_0 rfl ?_
            refine z_sipush (q := 70) dX8_worstLoss_67 zcs_264 rfl ?_
            refine z_u5 (q := 73) dX8_worstLoss_70 zkX8_53 zt_mX8_copy rfl (Nat.le_of_ble_eq_true rfl) (ct_M_copy (c := 3) (d := 4) rfl rfl (by decide) (by omega) (by omega)) rfl ?_
            refine z_try h3 ?_
            refine z_aload_n (q := 74) dX8_worstLoss_73 rfl rfl ?_
            refine z_get (q := 77) dX8_worstLoss_74 zfX8_19 (by first | exact zpM_0 | exact zpM_a rfl | exact zpM_8) rfl rfl ?_
            refine z_iload (q := 79) dX8_worstLoss_77 rfl rfl ?_
            refine z_s1 (q := 82) dX8_worstLoss_79 zkX8_61 zt_mX8_agentAt rfl (Nat.le_of_ble_eq_true rfl) (ct_X8_agentAt) rfl ?_
            refine z_iconst (q := 83) dX8_worstLoss_82 zci_3 rfl ?_
            refine z_iaddN (q := 84) dX8_worstLoss_83 rfl ?_
            refine z_iconst (q := 85) dX8_worstLoss_84 zci_0 rfl ?_
            refine z_iastM (q := 86) dX8_worstLoss_85 rfl (by omega) rfl ?_
            rw [zu_eq, zu_up]
            refine z_iconst (q := 87) dX8_worstLoss_86 zci_0 rfl ?_
            refine z_istore (q := 89) dX8_worstLoss_87 (Nat.le_of_ble_eq_true rfl) rfl rfl ?_
            exact loopS i _ _ hc42 (fun U z a1 a2 a3 => after U z hc54 hc42 a1 a2 a3) x 0 _ (by omega) (zSc_t hS (zSc_w (c := 4) (by decide)).1) hrf (by rw [zu_eq]; rfl)
  refine z_aload_n (q := 1) dX8_worstLoss_0 rfl rfl ?_
  refine z_iload_n (q := 2) dX8_worstLoss_1 rfl rfl ?_
  refine z_i2l (q := 3) dX8_worstLoss_2 rfl rfl ?_
  refine z_lconst (q := 4) (v := 1) dX8_worstLoss_3 (by decide) rfl ?_
  refine z_ldc2 (q := 7) dX8_worstLoss_4 zqX8_172 rfl ?_
  refine z_s3 (q := 10) dX8_worstLoss_7 zkX8_57 zt_mX8_in rfl (Nat.le_of_ble_eq_true rfl) (ct_X8_in) rfl ?_
  refine z_eqi ((congrArg zbi ((qIn_bt (by decide) (by decide) (by decide) (by decide)).trans hv)).trans zbi_t) ?_
  refine z_if_eq (tg := 17) (q := 13) dX8_worstLoss_10 rfl rfl ?_ ?_
  · intro hc10
    exact absurd hc10 (by decide)
  · intro hc10
    refine z_iconst (q := 14) dX8_worstLoss_13 zci_0 rfl ?_
    refine z_goto (q := 0) (tg := 18) dX8_worstLoss_14 rfl ?_
    refine z_x1 (q := 21) dX8_worstLoss_18 zkX8_126 zt_mX8_refused rfl (by first | exact zpM_0 | exact zpM_a rfl | exact zpM_8) rfl (Nat.le_of_ble_eq_true rfl) (ct_X8_refused) rfl ?_
    refine z_eqi (show zbi (!decide (nI 0 ≤ 0)) = nI 0 by decide) ?_
    refine z_if_eq (tg := 26) (q := 24) dX8_worstLoss_21 rfl rfl ?_ ?_
    · intro hc21
      generalize hU : va_up u 0 (va_up (u 0) 0 (nI 0)) = U
      have hS : zSc u U := by subst hU; exact zSc_rf
      have hrf : U 0 0 = nI 0 := by subst hU; rfl
      refine z_bipush (q := 28) dX8_worstLoss_26 zcb_m9 rfl ?_
      refine z_istore_n (q := 29) dX8_worstLoss_28 (Nat.le_of_ble_eq_true rfl) rfl rfl ?_
      refine z_iconst (q := 30) dX8_worstLoss_29 zci_0 rfl ?_
      refine z_istore_n (q := 31) dX8_worstLoss_30 (Nat.le_of_ble_eq_true rfl) rfl rfl ?_
      refine z_iconst (q := 32) dX8_worstLoss_31 zci_0 rfl ?_
      refine z_istore (q := 34) dX8_worstLoss_32 (Nat.le_of_ble_eq_true rfl) rfl rfl ?_
      exact loopA n 0 U (none, nI 0) _ (by omega) rfl hS hrf
    · intro hc21
      exact absurd hc21 (by decide)
