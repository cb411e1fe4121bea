/-! ===== the reference: actions, undo, slots ===== -/
def qDi (di f : Nat → Int32) (c : Nat) : Nat → Int32 := if c = 14 then va_cpy f (va_cpy di di 264 0 3432) 0 (264 * 13) 264 else va_cpy f di 0 (264 * c) 264
def qC1 (c : Nat) : Nat := if c = 14 then 14 else c + 1
/-- the state with what is remembered -/
def qNd (u : Nat → Nat → Int32) (c : Nat) : Nat → Nat → Int32 := va_up (va_up u 6 (qDi (u 6) (u 3) c)) 0 (va_up (u 0) 9 (nI (qC1 c)))
def zMV (g : zGl) (h : zHp) (m : Nat) (u : Nat → Nat → Int32) (x : Int32) : Option Value → zHp → Prop := fun v' h' => v' = none ∧ ∃ u', h' = zpM g h m u' ∧ zSc u u' ∧ u' 0 0 = x
theorem qNd_S {u U : Nat → Nat → Int32} {c : Nat} (hS : zSc u U) : zSc (qNd u c) (qNd U c) := by
  obtain ⟨a1, a2, a3, a4, a5, a6, a7⟩ := hS
  exact ⟨a1, a2, by show qDi (U 6) (U 3) c = qDi (u 6) (u 3) c; rw [a2, a3], a4, a5, a6, rfl⟩
theorem qNd_3 {u : Nat → Nat → Int32} {c : Nat} : qNd u c 3 = u 3 := rfl
theorem zSc_3 {u U : Nat → Nat → Int32} {f : Nat → Int32} (hS : zSc u U) : zSc (va_up u 3 f) (va_up U 3 f) := by
  obtain ⟨a1, a2, a3, a4, a5, a6, a7⟩ := hS
  exact ⟨a1, rfl, a3, a4, a5, a6, a7⟩
set_option maxRecDepth 100000 in
set_option maxHeartbeats 4000000 in
theorem ct_X8_note {g : zGl} {h : zHp} {m c : Nat} {u : Nat → Nat → Int32} (hc : u 0 9 = nI c) (hle : c ≤ 14) : zC g mX8_note [.ref m] (zpM g h m u) (zMV g h m (qNd u c) (u 0 0)) 0 0 := by
  refine zC_ofA (lv := [some (.ref m)]) (by decide) rfl (Nat.le_of_ble_eq_true rfl) ?_
  by_cases h14 : c = 14
  · subst h14
    refine z_aload_n (q := 1) dX8_note_0 rfl rfl ?_
    refine z_get (q := 4) dX8_note_1 zfX8_50 (by first | exact zpM_0 | exact zpM_a rfl | exact zpM_8) rfl rfl ?_
    refine z_eqi hc ?_
    refine z_bipush (q := 6) dX8_note_4 zcb_14 rfl ?_
    refine z_icmp_neN (tg := 37) (q := 9) dX8_note_6 rfl rfl (by omega) (by omega) ?_ ?_
    · intro hc6
      exact absurd hc6 (by decide)
    · intro hc6
      refine z_aload_n (q := 10) dX8_note_9 rfl rfl ?_
      refine z_get (q := 13) dX8_note_10 zfX8_25 (by first | exact zpM_0 | exact zpM_a rfl | exact zpM_8) rfl rfl ?_
      refine z_sipush (q := 16) dX8_note_13 zcs_264 rfl ?_
      refine z_aload_n (q := 17) dX8_note_16 rfl rfl ?_
      refine z_get (q := 20) dX8_note_17 zfX8_25 (by first | exact zpM_0 | exact zpM_a rfl | exact zpM_8) rfl rfl ?_
      refine z_iconst (q := 21) dX8_note_20 zci_0 rfl ?_
      refine z_sipush (q := 24) dX8_note_21 zcs_3432 rfl ?_
      refine z_u5 (q := 27) dX8_note_24 zkX8_53 zt_mX8_copy rfl (Nat.le_of_ble_eq_true rfl) (zM_U (c := 6) rfl (ct_X8_copySame (by omega) (by omega) (by omega))) rfl ?_
      refine z_aload_n (q := 28) dX8_note_27 rfl rfl ?_
      refine z_dup (q := 29) dX8_note_28 rfl rfl ?_
      refine z_get (q := 32) dX8_note_29 zfX8_50 (by first | exact zpM_0 | exact zpM_a rfl | exact zpM_8) rfl rfl ?_
      refine z_eqi (show _ = nI 14 from hc) ?_
      refine z_iconst (q := 33) dX8_note_32 zci_1 rfl ?_
      refine z_isub (q := 34) dX8_note_33 rfl ?_
      refine z_eqi (show nI 14 - nI 1 = nI 13 by decide) ?_
      refine z_putM (q := 37) dX8_note_34 zfX8_50 (by decide) rfl ?_
      refine z_aload_n (q := 38) dX8_note_37 rfl rfl ?_
      refine z_get (q := 41) dX8_note_38 zfX8_16 (by first | exact zpM_0 | exact zpM_a rfl | exact zpM_8) rfl rfl ?_
      refine z_iconst (q := 42) dX8_note_41 zci_0 rfl ?_
      refine z_aload_n (q := 43) dX8_note_42 rfl rfl ?_
      refine z_get (q := 46) dX8_note_43 zfX8_25 (by first | exact zpM_0 | exact zpM_a rfl | exact zpM_8) rfl rfl ?_
      refine z_sipush (q := 49) dX8_note_46 zcs_264 rfl ?_
      refine z_aload_n (q := 50) dX8_note_49 rfl rfl ?_
      refine z_get (q := 53) dX8_note_50 zfX8_50 (by first | exact zpM_0 | exact zpM_a rfl | exact zpM_8) rfl rfl ?_
      refine z_eqi (show _ = nI 13 from rfl) ?_
      refine z_imulN (q := 54) dX8_note_53 rfl ?_
      refine z_sipush (q := 57) dX8_note_54 zcs_264 rfl ?_
      refine z_u5 (q := 60) dX8_note_57 zkX8_53 zt_mX8_copy rfl (Nat.le_of_ble_eq_true rfl) (ct_M_copy (c := 3) (d := 6) rfl rfl (by decide) (by omega) (by omega)) rfl ?_
      refine z_aload_n (q := 61) dX8_note_60 rfl rfl ?_
      refine z_dup (q := 62) dX8_note_61 rfl rfl ?_
      refine z_get (q := 65) dX8_note_62 zfX8_50 (by first | exact zpM_0 | exact zpM_a rfl | exact zpM_8) rfl rfl ?_
      refine z_eqi (show _ = nI 13 from rfl) ?_
      refine z_iconst (q := 66) dX8_note_65 zci_1 rfl ?_
      refine z_iaddN (q := 67) dX8_note_66 rfl ?_
      refine z_putM (q := 70) dX8_note_67 zfX8_50 (by decide) rfl ?_
      exact z_ret dX8_note_70 rfl (⟨rfl, _, rfl, ⟨rfl, rfl, rfl, rfl, rfl, rfl, rfl⟩, rfl⟩)
  · have e1 : qC1 c = c + 1 := by simp [qC1, h14]
    have e2 : qDi (u 6) (u 3) c = va_cpy (u 3) (u 6) 0 (264 * c) 264 := by simp [qDi, h14]
    refine z_aload_n (q := 1) dX8_note_0 rfl rfl ?_
    refine z_get (q := 4) dX8_note_1 zfX8_50 (by first | exact zpM_0 | exact zpM_a rfl | exact zpM_8) rfl rfl ?_
    refine z_eqi hc ?_
    refine z_bipush (q := 6) dX8_note_4 zcb_14 rfl ?_
    refine z_icmp_neN (tg := 37) (q := 9) dX8_note_6 rfl rfl (by omega) (by omega) ?_ ?_
    · intro hc6
      skip
      refine z_aload_n (q := 38) dX8_note_37 rfl rfl ?_
      refine z_get (q := 41) dX8_note_38 zfX8_16 (by first | exact zpM_0 | exact zpM_a rfl | exact zpM_8) rfl rfl ?_
      refine z_iconst (q := 42) dX8_note_41 zci_0 rfl ?_
      refine z_aload_n (q := 43) dX8_note_42 rfl rfl ?_
      refine z_get (q := 46) dX8_note_43 zfX8_25 (by first | exact zpM_0 | exact zpM_a rfl | exact zpM_8) rfl rfl ?_
      refine z_sipush (q := 49) dX8_note_46 zcs_264 rfl ?_
      refine z_aload_n (q := 50) dX8_note_49 rfl rfl ?_
      refine z_get (q := 53) dX8_note_50 zfX8_50 (by first | exact zpM_0 | exact zpM_a rfl | exact zpM_8) rfl rfl ?_
      refine z_eqi hc ?_
      refine z_imulN (q := 54) dX8_note_53 rfl ?_
      refine z_sipush (q := 57) dX8_note_54 zcs_264 rfl ?_
      refine z_u5 (q := 60) dX8_note_57 zkX8_53 zt_mX8_copy rfl (Nat.le_of_ble_eq_true rfl) (ct_M_copy (c := 3) (d := 6) rfl rfl (by decide) (by omega) (by omega)) rfl ?_
      refine z_aload_n (q := 61) dX8_note_60 rfl rfl ?_
      refine z_dup (q := 62) dX8_note_61 rfl rfl ?_
      refine z_get (q := 65) dX8_note_62 zfX8_50 (by first | exact zpM_0 | exact zpM_a rfl | exact zpM_8) rfl rfl ?_
      refine z_eqi (show _ = nI c from hc) ?_
      refine z_iconst (q := 66) dX8_note_65 zci_1 rfl ?_
      refine z_iaddN (q := 67) dX8_note_66 rfl ?_
      refine z_putM (q := 70) dX8_note_67 zfX8_50 (by decide) rfl ?_
      exact z_ret dX8_note_70 rfl (⟨rfl, _, rfl, ⟨rfl, rfl, by rw [qNd, e2]; rfl, rfl, rfl, rfl, by rw [qNd, e1]; rfl⟩, rfl⟩)
    · intro hc6
      omega
def qSteps (f : Nat → Int32) (n K i : Nat) : Nat → Int32 := qIt (fun _ f => qStep f n K) f i
theorem qSteps_0 {f : Nat → Int32} {n K i : Nat} : qSteps f n K i 0 = f 0 := by
  induction i with
  | zero => rfl
  | succ i ih => exact qStep_0.trans ih
theorem qSteps_1 {f : Nat → Int32} {n K i : Nat} : qSteps f n K i 1 = f 1 := by
  induction i with
  | zero => rfl
  | succ i ih => exact qStep_1.trans ih
set_option maxRecDepth 100000 in
set_option maxHeartbeats 4000000 in
theorem ct_X8_step1 {g : zGl} {h : zHp} {m : Nat} {x : Int32} {u : Nat → Nat → Int32} (hv : qBt x 1 99 = false) : zC g mX8_step [.ref m, .int x] (zpM g h m u) (zMP g h m u (nI 1) (nI 0)) 0 0 := by
  refine zC_ofA (lv := [some (.ref m), some (.int x), none]) (by decide) rfl (Nat.le_of_ble_eq_true rfl) ?_
  refine z_aload_n (q := 1) dX8_step_0 rfl rfl ?_
  refine z_iload_n (q := 2) dX8_step_1 rfl rfl ?_
  refine z_i2l (q := 3) dX8_step_2 rfl rfl ?_
  refine z_lconst (q := 4) (v := 1) dX8_step_3 (by decide) rfl ?_
  refine z_ldc2 (q := 7) dX8_step_4 zqX8_172 rfl ?_
  refine z_s3 (q := 10) dX8_step_7 zkX8_57 zt_mX8_in rfl (Nat.le_of_ble_eq_true rfl) (ct_X8_in) rfl ?_
  refine z_eqi ((congrArg zbi ((qIn_bt (by decide) (by decide) (by decide) (by decide)).trans hv)).trans zbi_f) ?_
  refine z_if_eq (tg := 17) (q := 13) dX8_step_10 rfl rfl ?_ ?_
  · intro hc10
    refine z_iconst (q := 18) dX8_step_17 zci_1 rfl ?_
    refine z_x1 (q := 21) dX8_step_18 zkX8_126 zt_mX8_refused rfl (by first | exact zpM_0 | exact zpM_a rfl | exact zpM_8) rfl (Nat.le_of_ble_eq_true rfl) (ct_X8_refused) rfl ?_
    refine z_eqi (show zbi (!decide (nI 1 ≤ 0)) = nI 1 by decide) ?_
    refine z_if_eq (tg := 26) (q := 24) dX8_step_21 rfl rfl ?_ ?_
    · intro hc21
      exact absurd hc21 (by decide)
    · intro hc21
      refine z_iconst (q := 25) dX8_step_24 zci_0 rfl ?_
      exact z_reti dX8_step_25 rfl (zMP_i rfl zSc_rf rfl)
  · intro hc10
    exact absurd hc10 (by decide)
set_option maxRecDepth 100000 in
set_option maxHeartbeats 4000000 in
theorem ct_X8_step0 {g : zGl} {h : zHp} {m n K c x : Nat} {u : Nat → Nat → Int32} (hn : u 3 0 = nI n) (hn6 : n ≤ 6) (hK : u 3 1 = nI K) (hK8 : K ≤ 8) (hc : u 0 9 = nI c) (hle : c ≤ 14) (hx1 : 1 ≤ x) (hx : x ≤ 99) : zC g mX8_step [.ref m, .int (nI x)] (zpM g h m u) (zMP g h m (va_up (qNd u c) 3 (qSteps (u 3) n K x)) (nI 0) (qFin (qSteps (u 3) n K x) K)) 0 0 := by
  have hv : qBt (nI x) 1 99 = true := qBt_i hx1 hx (by decide)
  refine zC_ofA (lv := [some (.ref m), some (.int (nI x)), none]) (by decide) rfl (Nat.le_of_ble_eq_true rfl) ?_
  have loop : ∀ d i U, i + d = x → zSc (va_up (qNd u c) 3 (qSteps (u 3) n K i)) U → U 0 0 = nI 0 → zA g (zZc g mX8_step (zMP g h m (va_up (qNd u c) 3 (qSteps (u 3) n K x)) (nI 0) (qFin (qSteps (u 3) n K x) K)) 0 0) 0 0 32 [some (.ref m), some (.int (nI x)), some (.int (nI i))] [] (zpM g h m U) := by
    intro d
    induction d using Nat.strongRecOn with
    | ind d ih =>
      intro i U hi hS hrf
      have h3 : U 3 = qSteps (u 3) n K i := hS.2.1
      have hn' : U 3 0 = nI n := by rw [h3, qSteps_0]; exact hn
      have hK' : U 3 1 = nI K := by rw [h3, qSteps_1]; exact hK
      refine z_iload_n (q := 33) dX8_step_32 rfl rfl ?_
      refine z_iload_n (q := 34) dX8_step_33 rfl rfl ?_
      refine z_icmp_geN (tg := 51) (q := 37) dX8_step_34 rfl rfl (by omega) (by omega) ?_ ?_
      · intro hc34
        refine z_aload_n (q := 52) dX8_step_51 rfl rfl ?_
        refine z_get (q := 55) dX8_step_52 zfX8_16 (by first | exact zpM_0 | exact zpM_a rfl | exact zpM_8) rfl rfl ?_
        refine z_s1 (q := 58) dX8_step_55 zkX8_152 zt_mX8_finished rfl (Nat.le_of_ble_eq_true rfl) (ct_X8_finished (by first | exact zpM_0 | exact zpM_a rfl | exact zpM_8) (by assumption) (by omega)) rfl ?_
        exact z_reti dX8_step_58 rfl (zMP_i (by rw [h3, show i = x by omega]) (by rw [show i = x by omega] at hS; exact hS) hrf)
      · intro hc34
        refine z_aload_n (q := 38) dX8_step_37 rfl rfl ?_
        refine z_aload_n (q := 39) dX8_step_38 rfl rfl ?_
        refine z_get (q := 42) dX8_step_39 zfX8_16 (by first | exact zpM_0 | exact zpM_a rfl | exact zpM_8) rfl rfl ?_
        refine z_w1 (q := 45) dX8_step_42 zkX8_177 zt_mX8_stepOn rfl (by first | exact zpM_0 | exact zpM_a rfl | exact zpM_8) rfl (Nat.le_of_ble_eq_true rfl) (ct_M_stepOn (Or.inl rfl) hn' hn6 hK' hK8) rfl ?_
        refine z_iincN (q := 48) dX8_step_45 rfl rfl rfl ?_
        refine z_goto (q := 0) (tg := 32) dX8_step_48 rfl ?_
        refine ih (d - 1) (by omega) (i + 1) _ (by omega) ?_ hrf
        obtain ⟨a1, a2, a3, a4, a5, a6, a7⟩ := hS
        exact ⟨a1, by show qStep (U 3) n K = qStep (qSteps (u 3) n K i) n K; rw [h3], a3, a4, a5, a6, a7⟩
  refine z_aload_n (q := 1) dX8_step_0 rfl rfl ?_
  refine z_iload_n (q := 2) dX8_step_1 rfl rfl ?_
  refine z_i2l (q := 3) dX8_step_2 rfl rfl ?_
  refine z_lconst (q := 4) (v := 1) dX8_step_3 (by decide) rfl ?_
  refine z_ldc2 (q := 7) dX8_step_4 zqX8_172 rfl ?_
  refine z_s3 (q := 10) dX8_step_7 zkX8_57 zt_mX8_in rfl (Nat.le_of_ble_eq_true rfl) (ct_X8_in) rfl ?_
  refine z_eqi ((congrArg zbi ((qIn_bt (by decide) (by decide) (by decide) (by decide)).trans hv)).trans zbi_t) ?_
  refine z_if_eq (tg := 17) (q := 13) dX8_step_10 rfl rfl ?_ ?_
  · intro hc10
    exact absurd hc10 (by decide)
  · intro hc10
    refine z_iconst (q := 14) dX8_step_13 zci_0 rfl ?_
    refine z_goto (q := 0) (tg := 18) dX8_step_14 rfl ?_
    refine z_x1 (q := 21) dX8_step_18 zkX8_126 zt_mX8_refused rfl (by first | exact zpM_0 | exact zpM_a rfl | exact zpM_8) rfl (Nat.le_of_ble_eq_true rfl) (ct_X8_refused) rfl ?_
    refine z_eqi (show zbi (!decide (nI 0 ≤ 0)) = nI 0 by decide) ?_
    refine z_if_eq (tg := 26) (q := 24) dX8_step_21 rfl rfl ?_ ?_
    · intro hc21
      generalize hU : va_up u 0 (va_up (u 0) 0 (nI 0)) = U
      have hS : zSc u U := by subst hU; exact zSc_rf
      have hrf : U 0 0 = nI 0 := by subst hU; rfl
      have h3 : U 3 = u 3 := hS.2.1
      have hc' : U 0 9 = nI c := by rw [hS.2.2.2.2.2.2]; exact hc
      refine z_aload_n (q := 27) dX8_step_26 rfl rfl ?_
      refine z_V0 (q := 30) dX8_step_27 zkX8_174 zt_mX8_note rfl (by first | exact zpM_0 | exact zpM_a rfl | exact zpM_8) rfl (Nat.le_of_ble_eq_true rfl) (ct_X8_note hc' hle) (Nat.zero_le _) (Nat.zero_le _) rfl ?_
      rintro _ _ ⟨rfl, U2, rfl, hS2, hrf2⟩
      refine z_iconst (q := 31) dX8_step_30 zci_0 rfl ?_
      refine z_istore_n (q := 32) dX8_step_31 (Nat.le_of_ble_eq_true rfl) rfl rfl ?_
      refine loop x 0 U2 (by omega) ?_ (hrf2.trans hrf)
      have hS3 := zSc_t (qNd_S (c := c) hS) hS2
      obtain ⟨a1, a2, a3, a4, a5, a6, a7⟩ := hS3
      exact ⟨a1, a2, a3, a4, a5, a6, a7⟩
    · intro hc21
      exact absurd hc21 (by decide)
set_option maxRecDepth 100000 in
set_option maxHeartbeats 4000000 in
theorem ct_X8_setRange1 {g : zGl} {h : zHp} {m n : Nat} {x y : Int32} {u : Nat → Nat → Int32} (hn : u 3 0 = nI n) (hn6 : n ≤ 6) (hv : qHas x n = false) : zC g mX8_setRange [.ref m, .int x, .int y] (zpM g h m u) (zMP g h m u (nI 1) (nI 0)) 0 0 := by
  refine zC_ofA (lv := [some (.ref m), some (.int x), some (.int y), none]) (by decide) rfl (Nat.le_of_ble_eq_true rfl) ?_
  refine z_aload_n (q := 1) dX8_setRange_0 rfl rfl ?_
  refine z_aload_n (q := 2) dX8_setRange_1 rfl rfl ?_
  refine z_iload_n (q := 3) dX8_setRange_2 rfl rfl ?_
  refine z_v1 (q := 6) dX8_setRange_3 zkX8_159 zt_mX8_isAgent rfl (by first | exact zpM_0 | exact zpM_a rfl | exact zpM_8) rfl (Nat.le_of_ble_eq_true rfl) (ct_X8_isAgent (by assumption) (by omega)) rfl ?_
  refine z_eqi ((congrArg zbi (hv)).trans zbi_f) ?_
  refine z_if_ne (tg := 13) (q := 9) dX8_setRange_6 rfl rfl ?_ ?_
  · intro hc6
    exact absurd hc6 (by decide)
  · intro hc6
    refine z_iconst (q := 10) dX8_setRange_9 zci_1 rfl ?_
    refine z_goto (q := 0) (tg := 30) dX8_setRange_10 rfl ?_
    refine z_x1 (q := 33) dX8_setRange_30 zkX8_126 zt_mX8_refused rfl (by first | exact zpM_0 | exact zpM_a rfl | exact zpM_8) rfl (Nat.le_of_ble_eq_true rfl) (ct_X8_refused) rfl ?_
    refine z_eqi (show zbi (!decide (nI 1 ≤ 0)) = nI 1 by decide) ?_
    refine z_if_eq (tg := 38) (q := 36) dX8_setRange_33 rfl rfl ?_ ?_
    · intro hc33
      exact absurd hc33 (by decide)
    · intro hc33
      refine z_iconst (q := 37) dX8_setRange_36 zci_0 rfl ?_
      exact z_reti dX8_setRange_37 rfl (zMP_i rfl zSc_rf rfl)
set_option maxRecDepth 100000 in
set_option maxHeartbeats 4000000 in
theorem ct_X8_setRange2 {g : zGl} {h : zHp} {m n : Nat} {x y : Int32} {u : Nat → Nat → Int32} (hn : u 3 0 = nI n) (hn6 : n ≤ 6) (hv : qHas x n = true) (hv2 : qBt y 0 22 = false) : zC g mX8_setRange [.ref m, .int x, .int y] (zpM g h m u) (zMP g h m u (nI 2) (nI 0)) 0 0 := by
  refine zC_ofA (lv := [some (.ref m), some (.int x), some (.int y), none]) (by decide) rfl (Nat.le_of_ble_eq_true rfl) ?_
  refine z_aload_n (q := 1) dX8_setRange_0 rfl rfl ?_
  refine z_aload_n (q := 2) dX8_setRange_1 rfl rfl ?_
  refine z_iload_n (q := 3) dX8_setRange_2 rfl rfl ?_
  refine z_v1 (q := 6) dX8_setRange_3 zkX8_159 zt_mX8_isAgent rfl (by first | exact zpM_0 | exact zpM_a rfl | exact zpM_8) rfl (Nat.le_of_ble_eq_true rfl) (ct_X8_isAgent (by assumption) (by omega)) rfl ?_
  refine z_eqi ((congrArg zbi (hv)).trans zbi_t) ?_
  refine z_if_ne (tg := 13) (q := 9) dX8_setRange_6 rfl rfl ?_ ?_
  · intro hc6
    refine z_iload_n (q := 14) dX8_setRange_13 rfl rfl ?_
    refine z_i2l (q := 15) dX8_setRange_14 rfl rfl ?_
    refine z_lconst (q := 16) (v := 0) dX8_setRange_15 (by decide) rfl ?_
    refine z_ldc2 (q := 19) dX8_setRange_16 zqX8_180 rfl ?_
    refine z_s3 (q := 22) dX8_setRange_19 zkX8_57 zt_mX8_in rfl (Nat.le_of_ble_eq_true rfl) (ct_X8_in) rfl ?_
    refine z_eqi ((congrArg zbi ((qIn_bt (by decide) (by decide) (by decide) (by decide)).trans hv2)).trans zbi_f) ?_
    refine z_if_ne (tg := 29) (q := 25) dX8_setRange_22 rfl rfl ?_ ?_
    · intro hc22
      exact absurd hc22 (by decide)
    · intro hc22
      refine z_iconst (q := 26) dX8_setRange_25 zci_2 rfl ?_
      refine z_goto (q := 0) (tg := 30) dX8_setRange_26 rfl ?_
      refine z_x1 (q := 33) dX8_setRange_30 zkX8_126 zt_mX8_refused rfl (by first | exact zpM_0 | exact zpM_a rfl | exact zpM_8) rfl (Nat.le_of_ble_eq_true rfl) (ct_X8_refused) rfl ?_
      refine z_eqi (show zbi (!decide (nI 2 ≤ 0)) = nI 1 by decide) ?_
      refine z_if_eq (tg := 38) (q := 36) dX8_setRange_33 rfl rfl ?_ ?_
      · intro hc33
        exact absurd hc33 (by decide)
      · intro hc33
        refine z_iconst (q := 37) dX8_setRange_36 zci_0 rfl ?_
        exact z_reti dX8_setRange_37 rfl (zMP_i rfl zSc_rf rfl)
  · intro hc6
    exact absurd hc6 (by decide)
set_option maxRecDepth 100000 in
set_option maxHeartbeats 4000000 in
theorem ct_X8_setRange0 {g : zGl} {h : zHp} {m n a c : Nat} {y : Int32} {u : Nat → Nat → Int32} (hn : u 3 0 = nI n) (hn6 : n ≤ 6) (hc : u 0 9 = nI c) (hle : c ≤ 14) (ha : a < n) (hv2 : qBt y 0 22 = true) : zC g mX8_setRange [.ref m, .int (nI a), .int y] (zpM g h m u) (zMP g h m (va_up (qNd u c) 3 (va_up (u 3) (4 + 6 * a + 2) y)) (nI 0) (u 3 (4 + 6 * a + 2))) 0 0 := by
  have hv : qHas (nI a) n = true := qHas_i ha (by omega)
  refine zC_ofA (lv := [some (.ref m), some (.int (nI a)), some (.int y), none]) (by decide) rfl (Nat.le_of_ble_eq_true rfl) ?_
  refine z_aload_n (q := 1) dX8_setRange_0 rfl rfl ?_
  refine z_aload_n (q := 2) dX8_setRange_1 rfl rfl ?_
  refine z_iload_n (q := 3) dX8_setRange_2 rfl rfl ?_
  refine z_v1 (q := 6) dX8_setRange_3 zkX8_159 zt_mX8_isAgent rfl (by first | exact zpM_0 | exact zpM_a rfl | exact zpM_8) rfl (Nat.le_of_ble_eq_true rfl) (ct_X8_isAgent (by assumption) (by omega)) rfl ?_
  refine z_eqi ((congrArg zbi (hv)).trans zbi_t) ?_
  refine z_if_ne (tg := 13) (q := 9) dX8_setRange_6 rfl rfl ?_ ?_
  · intro hc6
    refine z_iload_n (q := 14) dX8_setRange_13 rfl rfl ?_
    refine z_i2l (q := 15) dX8_setRange_14 rfl rfl ?_
    refine z_lconst (q := 16) (v := 0) dX8_setRange_15 (by decide) rfl ?_
    refine z_ldc2 (q := 19) dX8_setRange_16 zqX8_180 rfl ?_
    refine z_s3 (q := 22) dX8_setRange_19 zkX8_57 zt_mX8_in rfl (Nat.le_of_ble_eq_true rfl) (ct_X8_in) rfl ?_
    refine z_eqi ((congrArg zbi ((qIn_bt (by decide) (by decide) (by decide) (by decide)).trans hv2)).trans zbi_t) ?_
    refine z_if_ne (tg := 29) (q := 25) dX8_setRange_22 rfl rfl ?_ ?_
    · intro hc22
      refine z_iconst (q := 30) dX8_setRange_29 zci_0 rfl ?_
      refine z_x1 (q := 33) dX8_setRange_30 zkX8_126 zt_mX8_refused rfl (by first | exact zpM_0 | exact zpM_a rfl | exact zpM_8) rfl (Nat.le_of_ble_eq_true rfl) (ct_X8_refused) rfl ?_
      refine z_eqi (show zbi (!decide (nI 0 ≤ 0)) = nI 0 by decide) ?_
      refine z_if_eq (tg := 38) (q := 36) dX8_setRange_33 rfl rfl ?_ ?_
      · intro hc33
        generalize hU : va_up u 0 (va_up (u 0) 0 (nI 0)) = U
        have hS : zSc u U := by subst hU; exact zSc_rf
        have hrf : U 0 0 = nI 0 := by subst hU; rfl
        have h3 : U 3 = u 3 := hS.2.1
        have hc' : U 0 9 = nI c := by rw [hS.2.2.2.2.2.2]; exact hc
        refine z_aload_n (q := 39) dX8_setRange_38 rfl rfl ?_
        refine z_V0 (q := 42) dX8_setRange_39 zkX8_174 zt_mX8_note rfl (by first | exact zpM_0 | exact zpM_a rfl | exact zpM_8) rfl (Nat.le_of_ble_eq_true rfl) (ct_X8_note hc' hle) (Nat.zero_le _) (Nat.zero_le _) rfl ?_
        rintro _ _ ⟨rfl, U2, rfl, hS2, hrf2⟩
        have hS3 := zSc_t (qNd_S (c := c) hS) hS2
        have h33 : U2 3 = u 3 := hS3.2.1
        refine z_aload_n (q := 43) dX8_setRange_42 rfl rfl ?_
        refine z_get (q := 46) dX8_setRange_43 zfX8_16 (by first | exact zpM_0 | exact zpM_a rfl | exact zpM_8) rfl rfl ?_
        refine z_iload_n (q := 47) dX8_setRange_46 rfl rfl ?_
        refine z_s1 (q := 50) dX8_setRange_47 zkX8_61 zt_mX8_agentAt rfl (Nat.le_of_ble_eq_true rfl) (ct_X8_agentAt) rfl ?_
        refine z_iconst (q := 51) dX8_setRange_50 zci_2 rfl ?_
        refine z_iaddN (q := 52) dX8_setRange_51 rfl ?_
        refine z_iald (q := 53) dX8_setRange_52 (by first | exact zpM_0 | exact zpM_a rfl | exact zpM_8) (by omega) (by omega) rfl ?_
        refine z_istore_n (q := 54) dX8_setRange_53 (Nat.le_of_ble_eq_true rfl) rfl rfl ?_
        refine z_aload_n (q := 55) dX8_setRange_54 rfl rfl ?_
        refine z_get (q := 58) dX8_setRange_55 zfX8_16 (by first | exact zpM_0 | exact zpM_a rfl | exact zpM_8) rfl rfl ?_
        refine z_iload_n (q := 59) dX8_setRange_58 rfl rfl ?_
        refine z_s1 (q := 62) dX8_setRange_59 zkX8_61 zt_mX8_agentAt rfl (Nat.le_of_ble_eq_true rfl) (ct_X8_agentAt) rfl ?_
        refine z_iconst (q := 63) dX8_setRange_62 zci_2 rfl ?_
        refine z_iaddN (q := 64) dX8_setRange_63 rfl ?_
        refine z_iload_n (q := 65) dX8_setRange_64 rfl rfl ?_
        refine z_iastM (q := 66) dX8_setRange_65 rfl (by omega) rfl ?_
        refine z_iload_n (q := 67) dX8_setRange_66 rfl rfl ?_
        exact z_reti dX8_setRange_67 rfl (zMP_i (by rw [h33]) (by rw [h33]; exact zSc_3 hS3) (hrf2.trans hrf))
      · intro hc33
        exact absurd hc33 (by decide)
    · intro hc22
      exact absurd hc22 (by decide)
  · intro hc6
    exact absurd hc6 (by decide)
set_option maxRecDepth 100000 in
set_option maxHeartbeats 4000000 in
theorem ct_X8_isPlace {g : zGl} {h : zHp} {x y : Int32} : zC g mX8_isPlace [.int x, .int y] h (zV h (.int (zbi (qBt x 0 11 && qBt y 0 11)))) 0 0 := by
  refine zC_ofA (lv := [some (.int x), some (.int y)]) (by decide) rfl (Nat.le_of_ble_eq_true rfl) ?_
  refine z_iload_n (q := 1) dX8_isPlace_0 rfl rfl ?_
  refine z_i2l (q := 2) dX8_isPlace_1 rfl rfl ?_
  refine z_lconst (q := 3) (v := 0) dX8_isPlace_2 (by decide) rfl ?_
  refine z_ldc2 (q := 6) dX8_isPlace_3 zqX8_182 rfl ?_
  refine z_s3 (q := 9) dX8_isPlace_6 zkX8_57 zt_mX8_in rfl (Nat.le_of_ble_eq_true rfl) (ct_X8_in) rfl ?_
  refine z_ifb_eq (tg := 28) (q := 12) dX8_isPlace_9 rfl rfl ?_ ?_
  · intro hc9
    rw [qIn_bt (lo := 0) (hi := 11) (by decide) (by decide) (by decide) (by decide)] at hc9
    refine z_iconst (q := 29) dX8_isPlace_28 zci_0 rfl ?_
    exact z_retz dX8_isPlace_29 rfl (by first | exact Or.inl rfl | exact Or.inr rfl) (zVf (by first | (simp [zbi_t, hc9]; done) | simp_all [zbi_t]))
  · intro hc9
    rw [qIn_bt (lo := 0) (hi := 11) (by decide) (by decide) (by decide) (by decide)] at hc9
    refine z_iload_n (q := 13) dX8_isPlace_12 rfl rfl ?_
    refine z_i2l (q := 14) dX8_isPlace_13 rfl rfl ?_
    refine z_lconst (q := 15) (v := 0) dX8_isPlace_14 (by decide) rfl ?_
    refine z_ldc2 (q := 18) dX8_isPlace_15 zqX8_182 rfl ?_
    refine z_s3 (q := 21) dX8_isPlace_18 zkX8_57 zt_mX8_in rfl (Nat.le_of_ble_eq_true rfl) (ct_X8_in) rfl ?_
    refine z_ifb_eq (tg := 28) (q := 24) dX8_isPlace_21 rfl rfl ?_ ?_
    · intro hc21
      rw [qIn_bt (lo := 0) (hi := 11) (by decide) (by decide) (by decide) (by decide)] at hc21
      refine z_iconst (q := 29) dX8_isPlace_28 zci_0 rfl ?_
      exact z_retz dX8_isPlace_29 rfl (by first | exact Or.inl rfl | exact Or.inr rfl) (zVf (by first | (simp [zbi_t, hc9, hc21]; done) | simp_all [zbi_t]))
    · intro hc21
      rw [qIn_bt (lo := 0) (hi := 11) (by decide) (by decide) (by decide) (by decide)] at hc21
      refine z_iconst (q := 25) dX8_isPlace_24 zci_1 rfl ?_
      refine z_goto (q := 0) (tg := 29) dX8_isPlace_25 rfl ?_
      exact z_retz dX8_isPlace_29 rfl (by first | exact Or.inl rfl | exact Or.inr rfl) (zVt (by first | (simp [zbi_t, hc9, hc21]; done) | simp_all [zbi_t]))
set_option maxRecDepth 100000 in
set_option maxHeartbeats 4000000 in
theorem ct_X8_put1 {g : zGl} {h : zHp} {m n : Nat} {x y z : Int32} {u : Nat → Nat → Int32} (hn : u 3 0 = nI n) (hn6 : n ≤ 6) (hv : qHas x n = false) : zC g mX8_put [.ref m, .int x, .int y, .int z] (zpM g h m u) (zMP g h m u (nI 1) (nI 0)) 0 0 := by
  refine zC_ofA (lv := [some (.ref m), some (.int x), some (.int y), some (.int z), none, none]) (by decide) rfl (Nat.le_of_ble_eq_true rfl) ?_
  refine z_aload_n (q := 1) dX8_put_0 rfl rfl ?_
  refine z_aload_n (q := 2) dX8_put_1 rfl rfl ?_
  refine z_iload_n (q := 3) dX8_put_2 rfl rfl ?_
  refine z_v1 (q := 6) dX8_put_3 zkX8_159 zt_mX8_isAgent rfl (by first | exact zpM_0 | exact zpM_a rfl | exact zpM_8) rfl (Nat.le_of_ble_eq_true rfl) (ct_X8_isAgent (by assumption) (by omega)) rfl ?_
  refine z_eqi ((congrArg zbi (hv)).trans zbi_f) ?_
  refine z_if_ne (tg := 13) (q := 9) dX8_put_6 rfl rfl ?_ ?_
  · intro hc6
    exact absurd hc6 (by decide)
  · intro hc6
    refine z_iconst (q := 10) dX8_put_9 zci_1 rfl ?_
    refine z_goto (q := 0) (tg := 26) dX8_put_10 rfl ?_
    refine z_x1 (q := 29) dX8_put_26 zkX8_126 zt_mX8_refused rfl (by first | exact zpM_0 | exact zpM_a rfl | exact zpM_8) rfl (Nat.le_of_ble_eq_true rfl) (ct_X8_refused) rfl ?_
    refine z_eqi (show zbi (!decide (nI 1 ≤ 0)) = nI 1 by decide) ?_
    refine z_if_eq (tg := 34) (q := 32) dX8_put_29 rfl rfl ?_ ?_
    · intro hc29
      exact absurd hc29 (by decide)
    · intro hc29
      refine z_iconst (q := 33) dX8_put_32 zci_0 rfl ?_
      exact z_reti dX8_put_33 rfl (zMP_i rfl zSc_rf rfl)
set_option maxRecDepth 100000 in
set_option maxHeartbeats 4000000 in
theorem ct_X8_put2 {g : zGl} {h : zHp} {m n : Nat} {x y z : Int32} {u : Nat → Nat → Int32} (hn : u 3 0 = nI n) (hn6 : n ≤ 6) (hv : qHas x n = true) (hv2 : (qBt y 0 11 && qBt z 0 11) = false) : zC g mX8_put [.ref m, .int x, .int y, .int z] (zpM g h m u) (zMP g h m u (nI 2) (nI 0)) 0 0 := by
  refine zC_ofA (lv := [some (.ref m), some (.int x), some (.int y), some (.int z), none, none]) (by decide) rfl (Nat.le_of_ble_eq_true rfl) ?_
  refine z_aload_n (q := 1) dX8_put_0 rfl rfl ?_
  refine z_aload_n (q := 2) dX8_put_1 rfl rfl ?_
  refine z_iload_n (q := 3) dX8_put_2 rfl rfl ?_
  refine z_v1 (q := 6) dX8_put_3 zkX8_159 zt_mX8_isAgent rfl (by first | exact zpM_0 | exact zpM_a rfl | exact zpM_8) rfl (Nat.le_of_ble_eq_true rfl) (ct_X8_isAgent (by assumption) (by omega)) rfl ?_
  refine z_eqi ((congrArg zbi (hv)).trans zbi_t) ?_
  refine z_if_ne (tg := 13) (q := 9) dX8_put_6 rfl rfl ?_ ?_
  · intro hc6
    refine z_iload_n (q := 14) dX8_put_13 rfl rfl ?_
    refine z_iload_n (q := 15) dX8_put_14 rfl rfl ?_
    refine z_s2 (q := 18) dX8_put_15 zkX8_184 zt_mX8_isPlace rfl (Nat.le_of_ble_eq_true rfl) (ct_X8_isPlace) rfl ?_
    refine z_eqi ((congrArg zbi (hv2)).trans zbi_f) ?_
    refine z_if_ne (tg := 25) (q := 21) dX8_put_18 rfl rfl ?_ ?_
    · intro hc18
      exact absurd hc18 (by decide)
    · intro hc18
      refine z_iconst (q := 22) dX8_put_21 zci_2 rfl ?_
      refine z_goto (q := 0) (tg := 26) dX8_put_22 rfl ?_
      refine z_x1 (q := 29) dX8_put_26 zkX8_126 zt_mX8_refused rfl (by first | exact zpM_0 | exact zpM_a rfl | exact zpM_8) rfl (Nat.le_of_ble_eq_true rfl) (ct_X8_refused) rfl ?_
      refine z_eqi (show zbi (!decide (nI 2 ≤ 0)) = nI 1 by decide) ?_
      refine z_if_eq (tg := 34) (q := 32) dX8_put_29 rfl rfl ?_ ?_
      · intro hc29
        exact absurd hc29 (by decide)
      · intro hc29
        refine z_iconst (q := 33) dX8_put_32 zci_0 rfl ?_
        exact z_reti dX8_put_33 rfl (zMP_i rfl zSc_rf rfl)
  · intro hc6
    exact absurd hc6 (by decide)
set_option maxRecDepth 100000 in
set_option maxHeartbeats 4000000 in
theorem ct_X8_put0 {g : zGl} {h : zHp} {m n a c : Nat} {y z : Int32} {u : Nat → Nat → Int32} (hn : u 3 0 = nI n) (hn6 : n ≤ 6) (hc : u 0 9 = nI c) (hle : c ≤ 14) (ha : a < n) (hv2 : (qBt y 0 11 && qBt z 0 11) = true) : zC g mX8_put [.ref m, .int (nI a), .int y, .int z] (zpM g h m u) (zMP g h m (va_up (qNd u c) 3 (va_up (va_up (u 3) (4 + 6 * a) y) (4 + 6 * a + 1) z)) (nI 0) (qSz (u 3 (4 + 6 * a) - y) + qSz (u 3 (4 + 6 * a + 1) - z))) 0 0 := by
  have hv : qHas (nI a) n = true := qHas_i ha (by omega)
  refine zC_ofA (lv := [some (.ref m), some (.int (nI a)), some (.int y), some (.int z), none, none]) (by decide) rfl (Nat.le_of_ble_eq_true rfl) ?_
  refine z_aload_n (q := 1) dX8_put_0 rfl rfl ?_
  refine z_aload_n (q := 2) dX8_put_1 rfl rfl ?_
  refine z_iload_n (q := 3) dX8_put_2 rfl rfl ?_
  refine z_v1 (q := 6) dX8_put_3 zkX8_159 zt_mX8_isAgent rfl (by first | exact zpM_0 | exact zpM_a rfl | exact zpM_8) rfl (Nat.le_of_ble_eq_true rfl) (ct_X8_isAgent (by assumption) (by omega)) rfl ?_
  refine z_eqi ((congrArg zbi (hv)).trans zbi_t) ?_
  refine z_if_ne (tg := 13) (q := 9) dX8_put_6 rfl rfl ?_ ?_
  · intro hc6
    refine z_iload_n (q := 14) dX8_put_13 rfl rfl ?_
    refine z_iload_n (q := 15) dX8_put_14 rfl rfl ?_
    refine z_s2 (q := 18) dX8_put_15 zkX8_184 zt_mX8_isPlace rfl (Nat.le_of_ble_eq_true rfl) (ct_X8_isPlace) rfl ?_
    refine z_eqi ((congrArg zbi (hv2)).trans zbi_t) ?_
    refine z_if_ne (tg := 25) (q := 21) dX8_put_18 rfl rfl ?_ ?_
    · intro hc18
      refine z_iconst (q := 26) dX8_put_25 zci_0 rfl ?_
      refine z_x1 (q := 29) dX8_put_26 zkX8_126 zt_mX8_refused rfl (by first | exact zpM_0 | exact zpM_a rfl | exact zpM_8) rfl (Nat.le_of_ble_eq_true rfl) (ct_X8_refused) rfl ?_
      refine z_eqi (show zbi (!decide (nI 0 ≤ 0)) = nI 0 by decide) ?_
      refine z_if_eq (tg := 34) (q := 32) dX8_put_29 rfl rfl ?_ ?_
      · intro hc29
        generalize hU : va_up u 0 (va_up (u 0) 0 (nI 0)) = U
        have hS : zSc u U := by subst hU; exact zSc_rf
        have hrf : U 0 0 = nI 0 := by subst hU; rfl
        have h3 : U 3 = u 3 := hS.2.1
        have hc' : U 0 9 = nI c := by rw [hS.2.2.2.2.2.2]; exact hc
        refine z_aload_n (q := 35) dX8_put_34 rfl rfl ?_
        refine z_V0 (q := 38) dX8_put_35 zkX8_174 zt_mX8_note rfl (by first | exact zpM_0 | exact zpM_a rfl | exact zpM_8) rfl (Nat.le_of_ble_eq_true rfl) (ct_X8_note hc' hle) (Nat.zero_le _) (Nat.zero_le _) rfl ?_
        rintro _ _ ⟨rfl, U2, rfl, hS2, hrf2⟩
        have hS3 := zSc_t (qNd_S (c := c) hS) hS2
        have h33 : U2 3 = u 3 := hS3.2.1
        refine z_iload_n (q := 39) dX8_put_38 rfl rfl ?_
        refine z_s1 (q := 42) dX8_put_39 zkX8_61 zt_mX8_agentAt rfl (Nat.le_of_ble_eq_true rfl) (ct_X8_agentAt) rfl ?_
        refine z_istore (q := 44) dX8_put_42 (Nat.le_of_ble_eq_true rfl) rfl rfl ?_
        refine z_aload_n (q := 45) dX8_put_44 rfl rfl ?_
        refine z_get (q := 48) dX8_put_45 zfX8_16 (by first | exact zpM_0 | exact zpM_a rfl | exact zpM_8) rfl rfl ?_
        refine z_iload (q := 50) dX8_put_48 rfl rfl ?_
        refine z_iconst (q := 51) dX8_put_50 zci_0 rfl ?_
        refine z_iadd0 (q := 52) dX8_put_51 rfl ?_
        refine z_iald (q := 53) dX8_put_52 (by first | exact zpM_0 | exact zpM_a rfl | exact zpM_8) (by omega) (by omega) rfl ?_
        refine z_iload_n (q := 54) dX8_put_53 rfl rfl ?_
        refine z_isub (q := 55) dX8_put_54 rfl ?_
        refine z_s1 (q := 58) dX8_put_55 zkX8_68 zt_mX8_size rfl (Nat.le_of_ble_eq_true rfl) (ct_X8_size) rfl ?_
        refine z_aload_n (q := 59) dX8_put_58 rfl rfl ?_
        refine z_get (q := 62) dX8_put_59 zfX8_16 (by first | exact zpM_0 | exact zpM_a rfl | exact zpM_8) rfl rfl ?_
        refine z_iload (q := 64) dX8_put_62 rfl rfl ?_
        refine z_iconst (q := 65) dX8_put_64 zci_1 rfl ?_
        refine z_iaddN (q := 66) dX8_put_65 rfl ?_
        refine z_iald (q := 67) dX8_put_66 (by first | exact zpM_0 | exact zpM_a rfl | exact zpM_8) (by omega) (by omega) rfl ?_
        refine z_iload_n (q := 68) dX8_put_67 rfl rfl ?_
        refine z_isub (q := 69) dX8_put_68 rfl ?_
        refine z_s1 (q := 72) dX8_put_69 zkX8_68 zt_mX8_size rfl (Nat.le_of_ble_eq_true rfl) (ct_X8_size) rfl ?_
        refine z_iadd (q := 73) dX8_put_72 rfl ?_
        refine z_istore (q := 75) dX8_put_73 (Nat.le_of_ble_eq_true rfl) rfl rfl ?_
        refine z_aload_n (q := 76) dX8_put_75 rfl rfl ?_
        refine z_get (q := 79) dX8_put_76 zfX8_16 (by first | exact zpM_0 | exact zpM_a rfl | exact zpM_8) rfl rfl ?_
        refine z_iload (q := 81) dX8_put_79 rfl rfl ?_
        refine z_iconst (q := 82) dX8_put_81 zci_0 rfl ?_
        refine z_iadd0 (q := 83) dX8_put_82 rfl ?_
        refine z_iload_n (q := 84) dX8_put_83 rfl rfl ?_
        refine z_iastM (q := 85) dX8_put_84 rfl (by omega) rfl ?_
        rw [h33]
        refine z_aload_n (q := 86) dX8_put_85 rfl rfl ?_
        refine z_get (q := 89) dX8_put_86 zfX8_16 (by first | exact zpM_0 | exact zpM_a rfl | exact zpM_8) rfl rfl ?_
        refine z_iload (q := 91) dX8_put_89 rfl rfl ?_
        refine z_iconst (q := 92) dX8_put_91 zci_1 rfl ?_
        refine z_iaddN (q := 93) dX8_put_92 rfl ?_
        refine z_iload_n (q := 94) dX8_put_93 rfl rfl ?_
        refine z_iastM (q := 95) dX8_put_94 rfl (by omega) rfl ?_
        rw [zu_eq, zu_up]
        refine z_iload (q := 97) dX8_put_95 rfl rfl ?_
        exact z_reti dX8_put_97 rfl (zMP_i rfl (zSc_3 hS3) (hrf2.trans hrf))
      · intro hc29
        exact absurd hc29 (by decide)
    · intro hc18
      exact absurd hc18 (by decide)
  · intro hc6
    exact absurd hc6 (by decide)
set_option maxRecDepth 100000 in
set_option maxHeartbeats 4000000 in
theorem ct_X8_toggle1 {g : zGl} {h : zHp} {m n : Nat} {x : Int32} {u : Nat → Nat → Int32} (hn : u 3 0 = nI n) (hn6 : n ≤ 6) (hv : qHas x n = false) : zC g mX8_toggle [.ref m, .int x] (zpM g h m u) (zMP g h m u (nI 1) (nI 0)) 0 0 := by
  refine zC_ofA (lv := [some (.ref m), some (.int x)]) (by decide) rfl (Nat.le_of_ble_eq_true rfl) ?_
  refine z_aload_n (q := 1) dX8_toggle_0 rfl rfl ?_
  refine z_aload_n (q := 2) dX8_toggle_1 rfl rfl ?_
  refine z_iload_n (q := 3) dX8_toggle_2 rfl rfl ?_
  refine z_v1 (q := 6) dX8_toggle_3 zkX8_159 zt_mX8_isAgent rfl (by first | exact zpM_0 | exact zpM_a rfl | exact zpM_8) rfl (Nat.le_of_ble_eq_true rfl) (ct_X8_isAgent (by assumption) (by omega)) rfl ?_
  refine z_eqi ((congrArg zbi (hv)).trans zbi_f) ?_
  refine z_if_eq (tg := 13) (q := 9) dX8_toggle_6 rfl rfl ?_ ?_
  · intro hc6
    refine z_iconst (q := 14) dX8_toggle_13 zci_1 rfl ?_
    refine z_x1 (q := 17) dX8_toggle_14 zkX8_126 zt_mX8_refused rfl (by first | exact zpM_0 | exact zpM_a rfl | exact zpM_8) rfl (Nat.le_of_ble_eq_true rfl) (ct_X8_refused) rfl ?_
    refine z_eqi (show zbi (!decide (nI 1 ≤ 0)) = nI 1 by decide) ?_
    refine z_if_eq (tg := 22) (q := 20) dX8_toggle_17 rfl rfl ?_ ?_
    · intro hc17
      exact absurd hc17 (by decide)
    · intro hc17
      refine z_iconst (q := 21) dX8_toggle_20 zci_0 rfl ?_
      exact z_reti dX8_toggle_21 rfl (zMP_i rfl zSc_rf rfl)
  · intro hc6
    exact absurd hc6 (by decide)
def qTog (f : Nat → Int32) (a : Nat) : Nat → Int32 := va_up f (4 + 6 * a + 3) (nI 1 - f (4 + 6 * a + 3))
theorem qTog_lt {f : Nat → Int32} {a j : Nat} (h : j < 4) : qTog f a j = f j := zu_ne (by omega)
set_option maxRecDepth 100000 in
set_option maxHeartbeats 4000000 in
theorem ct_X8_toggle0 {g : zGl} {h : zHp} {m n a c : Nat} {u : Nat → Nat → Int32} (hn : u 3 0 = nI n) (hn6 : n ≤ 6) (hc : u 0 9 = nI c) (hle : c ≤ 14) (ha : a < n) : zC g mX8_toggle [.ref m, .int (nI a)] (zpM g h m u) (zMP g h m (va_up (qNd u c) 3 (qTog (u 3) a)) (nI 0) (qSum (qTog (u 3) a) n 3)) 0 0 := by
  have hv : qHas (nI a) n = true := qHas_i ha (by omega)
  refine zC_ofA (lv := [some (.ref m), some (.int (nI a))]) (by decide) rfl (Nat.le_of_ble_eq_true rfl) ?_
  refine z_aload_n (q := 1) dX8_toggle_0 rfl rfl ?_
  refine z_aload_n (q := 2) dX8_toggle_1 rfl rfl ?_
  refine z_iload_n (q := 3) dX8_toggle_2 rfl rfl ?_
  refine z_v1 (q := 6) dX8_toggle_3 zkX8_159 zt_mX8_isAgent rfl (by first | exact zpM_0 | exact zpM_a rfl | exact zpM_8) rfl (Nat.le_of_ble_eq_true rfl) (ct_X8_isAgent (by assumption) (by omega)) rfl ?_
  refine z_eqi ((congrArg zbi (hv)).trans zbi_t) ?_
  refine z_if_eq (tg := 13) (q := 9) dX8_toggle_6 rfl rfl ?_ ?_
  · intro hc6
    exact absurd hc6 (by decide)
  · intro hc6
    refine z_iconst (q := 10) dX8_toggle_9 zci_0 rfl ?_
    refine z_goto (q := 0) (tg := 14) dX8_toggle_10 rfl ?_
    refine z_x1 (q := 17) dX8_toggle_14 zkX8_126 zt_mX8_refused rfl (by first | exact zpM_0 | exact zpM_a rfl | exact zpM_8) rfl (Nat.le_of_ble_eq_true rfl) (ct_X8_refused) rfl ?_
    refine z_eqi (show zbi (!decide (nI 0 ≤ 0)) = nI 0 by decide) ?_
    refine z_if_eq (tg := 22) (q := 20) dX8_toggle_17 rfl rfl ?_ ?_
    · intro hc17
      generalize hU : va_up u 0 (va_up (u 0) 0 (nI 0)) = U
      have hS : zSc u U := by subst hU; exact zSc_rf
      have hrf : U 0 0 = nI 0 := by subst hU; rfl
      have h3 : U 3 = u 3 := hS.2.1
      have hc' : U 0 9 = nI c := by rw [hS.2.2.2.2.2.2]; exact hc
      refine z_aload_n (q := 23) dX8_toggle_22 rfl rfl ?_
      refine z_V0 (q := 26) dX8_toggle_23 zkX8_174 zt_mX8_note rfl (by first | exact zpM_0 | exact zpM_a rfl | exact zpM_8) rfl (Nat.le_of_ble_eq_true rfl) (ct_X8_note hc' hle) (Nat.zero_le _) (Nat.zero_le _) rfl ?_
      rintro _ _ ⟨rfl, U2, rfl, hS2, hrf2⟩
      have hS3 := zSc_t (qNd_S (c := c) hS) hS2
      have h33 : U2 3 = u 3 := hS3.2.1
      refine z_aload_n (q := 27) dX8_toggle_26 rfl rfl ?_
      refine z_get (q := 30) dX8_toggle_27 zfX8_16 (by first | exact zpM_0 | exact zpM_a rfl | exact zpM_8) rfl rfl ?_
      refine z_iload_n (q := 31) dX8_toggle_30 rfl rfl ?_
      refine z_s1 (q := 34) dX8_toggle_31 zkX8_61 zt_mX8_agentAt rfl (Nat.le_of_ble_eq_true rfl) (ct_X8_agentAt) rfl ?_
      refine z_iconst (q := 35) dX8_toggle_34 zci_3 rfl ?_
      refine z_iaddN (q := 36) dX8_toggle_35 rfl ?_
      refine z_iconst (q := 37) dX8_toggle_36 zci_1 rfl ?_
      refine z_aload_n (q := 38) dX8_toggle_37 rfl rfl ?_
      refine z_get (q := 41) dX8_toggle_38 zfX8_16 (by first | exact zpM_0 | exact zpM_a rfl | exact zpM_8) rfl rfl ?_
      refine z_iload_n (q := 42) dX8_toggle_41 rfl rfl ?_
      refine z_s1 (q := 45) dX8_toggle_42 zkX8_61 zt_mX8_agentAt rfl (Nat.le_of_ble_eq_true rfl) (ct_X8_agentAt) rfl ?_
      refine z_iconst (q := 46) dX8_toggle_45 zci_3 rfl ?_
      refine z_iaddN (q := 47) dX8_toggle_46 rfl ?_
      refine z_iald (q := 48) dX8_toggle_47 (by first | exact zpM_0 | exact zpM_a rfl | exact zpM_8) (by omega) (by omega) rfl ?_
      refine z_isub (q := 49) dX8_toggle_48 rfl ?_
      refine z_iastM (q := 50) dX8_toggle_49 rfl (by omega) rfl ?_
      rw [h33, ← qTog]
      refine z_aload_n (q := 51) dX8_toggle_50 rfl rfl ?_
      refine z_get (q := 54) dX8_toggle_51 zfX8_16 (by first | exact zpM_0 | exact zpM_a rfl | exact zpM_8) rfl rfl ?_
      refine z_s1 (q := 57) dX8_toggle_54 zkX8_188 zt_mX8_countOn rfl (Nat.le_of_ble_eq_true rfl) (ct_X8_countOn (zpM_a rfl) (show va_up U2 3 (qTog (u 3) a) 3 0 = nI n by rw [zu_eq, qTog_lt (by omega)]; exact hn) hn6) rfl ?_
      exact z_reti dX8_toggle_57 rfl (zMP_i (by rw [zu_eq]) (zSc_3 hS3) (hrf2.trans hrf))
    · intro hc17
      exact absurd hc17 (by decide)
set_option maxRecDepth 100000 in
set_option maxHeartbeats 4000000 in
theorem ct_X8_handOver1 {g : zGl} {h : zHp} {m n : Nat} {x y : Int32} {u : Nat → Nat → Int32} (hn : u 3 0 = nI n) (hn6 : n ≤ 6) (hv : (qHas x n && qHas y n) = false) : zC g mX8_handOver [.ref m, .int x, .int y] (zpM g h m u) (zMP g h m u (nI 1) (nI 0)) 0 0 := by
  refine zC_ofA (lv := [some (.ref m), some (.int x), some (.int y)]) (by decide) rfl (Nat.le_of_ble_eq_true rfl) ?_
  by_cases hx : qHas x n = true
  · have hy : qHas y n = false := by simpa [hx] using hv
    refine z_aload_n (q := 1) dX8_handOver_0 rfl rfl ?_
    refine z_aload_n (q := 2) dX8_handOver_1 rfl rfl ?_
    refine z_iload_n (q := 3) dX8_handOver_2 rfl rfl ?_
    refine z_v1 (q := 6) dX8_handOver_3 zkX8_159 zt_mX8_isAgent rfl (by first | exact zpM_0 | exact zpM_a rfl | exact zpM_8) rfl (Nat.le_of_ble_eq_true rfl) (ct_X8_isAgent (by assumption) (by omega)) rfl ?_
    refine z_eqi ((congrArg zbi (hx)).trans zbi_t) ?_
    refine z_if_eq (tg := 17) (q := 9) dX8_handOver_6 rfl rfl ?_ ?_
    · intro hc6
      exact absurd hc6 (by decide)
    · intro hc6
      refine z_aload_n (q := 10) dX8_handOver_9 rfl rfl ?_
      refine z_iload_n (q := 11) dX8_handOver_10 rfl rfl ?_
      refine z_v1 (q := 14) dX8_handOver_11 zkX8_159 zt_mX8_isAgent rfl (by first | exact zpM_0 | exact zpM_a rfl | exact zpM_8) rfl (Nat.le_of_ble_eq_true rfl) (ct_X8_isAgent (by assumption) (by omega)) rfl ?_
      refine z_eqi ((congrArg zbi (hy)).trans zbi_f) ?_
      refine z_if_ne (tg := 21) (q := 17) dX8_handOver_14 rfl rfl ?_ ?_
      · intro hc14
        exact absurd hc14 (by decide)
      · intro hc14
        refine z_iconst (q := 18) dX8_handOver_17 zci_1 rfl ?_
        refine z_goto (q := 0) (tg := 47) dX8_handOver_18 rfl ?_
        refine z_x1 (q := 50) dX8_handOver_47 zkX8_126 zt_mX8_refused rfl (by first | exact zpM_0 | exact zpM_a rfl | exact zpM_8) rfl (Nat.le_of_ble_eq_true rfl) (ct_X8_refused) rfl ?_
        refine z_eqi (show zbi (!decide (nI 1 ≤ 0)) = nI 1 by decide) ?_
        refine z_if_eq (tg := 55) (q := 53) dX8_handOver_50 rfl rfl ?_ ?_
        · intro hc50
          exact absurd hc50 (by decide)
        · intro hc50
          refine z_iconst (q := 54) dX8_handOver_53 zci_0 rfl ?_
          exact z_reti dX8_handOver_54 rfl (zMP_i rfl zSc_rf rfl)
  · have hx : qHas x n = false := by simpa using hx
    refine z_aload_n (q := 1) dX8_handOver_0 rfl rfl ?_
    refine z_aload_n (q := 2) dX8_handOver_1 rfl rfl ?_
    refine z_iload_n (q := 3) dX8_handOver_2 rfl rfl ?_
    refine z_v1 (q := 6) dX8_handOver_3 zkX8_159 zt_mX8_isAgent rfl (by first | exact zpM_0 | exact zpM_a rfl | exact zpM_8) rfl (Nat.le_of_ble_eq_true rfl) (ct_X8_isAgent (by assumption) (by omega)) rfl ?_
    refine z_eqi ((congrArg zbi (hx)).trans zbi_f) ?_
    refine z_if_eq (tg := 17) (q := 9) dX8_handOver_6 rfl rfl ?_ ?_
    · intro hc6
      refine z_iconst (q := 18) dX8_handOver_17 zci_1 rfl ?_
      refine z_goto (q := 0) (tg := 47) dX8_handOver_18 rfl ?_
      refine z_x1 (q := 50) dX8_handOver_47 zkX8_126 zt_mX8_refused rfl (by first | exact zpM_0 | exact zpM_a rfl | exact zpM_8) rfl (Nat.le_of_ble_eq_true rfl) (ct_X8_refused) rfl ?_
      refine z_eqi (show zbi (!decide (nI 1 ≤ 0)) = nI 1 by decide) ?_
      refine z_if_eq (tg := 55) (q := 53) dX8_handOver_50 rfl rfl ?_ ?_
      · intro hc50
        exact absurd hc50 (by decide)
      · intro hc50
        refine z_iconst (q := 54) dX8_handOver_53 zci_0 rfl ?_
        exact z_reti dX8_handOver_54 rfl (zMP_i rfl zSc_rf rfl)
    · intro hc6
      exact absurd hc6 (by decide)
set_option maxRecDepth 100000 in
set_option maxHeartbeats 4000000 in
theorem ct_X8_handOver2 {g : zGl} {h : zHp} {m n a : Nat} {u : Nat → Nat → Int32} (hn : u 3 0 = nI n) (hn6 : n ≤ 6) (ha : a < n) : zC g mX8_handOver [.ref m, .int (nI a), .int (nI a)] (zpM g h m u) (zMP g h m u (nI 2) (nI 0)) 0 0 := by
  have hx : qHas (nI a) n = true := qHas_i ha (by omega)
  refine zC_ofA (lv := [some (.ref m), some (.int (nI a)), some (.int (nI a))]) (by decide) rfl (Nat.le_of_ble_eq_true rfl) ?_
  refine z_aload_n (q := 1) dX8_handOver_0 rfl rfl ?_
  refine z_aload_n (q := 2) dX8_handOver_1 rfl rfl ?_
  refine z_iload_n (q := 3) dX8_handOver_2 rfl rfl ?_
  refine z_v1 (q := 6) dX8_handOver_3 zkX8_159 zt_mX8_isAgent rfl (by first | exact zpM_0 | exact zpM_a rfl | exact zpM_8) rfl (Nat.le_of_ble_eq_true rfl) (ct_X8_isAgent (by assumption) (by omega)) rfl ?_
  refine z_eqi ((congrArg zbi (hx)).trans zbi_t) ?_
  refine z_if_eq (tg := 17) (q := 9) dX8_handOver_6 rfl rfl ?_ ?_
  · intro hc6
    exact absurd hc6 (by decide)
  · intro hc6
    refine z_aload_n (q := 10) dX8_handOver_9 rfl rfl ?_
    refine z_iload_n (q := 11) dX8_handOver_10 rfl rfl ?_
    refine z_v1 (q := 14) dX8_handOver_11 zkX8_159 zt_mX8_isAgent rfl (by first | exact zpM_0 | exact zpM_a rfl | exact zpM_8) rfl (Nat.le_of_ble_eq_true rfl) (ct_X8_isAgent (by assumption) (by omega)) rfl ?_
    refine z_eqi ((congrArg zbi (hx)).trans zbi_t) ?_
    refine z_if_ne (tg := 21) (q := 17) dX8_handOver_14 rfl rfl ?_ ?_
    · intro hc14
      refine z_iload_n (q := 22) dX8_handOver_21 rfl rfl ?_
      refine z_iload_n (q := 23) dX8_handOver_22 rfl rfl ?_
      refine z_icmp_neN (tg := 30) (q := 26) dX8_handOver_23 rfl rfl (by omega) (by omega) ?_ ?_
      · intro hc23
        exact absurd rfl hc23
      · intro hc23
        refine z_iconst (q := 27) dX8_handOver_26 zci_2 rfl ?_
        refine z_goto (q := 0) (tg := 47) dX8_handOver_27 rfl ?_
        refine z_x1 (q := 50) dX8_handOver_47 zkX8_126 zt_mX8_refused rfl (by first | exact zpM_0 | exact zpM_a rfl | exact zpM_8) rfl (Nat.le_of_ble_eq_true rfl) (ct_X8_refused) rfl ?_
        refine z_eqi (show zbi (!decide (nI 2 ≤ 0)) = nI 1 by decide) ?_
        refine z_if_eq (tg := 55) (q := 53) dX8_handOver_50 rfl rfl ?_ ?_
        · intro hc50
          exact absurd hc50 (by decide)
        · intro hc50
          refine z_iconst (q := 54) dX8_handOver_53 zci_0 rfl ?_
          exact z_reti dX8_handOver_54 rfl (zMP_i rfl zSc_rf rfl)
    · intro hc14
      exact absurd hc14 (by decide)
set_option maxRecDepth 100000 in
set_option maxHeartbeats 4000000 in
theorem ct_X8_handOver3 {g : zGl} {h : zHp} {m n K a b : Nat} {u : Nat → Nat → Int32} (hn : u 3 0 = nI n) (hn6 : n ≤ 6) (hK : u 3 1 = nI K) (hK8 : K ≤ 8) (ha : a < n) (hb : b < n) (hab : a ≠ b) (hv : qCan (u 3) K a b = false) : zC g mX8_handOver [.ref m, .int (nI a), .int (nI b)] (zpM g h m u) (zMP g h m u (nI 3) (nI 0)) 0 0 := by
  have hx : qHas (nI a) n = true := qHas_i ha (by omega)
  have hy : qHas (nI b) n = true := qHas_i hb (by omega)
  refine zC_ofA (lv := [some (.ref m), some (.int (nI a)), some (.int (nI b))]) (by decide) rfl (Nat.le_of_ble_eq_true rfl) ?_
  refine z_aload_n (q := 1) dX8_handOver_0 rfl rfl ?_
  refine z_aload_n (q := 2) dX8_handOver_1 rfl rfl ?_
  refine z_iload_n (q := 3) dX8_handOver_2 rfl rfl ?_
  refine z_v1 (q := 6) dX8_handOver_3 zkX8_159 zt_mX8_isAgent rfl (by first | exact zpM_0 | exact zpM_a rfl | exact zpM_8) rfl (Nat.le_of_ble_eq_true rfl) (ct_X8_isAgent (by assumption) (by omega)) rfl ?_
  refine z_eqi ((congrArg zbi (hx)).trans zbi_t) ?_
  refine z_if_eq (tg := 17) (q := 9) dX8_handOver_6 rfl rfl ?_ ?_
  · intro hc6
    exact absurd hc6 (by decide)
  · intro hc6
    refine z_aload_n (q := 10) dX8_handOver_9 rfl rfl ?_
    refine z_iload_n (q := 11) dX8_handOver_10 rfl rfl ?_
    refine z_v1 (q := 14) dX8_handOver_11 zkX8_159 zt_mX8_isAgent rfl (by first | exact zpM_0 | exact zpM_a rfl | exact zpM_8) rfl (Nat.le_of_ble_eq_true rfl) (ct_X8_isAgent (by assumption) (by omega)) rfl ?_
    refine z_eqi ((congrArg zbi (hy)).trans zbi_t) ?_
    refine z_if_ne (tg := 21) (q := 17) dX8_handOver_14 rfl rfl ?_ ?_
    · intro hc14
      refine z_iload_n (q := 22) dX8_handOver_21 rfl rfl ?_
      refine z_iload_n (q := 23) dX8_handOver_22 rfl rfl ?_
      refine z_icmp_neN (tg := 30) (q := 26) dX8_handOver_23 rfl rfl (by omega) (by omega) ?_ ?_
      · intro hc23
        skip
        refine z_aload_n (q := 31) dX8_handOver_30 rfl rfl ?_
        refine z_get (q := 34) dX8_handOver_31 zfX8_16 (by first | exact zpM_0 | exact zpM_a rfl | exact zpM_8) rfl rfl ?_
        refine z_iload_n (q := 35) dX8_handOver_34 rfl rfl ?_
        refine z_iload_n (q := 36) dX8_handOver_35 rfl rfl ?_
        refine z_s3 (q := 39) dX8_handOver_36 zkX8_191 zt_mX8_canHandOver rfl (Nat.le_of_ble_eq_true rfl) (ct_X8_canHandOver (zpM_a rfl) (by omega) (by omega) hK hK8) rfl ?_
        refine z_eqi ((congrArg zbi (hv)).trans zbi_f) ?_
        refine z_if_ne (tg := 46) (q := 42) dX8_handOver_39 rfl rfl ?_ ?_
        · intro hc39
          exact absurd hc39 (by decide)
        · intro hc39
          refine z_iconst (q := 43) dX8_handOver_42 zci_3 rfl ?_
          refine z_goto (q := 0) (tg := 47) dX8_handOver_43 rfl ?_
          refine z_x1 (q := 50) dX8_handOver_47 zkX8_126 zt_mX8_refused rfl (by first | exact zpM_0 | exact zpM_a rfl | exact zpM_8) rfl (Nat.le_of_ble_eq_true rfl) (ct_X8_refused) rfl ?_
          refine z_eqi (show zbi (!decide (nI 3 ≤ 0)) = nI 1 by decide) ?_
          refine z_if_eq (tg := 55) (q := 53) dX8_handOver_50 rfl rfl ?_ ?_
          · intro hc50
            exact absurd hc50 (by decide)
          · intro hc50
            refine z_iconst (q := 54) dX8_handOver_53 zci_0 rfl ?_
            exact z_reti dX8_handOver_54 rfl (zMP_i rfl zSc_rf rfl)
      · intro hc23
        exact absurd hc23 hab
    · intro hc14
      exact absurd hc14 (by decide)
set_option maxRecDepth 100000 in
set_option maxHeartbeats 4000000 in
theorem ct_X8_handOver0 {g : zGl} {h : zHp} {m n K a b t c : Nat} {u : Nat → Nat → Int32} (hn : u 3 0 = nI n) (hn6 : n ≤ 6) (hK : u 3 1 = nI K) (hK8 : K ≤ 8) (hc : u 0 9 = nI c) (hle : c ≤ 14) (ha : a < n) (hb : b < n) (hab : a ≠ b) (hv : qCan (u 3) K a b = true) (ht : qOwnTask (u 3) K a = some t) : zC g mX8_handOver [.ref m, .int (nI a), .int (nI b)] (zpM g h m u) (zMP g h m (va_up (qNd u c) 3 (qHand (u 3) a b t)) (nI 0) (nI t)) 0 0 := by
  have hx : qHas (nI a) n = true := qHas_i ha (by omega)
  have hy : qHas (nI b) n = true := qHas_i hb (by omega)
  refine zC_ofA (lv := [some (.ref m), some (.int (nI a)), some (.int (nI b))]) (by decide) rfl (Nat.le_of_ble_eq_true rfl) ?_
  refine z_aload_n (q := 1) dX8_handOver_0 rfl rfl ?_
  refine z_aload_n (q := 2) dX8_handOver_1 rfl rfl ?_
  refine z_iload_n (q := 3) dX8_handOver_2 rfl rfl ?_
  refine z_v1 (q := 6) dX8_handOver_3 zkX8_159 zt_mX8_isAgent rfl (by first | exact zpM_0 | exact zpM_a rfl | exact zpM_8) rfl (Nat.le_of_ble_eq_true rfl) (ct_X8_isAgent (by assumption) (by omega)) rfl ?_
  refine z_eqi ((congrArg zbi (hx)).trans zbi_t) ?_
  refine z_if_eq (tg := 17) (q := 9) dX8_handOver_6 rfl rfl ?_ ?_
  · intro hc6
    exact absurd hc6 (by decide)
  · intro hc6
    refine z_aload_n (q := 10) dX8_handOver_9 rfl rfl ?_
    refine z_iload_n (q := 11) dX8_handOver_10 rfl rfl ?_
    refine z_v1 (q := 14) dX8_handOver_11 zkX8_159 zt_mX8_isAgent rfl (by first | exact zpM_0 | exact zpM_a rfl | exact zpM_8) rfl (Nat.le_of_ble_eq_true rfl) (ct_X8_isAgent (by assumption) (by omega)) rfl ?_
    refine z_eqi ((congrArg zbi (hy)).trans zbi_t) ?_
    refine z_if_ne (tg := 21) (q := 17) dX8_handOver_14 rfl rfl ?_ ?_
    · intro hc14
      refine z_iload_n (q := 22) dX8_handOver_21 rfl rfl ?_
      refine z_iload_n (q := 23) dX8_handOver_22 rfl rfl ?_
      refine z_icmp_neN (tg := 30) (q := 26) dX8_handOver_23 rfl rfl (by omega) (by omega) ?_ ?_
      · intro hc23
        skip
        refine z_aload_n (q := 31) dX8_handOver_30 rfl rfl ?_
        refine z_get (q := 34) dX8_handOver_31 zfX8_16 (by first | exact zpM_0 | exact zpM_a rfl | exact zpM_8) rfl rfl ?_
        refine z_iload_n (q := 35) dX8_handOver_34 rfl rfl ?_
        refine z_iload_n (q := 36) dX8_handOver_35 rfl rfl ?_
        refine z_s3 (q := 39) dX8_handOver_36 zkX8_191 zt_mX8_canHandOver rfl (Nat.le_of_ble_eq_true rfl) (ct_X8_canHandOver (zpM_a rfl) (by omega) (by omega) hK hK8) rfl ?_
        refine z_eqi ((congrArg zbi (hv)).trans zbi_t) ?_
        refine z_if_ne (tg := 46) (q := 42) dX8_handOver_39 rfl rfl ?_ ?_
        · intro hc39
          refine z_iconst (q := 47) dX8_handOver_46 zci_0 rfl ?_
          refine z_x1 (q := 50) dX8_handOver_47 zkX8_126 zt_mX8_refused rfl (by first | exact zpM_0 | exact zpM_a rfl | exact zpM_8) rfl (Nat.le_of_ble_eq_true rfl) (ct_X8_refused) rfl ?_
          refine z_eqi (show zbi (!decide (nI 0 ≤ 0)) = nI 0 by decide) ?_
          refine z_if_eq (tg := 55) (q := 53) dX8_handOver_50 rfl rfl ?_ ?_
          · intro hc50
            generalize hU : va_up u 0 (va_up (u 0) 0 (nI 0)) = U
            have hS : zSc u U := by subst hU; exact zSc_rf
            have hrf : U 0 0 = nI 0 := by subst hU; rfl
            have h3 : U 3 = u 3 := hS.2.1
            have hc' : U 0 9 = nI c := by rw [hS.2.2.2.2.2.2]; exact hc
            refine z_aload_n (q := 56) dX8_handOver_55 rfl rfl ?_
            refine z_V0 (q := 59) dX8_handOver_56 zkX8_174 zt_mX8_note rfl (by first | exact zpM_0 | exact zpM_a rfl | exact zpM_8) rfl (Nat.le_of_ble_eq_true rfl) (ct_X8_note hc' hle) (Nat.zero_le _) (Nat.zero_le _) rfl ?_
            rintro _ _ ⟨rfl, U2, rfl, hS2, hrf2⟩
            have hS3 := zSc_t (qNd_S (c := c) hS) hS2
            have h33 : U2 3 = u 3 := hS3.2.1
            refine z_aload_n (q := 60) dX8_handOver_59 rfl rfl ?_
            refine z_get (q := 63) dX8_handOver_60 zfX8_16 (by first | exact zpM_0 | exact zpM_a rfl | exact zpM_8) rfl rfl ?_
            refine z_iload_n (q := 64) dX8_handOver_63 rfl rfl ?_
            refine z_iload_n (q := 65) dX8_handOver_64 rfl rfl ?_
            refine z_t3 (q := 68) dX8_handOver_65 zkX8_194 zt_mX8_handOn rfl (Nat.le_of_ble_eq_true rfl) (zM_V (c := 3) rfl (ct_X8_handOn (by omega) (by omega) (by rw [h33]; exact hK) hK8 (by rw [h33]; exact ht))) rfl ?_
            rw [h33]
            exact z_reti dX8_handOver_68 rfl (zMP_i rfl (zSc_3 hS3) (hrf2.trans hrf))
          · intro hc50
            exact absurd hc50 (by decide)
        · intro hc39
          exact absurd hc39 (by decide)
      · intro hc23
        exact absurd hc23 hab
    · intro hc14
      exact absurd hc14 (by decide)
set_option maxRecDepth 100000 in
set_option maxHeartbeats 4000000 in
theorem ct_X8_drop1 {g : zGl} {h : zHp} {m n : Nat} {x : Int32} {u : Nat → Nat → Int32} (hn : u 3 0 = nI n) (hn6 : n ≤ 6) (hv : qHas x n = false) : zC g mX8_drop [.ref m, .int x] (zpM g h m u) (zMP g h m u (nI 1) (nI 0)) 0 0 := by
  refine zC_ofA (lv := [some (.ref m), some (.int x)]) (by decide) rfl (Nat.le_of_ble_eq_true rfl) ?_
  refine z_aload_n (q := 1) dX8_drop_0 rfl rfl ?_
  refine z_aload_n (q := 2) dX8_drop_1 rfl rfl ?_
  refine z_iload_n (q := 3) dX8_drop_2 rfl rfl ?_
  refine z_v1 (q := 6) dX8_drop_3 zkX8_159 zt_mX8_isAgent rfl (by first | exact zpM_0 | exact zpM_a rfl | exact zpM_8) rfl (Nat.le_of_ble_eq_true rfl) (ct_X8_isAgent (by assumption) (by omega)) rfl ?_
  refine z_eqi ((congrArg zbi (hv)).trans zbi_f) ?_
  refine z_if_eq (tg := 13) (q := 9) dX8_drop_6 rfl rfl ?_ ?_
  · intro hc6
    refine z_iconst (q := 14) dX8_drop_13 zci_1 rfl ?_
    refine z_x1 (q := 17) dX8_drop_14 zkX8_126 zt_mX8_refused rfl (by first | exact zpM_0 | exact zpM_a rfl | exact zpM_8) rfl (Nat.le_of_ble_eq_true rfl) (ct_X8_refused) rfl ?_
    refine z_eqi (show zbi (!decide (nI 1 ≤ 0)) = nI 1 by decide) ?_
    refine z_if_eq (tg := 22) (q := 20) dX8_drop_17 rfl rfl ?_ ?_
    · intro hc17
      exact absurd hc17 (by decide)
    · intro hc17
      refine z_iconst (q := 21) dX8_drop_20 zci_0 rfl ?_
      exact z_reti dX8_drop_21 rfl (zMP_i rfl zSc_rf rfl)
  · intro hc6
    exact absurd hc6 (by decide)
set_option maxRecDepth 100000 in
set_option maxHeartbeats 4000000 in
theorem ct_X8_drop0 {g : zGl} {h : zHp} {m n K a c : Nat} {u : Nat → Nat → Int32} (hn : u 3 0 = nI n) (hn6 : n ≤ 6) (hK : u 3 1 = nI K) (hK8 : K ≤ 8) (hc : u 0 9 = nI c) (hle : c ≤ 14) (ha : a < n) : zC g mX8_drop [.ref m, .int (nI a)] (zpM g h m u) (zMP g h m (va_up (qNd u c) 3 (qDrop (u 3) a K).1) (nI 0) (nI (qDrop (u 3) a K).2)) 0 0 := by
  have hv : qHas (nI a) n = true := qHas_i ha (by omega)
  refine zC_ofA (lv := [some (.ref m), some (.int (nI a))]) (by decide) rfl (Nat.le_of_ble_eq_true rfl) ?_
  refine z_aload_n (q := 1) dX8_drop_0 rfl rfl ?_
  refine z_aload_n (q := 2) dX8_drop_1 rfl rfl ?_
  refine z_iload_n (q := 3) dX8_drop_2 rfl rfl ?_
  refine z_v1 (q := 6) dX8_drop_3 zkX8_159 zt_mX8_isAgent rfl (by first | exact zpM_0 | exact zpM_a rfl | exact zpM_8) rfl (Nat.le_of_ble_eq_true rfl) (ct_X8_isAgent (by assumption) (by omega)) rfl ?_
  refine z_eqi ((congrArg zbi (hv)).trans zbi_t) ?_
  refine z_if_eq (tg := 13) (q := 9) dX8_drop_6 rfl rfl ?_ ?_
  · intro hc6
    exact absurd hc6 (by decide)
  · intro hc6
    refine z_iconst (q := 10) dX8_drop_9 zci_0 rfl ?_
    refine z_goto (q := 0) (tg := 14) dX8_drop_10 rfl ?_
    refine z_x1 (q := 17) dX8_drop_14 zkX8_126 zt_mX8_refused rfl (by first | exact zpM_0 | exact zpM_a rfl | exact zpM_8) rfl (Nat.le_of_ble_eq_true rfl) (ct_X8_refused) rfl ?_
    refine z_eqi (show zbi (!decide (nI 0 ≤ 0)) = nI 0 by decide) ?_
    refine z_if_eq (tg := 22) (q := 20) dX8_drop_17 rfl rfl ?_ ?_
    · intro hc17
      generalize hU : va_up u 0 (va_up (u 0) 0 (nI 0)) = U
      have hS : zSc u U := by subst hU; exact zSc_rf
      have hrf : U 0 0 = nI 0 := by subst hU; rfl
      have h3 : U 3 = u 3 := hS.2.1
      have hc' : U 0 9 = nI c := by rw [hS.2.2.2.2.2.2]; exact hc
      refine z_aload_n (q := 23) dX8_drop_22 rfl rfl ?_
      refine z_V0 (q := 26) dX8_drop_23 zkX8_174 zt_mX8_note rfl (by first | exact zpM_0 | exact zpM_a rfl | exact zpM_8) rfl (Nat.le_of_ble_eq_true rfl) (ct_X8_note hc' hle) (Nat.zero_le _) (Nat.zero_le _) rfl ?_
      rintro _ _ ⟨rfl, U2, rfl, hS2, hrf2⟩
      have hS3 := zSc_t (qNd_S (c := c) hS) hS2
      have h33 : U2 3 = u 3 := hS3.2.1
      refine z_aload_n (q := 27) dX8_drop_26 rfl rfl ?_
      refine z_get (q := 30) dX8_drop_27 zfX8_16 (by first | exact zpM_0 | exact zpM_a rfl | exact zpM_8) rfl rfl ?_
      refine z_iload_n (q := 31) dX8_drop_30 rfl rfl ?_
      refine z_t2 (q := 34) dX8_drop_31 zkX8_197 zt_mX8_dropOn rfl (Nat.le_of_ble_eq_true rfl) (zM_V (c := 3) rfl (ct_X8_dropOn (K := K) (by omega) (by rw [h33]; exact hK) hK8)) rfl ?_
      rw [h33]
      exact z_reti dX8_drop_34 rfl (zMP_i rfl (zSc_3 hS3) (hrf2.trans hrf))
    · intro hc17
      exact absurd hc17 (by decide)
set_option maxRecDepth 100000 in
set_option maxHeartbeats 4000000 in
theorem ct_X8_setLifetime1 {g : zGl} {h : zHp} {m : Nat} {x : Int32} {u : Nat → Nat → Int32} (hv : qBt x 1 20 = false) : zC g mX8_setLifetime [.ref m, .int x] (zpM g h m u) (zMP g h m u (nI 1) (nI 0)) 0 0 := by
  refine zC_ofA (lv := [some (.ref m), some (.int x), none]) (by decide) rfl (Nat.le_of_ble_eq_true rfl) ?_
  refine z_aload_n (q := 1) dX8_setLifetime_0 rfl rfl ?_
  refine z_iload_n (q := 2) dX8_setLifetime_1 rfl rfl ?_
  refine z_i2l (q := 3) dX8_setLifetime_2 rfl rfl ?_
  refine z_lconst (q := 4) (v := 1) dX8_setLifetime_3 (by decide) rfl ?_
  refine z_ldc2 (q := 7) dX8_setLifetime_4 zqX8_200 rfl ?_
  refine z_s3 (q := 10) dX8_setLifetime_7 zkX8_57 zt_mX8_in rfl (Nat.le_of_ble_eq_true rfl) (ct_X8_in) rfl ?_
  refine z_eqi ((congrArg zbi ((qIn_bt (by decide) (by decide) (by decide) (by decide)).trans hv)).trans zbi_f) ?_
  refine z_if_eq (tg := 17) (q := 13) dX8_setLifetime_10 rfl rfl ?_ ?_
  · intro hc10
    refine z_iconst (q := 18) dX8_setLifetime_17 zci_1 rfl ?_
    refine z_x1 (q := 21) dX8_setLifetime_18 zkX8_126 zt_mX8_refused rfl (by first | exact zpM_0 | exact zpM_a rfl | exact zpM_8) rfl (Nat.le_of_ble_eq_true rfl) (ct_X8_refused) rfl ?_
    refine z_eqi (show zbi (!decide (nI 1 ≤ 0)) = nI 1 by decide) ?_
    refine z_if_eq (tg := 26) (q := 24) dX8_setLifetime_21 rfl rfl ?_ ?_
    · intro hc21
      exact absurd hc21 (by decide)
    · intro hc21
      refine z_iconst (q := 25) dX8_setLifetime_24 zci_0 rfl ?_
      exact z_reti dX8_setLifetime_25 rfl (zMP_i rfl zSc_rf rfl)
  · intro hc10
    exact absurd hc10 (by decide)
set_option maxRecDepth 100000 in
set_option maxHeartbeats 4000000 in
theorem ct_X8_setLifetime0 {g : zGl} {h : zHp} {m c : Nat} {x : Int32} {u : Nat → Nat → Int32} (hc : u 0 9 = nI c) (hle : c ≤ 14) (hv : qBt x 1 20 = true) : zC g mX8_setLifetime [.ref m, .int x] (zpM g h m u) (zMP g h m (va_up (qNd u c) 3 (va_up (u 3) 3 x)) (nI 0) (u 3 3)) 0 0 := by
  refine zC_ofA (lv := [some (.ref m), some (.int x), none]) (by decide) rfl (Nat.le_of_ble_eq_true rfl) ?_
  refine z_aload_n (q := 1) dX8_setLifetime_0 rfl rfl ?_
  refine z_iload_n (q := 2) dX8_setLifetime_1 rfl rfl ?_
  refine z_i2l (q := 3) dX8_setLifetime_2 rfl rfl ?_
  refine z_lconst (q := 4) (v := 1) dX8_setLifetime_3 (by decide) rfl ?_
  refine z_ldc2 (q := 7) dX8_setLifetime_4 zqX8_200 rfl ?_
  refine z_s3 (q := 10) dX8_setLifetime_7 zkX8_57 zt_mX8_in rfl (Nat.le_of_ble_eq_true rfl) (ct_X8_in) rfl ?_
  refine z_eqi ((congrArg zbi ((qIn_bt (by decide) (by decide) (by decide) (by decide)).trans hv)).trans zbi_t) ?_
  refine z_if_eq (tg := 17) (q := 13) dX8_setLifetime_10 rfl rfl ?_ ?_
  · intro hc10
    exact absurd hc10 (by decide)
  · intro hc10
    refine z_iconst (q := 14) dX8_setLifetime_13 zci_0 rfl ?_
    refine z_goto (q := 0) (tg := 18) dX8_setLifetime_14 rfl ?_
    refine z_x1 (q := 21) dX8_setLifetime_18 zkX8_126 zt_mX8_refused rfl (by first | exact zpM_0 | exact zpM_a rfl | exact zpM_8) rfl (Nat.le_of_ble_eq_true rfl) (ct_X8_refused) rfl ?_
    refine z_eqi (show zbi (!decide (nI 0 ≤ 0)) = nI 0 by decide) ?_
    refine z_if_eq (tg := 26) (q := 24) dX8_setLifetime_21 rfl rfl ?_ ?_
    · intro hc21
      generalize hU : va_up u 0 (va_up (u 0) 0 (nI 0)) = U
      have hS : zSc u U := by subst hU; exact zSc_rf
      have hrf : U 0 0 = nI 0 := by subst hU; rfl
      have h3 : U 3 = u 3 := hS.2.1
      have hc' : U 0 9 = nI c := by rw [hS.2.2.2.2.2.2]; exact hc
      refine z_aload_n (q := 27) dX8_setLifetime_26 rfl rfl ?_
      refine z_V0 (q := 30) dX8_setLifetime_27 zkX8_174 zt_mX8_note rfl (by first | exact zpM_0 | exact zpM_a rfl | exact zpM_8) rfl (Nat.le_of_ble_eq_true rfl) (ct_X8_note hc' hle) (Nat.zero_le _) (Nat.zero_le _) rfl ?_
      rintro _ _ ⟨rfl, U2, rfl, hS2, hrf2⟩
      have hS3 := zSc_t (qNd_S (c := c) hS) hS2
      have h33 : U2 3 = u 3 := hS3.2.1
      refine z_aload_n (q := 31) dX8_setLifetime_30 rfl rfl ?_
      refine z_get (q := 34) dX8_setLifetime_31 zfX8_16 (by first | exact zpM_0 | exact zpM_a rfl | exact zpM_8) rfl rfl ?_
      refine z_iconst (q := 35) dX8_setLifetime_34 zci_3 rfl ?_
      refine z_iald (q := 36) dX8_setLifetime_35 (by first | exact zpM_0 | exact zpM_a rfl | exact zpM_8) (by omega) (by omega) rfl ?_
      refine z_istore_n (q := 37) dX8_setLifetime_36 (Nat.le_of_ble_eq_true rfl) rfl rfl ?_
      refine z_aload_n (q := 38) dX8_setLifetime_37 rfl rfl ?_
      refine z_get (q := 41) dX8_setLifetime_38 zfX8_16 (by first | exact zpM_0 | exact zpM_a rfl | exact zpM_8) rfl rfl ?_
      refine z_iconst (q := 42) dX8_setLifetime_41 zci_3 rfl ?_
      refine z_iload_n (q := 43) dX8_setLifetime_42 rfl rfl ?_
      refine z_iastM (q := 44) dX8_setLifetime_43 rfl (by omega) rfl ?_
      rw [h33]
      refine z_iload_n (q := 45) dX8_setLifetime_44 rfl rfl ?_
      exact z_reti dX8_setLifetime_45 rfl (zMP_i rfl (zSc_3 hS3) (hrf2.trans hrf))
    · intro hc21
      exact absurd hc21 (by decide)
set_option maxRecDepth 100000 in
set_option maxHeartbeats 4000000 in
theorem ct_X8_undo1 {g : zGl} {h : zHp} {m : Nat} {u : Nat → Nat → Int32} (hc : u 0 9 = nI 0) : zC g mX8_undo [.ref m] (zpM g h m u) (zMP g h m u (nI 1) (nI 0)) 0 0 := by
  refine zC_ofA (lv := [some (.ref m)]) (by decide) rfl (Nat.le_of_ble_eq_true rfl) ?_
  refine z_aload_n (q := 1) dX8_undo_0 rfl rfl ?_
  refine z_aload_n (q := 2) dX8_undo_1 rfl rfl ?_
  refine z_get (q := 5) dX8_undo_2 zfX8_50 (by first | exact zpM_0 | exact zpM_a rfl | exact zpM_8) rfl rfl ?_
  refine z_eqi hc ?_
  refine z_if_ne (tg := 12) (q := 8) dX8_undo_5 rfl rfl ?_ ?_
  · intro hc5
    exact absurd hc5 (by decide)
  · intro hc5
    refine z_iconst (q := 9) dX8_undo_8 zci_1 rfl ?_
    refine z_goto (q := 0) (tg := 13) dX8_undo_9 rfl ?_
    refine z_x1 (q := 16) dX8_undo_13 zkX8_126 zt_mX8_refused rfl (by first | exact zpM_0 | exact zpM_a rfl | exact zpM_8) rfl (Nat.le_of_ble_eq_true rfl) (ct_X8_refused) rfl ?_
    refine z_eqi (show zbi (!decide (nI 1 ≤ 0)) = nI 1 by decide) ?_
    refine z_if_eq (tg := 21) (q := 19) dX8_undo_16 rfl rfl ?_ ?_
    · intro hc16
      exact absurd hc16 (by decide)
    · intro hc16
      refine z_iconst (q := 20) dX8_undo_19 zci_0 rfl ?_
      exact z_reti dX8_undo_20 rfl (zMP_i rfl zSc_rf rfl)
set_option maxRecDepth 100000 in
set_option maxHeartbeats 4000000 in
theorem ct_X8_undo0 {g : zGl} {h : zHp} {m c : Nat} {u : Nat → Nat → Int32} (hc : u 0 9 = nI (c + 1)) (hle : c < 14) : zC g mX8_undo [.ref m] (zpM g h m u) (zMP g h m (va_up (va_up u 3 (va_cpy (u 6) (u 3) (264 * c) 0 264)) 0 (va_up (u 0) 9 (nI c))) (nI 0) (nI c)) 0 0 := by
  refine zC_ofA (lv := [some (.ref m)]) (by decide) rfl (Nat.le_of_ble_eq_true rfl) ?_
  refine z_aload_n (q := 1) dX8_undo_0 rfl rfl ?_
  refine z_aload_n (q := 2) dX8_undo_1 rfl rfl ?_
  refine z_get (q := 5) dX8_undo_2 zfX8_50 (by first | exact zpM_0 | exact zpM_a rfl | exact zpM_8) rfl rfl ?_
  refine z_eqi hc ?_
  refine z_if_ne (tg := 12) (q := 8) dX8_undo_5 rfl rfl ?_ ?_
  · intro hc5
    skip
    refine z_iconst (q := 13) dX8_undo_12 zci_0 rfl ?_
    refine z_x1 (q := 16) dX8_undo_13 zkX8_126 zt_mX8_refused rfl (by first | exact zpM_0 | exact zpM_a rfl | exact zpM_8) rfl (Nat.le_of_ble_eq_true rfl) (ct_X8_refused) rfl ?_
    refine z_eqi (show zbi (!decide (nI 0 ≤ 0)) = nI 0 by decide) ?_
    refine z_if_eq (tg := 21) (q := 19) dX8_undo_16 rfl rfl ?_ ?_
    · intro hc16
      refine z_aload_n (q := 22) dX8_undo_21 rfl rfl ?_
      refine z_dup (q := 23) dX8_undo_22 rfl rfl ?_
      refine z_get (q := 26) dX8_undo_23 zfX8_50 (by first | exact zpM_0 | exact zpM_a rfl | exact zpM_8) rfl rfl ?_
      refine z_eqi (show _ = nI (c + 1) from hc) ?_
      refine z_iconst (q := 27) dX8_undo_26 zci_1 rfl ?_
      refine z_isub (q := 28) dX8_undo_27 rfl ?_
      refine z_eqi (show nI (c + 1) - nI 1 = nI c from nI_pred c) ?_
      refine z_putM (q := 31) dX8_undo_28 zfX8_50 (by decide) rfl ?_
      refine z_aload_n (q := 32) dX8_undo_31 rfl rfl ?_
      refine z_get (q := 35) dX8_undo_32 zfX8_25 (by first | exact zpM_0 | exact zpM_a rfl | exact zpM_8) rfl rfl ?_
      refine z_sipush (q := 38) dX8_undo_35 zcs_264 rfl ?_
      refine z_aload_n (q := 39) dX8_undo_38 rfl rfl ?_
      refine z_get (q := 42) dX8_undo_39 zfX8_50 (by first | exact zpM_0 | exact zpM_a rfl | exact zpM_8) rfl rfl ?_
      refine z_eqi (show _ = nI c from rfl) ?_
      refine z_imulN (q := 43) dX8_undo_42 rfl ?_
      refine z_aload_n (q := 44) dX8_undo_43 rfl rfl ?_
      refine z_get (q := 47) dX8_undo_44 zfX8_16 (by first | exact zpM_0 | exact zpM_a rfl | exact zpM_8) rfl rfl ?_
      refine z_iconst (q := 48) dX8_undo_47 zci_0 rfl ?_
      refine z_sipush (q := 51) dX8_undo_48 zcs_264 rfl ?_
      refine z_u5 (q := 54) dX8_undo_51 zkX8_53 zt_mX8_copy rfl (Nat.le_of_ble_eq_true rfl) (ct_M_copy (c := 6) (d := 3) rfl rfl (by decide) (by omega) (by omega)) rfl ?_
      refine z_aload_n (q := 55) dX8_undo_54 rfl rfl ?_
      refine z_get (q := 58) dX8_undo_55 zfX8_50 (by first | exact zpM_0 | exact zpM_a rfl | exact zpM_8) rfl rfl ?_
      refine z_eqi (show _ = nI c from rfl) ?_
      exact z_reti dX8_undo_58 rfl (zMP_i rfl ⟨rfl, rfl, rfl, rfl, rfl, rfl, rfl⟩ rfl)
    · intro hc16
      exact absurd hc16 (by decide)
  · intro hc5
    exact absurd hc5 (nI_ne0 (by omega) (by omega))
set_option maxRecDepth 100000 in
set_option maxHeartbeats 4000000 in
theorem ct_X8_save1 {g : zGl} {h : zHp} {m : Nat} {x : Int32} {u : Nat → Nat → Int32} (hv : qBt x 0 1 = false) : zC g mX8_save [.ref m, .int x] (zpM g h m u) (zMP g h m u (nI 1) (nI 0)) 0 0 := by
  refine zC_ofA (lv := [some (.ref m), some (.int x)]) (by decide) rfl (Nat.le_of_ble_eq_true rfl) ?_
  refine z_aload_n (q := 1) dX8_save_0 rfl rfl ?_
  refine z_iload_n (q := 2) dX8_save_1 rfl rfl ?_
  refine z_i2l (q := 3) dX8_save_2 rfl rfl ?_
  refine z_lconst (q := 4) (v := 0) dX8_save_3 (by decide) rfl ?_
  refine z_lconst (q := 5) (v := 1) dX8_save_4 (by decide) rfl ?_
  refine z_s3 (q := 8) dX8_save_5 zkX8_57 zt_mX8_in rfl (Nat.le_of_ble_eq_true rfl) (ct_X8_in) rfl ?_
  refine z_eqi ((congrArg zbi ((qIn_bt (by decide) (by decide) (by decide) (by decide)).trans hv)).trans zbi_f) ?_
  refine z_if_eq (tg := 15) (q := 11) dX8_save_8 rfl rfl ?_ ?_
  · intro hc8
    refine z_iconst (q := 16) dX8_save_15 zci_1 rfl ?_
    refine z_x1 (q := 19) dX8_save_16 zkX8_126 zt_mX8_refused rfl (by first | exact zpM_0 | exact zpM_a rfl | exact zpM_8) rfl (Nat.le_of_ble_eq_true rfl) (ct_X8_refused) rfl ?_
    refine z_eqi (show zbi (!decide (nI 1 ≤ 0)) = nI 1 by decide) ?_
    refine z_if_eq (tg := 24) (q := 22) dX8_save_19 rfl rfl ?_ ?_
    · intro hc19
      exact absurd hc19 (by decide)
    · intro hc19
      refine z_iconst (q := 23) dX8_save_22 zci_0 rfl ?_
      exact z_reti dX8_save_23 rfl (zMP_i rfl zSc_rf rfl)
  · intro hc8
    exact absurd hc8 (by decide)
theorem z_zastM {g : zGl} {Z : zZt} {k n pc q : Nat} {lv : List (Option Value)} {st : List Value} {h : zHp} {m j : Nat} {u : Nat → Nat → Int32} {x : Int32} (hd : decode Z.1.2.1 pc = .ok (.bastore, 1)) (hj : j < 2) (hx : x = 0 ∨ x = 1) (hp : pc + 1 = q) (kk : zA g Z k n q lv st (zpM g h m (va_up u 8 (va_up (u 8) j x)))) : zA g Z k n pc lv (.int x :: .int (nI j) :: .ref (m + 8) :: st) (zpM g h m u) :=
  z_zast hd zpM_8 (by decide) hj hx hp (by rw [zpM_b]; exact kk)
set_option maxRecDepth 100000 in
set_option maxHeartbeats 4000000 in
theorem ct_X8_save0 {g : zGl} {h : zHp} {m s : Nat} {u : Nat → Nat → Int32} (hs : s ≤ 1) : zC g mX8_save [.ref m, .int (nI s)] (zpM g h m u) (zMP g h m (va_up (va_up u 8 (va_up (u 8) s (nI 1))) 7 (va_cpy (u 3) (u 7) 0 (264 * s) 264)) (nI 0) (u 3 2)) 0 0 := by
  have hv : qBt (nI s) 0 1 = true := qBt_i (by omega) hs (by decide)
  refine zC_ofA (lv := [some (.ref m), some (.int (nI s))]) (by decide) rfl (Nat.le_of_ble_eq_true rfl) ?_
  refine z_aload_n (q := 1) dX8_save_0 rfl rfl ?_
  refine z_iload_n (q := 2) dX8_save_1 rfl rfl ?_
  refine z_i2l (q := 3) dX8_save_2 rfl rfl ?_
  refine z_lconst (q := 4) (v := 0) dX8_save_3 (by decide) rfl ?_
  refine z_lconst (q := 5) (v := 1) dX8_save_4 (by decide) rfl ?_
  refine z_s3 (q := 8) dX8_save_5 zkX8_57 zt_mX8_in rfl (Nat.le_of_ble_eq_true rfl) (ct_X8_in) rfl ?_
  refine z_eqi ((congrArg zbi ((qIn_bt (by decide) (by decide) (by decide) (by decide)).trans hv)).trans zbi_t) ?_
  refine z_if_eq (tg := 15) (q := 11) dX8_save_8 rfl rfl ?_ ?_
  · intro hc8
    exact absurd hc8 (by decide)
  · intro hc8
    refine z_iconst (q := 12) dX8_save_11 zci_0 rfl ?_
    refine z_goto (q := 0) (tg := 16) dX8_save_12 rfl ?_
    refine z_x1 (q := 19) dX8_save_16 zkX8_126 zt_mX8_refused rfl (by first | exact zpM_0 | exact zpM_a rfl | exact zpM_8) rfl (Nat.le_of_ble_eq_true rfl) (ct_X8_refused) rfl ?_
    refine z_eqi (show zbi (!decide (nI 0 ≤ 0)) = nI 0 by decide) ?_
    refine z_if_eq (tg := 24) (q := 22) dX8_save_19 rfl rfl ?_ ?_
    · intro hc19
      refine z_aload_n (q := 25) dX8_save_24 rfl rfl ?_
      refine z_get (q := 28) dX8_save_25 zfX8_31 (by first | exact zpM_0 | exact zpM_a rfl | exact zpM_8) rfl rfl ?_
      refine z_iload_n (q := 29) dX8_save_28 rfl rfl ?_
      refine z_iconst (q := 30) dX8_save_29 zci_1 rfl ?_
      refine z_zastM (q := 31) dX8_save_30 (by omega) (Or.inr rfl) rfl ?_
      refine z_aload_n (q := 32) dX8_save_31 rfl rfl ?_
      refine z_get (q := 35) dX8_save_32 zfX8_16 (by first | exact zpM_0 | exact zpM_a rfl | exact zpM_8) rfl rfl ?_
      refine z_iconst (q := 36) dX8_save_35 zci_0 rfl ?_
      refine z_aload_n (q := 37) dX8_save_36 rfl rfl ?_
      refine z_get (q := 40) dX8_save_37 zfX8_28 (by first | exact zpM_0 | exact zpM_a rfl | exact zpM_8) rfl rfl ?_
      refine z_sipush (q := 43) dX8_save_40 zcs_264 rfl ?_
      refine z_iload_n (q := 44) dX8_save_43 rfl rfl ?_
      refine z_imulN (q := 45) dX8_save_44 rfl ?_
      refine z_sipush (q := 48) dX8_save_45 zcs_264 rfl ?_
      refine z_u5 (q := 51) dX8_save_48 zkX8_53 zt_mX8_copy rfl (Nat.le_of_ble_eq_true rfl) (ct_M_copy (c := 3) (d := 7) rfl rfl (by decide) (by omega) (by omega)) rfl ?_
      refine z_aload_n (q := 52) dX8_save_51 rfl rfl ?_
      refine z_get (q := 55) dX8_save_52 zfX8_16 (by first | exact zpM_0 | exact zpM_a rfl | exact zpM_8) rfl rfl ?_
      refine z_iconst (q := 56) dX8_save_55 zci_2 rfl ?_
      refine z_iald (q := 57) dX8_save_56 (by first | exact zpM_0 | exact zpM_a rfl | exact zpM_8) (by omega) (by omega) rfl ?_
      exact z_reti dX8_save_57 rfl (zMP_i rfl ⟨rfl, rfl, rfl, rfl, rfl, rfl, rfl⟩ rfl)
    · intro hc19
      exact absurd hc19 (by decide)
set_option maxRecDepth 100000 in
set_option maxHeartbeats 4000000 in
theorem ct_X8_restore1 {g : zGl} {h : zHp} {m : Nat} {x : Int32} {u : Nat → Nat → Int32} (hv : qBt x 0 1 = false) : zC g mX8_restore [.ref m, .int x] (zpM g h m u) (zMP g h m u (nI 1) (nI 0)) 0 0 := by
  refine zC_ofA (lv := [some (.ref m), some (.int x)]) (by decide) rfl (Nat.le_of_ble_eq_true rfl) ?_
  refine z_aload_n (q := 1) dX8_restore_0 rfl rfl ?_
  refine z_iload_n (q := 2) dX8_restore_1 rfl rfl ?_
  refine z_i2l (q := 3) dX8_restore_2 rfl rfl ?_
  refine z_lconst (q := 4) (v := 0) dX8_restore_3 (by decide) rfl ?_
  refine z_lconst (q := 5) (v := 1) dX8_restore_4 (by decide) rfl ?_
  refine z_s3 (q := 8) dX8_restore_5 zkX8_57 zt_mX8_in rfl (Nat.le_of_ble_eq_true rfl) (ct_X8_in) rfl ?_
  refine z_eqi ((congrArg zbi ((qIn_bt (by decide) (by decide) (by decide) (by decide)).trans hv)).trans zbi_f) ?_
  refine z_if_ne (tg := 15) (q := 11) dX8_restore_8 rfl rfl ?_ ?_
  · intro hc8
    exact absurd hc8 (by decide)
  · intro hc8
    refine z_iconst (q := 12) dX8_restore_11 zci_1 rfl ?_
    refine z_goto (q := 0) (tg := 29) dX8_restore_12 rfl ?_
    refine z_x1 (q := 32) dX8_restore_29 zkX8_126 zt_mX8_refused rfl (by first | exact zpM_0 | exact zpM_a rfl | exact zpM_8) rfl (Nat.le_of_ble_eq_true rfl) (ct_X8_refused) rfl ?_
    refine z_eqi (show zbi (!decide (nI 1 ≤ 0)) = nI 1 by decide) ?_
    refine z_if_eq (tg := 37) (q := 35) dX8_restore_32 rfl rfl ?_ ?_
    · intro hc32
      exact absurd hc32 (by decide)
    · intro hc32
      refine z_iconst (q := 36) dX8_restore_35 zci_0 rfl ?_
      exact z_reti dX8_restore_36 rfl (zMP_i rfl zSc_rf rfl)
set_option maxRecDepth 100000 in
set_option maxHeartbeats 4000000 in
theorem ct_X8_restore2 {g : zGl} {h : zHp} {m s : Nat} {u : Nat → Nat → Int32} (hs : s ≤ 1) (hk : u 8 s = nI 0) : zC g mX8_restore [.ref m, .int (nI s)] (zpM g h m u) (zMP g h m u (nI 2) (nI 0)) 0 0 := by
  have hv : qBt (nI s) 0 1 = true := qBt_i (by omega) hs (by decide)
  refine zC_ofA (lv := [some (.ref m), some (.int (nI s))]) (by decide) rfl (Nat.le_of_ble_eq_true rfl) ?_
  refine z_aload_n (q := 1) dX8_restore_0 rfl rfl ?_
  refine z_iload_n (q := 2) dX8_restore_1 rfl rfl ?_
  refine z_i2l (q := 3) dX8_restore_2 rfl rfl ?_
  refine z_lconst (q := 4) (v := 0) dX8_restore_3 (by decide) rfl ?_
  refine z_lconst (q := 5) (v := 1) dX8_restore_4 (by decide) rfl ?_
  refine z_s3 (q := 8) dX8_restore_5 zkX8_57 zt_mX8_in rfl (Nat.le_of_ble_eq_true rfl) (ct_X8_in) rfl ?_
  refine z_eqi ((congrArg zbi ((qIn_bt (by decide) (by decide) (by decide) (by decide)).trans hv)).trans zbi_t) ?_
  refine z_if_ne (tg := 15) (q := 11) dX8_restore_8 rfl rfl ?_ ?_
  · intro hc8
    refine z_aload_n (q := 16) dX8_restore_15 rfl rfl ?_
    refine z_get (q := 19) dX8_restore_16 zfX8_31 (by first | exact zpM_0 | exact zpM_a rfl | exact zpM_8) rfl rfl ?_
    refine z_iload_n (q := 20) dX8_restore_19 rfl rfl ?_
    refine z_zald (q := 21) dX8_restore_20 (by first | exact zpM_0 | exact zpM_a rfl | exact zpM_8) (by omega) (by omega) rfl ?_
    refine z_eqi hk ?_
    refine z_if_ne (tg := 28) (q := 24) dX8_restore_21 rfl rfl ?_ ?_
    · intro hc21
      exact absurd hc21 (by decide)
    · intro hc21
      refine z_iconst (q := 25) dX8_restore_24 zci_2 rfl ?_
      refine z_goto (q := 0) (tg := 29) dX8_restore_25 rfl ?_
      refine z_x1 (q := 32) dX8_restore_29 zkX8_126 zt_mX8_refused rfl (by first | exact zpM_0 | exact zpM_a rfl | exact zpM_8) rfl (Nat.le_of_ble_eq_true rfl) (ct_X8_refused) rfl ?_
      refine z_eqi (show zbi (!decide (nI 2 ≤ 0)) = nI 1 by decide) ?_
      refine z_if_eq (tg := 37) (q := 35) dX8_restore_32 rfl rfl ?_ ?_
      · intro hc32
        exact absurd hc32 (by decide)
      · intro hc32
        refine z_iconst (q := 36) dX8_restore_35 zci_0 rfl ?_
        exact z_reti dX8_restore_36 rfl (zMP_i rfl zSc_rf rfl)
  · intro hc8
    exact absurd hc8 (by decide)
set_option maxRecDepth 100000 in
set_option maxHeartbeats 4000000 in
theorem ct_X8_restore0 {g : zGl} {h : zHp} {m s : Nat} {u : Nat → Nat → Int32} (hs : s ≤ 1) (hk : u 8 s = nI 1) : zC g mX8_restore [.ref m, .int (nI s)] (zpM g h m u) (zMP g h m (va_up (va_up u 3 (va_cpy (u 7) (u 3) (264 * s) 0 264)) 0 (va_up (u 0) 9 (nI 0))) (nI 0) (u 7 (264 * s + 2))) 0 0 := by
  have hv : qBt (nI s) 0 1 = true := qBt_i (by omega) hs (by decide)
  have e1 : va_cpy (u 7) (u 3) (264 * s) 0 264 2 = u 7 (264 * s + 2) := by
    simp only [va_cpy]
    rw [if_pos (by omega)]
  refine zC_ofA (lv := [some (.ref m), some (.int (nI s))]) (by decide) rfl (Nat.le_of_ble_eq_true rfl) ?_
  refine z_aload_n (q := 1) dX8_restore_0 rfl rfl ?_
  refine z_iload_n (q := 2) dX8_restore_1 rfl rfl ?_
  refine z_i2l (q := 3) dX8_restore_2 rfl rfl ?_
  refine z_lconst (q := 4) (v := 0) dX8_restore_3 (by decide) rfl ?_
  refine z_lconst (q := 5) (v := 1) dX8_restore_4 (by decide) rfl ?_
  refine z_s3 (q := 8) dX8_restore_5 zkX8_57 zt_mX8_in rfl (Nat.le_of_ble_eq_true rfl) (ct_X8_in) rfl ?_
  refine z_eqi ((congrArg zbi ((qIn_bt (by decide) (by decide) (by decide) (by decide)).trans hv)).trans zbi_t) ?_
  refine z_if_ne (tg := 15) (q := 11) dX8_restore_8 rfl rfl ?_ ?_
  · intro hc8
    refine z_aload_n (q := 16) dX8_restore_15 rfl rfl ?_
    refine z_get (q := 19) dX8_restore_16 zfX8_31 (by first | exact zpM_0 | exact zpM_a rfl | exact zpM_8) rfl rfl ?_
    refine z_iload_n (q := 20) dX8_restore_19 rfl rfl ?_
    refine z_zald (q := 21) dX8_restore_20 (by first | exact zpM_0 | exact zpM_a rfl | exact zpM_8) (by omega) (by omega) rfl ?_
    refine z_eqi hk ?_
    refine z_if_ne (tg := 28) (q := 24) dX8_restore_21 rfl rfl ?_ ?_
    · intro hc21
      refine z_iconst (q := 29) dX8_restore_28 zci_0 rfl ?_
      refine z_x1 (q := 32) dX8_restore_29 zkX8_126 zt_mX8_refused rfl (by first | exact zpM_0 | exact zpM_a rfl | exact zpM_8) rfl (Nat.le_of_ble_eq_true rfl) (ct_X8_refused) rfl ?_
      refine z_eqi (show zbi (!decide (nI 0 ≤ 0)) = nI 0 by decide) ?_
      refine z_if_eq (tg := 37) (q := 35) dX8_restore_32 rfl rfl ?_ ?_
      · intro hc32
        refine z_aload_n (q := 38) dX8_restore_37 rfl rfl ?_
        refine z_get (q := 41) dX8_restore_38 zfX8_28 (by first | exact zpM_0 | exact zpM_a rfl | exact zpM_8) rfl rfl ?_
        refine z_sipush (q := 44) dX8_restore_41 zcs_264 rfl ?_
        refine z_iload_n (q := 45) dX8_restore_44 rfl rfl ?_
        refine z_imulN (q := 46) dX8_restore_45 rfl ?_
        refine z_aload_n (q := 47) dX8_restore_46 rfl rfl ?_
        refine z_get (q := 50) dX8_restore_47 zfX8_16 (by first | exact zpM_0 | exact zpM_a rfl | exact zpM_8) rfl rfl ?_
        refine z_iconst (q := 51) dX8_restore_50 zci_0 rfl ?_
        refine z_sipush (q := 54) dX8_restore_51 zcs_264 rfl ?_
        refine z_u5 (q := 57) dX8_restore_54 zkX8_53 zt_mX8_copy rfl (Nat.le_of_ble_eq_true rfl) (ct_M_copy (c := 7) (d := 3) rfl rfl (by decide) (by omega) (by omega)) rfl ?_
        refine z_aload_n (q := 58) dX8_restore_57 rfl rfl ?_
        refine z_iconst (q := 59) dX8_restore_58 zci_0 rfl ?_
        refine z_putM (q := 62) dX8_restore_59 zfX8_50 (by decide) rfl ?_
        refine z_aload_n (q := 63) dX8_restore_62 rfl rfl ?_
        refine z_get (q := 66) dX8_restore_63 zfX8_16 (by first | exact zpM_0 | exact zpM_a rfl | exact zpM_8) rfl rfl ?_
        refine z_iconst (q := 67) dX8_restore_66 zci_2 rfl ?_
        refine z_iald (q := 68) dX8_restore_67 (by first | exact zpM_0 | exact zpM_a rfl | exact zpM_8) (by omega) (by omega) rfl ?_
        exact z_reti dX8_restore_68 rfl (zMP_i e1 ⟨rfl, rfl, rfl, rfl, rfl, rfl, rfl⟩ rfl)
      · intro hc32
        exact absurd hc32 (by decide)
    · intro hc21
      exact absurd hc21 (by decide)
  · intro hc8
    exact absurd hc8 (by decide)
