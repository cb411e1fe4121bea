/-! ===== the law: its loop, its start ===== -/
theorem and31 (x : Int32) : ∃ c, c < 32 ∧ x &&& nI 31 = nI c := by
  have h31 : (nI 31).toBitVec.toNat = 31 := by decide
  refine ⟨x.toBitVec.toNat &&& 31, ?_, ?_⟩
  · have h := Nat.and_le_right (n := x.toBitVec.toNat) (m := 31)
    omega
  · apply Int32.toBitVec_inj.mp
    apply BitVec.eq_of_toNat_eq
    rw [Int32.toBitVec_and, BitVec.toNat_and, h31]
    have h := Nat.and_le_right (n := x.toBitVec.toNat) (m := 31)
    simp only [nI, Int32.toBitVec_ofNat', BitVec.toNat_ofNat]
    omega
theorem gt4 {i L : Nat} (hi : i < 2 ^ 30) (hL : L < 2 ^ 30) : (nI L - nI 4 < nI i) ↔ L < i + 4 := by
  by_cases h : 4 ≤ L
  · rw [nI_sub h, nI_ltI (by omega) (by omega)]
    omega
  · constructor
    · intro _
      omega
    · intro _
      have h3 : (nI L - nI 4).toInt < 0 := by
        rcases (show L = 0 ∨ L = 1 ∨ L = 2 ∨ L = 3 by omega) with rfl | rfl | rfl | rfl <;> decide
      rw [Int32.lt_iff_toInt_lt, nI_toInt (by omega)]
      omega
set_option maxRecDepth 100000 in
set_option maxHeartbeats 4000000 in
theorem law_loop {g : zGl} {nm : String} {b0 L : Nat} {xs : Nat → Int32} (hL : L ≤ 2048) : ∀ (r i : Nat) (d u : Nat → Nat → Int32) (w : Nat → Int64) (l5 l6 : Option Value) (k n : Nat), L ≤ i + 4 * r → i ≤ 4096 → r ≤ k → 6 * r ≤ n → zJE d u → zA g (zZl g nm b0 L xs) k n 23 [some (.ref b0), some (.ref (zgB g)), some (.ref (zgB g + 286)), some (.ref (zgB g + 298)), some (.int (nI i)), l5, l6] [] (zHl g d u w) := by
  intro r
  induction r with
  | zero =>
    intro i d u w l5 l6 k n h1 h2 h3 h4 hJ
    refine z_iload (q := 25) dL_law_23 rfl rfl ?_
    refine z_aload_n (q := 26) dL_law_25 rfl rfl ?_
    refine z_slen (q := 27) dL_law_26 rfl ?_
    refine z_iconst (q := 28) dL_law_27 zci_4 rfl ?_
    refine z_isub (q := 29) dL_law_28 rfl ?_
    refine z_icmp_gt (tg := 1810) (q := 32) dL_law_29 rfl rfl ?_ ?_
    · intro hc29
      refine z_iconst (q := 1811) dL_law_1810 zci_1 rfl ?_
      exact z_lawret dL_law_1811
    · intro hc29
      exact absurd ((gt4 (by omega) (by omega)).mpr (by omega)) hc29
  | succ r ih =>
    intro i d u w l5 l6 k n h1 h2 h3 h4 hJ
    have kk : i + 4 ≤ L → ∀ (d u : Nat → Nat → Int32) (w : Nat → Int64) (l5 l6 : Option Value), zJE d u → zA g (zZl g nm b0 L xs) (k - 1) (n - 6) 1804 [some (.ref b0), some (.ref (zgB g)), some (.ref (zgB g + 286)), some (.ref (zgB g + 298)), some (.int (nI i)), l5, l6] [] (zHl g d u w) := by
      intro hi d u w l5 l6 hJ
      refine z_iinc (q := 1807) (v := nI (i + 4)) dL_law_1804 rfl (show nI i + Int32.ofInt 4 = nI (i + 4) from (congrArg (fun z => nI i + z) zci_4).trans (nI_add i 4)) rfl rfl ?_
      refine z_goto (q := 0) (tg := 23) dL_law_1807 rfl ?_
      exact ih (i + 4) d u w l5 l6 (k - 1) (n - 6) (by omega) (by omega) (by omega) (by omega) hJ
    have hk : 1 ≤ k := by omega
    have hn : 6 ≤ n := by omega
    obtain ⟨c, hc, ec⟩ := and31 (xs i)
    refine z_iload (q := 25) dL_law_23 rfl rfl ?_
    refine z_aload_n (q := 26) dL_law_25 rfl rfl ?_
    refine z_slen (q := 27) dL_law_26 rfl ?_
    refine z_iconst (q := 28) dL_law_27 zci_4 rfl ?_
    refine z_isub (q := 29) dL_law_28 rfl ?_
    refine z_icmp_gt (tg := 1810) (q := 32) dL_law_29 rfl rfl ?_ ?_
    · intro hc29
      refine z_iconst (q := 1811) dL_law_1810 zci_1 rfl ?_
      exact z_lawret dL_law_1811
    · intro hc29
      have hi : i + 4 ≤ L := by
        have h9 : ¬ L < i + 4 := fun h9 => hc29 ((gt4 (by omega) (by omega)).mpr h9)
        omega
      refine z_aload_n (q := 33) dL_law_32 rfl rfl ?_
      refine z_iload (q := 35) dL_law_33 rfl rfl ?_
      refine z_sld (q := 36) dL_law_35 (by omega) (by omega) rfl ?_
      refine z_bipush (q := 38) dL_law_36 zcb_31 rfl ?_
      refine z_iand (q := 39) dL_law_38 rfl ?_
      refine z_eqi ec ?_
      rcases (show c = 0 ∨ c = 1 ∨ c = 2 ∨ c = 3 ∨ c = 4 ∨ c = 5 ∨ c = 6 ∨ c = 7 ∨ c = 8 ∨ c = 9 ∨ c = 10 ∨ c = 11 ∨ c = 12 ∨ c = 13 ∨ c = 14 ∨ c = 15 ∨ c = 16 ∨ c = 17 ∨ c = 18 ∨ c = 19 ∨ c = 20 ∨ c = 21 ∨ c = 22 ∨ c = 23 ∨ c = 24 ∨ c = 25 ∨ c = 26 ∨ c = 27 ∨ c = 28 ∨ c = 29 ∨ c = 30 ∨ c = 31 by omega) with rfl | rfl | rfl | rfl | rfl | rfl | rfl | rfl | rfl | rfl | rfl | rfl | rfl | rfl | rfl | rfl | rfl | rfl | rfl | rfl | rfl | rfl | rfl | rfl | rfl | rfl | rfl | rfl | rfl | rfl | rfl | rfl
      · exact z_tableIn (q := 0) (tg := 168) dL_law_39 (by decide) (by decide) rfl rfl (op_append hi hL hk hn hJ (kk hi))
      · exact z_tableIn (q := 0) (tg := 224) dL_law_39 (by decide) (by decide) rfl rfl (op_clearText hi hL hk hn hJ (kk hi))
      · exact z_tableIn (q := 0) (tg := 237) dL_law_39 (by decide) (by decide) rfl rfl (op_errorPosition hi hL hk hn hJ (kk hi))
      · exact z_tableIn (q := 0) (tg := 250) dL_law_39 (by decide) (by decide) rfl rfl (op_load hi hL hk hn hJ (kk hi))
      · exact z_tableIn (q := 0) (tg := 294) dL_law_39 (by decide) (by decide) rfl rfl (op_about hi hL hk hn hJ (kk hi))
      · exact z_tableIn (q := 0) (tg := 350) dL_law_39 (by decide) (by decide) rfl rfl (op_agent hi hL hk hn hJ (kk hi))
      · exact z_tableIn (q := 0) (tg := 418) dL_law_39 (by decide) (by decide) rfl rfl (op_task hi hL hk hn hJ (kk hi))
      · exact z_tableIn (q := 0) (tg := 486) dL_law_39 (by decide) (by decide) rfl rfl (op_note hi hL hk hn hJ (kk hi))
      · exact z_tableIn (q := 0) (tg := 566) dL_law_39 (by decide) (by decide) rfl rfl (op_step hi hL hk hn hJ (kk hi))
      · exact z_tableIn (q := 0) (tg := 622) dL_law_39 (by decide) (by decide) rfl rfl (op_setRange hi hL hk hn hJ (kk hi))
      · exact z_tableIn (q := 0) (tg := 690) dL_law_39 (by decide) (by decide) rfl rfl (op_put hi hL hk hn hJ (kk hi))
      · exact z_tableIn (q := 0) (tg := 770) dL_law_39 (by decide) (by decide) rfl rfl (op_toggle hi hL hk hn hJ (kk hi))
      · exact z_tableIn (q := 0) (tg := 826) dL_law_39 (by decide) (by decide) rfl rfl (op_handOver hi hL hk hn hJ (kk hi))
      · exact z_tableIn (q := 0) (tg := 894) dL_law_39 (by decide) (by decide) rfl rfl (op_drop hi hL hk hn hJ (kk hi))
      · exact z_tableIn (q := 0) (tg := 950) dL_law_39 (by decide) (by decide) rfl rfl (op_setLifetime hi hL hk hn hJ (kk hi))
      · exact z_tableIn (q := 0) (tg := 1006) dL_law_39 (by decide) (by decide) rfl rfl (op_undo hi hL hk hn hJ (kk hi))
      · exact z_tableIn (q := 0) (tg := 1050) dL_law_39 (by decide) (by decide) rfl rfl (op_hops hi hL hk hn hJ (kk hi))
      · exact z_tableIn (q := 0) (tg := 1118) dL_law_39 (by decide) (by decide) rfl rfl (op_groups hi hL hk hn hJ (kk hi))
      · exact z_tableIn (q := 0) (tg := 1131) dL_law_39 (by decide) (by decide) rfl rfl (op_rangeNeeded hi hL hk hn hJ (kk hi))
      · exact z_tableIn (q := 0) (tg := 1144) dL_law_39 (by decide) (by decide) rfl rfl (op_conflicts hi hL hk hn hJ (kk hi))
      · exact z_tableIn (q := 0) (tg := 1200) dL_law_39 (by decide) (by decide) rfl rfl (op_finishedAfter hi hL hk hn hJ (kk hi))
      · exact z_tableIn (q := 0) (tg := 1256) dL_law_39 (by decide) (by decide) rfl rfl (op_knownAfter hi hL hk hn hJ (kk hi))
      · exact z_tableIn (q := 0) (tg := 1312) dL_law_39 (by decide) (by decide) rfl rfl (op_wastedIf hi hL hk hn hJ (kk hi))
      · exact z_tableIn (q := 0) (tg := 1380) dL_law_39 (by decide) (by decide) rfl rfl (op_worstLoss hi hL hk hn hJ (kk hi))
      · exact z_tableIn (q := 0) (tg := 1436) dL_law_39 (by decide) (by decide) rfl rfl (op_bestShare hi hL hk hn hJ (kk hi))
      · exact z_tableIn (q := 0) (tg := 1492) dL_law_39 (by decide) (by decide) rfl rfl (op_runScript hi hL hk hn hJ (kk hi))
      · exact z_tableIn (q := 0) (tg := 1592) dL_law_39 (by decide) (by decide) rfl rfl (op_simulate hi hL hk hn hJ (kk hi))
      · exact z_tableIn (q := 0) (tg := 1692) dL_law_39 (by decide) (by decide) rfl rfl (op_save hi hL hk hn hJ (kk hi))
      · exact z_tableIn (q := 0) (tg := 1748) dL_law_39 (by decide) (by decide) rfl rfl (op_restore hi hL hk hn hJ (kk hi))
      · exact z_tableOut (q := 0) (tg := 1804) dL_law_39 (by decide) rfl (z_le (Nat.sub_le _ _) (Nat.sub_le _ _) (kk hi d u w _ _ hJ))
      · exact z_tableOut (q := 0) (tg := 1804) dL_law_39 (by decide) rfl (z_le (Nat.sub_le _ _) (Nat.sub_le _ _) (kk hi d u w _ _ hJ))
      · exact z_tableOut (q := 0) (tg := 1804) dL_law_39 (by decide) rfl (z_le (Nat.sub_le _ _) (Nat.sub_le _ _) (kk hi d u w _ _ hJ))
set_option maxRecDepth 100000 in
set_option maxHeartbeats 4000000 in
theorem law_start {g : zGl} {nm : String} {b0 L : Nat} {xs : Nat → Int32} (hL : L ≤ 2048) : zA g (zZl g nm b0 L xs) 601024 7293034 0 [some (.ref b0), none, none, none, none, none, none] [] (fun _ => none, some (zgB g)) := by
  refine z_new (q := 3) (sz := zgB g) (fs := zTn) dL_law_0 zcl_7 zyL_8 zuX7 zdX7 rfl (fun j hj => by rcases (show j = 0 ∨ j = 1 ∨ j = 2 ∨ j = 3 ∨ j = 4 ∨ j = 5 ∨ j = 6 ∨ j = 7 ∨ j = 8 by omega) with rfl | rfl | rfl | rfl | rfl | rfl | rfl | rfl | rfl <;> rfl) (Nat.le_of_ble_eq_true rfl) (Nat.le_of_ble_eq_true rfl) rfl ?_
  refine z_dup (q := 4) dL_law_3 rfl rfl ?_
  refine z_I0 (q := 7) dL_law_4 zkL_96 zt_mX7_init rfl rfl rfl (Nat.le_of_ble_eq_true rfl) (ct_X7_init znw_at rfl) (Nat.le_of_ble_eq_true rfl) (Nat.le_of_ble_eq_true rfl) rfl ?_
  rintro _ _ ⟨rfl, rfl⟩
  refine z_astore_n (q := 8) dL_law_7 (Nat.le_of_ble_eq_true rfl) rfl rfl ?_
  refine z_new (q := 11) (sz := zgB g + 286) (fs := zMnew) dL_law_8 zcl_8 zyL_97 zuX8 zdX8 rfl (fun j hj => by rcases (show j = 0 ∨ j = 1 ∨ j = 2 ∨ j = 3 ∨ j = 4 ∨ j = 5 ∨ j = 6 ∨ j = 7 ∨ j = 8 ∨ j = 9 ∨ j = 10 ∨ j = 11 ∨ j = 12 ∨ j = 13 ∨ j = 14 by omega) with rfl | rfl | rfl | rfl | rfl | rfl | rfl | rfl | rfl | rfl | rfl | rfl | rfl | rfl | rfl <;> rfl) (Nat.le_of_ble_eq_true rfl) (Nat.le_of_ble_eq_true rfl) rfl ?_
  refine z_dup (q := 12) dL_law_11 rfl rfl ?_
  refine z_I0 (q := 15) dL_law_12 zkL_99 zt_mX8_init rfl rfl rfl (Nat.le_of_ble_eq_true rfl) (ct_X8_init znw_at rfl) (Nat.le_of_ble_eq_true rfl) (Nat.le_of_ble_eq_true rfl) rfl ?_
  rintro _ _ ⟨rfl, rfl⟩
  refine z_astore_n (q := 16) dL_law_15 (Nat.le_of_ble_eq_true rfl) rfl rfl ?_
  refine z_iconst (q := 17) dL_law_16 zci_1 rfl ?_
  refine z_newJ (q := 19) (sz := zgB g + 298) dL_law_17 za_long rfl (Nat.le_of_ble_eq_true rfl) (Nat.le_of_ble_eq_true rfl) (Nat.le_of_ble_eq_true rfl) rfl ?_
  refine z_astore_n (q := 20) dL_law_19 (Nat.le_of_ble_eq_true rfl) rfl rfl ?_
  refine z_iconst (q := 21) dL_law_20 zci_0 rfl ?_
  refine z_istore (q := 23) dL_law_21 (Nat.le_of_ble_eq_true rfl) rfl rfl ?_
  refine z_forget ?_
  refine z_heq (h' := zHl g zd0 (va_up (fun _ _ => 0) 3 (va_up (fun _ => 0) 3 (nI 5))) (fun _ => 0)) ?_ ?_
  · refine Prod.ext ?_ rfl
    funext q
    by_cases q1 : q = zgB g + 298
    · subst q1
      exact znw_at.trans ((zpT_o (by omega)).trans zHl_o).symm
    · refine (znw_ne q1).trans ?_
      by_cases q2 : zgB g ≤ q ∧ q < zgB g + 286
      · obtain ⟨j, rfl⟩ : ∃ j, q = zgB g + j := ⟨q - zgB g, by omega⟩
        exact (zpM_o (by omega)).trans ((znw_ne (by omega)).trans ((zpT_c (by omega)).trans (zpT_c (by omega)).symm))
      · by_cases q3 : zgB g + 286 ≤ q ∧ q < zgB g + 286 + 12
        · obtain ⟨j, rfl⟩ : ∃ j, q = zgB g + 286 + j := ⟨q - (zgB g + 286), by omega⟩
          exact (zpM_c (by omega)).trans ((zpT_o (by omega)).trans (zpM_c (by omega))).symm
        · exact (zpM_o (by omega)).trans ((znw_ne (by omega)).trans ((zpT_o (by omega)).trans ((znw_ne (by omega)).trans ((zpT_o (by omega)).trans ((zpM_o (by omega)).trans (zup_ne q1))).symm)))
  exact law_loop hL 512 0 _ _ _ _ _ _ _ (by omega) (by decide) (Nat.le_of_ble_eq_true rfl) (Nat.le_of_ble_eq_true rfl) zJE_0
