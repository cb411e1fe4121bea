/-! ===== the reference: public methods that change nothing ===== -/
def qOnS (f : Nat → Int32) (n : Nat) : Int32 := qIt (fun a c => c ||| (if qOn f a then nI 1 <<< (nI a &&& 31) else nI 0)) (nI 0) n
def qAbout (f : Nat → Int32) (n K w : Nat) : Int32 := if w ≤ 3 then f w else if w = 4 then qFin f K else if w = 5 then qSum f n 4 else if w = 6 then qSum f n 5 else qOnS f n
set_option maxRecDepth 100000 in
set_option maxHeartbeats 4000000 in
theorem ct_X8_about1 {g : zGl} {h : zHp} {m : Nat} {x : Int32} {u : Nat → Nat → Int32} (hv : qBt x 0 7 = false) : zC g mX8_about [.ref m, .int x] (zpM g h m u) (zMP g h m u (nI 1) (nI 0)) 0 0 := by
  refine zC_ofA (lv := [some (.ref m), some (.int x), none, none]) (by decide) rfl (Nat.le_of_ble_eq_true rfl) ?_
  refine z_aload_n (q := 1) dX8_about_0 rfl rfl ?_
  refine z_iload_n (q := 2) dX8_about_1 rfl rfl ?_
  refine z_i2l (q := 3) dX8_about_2 rfl rfl ?_
  refine z_lconst (q := 4) (v := 0) dX8_about_3 (by decide) rfl ?_
  refine z_ldc2 (q := 7) dX8_about_4 zqX8_150 rfl ?_
  refine z_s3 (q := 10) dX8_about_7 zkX8_57 zt_mX8_in rfl (Nat.le_of_ble_eq_true rfl) (ct_X8_in) rfl ?_
  refine z_eqi ((congrArg zbi ((qIn_bt (by decide) (by decide) (by decide) (by decide)).trans hv)).trans zbi_f) ?_
  refine z_if_eq (tg := 17) (q := 13) dX8_about_10 rfl rfl ?_ ?_
  · intro hc10
    refine z_iconst (q := 18) dX8_about_17 zci_1 rfl ?_
    refine z_x1 (q := 21) dX8_about_18 zkX8_126 zt_mX8_refused rfl (by first | exact zpM_0 | exact zpM_a rfl | exact zpM_8) rfl (Nat.le_of_ble_eq_true rfl) (ct_X8_refused) rfl ?_
    refine z_eqi (show zbi (!decide (nI 1 ≤ 0)) = nI 1 by decide) ?_
    refine z_if_eq (tg := 26) (q := 24) dX8_about_21 rfl rfl ?_ ?_
    · intro hc21
      exact absurd hc21 (by decide)
    · intro hc21
      refine z_iconst (q := 25) dX8_about_24 zci_0 rfl ?_
      exact z_reti dX8_about_25 rfl (zMP_i rfl zSc_rf rfl)
  · intro hc10
    exact absurd hc10 (by decide)
set_option maxRecDepth 100000 in
set_option maxHeartbeats 4000000 in
theorem ct_X8_about0 {g : zGl} {h : zHp} {m w n K : Nat} {u : Nat → Nat → Int32} (hw : w ≤ 7) (hn : u 3 0 = nI n) (hn6 : n ≤ 6) (hK : u 3 1 = nI K) (hK8 : K ≤ 8) : zC g mX8_about [.ref m, .int (nI w)] (zpM g h m u) (zMP g h m u (nI 0) (qAbout (u 3) n K w)) 0 0 := by
  have hv : qBt (nI w) 0 7 = true := qBt_i (by omega) hw (by decide)
  refine zC_ofA (lv := [some (.ref m), some (.int (nI w)), none, none]) (by decide) rfl (Nat.le_of_ble_eq_true rfl) ?_
  by_cases h3' : w ≤ 3
  · skip
    refine z_aload_n (q := 1) dX8_about_0 rfl rfl ?_
    refine z_iload_n (q := 2) dX8_about_1 rfl rfl ?_
    refine z_i2l (q := 3) dX8_about_2 rfl rfl ?_
    refine z_lconst (q := 4) (v := 0) dX8_about_3 (by decide) rfl ?_
    refine z_ldc2 (q := 7) dX8_about_4 zqX8_150 rfl ?_
    refine z_s3 (q := 10) dX8_about_7 zkX8_57 zt_mX8_in rfl (Nat.le_of_ble_eq_true rfl) (ct_X8_in) rfl ?_
    refine z_eqi ((congrArg zbi ((qIn_bt (by decide) (by decide) (by decide) (by decide)).trans hv)).trans zbi_t) ?_
    refine z_if_eq (tg := 17) (q := 13) dX8_about_10 rfl rfl ?_ ?_
    · intro hc10
      exact absurd hc10 (by decide)
    · intro hc10
      refine z_iconst (q := 14) dX8_about_13 zci_0 rfl ?_
      refine z_goto (q := 0) (tg := 18) dX8_about_14 rfl ?_
      refine z_x1 (q := 21) dX8_about_18 zkX8_126 zt_mX8_refused rfl (by first | exact zpM_0 | exact zpM_a rfl | exact zpM_8) rfl (Nat.le_of_ble_eq_true rfl) (ct_X8_refused) rfl ?_
      refine z_eqi (show zbi (!decide (nI 0 ≤ 0)) = nI 0 by decide) ?_
      skip
      refine z_if_eq (tg := 26) (q := 24) dX8_about_21 rfl rfl ?_ ?_
      · intro hc21
        generalize hU : va_up u 0 (va_up (u 0) 0 (nI 0)) = U
        have hS : zSc u U := by subst hU; exact zSc_rf
        have hrf : U 0 0 = nI 0 := by subst hU; rfl
        have h3 : U 3 = u 3 := hS.2.1
        refine z_iload_n (q := 27) dX8_about_26 rfl rfl ?_
        refine z_tableOut (q := 0) (tg := 125) dX8_about_27 (Or.inl (by rw [nI_toInt (by omega)]; omega)) rfl ?_
        refine z_aload_n (q := 126) dX8_about_125 rfl rfl ?_
        refine z_get (q := 129) dX8_about_126 zfX8_16 (by first | exact zpM_0 | exact zpM_a rfl | exact zpM_8) rfl rfl ?_
        refine z_iload_n (q := 130) dX8_about_129 rfl rfl ?_
        refine z_iald (q := 131) dX8_about_130 (by first | exact zpM_0 | exact zpM_a rfl | exact zpM_8) (by omega) (by omega) rfl ?_
        exact z_reti dX8_about_131 rfl (zMP_i (by simp [qAbout, h3', h3]) hS hrf)
      · intro hc21
        exact absurd hc21 (by decide)
  · rcases (show w = 4 ∨ w = 5 ∨ w = 6 ∨ w = 7 by omega) with rfl | rfl | rfl | rfl
    · skip
      refine z_aload_n (q := 1) dX8_about_0 rfl rfl ?_
      refine z_iload_n (q := 2) dX8_about_1 rfl rfl ?_
      refine z_i2l (q := 3) dX8_about_2 rfl rfl ?_
      refine z_lconst (q := 4) (v := 0) dX8_about_3 (by decide) rfl ?_
      refine z_ldc2 (q := 7) dX8_about_4 zqX8_150 rfl ?_
      refine z_s3 (q := 10) dX8_about_7 zkX8_57 zt_mX8_in rfl (Nat.le_of_ble_eq_true rfl) (ct_X8_in) rfl ?_
      refine z_eqi ((congrArg zbi ((qIn_bt (by decide) (by decide) (by decide) (by decide)).trans hv)).trans zbi_t) ?_
      refine z_if_eq (tg := 17) (q := 13) dX8_about_10 rfl rfl ?_ ?_
      · intro hc10
        exact absurd hc10 (by decide)
      · intro hc10
        refine z_iconst (q := 14) dX8_about_13 zci_0 rfl ?_
        refine z_goto (q := 0) (tg := 18) dX8_about_14 rfl ?_
        refine z_x1 (q := 21) dX8_about_18 zkX8_126 zt_mX8_refused rfl (by first | exact zpM_0 | exact zpM_a rfl | exact zpM_8) rfl (Nat.le_of_ble_eq_true rfl) (ct_X8_refused) rfl ?_
        refine z_eqi (show zbi (!decide (nI 0 ≤ 0)) = nI 0 by decide) ?_
        refine z_if_eq (tg := 26) (q := 24) dX8_about_21 rfl rfl ?_ ?_
        · intro hc21
          generalize hU : va_up u 0 (va_up (u 0) 0 (nI 0)) = U
          have hS : zSc u U := by subst hU; exact zSc_rf
          have hrf : U 0 0 = nI 0 := by subst hU; rfl
          have h3 : U 3 = u 3 := hS.2.1
          have hn' : U 3 0 = nI n := by rw [h3]; exact hn
          have hK' : U 3 1 = nI K := by rw [h3]; exact hK
          refine z_iload_n (q := 27) dX8_about_26 rfl rfl ?_
          refine z_tableIn (q := 0) (tg := 56) dX8_about_27 (by decide) (by decide) rfl rfl ?_
          refine z_aload_n (q := 57) dX8_about_56 rfl rfl ?_
          refine z_get (q := 60) dX8_about_57 zfX8_16 (by first | exact zpM_0 | exact zpM_a rfl | exact zpM_8) rfl rfl ?_
          refine z_s1 (q := 63) dX8_about_60 zkX8_152 zt_mX8_finished rfl (Nat.le_of_ble_eq_true rfl) (ct_X8_finished (by first | exact zpM_0 | exact zpM_a rfl | exact zpM_8) (by assumption) (by omega)) rfl ?_
          exact z_reti dX8_about_63 rfl (zMP_i (by simp [qAbout, h3]) hS hrf)
        · intro hc21
          exact absurd hc21 (by decide)
    · skip
      refine z_aload_n (q := 1) dX8_about_0 rfl rfl ?_
      refine z_iload_n (q := 2) dX8_about_1 rfl rfl ?_
      refine z_i2l (q := 3) dX8_about_2 rfl rfl ?_
      refine z_lconst (q := 4) (v := 0) dX8_about_3 (by decide) rfl ?_
      refine z_ldc2 (q := 7) dX8_about_4 zqX8_150 rfl ?_
      refine z_s3 (q := 10) dX8_about_7 zkX8_57 zt_mX8_in rfl (Nat.le_of_ble_eq_true rfl) (ct_X8_in) rfl ?_
      refine z_eqi ((congrArg zbi ((qIn_bt (by decide) (by decide) (by decide) (by decide)).trans hv)).trans zbi_t) ?_
      refine z_if_eq (tg := 17) (q := 13) dX8_about_10 rfl rfl ?_ ?_
      · intro hc10
        exact absurd hc10 (by decide)
      · intro hc10
        refine z_iconst (q := 14) dX8_about_13 zci_0 rfl ?_
        refine z_goto (q := 0) (tg := 18) dX8_about_14 rfl ?_
        refine z_x1 (q := 21) dX8_about_18 zkX8_126 zt_mX8_refused rfl (by first | exact zpM_0 | exact zpM_a rfl | exact zpM_8) rfl (Nat.le_of_ble_eq_true rfl) (ct_X8_refused) rfl ?_
        refine z_eqi (show zbi (!decide (nI 0 ≤ 0)) = nI 0 by decide) ?_
        refine z_if_eq (tg := 26) (q := 24) dX8_about_21 rfl rfl ?_ ?_
        · intro hc21
          generalize hU : va_up u 0 (va_up (u 0) 0 (nI 0)) = U
          have hS : zSc u U := by subst hU; exact zSc_rf
          have hrf : U 0 0 = nI 0 := by subst hU; rfl
          have h3 : U 3 = u 3 := hS.2.1
          have hn' : U 3 0 = nI n := by rw [h3]; exact hn
          have hK' : U 3 1 = nI K := by rw [h3]; exact hK
          refine z_iload_n (q := 27) dX8_about_26 rfl rfl ?_
          refine z_tableIn (q := 0) (tg := 64) dX8_about_27 (by decide) (by decide) rfl rfl ?_
          refine z_aload_n (q := 65) dX8_about_64 rfl rfl ?_
          refine z_get (q := 68) dX8_about_65 zfX8_16 (by first | exact zpM_0 | exact zpM_a rfl | exact zpM_8) rfl rfl ?_
          refine z_iconst (q := 69) dX8_about_68 zci_4 rfl ?_
          refine z_s2 (q := 72) dX8_about_69 zkX8_156 zt_mX8_sumOf rfl (Nat.le_of_ble_eq_true rfl) (ct_X8_sumOf (by first | exact zpM_0 | exact zpM_a rfl | exact zpM_8) (by assumption) (by omega) (by omega)) rfl ?_
          exact z_reti dX8_about_72 rfl (zMP_i (by simp [qAbout, h3]) hS hrf)
        · intro hc21
          exact absurd hc21 (by decide)
    · skip
      refine z_aload_n (q := 1) dX8_about_0 rfl rfl ?_
      refine z_iload_n (q := 2) dX8_about_1 rfl rfl ?_
      refine z_i2l (q := 3) dX8_about_2 rfl rfl ?_
      refine z_lconst (q := 4) (v := 0) dX8_about_3 (by decide) rfl ?_
      refine z_ldc2 (q := 7) dX8_about_4 zqX8_150 rfl ?_
      refine z_s3 (q := 10) dX8_about_7 zkX8_57 zt_mX8_in rfl (Nat.le_of_ble_eq_true rfl) (ct_X8_in) rfl ?_
      refine z_eqi ((congrArg zbi ((qIn_bt (by decide) (by decide) (by decide) (by decide)).trans hv)).trans zbi_t) ?_
      refine z_if_eq (tg := 17) (q := 13) dX8_about_10 rfl rfl ?_ ?_
      · intro hc10
        exact absurd hc10 (by decide)
      · intro hc10
        refine z_iconst (q := 14) dX8_about_13 zci_0 rfl ?_
        refine z_goto (q := 0) (tg := 18) dX8_about_14 rfl ?_
        refine z_x1 (q := 21) dX8_about_18 zkX8_126 zt_mX8_refused rfl (by first | exact zpM_0 | exact zpM_a rfl | exact zpM_8) rfl (Nat.le_of_ble_eq_true rfl) (ct_X8_refused) rfl ?_
        refine z_eqi (show zbi (!decide (nI 0 ≤ 0)) = nI 0 by decide) ?_
        refine z_if_eq (tg := 26) (q := 24) dX8_about_21 rfl rfl ?_ ?_
        · intro hc21
          generalize hU : va_up u 0 (va_up (u 0) 0 (nI 0)) = U
          have hS : zSc u U := by subst hU; exact zSc_rf
          have hrf : U 0 0 = nI 0 := by subst hU; rfl
          have h3 : U 3 = u 3 := hS.2.1
          have hn' : U 3 0 = nI n := by rw [h3]; exact hn
          have hK' : U 3 1 = nI K := by rw [h3]; exact hK
          refine z_iload_n (q := 27) dX8_about_26 rfl rfl ?_
          refine z_tableIn (q := 0) (tg := 73) dX8_about_27 (by decide) (by decide) rfl rfl ?_
          refine z_aload_n (q := 74) dX8_about_73 rfl rfl ?_
          refine z_get (q := 77) dX8_about_74 zfX8_16 (by first | exact zpM_0 | exact zpM_a rfl | exact zpM_8) rfl rfl ?_
          refine z_iconst (q := 78) dX8_about_77 zci_5 rfl ?_
          refine z_s2 (q := 81) dX8_about_78 zkX8_156 zt_mX8_sumOf rfl (Nat.le_of_ble_eq_true rfl) (ct_X8_sumOf (by first | exact zpM_0 | exact zpM_a rfl | exact zpM_8) (by assumption) (by omega) (by omega)) rfl ?_
          exact z_reti dX8_about_81 rfl (zMP_i (by simp [qAbout, h3]) hS hrf)
        · intro hc21
          exact absurd hc21 (by decide)
    · have loop : ∀ U, zSc u U → U 0 0 = nI 0 → ∀ d i, i + d = n → zA g (zZc g mX8_about (zMP g h m u (nI 0) (qAbout (u 3) n K 7)) 0 0) 0 0 86 [some (.ref m), some (.int (nI 7)), some (.int (qOnS (u 3) i)), some (.int (nI i))] [] (zpM g h m U) := by
        intro U hS hrf d
        have h3 : U 3 = u 3 := hS.2.1
        have hn' : U 3 0 = nI n := by rw [h3]; exact hn
        induction d using Nat.strongRecOn with
        | ind d ih =>
          intro i hi
          refine z_iload_n (q := 87) dX8_about_86 rfl rfl ?_
          refine z_aload_n (q := 88) dX8_about_87 rfl rfl ?_
          refine z_get (q := 91) dX8_about_88 zfX8_16 (by first | exact zpM_0 | exact zpM_a rfl | exact zpM_8) rfl rfl ?_
          refine z_iconst (q := 92) dX8_about_91 zci_0 rfl ?_
          refine z_iald (q := 93) dX8_about_92 (by first | exact zpM_0 | exact zpM_a rfl | exact zpM_8) (by omega) (by omega) rfl ?_
          refine z_eqi hn' ?_
          refine z_icmp_geN (tg := 123) (q := 96) dX8_about_93 rfl rfl (by omega) (by omega) ?_ ?_
          · intro hc93
            refine z_iload_n (q := 124) dX8_about_123 rfl rfl ?_
            exact z_reti dX8_about_124 rfl (zMP_i (by rw [show i = n by omega]; simp [qAbout]) hS hrf)
          · intro hc93
            refine z_iload_n (q := 97) dX8_about_96 rfl rfl ?_
            refine z_aload_n (q := 98) dX8_about_97 rfl rfl ?_
            refine z_get (q := 101) dX8_about_98 zfX8_16 (by first | exact zpM_0 | exact zpM_a rfl | exact zpM_8) rfl rfl ?_
            refine z_iload_n (q := 102) dX8_about_101 rfl rfl ?_
            refine z_s2 (q := 105) dX8_about_102 zkX8_71 zt_mX8_isOn rfl (Nat.le_of_ble_eq_true rfl) (ct_X8_isOn (by first | exact zpM_0 | exact zpM_a rfl | exact zpM_8) (by omega)) rfl ?_
            refine z_ifb_eq (tg := 114) (q := 108) dX8_about_105 rfl rfl ?_ ?_
            · intro hc105
              have e9 : qOnS (u 3) (i + 1) = qOnS (u 3) i ||| nI 0 := by rw [← h3]; rw [qOnS, qIt, ← qOnS]; simp [hc105]
              refine z_iconst (q := 115) dX8_about_114 zci_0 rfl ?_
              refine z_ior (q := 116) dX8_about_115 rfl ?_
              rw [← e9]
              refine z_istore_n (q := 117) dX8_about_116 (Nat.le_of_ble_eq_true rfl) rfl rfl ?_
              refine z_iincN (q := 120) dX8_about_117 rfl rfl rfl ?_
              refine z_goto (q := 0) (tg := 86) dX8_about_120 rfl ?_
              exact ih (d - 1) (by omega) (i + 1) (by omega)
            · intro hc105
              have e9 : qOnS (u 3) (i + 1) = qOnS (u 3) i ||| (nI 1 <<< (nI i &&& 31)) := by rw [← h3]; rw [qOnS, qIt, ← qOnS]; simp [hc105]
              refine z_iconst (q := 109) dX8_about_108 zci_1 rfl ?_
              refine z_iload_n (q := 110) dX8_about_109 rfl rfl ?_
              refine z_ishl (q := 111) dX8_about_110 rfl ?_
              refine z_goto (q := 0) (tg := 115) dX8_about_111 rfl ?_
              refine z_ior (q := 116) dX8_about_115 rfl ?_
              rw [← e9]
              refine z_istore_n (q := 117) dX8_about_116 (Nat.le_of_ble_eq_true rfl) rfl rfl ?_
              refine z_iincN (q := 120) dX8_about_117 rfl rfl rfl ?_
              refine z_goto (q := 0) (tg := 86) dX8_about_120 rfl ?_
              exact ih (d - 1) (by omega) (i + 1) (by omega)
      refine z_aload_n (q := 1) dX8_about_0 rfl rfl ?_
      refine z_iload_n (q := 2) dX8_about_1 rfl rfl ?_
      refine z_i2l (q := 3) dX8_about_2 rfl rfl ?_
      refine z_lconst (q := 4) (v := 0) dX8_about_3 (by decide) rfl ?_
      refine z_ldc2 (q := 7) dX8_about_4 zqX8_150 rfl ?_
      refine z_s3 (q := 10) dX8_about_7 zkX8_57 zt_mX8_in rfl (Nat.le_of_ble_eq_true rfl) (ct_X8_in) rfl ?_
      refine z_eqi ((congrArg zbi ((qIn_bt (by decide) (by decide) (by decide) (by decide)).trans hv)).trans zbi_t) ?_
      refine z_if_eq (tg := 17) (q := 13) dX8_about_10 rfl rfl ?_ ?_
      · intro hc10
        exact absurd hc10 (by decide)
      · intro hc10
        refine z_iconst (q := 14) dX8_about_13 zci_0 rfl ?_
        refine z_goto (q := 0) (tg := 18) dX8_about_14 rfl ?_
        refine z_x1 (q := 21) dX8_about_18 zkX8_126 zt_mX8_refused rfl (by first | exact zpM_0 | exact zpM_a rfl | exact zpM_8) rfl (Nat.le_of_ble_eq_true rfl) (ct_X8_refused) rfl ?_
        refine z_eqi (show zbi (!decide (nI 0 ≤ 0)) = nI 0 by decide) ?_
        refine z_if_eq (tg := 26) (q := 24) dX8_about_21 rfl rfl ?_ ?_
        · intro hc21
          generalize hU : va_up u 0 (va_up (u 0) 0 (nI 0)) = U
          have hS : zSc u U := by subst hU; exact zSc_rf
          have hrf : U 0 0 = nI 0 := by subst hU; rfl
          refine z_iload_n (q := 27) dX8_about_26 rfl rfl ?_
          refine z_tableIn (q := 0) (tg := 82) dX8_about_27 (by decide) (by decide) rfl rfl ?_
          refine z_iconst (q := 83) dX8_about_82 zci_0 rfl ?_
          refine z_istore_n (q := 84) dX8_about_83 (Nat.le_of_ble_eq_true rfl) rfl rfl ?_
          refine z_iconst (q := 85) dX8_about_84 zci_0 rfl ?_
          refine z_istore_n (q := 86) dX8_about_85 (Nat.le_of_ble_eq_true rfl) rfl rfl ?_
          exact loop U hS hrf n 0 (by omega)
        · intro hc21
          exact absurd hc21 (by decide)
def qHrS (f : Nat → Int32) (a n : Nat) : Int32 := qIt (fun b c => c ||| (if qHears f a b then nI 1 <<< (nI b &&& 31) else nI 0)) (nI 0) n
def qAgent (f : Nat → Int32) (n K a w : Nat) : Int32 := if w ≤ 3 then f (4 + 6 * a + w) else if w = 4 then qT (qOwnTask f K a) else if w = 5 then f (4 + 6 * a + 4) else if w = 6 then f (4 + 6 * a + 5) else qHrS f a n
set_option maxRecDepth 100000 in
set_option maxHeartbeats 4000000 in
theorem ct_X8_agent1 {g : zGl} {h : zHp} {m n : Nat} {x y : Int32} {u : Nat → Nat → Int32} (hn : u 3 0 = nI n) (hn6 : n ≤ 6) (hv : qHas x n = false) : zC g mX8_agent [.ref m, .int x, .int y] (zpM g h m u) (zMP g h m u (nI 1) (nI 0)) 0 0 := by
  refine zC_ofA (lv := [some (.ref m), some (.int x), some (.int y), none, none, none]) (by decide) rfl (Nat.le_of_ble_eq_true rfl) ?_
  refine z_aload_n (q := 1) dX8_agent_0 rfl rfl ?_
  refine z_aload_n (q := 2) dX8_agent_1 rfl rfl ?_
  refine z_iload_n (q := 3) dX8_agent_2 rfl rfl ?_
  refine z_v1 (q := 6) dX8_agent_3 zkX8_159 zt_mX8_isAgent rfl (by first | exact zpM_0 | exact zpM_a rfl | exact zpM_8) rfl (Nat.le_of_ble_eq_true rfl) (ct_X8_isAgent (by assumption) (by omega)) rfl ?_
  refine z_eqi ((congrArg zbi (hv)).trans zbi_f) ?_
  refine z_if_ne (tg := 13) (q := 9) dX8_agent_6 rfl rfl ?_ ?_
  · intro hc6
    exact absurd hc6 (by decide)
  · intro hc6
    refine z_iconst (q := 10) dX8_agent_9 zci_1 rfl ?_
    refine z_goto (q := 0) (tg := 30) dX8_agent_10 rfl ?_
    refine z_x1 (q := 33) dX8_agent_30 zkX8_126 zt_mX8_refused rfl (by first | exact zpM_0 | exact zpM_a rfl | exact zpM_8) rfl (Nat.le_of_ble_eq_true rfl) (ct_X8_refused) rfl ?_
    refine z_eqi (show zbi (!decide (nI 1 ≤ 0)) = nI 1 by decide) ?_
    refine z_if_eq (tg := 38) (q := 36) dX8_agent_33 rfl rfl ?_ ?_
    · intro hc33
      exact absurd hc33 (by decide)
    · intro hc33
      refine z_iconst (q := 37) dX8_agent_36 zci_0 rfl ?_
      exact z_reti dX8_agent_37 rfl (zMP_i rfl zSc_rf rfl)
set_option maxRecDepth 100000 in
set_option maxHeartbeats 4000000 in
theorem ct_X8_agent2 {g : zGl} {h : zHp} {m n : Nat} {x y : Int32} {u : Nat → Nat → Int32} (hn : u 3 0 = nI n) (hn6 : n ≤ 6) (hv : qHas x n = true) (hv2 : qBt y 0 7 = false) : zC g mX8_agent [.ref m, .int x, .int y] (zpM g h m u) (zMP g h m u (nI 2) (nI 0)) 0 0 := by
  refine zC_ofA (lv := [some (.ref m), some (.int x), some (.int y), none, none, none]) (by decide) rfl (Nat.le_of_ble_eq_true rfl) ?_
  refine z_aload_n (q := 1) dX8_agent_0 rfl rfl ?_
  refine z_aload_n (q := 2) dX8_agent_1 rfl rfl ?_
  refine z_iload_n (q := 3) dX8_agent_2 rfl rfl ?_
  refine z_v1 (q := 6) dX8_agent_3 zkX8_159 zt_mX8_isAgent rfl (by first | exact zpM_0 | exact zpM_a rfl | exact zpM_8) rfl (Nat.le_of_ble_eq_true rfl) (ct_X8_isAgent (by assumption) (by omega)) rfl ?_
  refine z_eqi ((congrArg zbi (hv)).trans zbi_t) ?_
  refine z_if_ne (tg := 13) (q := 9) dX8_agent_6 rfl rfl ?_ ?_
  · intro hc6
    refine z_iload_n (q := 14) dX8_agent_13 rfl rfl ?_
    refine z_i2l (q := 15) dX8_agent_14 rfl rfl ?_
    refine z_lconst (q := 16) (v := 0) dX8_agent_15 (by decide) rfl ?_
    refine z_ldc2 (q := 19) dX8_agent_16 zqX8_150 rfl ?_
    refine z_s3 (q := 22) dX8_agent_19 zkX8_57 zt_mX8_in rfl (Nat.le_of_ble_eq_true rfl) (ct_X8_in) rfl ?_
    refine z_eqi ((congrArg zbi ((qIn_bt (by decide) (by decide) (by decide) (by decide)).trans hv2)).trans zbi_f) ?_
    refine z_if_ne (tg := 29) (q := 25) dX8_agent_22 rfl rfl ?_ ?_
    · intro hc22
      exact absurd hc22 (by decide)
    · intro hc22
      refine z_iconst (q := 26) dX8_agent_25 zci_2 rfl ?_
      refine z_goto (q := 0) (tg := 30) dX8_agent_26 rfl ?_
      refine z_x1 (q := 33) dX8_agent_30 zkX8_126 zt_mX8_refused rfl (by first | exact zpM_0 | exact zpM_a rfl | exact zpM_8) rfl (Nat.le_of_ble_eq_true rfl) (ct_X8_refused) rfl ?_
      refine z_eqi (show zbi (!decide (nI 2 ≤ 0)) = nI 1 by decide) ?_
      refine z_if_eq (tg := 38) (q := 36) dX8_agent_33 rfl rfl ?_ ?_
      · intro hc33
        exact absurd hc33 (by decide)
      · intro hc33
        refine z_iconst (q := 37) dX8_agent_36 zci_0 rfl ?_
        exact z_reti dX8_agent_37 rfl (zMP_i rfl zSc_rf rfl)
  · intro hc6
    exact absurd hc6 (by decide)
set_option maxRecDepth 100000 in
set_option maxHeartbeats 4000000 in
theorem ct_X8_agent0 {g : zGl} {h : zHp} {m w n K a : Nat} {u : Nat → Nat → Int32} (ha : a < n) (hw : w ≤ 7) (hn : u 3 0 = nI n) (hn6 : n ≤ 6) (hK : u 3 1 = nI K) (hK8 : K ≤ 8) : zC g mX8_agent [.ref m, .int (nI a), .int (nI w)] (zpM g h m u) (zMP g h m u (nI 0) (qAgent (u 3) n K a w)) 0 0 := by
  have hv : qHas (nI a) n = true := qHas_i ha (by omega)
  have hv2 : qBt (nI w) 0 7 = true := qBt_i (by omega) hw (by decide)
  refine zC_ofA (lv := [some (.ref m), some (.int (nI a)), some (.int (nI w)), none, none, none]) (by decide) rfl (Nat.le_of_ble_eq_true rfl) ?_
  by_cases h3' : w ≤ 3
  · skip
    refine z_aload_n (q := 1) dX8_agent_0 rfl rfl ?_
    refine z_aload_n (q := 2) dX8_agent_1 rfl rfl ?_
    refine z_iload_n (q := 3) dX8_agent_2 rfl rfl ?_
    refine z_v1 (q := 6) dX8_agent_3 zkX8_159 zt_mX8_isAgent rfl (by first | exact zpM_0 | exact zpM_a rfl | exact zpM_8) rfl (Nat.le_of_ble_eq_true rfl) (ct_X8_isAgent (by assumption) (by omega)) rfl ?_
    refine z_eqi ((congrArg zbi (hv)).trans zbi_t) ?_
    refine z_if_ne (tg := 13) (q := 9) dX8_agent_6 rfl rfl ?_ ?_
    · intro hc6
      refine z_iload_n (q := 14) dX8_agent_13 rfl rfl ?_
      refine z_i2l (q := 15) dX8_agent_14 rfl rfl ?_
      refine z_lconst (q := 16) (v := 0) dX8_agent_15 (by decide) rfl ?_
      refine z_ldc2 (q := 19) dX8_agent_16 zqX8_150 rfl ?_
      refine z_s3 (q := 22) dX8_agent_19 zkX8_57 zt_mX8_in rfl (Nat.le_of_ble_eq_true rfl) (ct_X8_in) rfl ?_
      refine z_eqi ((congrArg zbi ((qIn_bt (by decide) (by decide) (by decide) (by decide)).trans hv2)).trans zbi_t) ?_
      refine z_if_ne (tg := 29) (q := 25) dX8_agent_22 rfl rfl ?_ ?_
      · intro hc22
        refine z_iconst (q := 30) dX8_agent_29 zci_0 rfl ?_
        refine z_x1 (q := 33) dX8_agent_30 zkX8_126 zt_mX8_refused rfl (by first | exact zpM_0 | exact zpM_a rfl | exact zpM_8) rfl (Nat.le_of_ble_eq_true rfl) (ct_X8_refused) rfl ?_
        refine z_eqi (show zbi (!decide (nI 0 ≤ 0)) = nI 0 by decide) ?_
        refine z_if_eq (tg := 38) (q := 36) dX8_agent_33 rfl rfl ?_ ?_
        · intro hc33
          generalize hU : va_up u 0 (va_up (u 0) 0 (nI 0)) = U
          have hS : zSc u U := by subst hU; exact zSc_rf
          have hrf : U 0 0 = nI 0 := by subst hU; rfl
          have h3 : U 3 = u 3 := hS.2.1
          refine z_iload_n (q := 39) dX8_agent_38 rfl rfl ?_
          refine z_s1 (q := 42) dX8_agent_39 zkX8_61 zt_mX8_agentAt rfl (Nat.le_of_ble_eq_true rfl) (ct_X8_agentAt) rfl ?_
          refine z_istore_n (q := 43) dX8_agent_42 (Nat.le_of_ble_eq_true rfl) rfl rfl ?_
          refine z_iload_n (q := 44) dX8_agent_43 rfl rfl ?_
          refine z_tableOut (q := 0) (tg := 155) dX8_agent_44 (Or.inl (by rw [nI_toInt (by omega)]; omega)) rfl ?_
          refine z_aload_n (q := 156) dX8_agent_155 rfl rfl ?_
          refine z_get (q := 159) dX8_agent_156 zfX8_16 (by first | exact zpM_0 | exact zpM_a rfl | exact zpM_8) rfl rfl ?_
          refine z_iload_n (q := 160) dX8_agent_159 rfl rfl ?_
          refine z_iload_n (q := 161) dX8_agent_160 rfl rfl ?_
          refine z_iaddN (q := 162) dX8_agent_161 rfl ?_
          refine z_iald (q := 163) dX8_agent_162 (by first | exact zpM_0 | exact zpM_a rfl | exact zpM_8) (by omega) (by omega) rfl ?_
          exact z_reti dX8_agent_163 rfl (zMP_i (by simp [qAgent, h3', h3]) hS hrf)
        · intro hc33
          exact absurd hc33 (by decide)
      · intro hc22
        exact absurd hc22 (by decide)
    · intro hc6
      exact absurd hc6 (by decide)
  · rcases (show w = 4 ∨ w = 5 ∨ w = 6 ∨ w = 7 by omega) with rfl | rfl | rfl | rfl
    · skip
      refine z_aload_n (q := 1) dX8_agent_0 rfl rfl ?_
      refine z_aload_n (q := 2) dX8_agent_1 rfl rfl ?_
      refine z_iload_n (q := 3) dX8_agent_2 rfl rfl ?_
      refine z_v1 (q := 6) dX8_agent_3 zkX8_159 zt_mX8_isAgent rfl (by first | exact zpM_0 | exact zpM_a rfl | exact zpM_8) rfl (Nat.le_of_ble_eq_true rfl) (ct_X8_isAgent (by assumption) (by omega)) rfl ?_
      refine z_eqi ((congrArg zbi (hv)).trans zbi_t) ?_
      refine z_if_ne (tg := 13) (q := 9) dX8_agent_6 rfl rfl ?_ ?_
      · intro hc6
        refine z_iload_n (q := 14) dX8_agent_13 rfl rfl ?_
        refine z_i2l (q := 15) dX8_agent_14 rfl rfl ?_
        refine z_lconst (q := 16) (v := 0) dX8_agent_15 (by decide) rfl ?_
        refine z_ldc2 (q := 19) dX8_agent_16 zqX8_150 rfl ?_
        refine z_s3 (q := 22) dX8_agent_19 zkX8_57 zt_mX8_in rfl (Nat.le_of_ble_eq_true rfl) (ct_X8_in) rfl ?_
        refine z_eqi ((congrArg zbi ((qIn_bt (by decide) (by decide) (by decide) (by decide)).trans hv2)).trans zbi_t) ?_
        refine z_if_ne (tg := 29) (q := 25) dX8_agent_22 rfl rfl ?_ ?_
        · intro hc22
          refine z_iconst (q := 30) dX8_agent_29 zci_0 rfl ?_
          refine z_x1 (q := 33) dX8_agent_30 zkX8_126 zt_mX8_refused rfl (by first | exact zpM_0 | exact zpM_a rfl | exact zpM_8) rfl (Nat.le_of_ble_eq_true rfl) (ct_X8_refused) rfl ?_
          refine z_eqi (show zbi (!decide (nI 0 ≤ 0)) = nI 0 by decide) ?_
          refine z_if_eq (tg := 38) (q := 36) dX8_agent_33 rfl rfl ?_ ?_
          · intro hc33
            generalize hU : va_up u 0 (va_up (u 0) 0 (nI 0)) = U
            have hS : zSc u U := by subst hU; exact zSc_rf
            have hrf : U 0 0 = nI 0 := by subst hU; rfl
            have h3 : U 3 = u 3 := hS.2.1
            have hn' : U 3 0 = nI n := by rw [h3]; exact hn
            have hK' : U 3 1 = nI K := by rw [h3]; exact hK
            refine z_iload_n (q := 39) dX8_agent_38 rfl rfl ?_
            refine z_s1 (q := 42) dX8_agent_39 zkX8_61 zt_mX8_agentAt rfl (Nat.le_of_ble_eq_true rfl) (ct_X8_agentAt) rfl ?_
            refine z_istore_n (q := 43) dX8_agent_42 (Nat.le_of_ble_eq_true rfl) rfl rfl ?_
            refine z_iload_n (q := 44) dX8_agent_43 rfl rfl ?_
            refine z_tableIn (q := 0) (tg := 76) dX8_agent_44 (by decide) (by decide) rfl rfl ?_
            refine z_aload_n (q := 77) dX8_agent_76 rfl rfl ?_
            refine z_get (q := 80) dX8_agent_77 zfX8_16 (by first | exact zpM_0 | exact zpM_a rfl | exact zpM_8) rfl rfl ?_
            refine z_iload_n (q := 81) dX8_agent_80 rfl rfl ?_
            refine z_s2 (q := 84) dX8_agent_81 zkX8_103 zt_mX8_ownTask rfl (Nat.le_of_ble_eq_true rfl) (ct_X8_ownTask (by first | exact zpM_0 | exact zpM_a rfl | exact zpM_8) (by omega) (by assumption) (by omega)) rfl ?_
            exact z_reti dX8_agent_84 rfl (zMP_i (by simp [qAgent, h3]) hS hrf)
          · intro hc33
            exact absurd hc33 (by decide)
        · intro hc22
          exact absurd hc22 (by decide)
      · intro hc6
        exact absurd hc6 (by decide)
    · skip
      refine z_aload_n (q := 1) dX8_agent_0 rfl rfl ?_
      refine z_aload_n (q := 2) dX8_agent_1 rfl rfl ?_
      refine z_iload_n (q := 3) dX8_agent_2 rfl rfl ?_
      refine z_v1 (q := 6) dX8_agent_3 zkX8_159 zt_mX8_isAgent rfl (by first | exact zpM_0 | exact zpM_a rfl | exact zpM_8) rfl (Nat.le_of_ble_eq_true rfl) (ct_X8_isAgent (by assumption) (by omega)) rfl ?_
      refine z_eqi ((congrArg zbi (hv)).trans zbi_t) ?_
      refine z_if_ne (tg := 13) (q := 9) dX8_agent_6 rfl rfl ?_ ?_
      · intro hc6
        refine z_iload_n (q := 14) dX8_agent_13 rfl rfl ?_
        refine z_i2l (q := 15) dX8_agent_14 rfl rfl ?_
        refine z_lconst (q := 16) (v := 0) dX8_agent_15 (by decide) rfl ?_
        refine z_ldc2 (q := 19) dX8_agent_16 zqX8_150 rfl ?_
        refine z_s3 (q := 22) dX8_agent_19 zkX8_57 zt_mX8_in rfl (Nat.le_of_ble_eq_true rfl) (ct_X8_in) rfl ?_
        refine z_eqi ((congrArg zbi ((qIn_bt (by decide) (by decide) (by decide) (by decide)).trans hv2)).trans zbi_t) ?_
        refine z_if_ne (tg := 29) (q := 25) dX8_agent_22 rfl rfl ?_ ?_
        · intro hc22
          refine z_iconst (q := 30) dX8_agent_29 zci_0 rfl ?_
          refine z_x1 (q := 33) dX8_agent_30 zkX8_126 zt_mX8_refused rfl (by first | exact zpM_0 | exact zpM_a rfl | exact zpM_8) rfl (Nat.le_of_ble_eq_true rfl) (ct_X8_refused) rfl ?_
          refine z_eqi (show zbi (!decide (nI 0 ≤ 0)) = nI 0 by decide) ?_
          refine z_if_eq (tg := 38) (q := 36) dX8_agent_33 rfl rfl ?_ ?_
          · intro hc33
            generalize hU : va_up u 0 (va_up (u 0) 0 (nI 0)) = U
            have hS : zSc u U := by subst hU; exact zSc_rf
            have hrf : U 0 0 = nI 0 := by subst hU; rfl
            have h3 : U 3 = u 3 := hS.2.1
            refine z_iload_n (q := 39) dX8_agent_38 rfl rfl ?_
            refine z_s1 (q := 42) dX8_agent_39 zkX8_61 zt_mX8_agentAt rfl (Nat.le_of_ble_eq_true rfl) (ct_X8_agentAt) rfl ?_
            refine z_istore_n (q := 43) dX8_agent_42 (Nat.le_of_ble_eq_true rfl) rfl rfl ?_
            refine z_iload_n (q := 44) dX8_agent_43 rfl rfl ?_
            refine z_tableIn (q := 0) (tg := 85) dX8_agent_44 (by decide) (by decide) rfl rfl ?_
            refine z_aload_n (q := 86) dX8_agent_85 rfl rfl ?_
            refine z_get (q := 89) dX8_agent_86 zfX8_16 (by first | exact zpM_0 | exact zpM_a rfl | exact zpM_8) rfl rfl ?_
            refine z_iload_n (q := 90) dX8_agent_89 rfl rfl ?_
            refine z_iconst (q := 91) dX8_agent_90 zci_4 rfl ?_
            refine z_iaddN (q := 92) dX8_agent_91 rfl ?_
            refine z_iald (q := 93) dX8_agent_92 (by first | exact zpM_0 | exact zpM_a rfl | exact zpM_8) (by omega) (by omega) rfl ?_
            exact z_reti dX8_agent_93 rfl (zMP_i (by simp [qAgent, h3]) hS hrf)
          · intro hc33
            exact absurd hc33 (by decide)
        · intro hc22
          exact absurd hc22 (by decide)
      · intro hc6
        exact absurd hc6 (by decide)
    · skip
      refine z_aload_n (q := 1) dX8_agent_0 rfl rfl ?_
      refine z_aload_n (q := 2) dX8_agent_1 rfl rfl ?_
      refine z_iload_n (q := 3) dX8_agent_2 rfl rfl ?_
      refine z_v1 (q := 6) dX8_agent_3 zkX8_159 zt_mX8_isAgent rfl (by first | exact zpM_0 | exact zpM_a rfl | exact zpM_8) rfl (Nat.le_of_ble_eq_true rfl) (ct_X8_isAgent (by assumption) (by omega)) rfl ?_
      refine z_eqi ((congrArg zbi (hv)).trans zbi_t) ?_
      refine z_if_ne (tg := 13) (q := 9) dX8_agent_6 rfl rfl ?_ ?_
      · intro hc6
        refine z_iload_n (q := 14) dX8_agent_13 rfl rfl ?_
        refine z_i2l (q := 15) dX8_agent_14 rfl rfl ?_
        refine z_lconst (q := 16) (v := 0) dX8_agent_15 (by decide) rfl ?_
        refine z_ldc2 (q := 19) dX8_agent_16 zqX8_150 rfl ?_
        refine z_s3 (q := 22) dX8_agent_19 zkX8_57 zt_mX8_in rfl (Nat.le_of_ble_eq_true rfl) (ct_X8_in) rfl ?_
        refine z_eqi ((congrArg zbi ((qIn_bt (by decide) (by decide) (by decide) (by decide)).trans hv2)).trans zbi_t) ?_
        refine z_if_ne (tg := 29) (q := 25) dX8_agent_22 rfl rfl ?_ ?_
        · intro hc22
          refine z_iconst (q := 30) dX8_agent_29 zci_0 rfl ?_
          refine z_x1 (q := 33) dX8_agent_30 zkX8_126 zt_mX8_refused rfl (by first | exact zpM_0 | exact zpM_a rfl | exact zpM_8) rfl (Nat.le_of_ble_eq_true rfl) (ct_X8_refused) rfl ?_
          refine z_eqi (show zbi (!decide (nI 0 ≤ 0)) = nI 0 by decide) ?_
          refine z_if_eq (tg := 38) (q := 36) dX8_agent_33 rfl rfl ?_ ?_
          · intro hc33
            generalize hU : va_up u 0 (va_up (u 0) 0 (nI 0)) = U
            have hS : zSc u U := by subst hU; exact zSc_rf
            have hrf : U 0 0 = nI 0 := by subst hU; rfl
            have h3 : U 3 = u 3 := hS.2.1
            refine z_iload_n (q := 39) dX8_agent_38 rfl rfl ?_
            refine z_s1 (q := 42) dX8_agent_39 zkX8_61 zt_mX8_agentAt rfl (Nat.le_of_ble_eq_true rfl) (ct_X8_agentAt) rfl ?_
            refine z_istore_n (q := 43) dX8_agent_42 (Nat.le_of_ble_eq_true rfl) rfl rfl ?_
            refine z_iload_n (q := 44) dX8_agent_43 rfl rfl ?_
            refine z_tableIn (q := 0) (tg := 94) dX8_agent_44 (by decide) (by decide) rfl rfl ?_
            refine z_aload_n (q := 95) dX8_agent_94 rfl rfl ?_
            refine z_get (q := 98) dX8_agent_95 zfX8_16 (by first | exact zpM_0 | exact zpM_a rfl | exact zpM_8) rfl rfl ?_
            refine z_iload_n (q := 99) dX8_agent_98 rfl rfl ?_
            refine z_iconst (q := 100) dX8_agent_99 zci_5 rfl ?_
            refine z_iaddN (q := 101) dX8_agent_100 rfl ?_
            refine z_iald (q := 102) dX8_agent_101 (by first | exact zpM_0 | exact zpM_a rfl | exact zpM_8) (by omega) (by omega) rfl ?_
            exact z_reti dX8_agent_102 rfl (zMP_i (by simp [qAgent, h3]) hS hrf)
          · intro hc33
            exact absurd hc33 (by decide)
        · intro hc22
          exact absurd hc22 (by decide)
      · intro hc6
        exact absurd hc6 (by decide)
    · have loop : ∀ U, zSc u U → U 0 0 = nI 0 → ∀ d i, i + d = n → zA g (zZc g mX8_agent (zMP g h m u (nI 0) (qAgent (u 3) n K a 7)) 0 0) 0 0 109 [some (.ref m), some (.int (nI a)), some (.int (nI 7)), some (.int (nI (4 + 6 * a))), some (.int (qHrS (u 3) a i)), some (.int (nI i))] [] (zpM g h m U) := by
        intro U hS hrf d
        have h3 : U 3 = u 3 := hS.2.1
        have hn' : U 3 0 = nI n := by rw [h3]; exact hn
        induction d using Nat.strongRecOn with
        | ind d ih =>
          intro i hi
          refine z_iload (q := 111) dX8_agent_109 rfl rfl ?_
          refine z_aload_n (q := 112) dX8_agent_111 rfl rfl ?_
          refine z_get (q := 115) dX8_agent_112 zfX8_16 (by first | exact zpM_0 | exact zpM_a rfl | exact zpM_8) rfl rfl ?_
          refine z_iconst (q := 116) dX8_agent_115 zci_0 rfl ?_
          refine z_iald (q := 117) dX8_agent_116 (by first | exact zpM_0 | exact zpM_a rfl | exact zpM_8) (by omega) (by omega) rfl ?_
          refine z_eqi hn' ?_
          refine z_icmp_geN (tg := 152) (q := 120) dX8_agent_117 rfl rfl (by omega) (by omega) ?_ ?_
          · intro hc117
            refine z_iload (q := 154) dX8_agent_152 rfl rfl ?_
            exact z_reti dX8_agent_154 rfl (zMP_i (by rw [show i = n by omega]; simp [qAgent]) hS hrf)
          · intro hc117
            refine z_iload (q := 122) dX8_agent_120 rfl rfl ?_
            refine z_aload_n (q := 123) dX8_agent_122 rfl rfl ?_
            refine z_get (q := 126) dX8_agent_123 zfX8_16 (by first | exact zpM_0 | exact zpM_a rfl | exact zpM_8) rfl rfl ?_
            refine z_iload_n (q := 127) dX8_agent_126 rfl rfl ?_
            refine z_iload (q := 129) dX8_agent_127 rfl rfl ?_
            refine z_s3 (q := 132) dX8_agent_129 zkX8_90 zt_mX8_hears rfl (Nat.le_of_ble_eq_true rfl) (ct_X8_hears (by first | exact zpM_0 | exact zpM_a rfl | exact zpM_8) (by omega) (by omega)) rfl ?_
            refine z_ifb_eq (tg := 142) (q := 135) dX8_agent_132 rfl rfl ?_ ?_
            · intro hc132
              have e9 : qHrS (u 3) a (i + 1) = qHrS (u 3) a i ||| nI 0 := by rw [← h3]; rw [qHrS, qIt, ← qHrS]; simp [hc132]
              refine z_iconst (q := 143) dX8_agent_142 zci_0 rfl ?_
              refine z_ior (q := 144) dX8_agent_143 rfl ?_
              rw [← e9]
              refine z_istore (q := 146) dX8_agent_144 (Nat.le_of_ble_eq_true rfl) rfl rfl ?_
              refine z_iincN (q := 149) dX8_agent_146 rfl rfl rfl ?_
              refine z_goto (q := 0) (tg := 109) dX8_agent_149 rfl ?_
              exact ih (d - 1) (by omega) (i + 1) (by omega)
            · intro hc132
              have e9 : qHrS (u 3) a (i + 1) = qHrS (u 3) a i ||| (nI 1 <<< (nI i &&& 31)) := by rw [← h3]; rw [qHrS, qIt, ← qHrS]; simp [hc132]
              refine z_iconst (q := 136) dX8_agent_135 zci_1 rfl ?_
              refine z_iload (q := 138) dX8_agent_136 rfl rfl ?_
              refine z_ishl (q := 139) dX8_agent_138 rfl ?_
              refine z_goto (q := 0) (tg := 143) dX8_agent_139 rfl ?_
              refine z_ior (q := 144) dX8_agent_143 rfl ?_
              rw [← e9]
              refine z_istore (q := 146) dX8_agent_144 (Nat.le_of_ble_eq_true rfl) rfl rfl ?_
              refine z_iincN (q := 149) dX8_agent_146 rfl rfl rfl ?_
              refine z_goto (q := 0) (tg := 109) dX8_agent_149 rfl ?_
              exact ih (d - 1) (by omega) (i + 1) (by omega)
      refine z_aload_n (q := 1) dX8_agent_0 rfl rfl ?_
      refine z_aload_n (q := 2) dX8_agent_1 rfl rfl ?_
      refine z_iload_n (q := 3) dX8_agent_2 rfl rfl ?_
      refine z_v1 (q := 6) dX8_agent_3 zkX8_159 zt_mX8_isAgent rfl (by first | exact zpM_0 | exact zpM_a rfl | exact zpM_8) rfl (Nat.le_of_ble_eq_true rfl) (ct_X8_isAgent (by assumption) (by omega)) rfl ?_
      refine z_eqi ((congrArg zbi (hv)).trans zbi_t) ?_
      refine z_if_ne (tg := 13) (q := 9) dX8_agent_6 rfl rfl ?_ ?_
      · intro hc6
        refine z_iload_n (q := 14) dX8_agent_13 rfl rfl ?_
        refine z_i2l (q := 15) dX8_agent_14 rfl rfl ?_
        refine z_lconst (q := 16) (v := 0) dX8_agent_15 (by decide) rfl ?_
        refine z_ldc2 (q := 19) dX8_agent_16 zqX8_150 rfl ?_
        refine z_s3 (q := 22) dX8_agent_19 zkX8_57 zt_mX8_in rfl (Nat.le_of_ble_eq_true rfl) (ct_X8_in) rfl ?_
        refine z_eqi ((congrArg zbi ((qIn_bt (by decide) (by decide) (by decide) (by decide)).trans hv2)).trans zbi_t) ?_
        refine z_if_ne (tg := 29) (q := 25) dX8_agent_22 rfl rfl ?_ ?_
        · intro hc22
          refine z_iconst (q := 30) dX8_agent_29 zci_0 rfl ?_
          refine z_x1 (q := 33) dX8_agent_30 zkX8_126 zt_mX8_refused rfl (by first | exact zpM_0 | exact zpM_a rfl | exact zpM_8) rfl (Nat.le_of_ble_eq_true rfl) (ct_X8_refused) rfl ?_
          refine z_eqi (show zbi (!decide (nI 0 ≤ 0)) = nI 0 by decide) ?_
          refine z_if_eq (tg := 38) (q := 36) dX8_agent_33 rfl rfl ?_ ?_
          · intro hc33
            generalize hU : va_up u 0 (va_up (u 0) 0 (nI 0)) = U
            have hS : zSc u U := by subst hU; exact zSc_rf
            have hrf : U 0 0 = nI 0 := by subst hU; rfl
            refine z_iload_n (q := 39) dX8_agent_38 rfl rfl ?_
            refine z_s1 (q := 42) dX8_agent_39 zkX8_61 zt_mX8_agentAt rfl (Nat.le_of_ble_eq_true rfl) (ct_X8_agentAt) rfl ?_
            refine z_istore_n (q := 43) dX8_agent_42 (Nat.le_of_ble_eq_true rfl) rfl rfl ?_
            refine z_iload_n (q := 44) dX8_agent_43 rfl rfl ?_
            refine z_tableIn (q := 0) (tg := 103) dX8_agent_44 (by decide) (by decide) rfl rfl ?_
            refine z_iconst (q := 104) dX8_agent_103 zci_0 rfl ?_
            refine z_istore (q := 106) dX8_agent_104 (Nat.le_of_ble_eq_true rfl) rfl rfl ?_
            refine z_iconst (q := 107) dX8_agent_106 zci_0 rfl ?_
            refine z_istore (q := 109) dX8_agent_107 (Nat.le_of_ble_eq_true rfl) rfl rfl ?_
            exact loop U hS hrf n 0 (by omega)
          · intro hc33
            exact absurd hc33 (by decide)
        · intro hc22
          exact absurd hc22 (by decide)
      · intro hc6
        exact absurd hc6 (by decide)
def qKnS (f : Nat → Int32) (t n : Nat) : Int32 := qIt (fun a c => c ||| (if f (72 + 4 * (8 * a + t)) = nI 2 then nI 1 <<< (nI a &&& 31) else nI 0)) (nI 0) n
def qTask (f : Nat → Int32) (n t w : Nat) : Int32 := if w ≤ 3 then f (40 + 4 * t + w) else if w = 4 then zbi (qDone f t) else if w = 5 then qKnS f t n else qClm f n t
set_option maxRecDepth 100000 in
set_option maxHeartbeats 4000000 in
theorem ct_X8_task1 {g : zGl} {h : zHp} {m K : Nat} {x y : Int32} {u : Nat → Nat → Int32} (hK : u 3 1 = nI K) (hK8 : K ≤ 8) (hv : qHas x K = false) : zC g mX8_task [.ref m, .int x, .int y] (zpM g h m u) (zMP g h m u (nI 1) (nI 0)) 0 0 := by
  refine zC_ofA (lv := [some (.ref m), some (.int x), some (.int y), none, none]) (by decide) rfl (Nat.le_of_ble_eq_true rfl) ?_
  refine z_aload_n (q := 1) dX8_task_0 rfl rfl ?_
  refine z_aload_n (q := 2) dX8_task_1 rfl rfl ?_
  refine z_iload_n (q := 3) dX8_task_2 rfl rfl ?_
  refine z_v1 (q := 6) dX8_task_3 zkX8_162 zt_mX8_isTask rfl (by first | exact zpM_0 | exact zpM_a rfl | exact zpM_8) rfl (Nat.le_of_ble_eq_true rfl) (ct_X8_isTask (by assumption) (by omega)) rfl ?_
  refine z_eqi ((congrArg zbi (hv)).trans zbi_f) ?_
  refine z_if_ne (tg := 13) (q := 9) dX8_task_6 rfl rfl ?_ ?_
  · intro hc6
    exact absurd hc6 (by decide)
  · intro hc6
    refine z_iconst (q := 10) dX8_task_9 zci_1 rfl ?_
    refine z_goto (q := 0) (tg := 30) dX8_task_10 rfl ?_
    refine z_x1 (q := 33) dX8_task_30 zkX8_126 zt_mX8_refused rfl (by first | exact zpM_0 | exact zpM_a rfl | exact zpM_8) rfl (Nat.le_of_ble_eq_true rfl) (ct_X8_refused) rfl ?_
    refine z_eqi (show zbi (!decide (nI 1 ≤ 0)) = nI 1 by decide) ?_
    refine z_if_eq (tg := 38) (q := 36) dX8_task_33 rfl rfl ?_ ?_
    · intro hc33
      exact absurd hc33 (by decide)
    · intro hc33
      refine z_iconst (q := 37) dX8_task_36 zci_0 rfl ?_
      exact z_reti dX8_task_37 rfl (zMP_i rfl zSc_rf rfl)
set_option maxRecDepth 100000 in
set_option maxHeartbeats 4000000 in
theorem ct_X8_task2 {g : zGl} {h : zHp} {m K : Nat} {x y : Int32} {u : Nat → Nat → Int32} (hK : u 3 1 = nI K) (hK8 : K ≤ 8) (hv : qHas x K = true) (hv2 : qBt y 0 6 = false) : zC g mX8_task [.ref m, .int x, .int y] (zpM g h m u) (zMP g h m u (nI 2) (nI 0)) 0 0 := by
  refine zC_ofA (lv := [some (.ref m), some (.int x), some (.int y), none, none]) (by decide) rfl (Nat.le_of_ble_eq_true rfl) ?_
  refine z_aload_n (q := 1) dX8_task_0 rfl rfl ?_
  refine z_aload_n (q := 2) dX8_task_1 rfl rfl ?_
  refine z_iload_n (q := 3) dX8_task_2 rfl rfl ?_
  refine z_v1 (q := 6) dX8_task_3 zkX8_162 zt_mX8_isTask rfl (by first | exact zpM_0 | exact zpM_a rfl | exact zpM_8) rfl (Nat.le_of_ble_eq_true rfl) (ct_X8_isTask (by assumption) (by omega)) rfl ?_
  refine z_eqi ((congrArg zbi (hv)).trans zbi_t) ?_
  refine z_if_ne (tg := 13) (q := 9) dX8_task_6 rfl rfl ?_ ?_
  · intro hc6
    refine z_iload_n (q := 14) dX8_task_13 rfl rfl ?_
    refine z_i2l (q := 15) dX8_task_14 rfl rfl ?_
    refine z_lconst (q := 16) (v := 0) dX8_task_15 (by decide) rfl ?_
    refine z_ldc2 (q := 19) dX8_task_16 zqX8_165 rfl ?_
    refine z_s3 (q := 22) dX8_task_19 zkX8_57 zt_mX8_in rfl (Nat.le_of_ble_eq_true rfl) (ct_X8_in) rfl ?_
    refine z_eqi ((congrArg zbi ((qIn_bt (by decide) (by decide) (by decide) (by decide)).trans hv2)).trans zbi_f) ?_
    refine z_if_ne (tg := 29) (q := 25) dX8_task_22 rfl rfl ?_ ?_
    · intro hc22
      exact absurd hc22 (by decide)
    · intro hc22
      refine z_iconst (q := 26) dX8_task_25 zci_2 rfl ?_
      refine z_goto (q := 0) (tg := 30) dX8_task_26 rfl ?_
      refine z_x1 (q := 33) dX8_task_30 zkX8_126 zt_mX8_refused rfl (by first | exact zpM_0 | exact zpM_a rfl | exact zpM_8) rfl (Nat.le_of_ble_eq_true rfl) (ct_X8_refused) rfl ?_
      refine z_eqi (show zbi (!decide (nI 2 ≤ 0)) = nI 1 by decide) ?_
      refine z_if_eq (tg := 38) (q := 36) dX8_task_33 rfl rfl ?_ ?_
      · intro hc33
        exact absurd hc33 (by decide)
      · intro hc33
        refine z_iconst (q := 37) dX8_task_36 zci_0 rfl ?_
        exact z_reti dX8_task_37 rfl (zMP_i rfl zSc_rf rfl)
  · intro hc6
    exact absurd hc6 (by decide)
set_option maxRecDepth 100000 in
set_option maxHeartbeats 4000000 in
theorem ct_X8_task0 {g : zGl} {h : zHp} {m w n K t : Nat} {u : Nat → Nat → Int32} (ht : t < K) (hw : w ≤ 6) (hn : u 3 0 = nI n) (hn6 : n ≤ 6) (hK : u 3 1 = nI K) (hK8 : K ≤ 8) : zC g mX8_task [.ref m, .int (nI t), .int (nI w)] (zpM g h m u) (zMP g h m u (nI 0) (qTask (u 3) n t w)) 0 0 := by
  have hv : qHas (nI t) K = true := qHas_i ht (by omega)
  have hv2 : qBt (nI w) 0 6 = true := qBt_i (by omega) hw (by decide)
  refine zC_ofA (lv := [some (.ref m), some (.int (nI t)), some (.int (nI w)), none, none]) (by decide) rfl (Nat.le_of_ble_eq_true rfl) ?_
  by_cases h3' : w ≤ 3
  · skip
    refine z_aload_n (q := 1) dX8_task_0 rfl rfl ?_
    refine z_aload_n (q := 2) dX8_task_1 rfl rfl ?_
    refine z_iload_n (q := 3) dX8_task_2 rfl rfl ?_
    refine z_v1 (q := 6) dX8_task_3 zkX8_162 zt_mX8_isTask rfl (by first | exact zpM_0 | exact zpM_a rfl | exact zpM_8) rfl (Nat.le_of_ble_eq_true rfl) (ct_X8_isTask (by assumption) (by omega)) rfl ?_
    refine z_eqi ((congrArg zbi (hv)).trans zbi_t) ?_
    refine z_if_ne (tg := 13) (q := 9) dX8_task_6 rfl rfl ?_ ?_
    · intro hc6
      refine z_iload_n (q := 14) dX8_task_13 rfl rfl ?_
      refine z_i2l (q := 15) dX8_task_14 rfl rfl ?_
      refine z_lconst (q := 16) (v := 0) dX8_task_15 (by decide) rfl ?_
      refine z_ldc2 (q := 19) dX8_task_16 zqX8_165 rfl ?_
      refine z_s3 (q := 22) dX8_task_19 zkX8_57 zt_mX8_in rfl (Nat.le_of_ble_eq_true rfl) (ct_X8_in) rfl ?_
      refine z_eqi ((congrArg zbi ((qIn_bt (by decide) (by decide) (by decide) (by decide)).trans hv2)).trans zbi_t) ?_
      refine z_if_ne (tg := 29) (q := 25) dX8_task_22 rfl rfl ?_ ?_
      · intro hc22
        refine z_iconst (q := 30) dX8_task_29 zci_0 rfl ?_
        refine z_x1 (q := 33) dX8_task_30 zkX8_126 zt_mX8_refused rfl (by first | exact zpM_0 | exact zpM_a rfl | exact zpM_8) rfl (Nat.le_of_ble_eq_true rfl) (ct_X8_refused) rfl ?_
        refine z_eqi (show zbi (!decide (nI 0 ≤ 0)) = nI 0 by decide) ?_
        refine z_if_eq (tg := 38) (q := 36) dX8_task_33 rfl rfl ?_ ?_
        · intro hc33
          generalize hU : va_up u 0 (va_up (u 0) 0 (nI 0)) = U
          have hS : zSc u U := by subst hU; exact zSc_rf
          have hrf : U 0 0 = nI 0 := by subst hU; rfl
          have h3 : U 3 = u 3 := hS.2.1
          refine z_iload_n (q := 39) dX8_task_38 rfl rfl ?_
          refine z_tableOut (q := 0) (tg := 142) dX8_task_39 (Or.inl (by rw [nI_toInt (by omega)]; omega)) rfl ?_
          refine z_aload_n (q := 143) dX8_task_142 rfl rfl ?_
          refine z_get (q := 146) dX8_task_143 zfX8_16 (by first | exact zpM_0 | exact zpM_a rfl | exact zpM_8) rfl rfl ?_
          refine z_iload_n (q := 147) dX8_task_146 rfl rfl ?_
          refine z_s1 (q := 150) dX8_task_147 zkX8_65 zt_mX8_taskAt rfl (Nat.le_of_ble_eq_true rfl) (ct_X8_taskAt) rfl ?_
          refine z_iload_n (q := 151) dX8_task_150 rfl rfl ?_
          refine z_iaddN (q := 152) dX8_task_151 rfl ?_
          refine z_iald (q := 153) dX8_task_152 (by first | exact zpM_0 | exact zpM_a rfl | exact zpM_8) (by omega) (by omega) rfl ?_
          exact z_reti dX8_task_153 rfl (zMP_i (by simp [qTask, h3', h3]) hS hrf)
        · intro hc33
          exact absurd hc33 (by decide)
      · intro hc22
        exact absurd hc22 (by decide)
    · intro hc6
      exact absurd hc6 (by decide)
  · rcases (show w = 4 ∨ w = 5 ∨ w = 6 by omega) with rfl | rfl | rfl
    · skip
      refine z_aload_n (q := 1) dX8_task_0 rfl rfl ?_
      refine z_aload_n (q := 2) dX8_task_1 rfl rfl ?_
      refine z_iload_n (q := 3) dX8_task_2 rfl rfl ?_
      refine z_v1 (q := 6) dX8_task_3 zkX8_162 zt_mX8_isTask rfl (by first | exact zpM_0 | exact zpM_a rfl | exact zpM_8) rfl (Nat.le_of_ble_eq_true rfl) (ct_X8_isTask (by assumption) (by omega)) rfl ?_
      refine z_eqi ((congrArg zbi (hv)).trans zbi_t) ?_
      refine z_if_ne (tg := 13) (q := 9) dX8_task_6 rfl rfl ?_ ?_
      · intro hc6
        refine z_iload_n (q := 14) dX8_task_13 rfl rfl ?_
        refine z_i2l (q := 15) dX8_task_14 rfl rfl ?_
        refine z_lconst (q := 16) (v := 0) dX8_task_15 (by decide) rfl ?_
        refine z_ldc2 (q := 19) dX8_task_16 zqX8_165 rfl ?_
        refine z_s3 (q := 22) dX8_task_19 zkX8_57 zt_mX8_in rfl (Nat.le_of_ble_eq_true rfl) (ct_X8_in) rfl ?_
        refine z_eqi ((congrArg zbi ((qIn_bt (by decide) (by decide) (by decide) (by decide)).trans hv2)).trans zbi_t) ?_
        refine z_if_ne (tg := 29) (q := 25) dX8_task_22 rfl rfl ?_ ?_
        · intro hc22
          refine z_iconst (q := 30) dX8_task_29 zci_0 rfl ?_
          refine z_x1 (q := 33) dX8_task_30 zkX8_126 zt_mX8_refused rfl (by first | exact zpM_0 | exact zpM_a rfl | exact zpM_8) rfl (Nat.le_of_ble_eq_true rfl) (ct_X8_refused) rfl ?_
          refine z_eqi (show zbi (!decide (nI 0 ≤ 0)) = nI 0 by decide) ?_
          refine z_if_eq (tg := 38) (q := 36) dX8_task_33 rfl rfl ?_ ?_
          · intro hc33
            generalize hU : va_up u 0 (va_up (u 0) 0 (nI 0)) = U
            have hS : zSc u U := by subst hU; exact zSc_rf
            have hrf : U 0 0 = nI 0 := by subst hU; rfl
            have h3 : U 3 = u 3 := hS.2.1
            refine z_iload_n (q := 39) dX8_task_38 rfl rfl ?_
            refine z_tableIn (q := 0) (tg := 64) dX8_task_39 (by decide) (by decide) rfl rfl ?_
            refine z_aload_n (q := 65) dX8_task_64 rfl rfl ?_
            refine z_get (q := 68) dX8_task_65 zfX8_16 (by first | exact zpM_0 | exact zpM_a rfl | exact zpM_8) rfl rfl ?_
            refine z_iload_n (q := 69) dX8_task_68 rfl rfl ?_
            refine z_s2 (q := 72) dX8_task_69 zkX8_107 zt_mX8_isDone rfl (Nat.le_of_ble_eq_true rfl) (ct_X8_isDone (by first | exact zpM_0 | exact zpM_a rfl | exact zpM_8) (by omega)) rfl ?_
            refine z_ifb_eq (tg := 79) (q := 75) dX8_task_72 rfl rfl ?_ ?_
            · intro hc72
              refine z_iconst (q := 80) dX8_task_79 zci_0 rfl ?_
              exact z_reti dX8_task_80 rfl (zMP_i (by rw [h3] at hc72; simp [qTask, hc72, zbi]) hS hrf)
            · intro hc72
              refine z_iconst (q := 76) dX8_task_75 zci_1 rfl ?_
              refine z_goto (q := 0) (tg := 80) dX8_task_76 rfl ?_
              exact z_reti dX8_task_80 rfl (zMP_i (by rw [h3] at hc72; simp [qTask, hc72, zbi]) hS hrf)
          · intro hc33
            exact absurd hc33 (by decide)
        · intro hc22
          exact absurd hc22 (by decide)
      · intro hc6
        exact absurd hc6 (by decide)
    · have loop : ∀ U, zSc u U → U 0 0 = nI 0 → ∀ d i, i + d = n → zA g (zZc g mX8_task (zMP g h m u (nI 0) (qTask (u 3) n t 5)) 0 0) 0 0 86 [some (.ref m), some (.int (nI t)), some (.int (nI 5)), some (.int (qKnS (u 3) t i)), some (.int (nI i))] [] (zpM g h m U) := by
        intro U hS hrf d
        have h3 : U 3 = u 3 := hS.2.1
        have hn' : U 3 0 = nI n := by rw [h3]; exact hn
        induction d using Nat.strongRecOn with
        | ind d ih =>
          intro i hi
          refine z_iload (q := 88) dX8_task_86 rfl rfl ?_
          refine z_aload_n (q := 89) dX8_task_88 rfl rfl ?_
          refine z_get (q := 92) dX8_task_89 zfX8_16 (by first | exact zpM_0 | exact zpM_a rfl | exact zpM_8) rfl rfl ?_
          refine z_iconst (q := 93) dX8_task_92 zci_0 rfl ?_
          refine z_iald (q := 94) dX8_task_93 (by first | exact zpM_0 | exact zpM_a rfl | exact zpM_8) (by omega) (by omega) rfl ?_
          refine z_eqi hn' ?_
          refine z_icmp_geN (tg := 131) (q := 97) dX8_task_94 rfl rfl (by omega) (by omega) ?_ ?_
          · intro hc94
            refine z_iload_n (q := 132) dX8_task_131 rfl rfl ?_
            exact z_reti dX8_task_132 rfl (zMP_i (by rw [show i = n by omega]; simp [qTask]) hS hrf)
          · intro hc94
            refine z_iload_n (q := 98) dX8_task_97 rfl rfl ?_
            refine z_aload_n (q := 99) dX8_task_98 rfl rfl ?_
            refine z_get (q := 102) dX8_task_99 zfX8_16 (by first | exact zpM_0 | exact zpM_a rfl | exact zpM_8) rfl rfl ?_
            refine z_iload (q := 104) dX8_task_102 rfl rfl ?_
            refine z_iload_n (q := 105) dX8_task_104 rfl rfl ?_
            refine z_s2 (q := 108) dX8_task_105 zkX8_83 zt_mX8_noteAt rfl (Nat.le_of_ble_eq_true rfl) (ct_X8_noteAt) rfl ?_
            refine z_iconst (q := 109) dX8_task_108 zci_0 rfl ?_
            refine z_iadd0 (q := 110) dX8_task_109 rfl ?_
            refine z_iald (q := 111) dX8_task_110 (by first | exact zpM_0 | exact zpM_a rfl | exact zpM_8) (by omega) (by omega) rfl ?_
            refine z_iconst (q := 112) dX8_task_111 zci_2 rfl ?_
            refine z_icmp_ne (tg := 122) (q := 115) dX8_task_112 rfl rfl ?_ ?_
            · intro hc112
              have e9 : qKnS (u 3) t (i + 1) = qKnS (u 3) t i ||| nI 0 := by rw [← h3]; rw [qKnS, qIt, ← qKnS]; simp [hc112]
              refine z_iconst (q := 123) dX8_task_122 zci_0 rfl ?_
              refine z_ior (q := 124) dX8_task_123 rfl ?_
              rw [← e9]
              refine z_istore_n (q := 125) dX8_task_124 (Nat.le_of_ble_eq_true rfl) rfl rfl ?_
              refine z_iincN (q := 128) dX8_task_125 rfl rfl rfl ?_
              refine z_goto (q := 0) (tg := 86) dX8_task_128 rfl ?_
              exact ih (d - 1) (by omega) (i + 1) (by omega)
            · intro hc112
              have e9 : qKnS (u 3) t (i + 1) = qKnS (u 3) t i ||| (nI 1 <<< (nI i &&& 31)) := by rw [← h3]; rw [qKnS, qIt, ← qKnS]; simp [hc112]
              refine z_iconst (q := 116) dX8_task_115 zci_1 rfl ?_
              refine z_iload (q := 118) dX8_task_116 rfl rfl ?_
              refine z_ishl (q := 119) dX8_task_118 rfl ?_
              refine z_goto (q := 0) (tg := 123) dX8_task_119 rfl ?_
              refine z_ior (q := 124) dX8_task_123 rfl ?_
              rw [← e9]
              refine z_istore_n (q := 125) dX8_task_124 (Nat.le_of_ble_eq_true rfl) rfl rfl ?_
              refine z_iincN (q := 128) dX8_task_125 rfl rfl rfl ?_
              refine z_goto (q := 0) (tg := 86) dX8_task_128 rfl ?_
              exact ih (d - 1) (by omega) (i + 1) (by omega)
      refine z_aload_n (q := 1) dX8_task_0 rfl rfl ?_
      refine z_aload_n (q := 2) dX8_task_1 rfl rfl ?_
      refine z_iload_n (q := 3) dX8_task_2 rfl rfl ?_
      refine z_v1 (q := 6) dX8_task_3 zkX8_162 zt_mX8_isTask rfl (by first | exact zpM_0 | exact zpM_a rfl | exact zpM_8) rfl (Nat.le_of_ble_eq_true rfl) (ct_X8_isTask (by assumption) (by omega)) rfl ?_
      refine z_eqi ((congrArg zbi (hv)).trans zbi_t) ?_
      refine z_if_ne (tg := 13) (q := 9) dX8_task_6 rfl rfl ?_ ?_
      · intro hc6
        refine z_iload_n (q := 14) dX8_task_13 rfl rfl ?_
        refine z_i2l (q := 15) dX8_task_14 rfl rfl ?_
        refine z_lconst (q := 16) (v := 0) dX8_task_15 (by decide) rfl ?_
        refine z_ldc2 (q := 19) dX8_task_16 zqX8_165 rfl ?_
        refine z_s3 (q := 22) dX8_task_19 zkX8_57 zt_mX8_in rfl (Nat.le_of_ble_eq_true rfl) (ct_X8_in) rfl ?_
        refine z_eqi ((congrArg zbi ((qIn_bt (by decide) (by decide) (by decide) (by decide)).trans hv2)).trans zbi_t) ?_
        refine z_if_ne (tg := 29) (q := 25) dX8_task_22 rfl rfl ?_ ?_
        · intro hc22
          refine z_iconst (q := 30) dX8_task_29 zci_0 rfl ?_
          refine z_x1 (q := 33) dX8_task_30 zkX8_126 zt_mX8_refused rfl (by first | exact zpM_0 | exact zpM_a rfl | exact zpM_8) rfl (Nat.le_of_ble_eq_true rfl) (ct_X8_refused) rfl ?_
          refine z_eqi (show zbi (!decide (nI 0 ≤ 0)) = nI 0 by decide) ?_
          refine z_if_eq (tg := 38) (q := 36) dX8_task_33 rfl rfl ?_ ?_
          · intro hc33
            generalize hU : va_up u 0 (va_up (u 0) 0 (nI 0)) = U
            have hS : zSc u U := by subst hU; exact zSc_rf
            have hrf : U 0 0 = nI 0 := by subst hU; rfl
            refine z_iload_n (q := 39) dX8_task_38 rfl rfl ?_
            refine z_tableIn (q := 0) (tg := 81) dX8_task_39 (by decide) (by decide) rfl rfl ?_
            refine z_iconst (q := 82) dX8_task_81 zci_0 rfl ?_
            refine z_istore_n (q := 83) dX8_task_82 (Nat.le_of_ble_eq_true rfl) rfl rfl ?_
            refine z_iconst (q := 84) dX8_task_83 zci_0 rfl ?_
            refine z_istore (q := 86) dX8_task_84 (Nat.le_of_ble_eq_true rfl) rfl rfl ?_
            exact loop U hS hrf n 0 (by omega)
          · intro hc33
            exact absurd hc33 (by decide)
        · intro hc22
          exact absurd hc22 (by decide)
      · intro hc6
        exact absurd hc6 (by decide)
    · skip
      refine z_aload_n (q := 1) dX8_task_0 rfl rfl ?_
      refine z_aload_n (q := 2) dX8_task_1 rfl rfl ?_
      refine z_iload_n (q := 3) dX8_task_2 rfl rfl ?_
      refine z_v1 (q := 6) dX8_task_3 zkX8_162 zt_mX8_isTask rfl (by first | exact zpM_0 | exact zpM_a rfl | exact zpM_8) rfl (Nat.le_of_ble_eq_true rfl) (ct_X8_isTask (by assumption) (by omega)) rfl ?_
      refine z_eqi ((congrArg zbi (hv)).trans zbi_t) ?_
      refine z_if_ne (tg := 13) (q := 9) dX8_task_6 rfl rfl ?_ ?_
      · intro hc6
        refine z_iload_n (q := 14) dX8_task_13 rfl rfl ?_
        refine z_i2l (q := 15) dX8_task_14 rfl rfl ?_
        refine z_lconst (q := 16) (v := 0) dX8_task_15 (by decide) rfl ?_
        refine z_ldc2 (q := 19) dX8_task_16 zqX8_165 rfl ?_
        refine z_s3 (q := 22) dX8_task_19 zkX8_57 zt_mX8_in rfl (Nat.le_of_ble_eq_true rfl) (ct_X8_in) rfl ?_
        refine z_eqi ((congrArg zbi ((qIn_bt (by decide) (by decide) (by decide) (by decide)).trans hv2)).trans zbi_t) ?_
        refine z_if_ne (tg := 29) (q := 25) dX8_task_22 rfl rfl ?_ ?_
        · intro hc22
          refine z_iconst (q := 30) dX8_task_29 zci_0 rfl ?_
          refine z_x1 (q := 33) dX8_task_30 zkX8_126 zt_mX8_refused rfl (by first | exact zpM_0 | exact zpM_a rfl | exact zpM_8) rfl (Nat.le_of_ble_eq_true rfl) (ct_X8_refused) rfl ?_
          refine z_eqi (show zbi (!decide (nI 0 ≤ 0)) = nI 0 by decide) ?_
          refine z_if_eq (tg := 38) (q := 36) dX8_task_33 rfl rfl ?_ ?_
          · intro hc33
            generalize hU : va_up u 0 (va_up (u 0) 0 (nI 0)) = U
            have hS : zSc u U := by subst hU; exact zSc_rf
            have hrf : U 0 0 = nI 0 := by subst hU; rfl
            have h3 : U 3 = u 3 := hS.2.1
            have hn' : U 3 0 = nI n := by rw [h3]; exact hn
            refine z_iload_n (q := 39) dX8_task_38 rfl rfl ?_
            refine z_tableIn (q := 0) (tg := 133) dX8_task_39 (by decide) (by decide) rfl rfl ?_
            refine z_aload_n (q := 134) dX8_task_133 rfl rfl ?_
            refine z_get (q := 137) dX8_task_134 zfX8_16 (by first | exact zpM_0 | exact zpM_a rfl | exact zpM_8) rfl rfl ?_
            refine z_iload_n (q := 138) dX8_task_137 rfl rfl ?_
            refine z_s2 (q := 141) dX8_task_138 zkX8_167 zt_mX8_claimers rfl (Nat.le_of_ble_eq_true rfl) (ct_X8_claimers (by first | exact zpM_0 | exact zpM_a rfl | exact zpM_8) (by assumption) (by omega) (by omega)) rfl ?_
            exact z_reti dX8_task_141 rfl (zMP_i (by simp [qTask, h3]) hS hrf)
          · intro hc33
            exact absurd hc33 (by decide)
        · intro hc22
          exact absurd hc22 (by decide)
      · intro hc6
        exact absurd hc6 (by decide)
