/-! ===== the component: the worst loss, sharing, scripts, simulations, slots ===== -/
theorem qTog_off {f : Nat → Int32} {a : Nat} (h : qOn f a = true) : qTog f a = va_up f (4 + 6 * a + 3) (nI 0) := by
  have e : f (4 + 6 * a + 3) = nI 1 := of_decide_eq_true h
  rw [qTog, e]
  rfl
theorem qLoss_n {f : Nat → Int32} {n K x i : Nat} (h : qOn f i = false) : qLoss f n K x (i + 1) = qLoss f n K x i := by
  rw [qLoss_s, qL2, h, Bool.false_and, if_neg (by decide)]
theorem qLoss_1 {f : Nat → Int32} {n K x i : Nat} (h : qOn f i = true) (h1 : (qLoss f n K x i).1 = none) : qLoss f n K x (i + 1) = (some i, qLossP f n K x i) := by
  rw [qLoss_s, qL2, h1, h]
  rfl
theorem qLoss_2 {f : Nat → Int32} {n K x i k : Nat} (h : qOn f i = true) (h1 : (qLoss f n K x i).1 = some k) (h2 : ¬ (qLoss f n K x i).2 ≤ qLossP f n K x i) : qLoss f n K x (i + 1) = (some i, qLossP f n K x i) := by
  rw [qLoss_s, qL2, h1, h]
  simp only [h2, decide_false, Bool.not_false, Bool.and_self, if_true]
theorem qLoss_3 {f : Nat → Int32} {n K x i k : Nat} (h1 : (qLoss f n K x i).1 = some k) (h2 : (qLoss f n K x i).2 ≤ qLossP f n K x i) : qLoss f n K x (i + 1) = qLoss f n K x i := by
  rw [qLoss_s, qL2, h1]
  simp only [h2, decide_true, Bool.not_true, Bool.and_false]
  rw [if_neg (by decide)]
set_option maxRecDepth 100000 in
set_option maxHeartbeats 4000000 in
theorem ct_X7_progressWithout {g : zGl} {h : zHp} {b n K a x : Nat} {d : Nat → Nat → Int32} {f : Nat → Int32} (hR : zR d 3 f n K) (ha : a < n) (hon : qOn f a = true) (hx : x < 1000) : zC g mX7_progressWithout [.ref b, .int (nI a), .int (nI x)] (zpT g h b d) (zTU g h b (fun D => ∀ c, c < 18 ∨ (33 ≤ c ∧ c < 276) → D c = d c) (some (.int (qLossP f n K x a)))) 0 0 := by
  refine zC_ofA (lv := [some (.ref b), some (.int (nI a)), some (.int (nI x))]) (by decide) rfl (Nat.le_of_ble_eq_true rfl) ?_
  refine z_aload_n (q := 1) dX7_progressWithout_0 rfl rfl ?_
  refine z_get (q := 4) dX7_progressWithout_1 zfX7_23 (by first | exact zT_0 | exact zT_o zWo_3 | exact zT_w zWo_3 rfl | exact zT_o zWo_18 | exact zT_X | exact zT_H | exact zT_S | exact zT_C | exact zT_G | exact zT_N (zNo_w zWo_3) | exact zT_n (zNo_w zWo_3) (by decide) | exact zpT_a (c := 284) rfl | exact zT_L) rfl rfl ?_
  refine z_aload_n (q := 5) dX7_progressWithout_4 rfl rfl ?_
  refine z_get (q := 8) dX7_progressWithout_5 zfX7_19 (by first | exact zT_0 | exact zT_o zWo_3 | exact zT_w zWo_3 rfl | exact zT_o zWo_18 | exact zT_X | exact zT_H | exact zT_S | exact zT_C | exact zT_G | exact zT_N (zNo_w zWo_3) | exact zT_n (zNo_w zWo_3) (by decide) | exact zpT_a (c := 284) rfl | exact zT_L) rfl rfl ?_
  refine z_V1 (q := 11) dX7_progressWithout_8 zkX7_87 zt_mX6_copyFrom rfl (zT_o zWo_18) rfl (Nat.le_of_ble_eq_true rfl) (ct_X6_copyFrom zWo_18 zWo_3 (by omega)) (Nat.zero_le _) (Nat.zero_le _) rfl ?_
  rintro _ _ ⟨rfl, D, rfl, hD⟩
  have hR1 := zCy_R hD hR
  have hS1 := zOut_s hD.2.2.2
  refine z_aload_n (q := 12) dX7_progressWithout_11 rfl rfl ?_
  refine z_get (q := 15) dX7_progressWithout_12 zfX7_23 (by first | exact zT_0 | exact zT_o zWo_3 | exact zT_w zWo_3 rfl | exact zT_o zWo_18 | exact zT_X | exact zT_H | exact zT_S | exact zT_C | exact zT_G | exact zT_N (zNo_w zWo_3) | exact zT_n (zNo_w zWo_3) (by decide) | exact zpT_a (c := 284) rfl | exact zT_L) rfl rfl ?_
  refine z_iload_n (q := 16) dX7_progressWithout_15 rfl rfl ?_
  refine z_V1 (q := 19) dX7_progressWithout_16 zkX7_212 zt_mX6_switchAgent rfl (zT_o zWo_18) rfl (Nat.le_of_ble_eq_true rfl) (ct_X6_switchAgent zWo_18 hR1 ha) (Nat.zero_le _) (Nat.zero_le _) rfl ?_
  rintro _ _ ⟨rfl, D2, rfl, hD2, hO2⟩
  rw [qTog_off hon] at hD2
  refine z_aload_n (q := 20) dX7_progressWithout_19 rfl rfl ?_
  refine z_get (q := 23) dX7_progressWithout_20 zfX7_44 (by first | exact zT_0 | exact zT_o zWo_3 | exact zT_w zWo_3 rfl | exact zT_o zWo_18 | exact zT_X | exact zT_H | exact zT_S | exact zT_C | exact zT_G | exact zT_N (zNo_w zWo_3) | exact zT_n (zNo_w zWo_3) (by decide) | exact zpT_a (c := 284) rfl | exact zT_L) rfl rfl ?_
  refine z_aload_n (q := 24) dX7_progressWithout_23 rfl rfl ?_
  refine z_get (q := 27) dX7_progressWithout_24 zfX7_23 (by first | exact zT_0 | exact zT_o zWo_3 | exact zT_w zWo_3 rfl | exact zT_o zWo_18 | exact zT_X | exact zT_H | exact zT_S | exact zT_C | exact zT_G | exact zT_N (zNo_w zWo_3) | exact zT_n (zNo_w zWo_3) (by decide) | exact zpT_a (c := 284) rfl | exact zT_L) rfl rfl ?_
  refine z_iload_n (q := 28) dX7_progressWithout_27 rfl rfl ?_
  refine z_V2 (q := 31) dX7_progressWithout_28 zkX7_201 zt_mX4_makeSteps rfl zT_S rfl (Nat.le_of_ble_eq_true rfl) (ct_X4_makeSteps zWo_18 hD2 hx) (Nat.zero_le _) (Nat.zero_le _) rfl ?_
  rintro _ _ ⟨rfl, D3, rfl, hD3, hO3⟩
  refine z_aload_n (q := 32) dX7_progressWithout_31 rfl rfl ?_
  refine z_get (q := 35) dX7_progressWithout_32 zfX7_23 (by first | exact zT_0 | exact zT_o zWo_3 | exact zT_w zWo_3 rfl | exact zT_o zWo_18 | exact zT_X | exact zT_H | exact zT_S | exact zT_C | exact zT_G | exact zT_N (zNo_w zWo_3) | exact zT_n (zNo_w zWo_3) (by decide) | exact zpT_a (c := 284) rfl | exact zT_L) rfl rfl ?_
  refine z_v0 (q := 38) dX7_progressWithout_35 zkX7_267 zt_mX6_allProgress rfl (zT_o zWo_18) rfl (Nat.le_of_ble_eq_true rfl) (ct_X6_allProgress zWo_18 hD3) rfl ?_
  exact z_reti dX7_progressWithout_38 rfl (⟨rfl, D3, rfl, fun c hc => (zO2_s hO3 c hc).trans ((zOut_s hO2 c hc).trans (hS1 c hc))⟩)
set_option maxRecDepth 100000 in
set_option maxHeartbeats 4000000 in
theorem cx_X7_worstLoss1 {g : zGl} {h : zHp} {b n K : Nat} {d u : Nat → Nat → Int32} {x : Int32} (hJ : zJo d u n K) (hv : qBt x 1 99 = false) : zX g mX7_worstLoss [.ref b, .int x] (zpT g h b d) "java/lang/IllegalArgumentException" (zXJ g h b u) 1 6 := by
  have hR := hJ.1
  have hn := zR_n6 hR
  have hK := zR_K8 hR
  refine zX_ofA (lv := [some (.ref b), some (.int x), none, none, none, none]) (by decide) rfl (Nat.le_of_ble_eq_true rfl) ?_
  refine z_iload_n (q := 1) dX7_worstLoss_0 rfl rfl ?_
  refine z_iconst (q := 2) dX7_worstLoss_1 zci_1 rfl ?_
  refine z_bipush (q := 4) dX7_worstLoss_2 zcb_99 rfl ?_
  exact z_cSX (av := [.int x, .int (nI 1), .int (nI 99)]) dX7_worstLoss_4 zkX7_64 zw362 zt_mX7_requireBetween rfl rfl (Nat.le_of_ble_eq_true rfl) (cx_X7_requireBetween hv) (by decide) (by decide) (fun _ hh => ⟨d, ⟨n, K, hJ⟩, hh⟩)
set_option maxRecDepth 100000 in
set_option maxHeartbeats 4000000 in
theorem ct_X7_worstLoss0 {g : zGl} {h : zHp} {b n K x : Nat} {d u : Nat → Nat → Int32} (hJ : zJo d u n K) (hx1 : 1 ≤ x) (hx : x ≤ 99) : zC g mX7_worstLoss [.ref b, .int (nI x)] (zpT g h b d) (zRJ g h b u (qT (qLoss (u 3) n K x n).1)) 0 0 := by
  have hR := hJ.1
  have hn := zR_n6 hR
  have hK := zR_K8 hR
  refine zC_ofA (lv := [some (.ref b), some (.int (nI x)), none, none, none, none]) (by decide) rfl (Nat.le_of_ble_eq_true rfl) ?_
  have loop : ∀ r i D l5, i + r = n → (∀ c, c < 18 ∨ (33 ≤ c ∧ c < 276) → D c = d c) → zA g (zZc g mX7_worstLoss (zRJ g h b u (qT (qLoss (u 3) n K x n).1)) 0 0) 0 0 15 [some (.ref b), some (.int (nI x)), some (.int (qT (qLoss (u 3) n K x i).1)), some (.int (qLoss (u 3) n K x i).2), some (.int (nI i)), l5] [] (zpT g h b D) := by
    intro r
    induction r using Nat.strongRecOn with
    | ind r ih =>
      intro i D l5 hi hS
      have hD : zR D 3 (u 3) n K := zR_same (fun c h1 h2 => hS c (by omega)) hR
      by_cases hin : i < n
      · cases hon : qOn (u 3) i with
        | false =>
          refine z_iload (q := 17) dX7_worstLoss_15 rfl rfl ?_
          refine z_aload_n (q := 18) dX7_worstLoss_17 rfl rfl ?_
          refine z_get (q := 21) dX7_worstLoss_18 zfX7_19 (by first | exact zT_0 | exact zT_o zWo_3 | exact zT_w zWo_3 rfl | exact zT_o zWo_18 | exact zT_X | exact zT_H | exact zT_S | exact zT_C | exact zT_G | exact zT_N (zNo_w zWo_3) | exact zT_n (zNo_w zWo_3) (by decide) | exact zpT_a (c := 284) rfl | exact zT_L) rfl rfl ?_
          refine z_get (q := 24) dX7_worstLoss_21 zfX7_94 (by first | exact zT_0 | exact zT_o zWo_3 | exact zT_w zWo_3 rfl | exact zT_o zWo_18 | exact zT_X | exact zT_H | exact zT_S | exact zT_C | exact zT_G | exact zT_N (zNo_w zWo_3) | exact zT_n (zNo_w zWo_3) (by decide) | exact zpT_a (c := 284) rfl | exact zT_L) rfl rfl ?_
          refine z_eqi (zR_0 hD) ?_
          refine z_icmp_geN (tg := 72) (q := 27) dX7_worstLoss_24 rfl rfl (by omega) (by omega) ?_ ?_
          · intro hc24
            omega
          · intro hc24
            refine z_aload_n (q := 28) dX7_worstLoss_27 rfl rfl ?_
            refine z_get (q := 31) dX7_worstLoss_28 zfX7_19 (by first | exact zT_0 | exact zT_o zWo_3 | exact zT_w zWo_3 rfl | exact zT_o zWo_18 | exact zT_X | exact zT_H | exact zT_S | exact zT_C | exact zT_G | exact zT_N (zNo_w zWo_3) | exact zT_n (zNo_w zWo_3) (by decide) | exact zpT_a (c := 284) rfl | exact zT_L) rfl rfl ?_
            refine z_iload (q := 33) dX7_worstLoss_31 rfl rfl ?_
            refine z_v1 (q := 36) dX7_worstLoss_33 zkX7_136 zt_mX6_isOn rfl (by first | exact zT_0 | exact zT_o zWo_3 | exact zT_w zWo_3 rfl | exact zT_o zWo_18 | exact zT_X | exact zT_H | exact zT_S | exact zT_C | exact zT_G | exact zT_N (zNo_w zWo_3) | exact zT_n (zNo_w zWo_3) (by decide) | exact zpT_a (c := 284) rfl | exact zT_L) rfl (Nat.le_of_ble_eq_true rfl) (ct_X6_isOn zWo_3 hD hin) rfl ?_
            refine z_eqi ((congrArg zbi (hon)).trans zbi_f) ?_
            refine z_if_eq (tg := 66) (q := 39) dX7_worstLoss_36 rfl rfl ?_ ?_
            · intro hc36
              refine z_iincN (q := 69) dX7_worstLoss_66 rfl rfl rfl ?_
              refine z_goto (q := 0) (tg := 15) dX7_worstLoss_69 rfl ?_
              have e9 := ih (r - 1) (by omega) (i + 1) D
              rw [qLoss_n hon] at e9
              exact e9 _ (by omega) hS
            · intro hc36
              exact absurd hc36 (by decide)
        | true =>
          cases hq : (qLoss (u 3) n K x i).1 with
          | none =>
            refine z_iload (q := 17) dX7_worstLoss_15 rfl rfl ?_
            refine z_aload_n (q := 18) dX7_worstLoss_17 rfl rfl ?_
            refine z_get (q := 21) dX7_worstLoss_18 zfX7_19 (by first | exact zT_0 | exact zT_o zWo_3 | exact zT_w zWo_3 rfl | exact zT_o zWo_18 | exact zT_X | exact zT_H | exact zT_S | exact zT_C | exact zT_G | exact zT_N (zNo_w zWo_3) | exact zT_n (zNo_w zWo_3) (by decide) | exact zpT_a (c := 284) rfl | exact zT_L) rfl rfl ?_
            refine z_get (q := 24) dX7_worstLoss_21 zfX7_94 (by first | exact zT_0 | exact zT_o zWo_3 | exact zT_w zWo_3 rfl | exact zT_o zWo_18 | exact zT_X | exact zT_H | exact zT_S | exact zT_C | exact zT_G | exact zT_N (zNo_w zWo_3) | exact zT_n (zNo_w zWo_3) (by decide) | exact zpT_a (c := 284) rfl | exact zT_L) rfl rfl ?_
            refine z_eqi (zR_0 hD) ?_
            refine z_icmp_geN (tg := 72) (q := 27) dX7_worstLoss_24 rfl rfl (by omega) (by omega) ?_ ?_
            · intro hc24
              omega
            · intro hc24
              refine z_aload_n (q := 28) dX7_worstLoss_27 rfl rfl ?_
              refine z_get (q := 31) dX7_worstLoss_28 zfX7_19 (by first | exact zT_0 | exact zT_o zWo_3 | exact zT_w zWo_3 rfl | exact zT_o zWo_18 | exact zT_X | exact zT_H | exact zT_S | exact zT_C | exact zT_G | exact zT_N (zNo_w zWo_3) | exact zT_n (zNo_w zWo_3) (by decide) | exact zpT_a (c := 284) rfl | exact zT_L) rfl rfl ?_
              refine z_iload (q := 33) dX7_worstLoss_31 rfl rfl ?_
              refine z_v1 (q := 36) dX7_worstLoss_33 zkX7_136 zt_mX6_isOn rfl (by first | exact zT_0 | exact zT_o zWo_3 | exact zT_w zWo_3 rfl | exact zT_o zWo_18 | exact zT_X | exact zT_H | exact zT_S | exact zT_C | exact zT_G | exact zT_N (zNo_w zWo_3) | exact zT_n (zNo_w zWo_3) (by decide) | exact zpT_a (c := 284) rfl | exact zT_L) rfl (Nat.le_of_ble_eq_true rfl) (ct_X6_isOn zWo_3 hD hin) rfl ?_
              refine z_eqi ((congrArg zbi (hon)).trans zbi_t) ?_
              refine z_if_eq (tg := 66) (q := 39) dX7_worstLoss_36 rfl rfl ?_ ?_
              · intro hc36
                exact absurd hc36 (by decide)
              · intro hc36
                refine z_aload_n (q := 40) dX7_worstLoss_39 rfl rfl ?_
                refine z_iload (q := 42) dX7_worstLoss_40 rfl rfl ?_
                refine z_iload_n (q := 43) dX7_worstLoss_42 rfl rfl ?_
                refine z_V2 (q := 46) dX7_worstLoss_43 zkX7_264 zt_mX7_progressWithout rfl (by first | exact zT_0 | exact zT_o zWo_3 | exact zT_w zWo_3 rfl | exact zT_o zWo_18 | exact zT_X | exact zT_H | exact zT_S | exact zT_C | exact zT_G | exact zT_N (zNo_w zWo_3) | exact zT_n (zNo_w zWo_3) (by decide) | exact zpT_a (c := 284) rfl | exact zT_L) rfl (Nat.le_of_ble_eq_true rfl) (ct_X7_progressWithout hD hin hon (by omega)) (Nat.zero_le _) (Nat.zero_le _) rfl ?_
                rintro _ _ ⟨rfl, D2, rfl, hS2⟩
                refine z_istore (q := 48) dX7_worstLoss_46 (Nat.le_of_ble_eq_true rfl) rfl rfl ?_
                refine z_iload_n (q := 49) dX7_worstLoss_48 rfl rfl ?_
                refine z_eqi (show _ = -9 from rfl) ?_
                refine z_bipush (q := 51) dX7_worstLoss_49 zcb_m9 rfl ?_
                refine z_icmp_eq (tg := 60) (q := 54) dX7_worstLoss_51 rfl rfl ?_ ?_
                · intro hc51
                  refine z_iload (q := 62) dX7_worstLoss_60 rfl rfl ?_
                  refine z_istore_n (q := 63) dX7_worstLoss_62 (Nat.le_of_ble_eq_true rfl) rfl rfl ?_
                  refine z_iload (q := 65) dX7_worstLoss_63 rfl rfl ?_
                  refine z_istore_n (q := 66) dX7_worstLoss_65 (Nat.le_of_ble_eq_true rfl) rfl rfl ?_
                  refine z_iincN (q := 69) dX7_worstLoss_66 rfl rfl rfl ?_
                  refine z_goto (q := 0) (tg := 15) dX7_worstLoss_69 rfl ?_
                  have e9 := ih (r - 1) (by omega) (i + 1) D2
                  rw [qLoss_1 hon hq] at e9
                  exact e9 _ (by omega) (fun c hc => (hS2 c hc).trans (hS c hc))
                · intro hc51
                  exact absurd rfl hc51
          | some k =>
            have hk := qLoss_lt hq
            by_cases hle : (qLoss (u 3) n K x i).2 ≤ qLossP (u 3) n K x i
            · skip
              refine z_iload (q := 17) dX7_worstLoss_15 rfl rfl ?_
              refine z_aload_n (q := 18) dX7_worstLoss_17 rfl rfl ?_
              refine z_get (q := 21) dX7_worstLoss_18 zfX7_19 (by first | exact zT_0 | exact zT_o zWo_3 | exact zT_w zWo_3 rfl | exact zT_o zWo_18 | exact zT_X | exact zT_H | exact zT_S | exact zT_C | exact zT_G | exact zT_N (zNo_w zWo_3) | exact zT_n (zNo_w zWo_3) (by decide) | exact zpT_a (c := 284) rfl | exact zT_L) rfl rfl ?_
              refine z_get (q := 24) dX7_worstLoss_21 zfX7_94 (by first | exact zT_0 | exact zT_o zWo_3 | exact zT_w zWo_3 rfl | exact zT_o zWo_18 | exact zT_X | exact zT_H | exact zT_S | exact zT_C | exact zT_G | exact zT_N (zNo_w zWo_3) | exact zT_n (zNo_w zWo_3) (by decide) | exact zpT_a (c := 284) rfl | exact zT_L) rfl rfl ?_
              refine z_eqi (zR_0 hD) ?_
              refine z_icmp_geN (tg := 72) (q := 27) dX7_worstLoss_24 rfl rfl (by omega) (by omega) ?_ ?_
              · intro hc24
                omega
              · intro hc24
                refine z_aload_n (q := 28) dX7_worstLoss_27 rfl rfl ?_
                refine z_get (q := 31) dX7_worstLoss_28 zfX7_19 (by first | exact zT_0 | exact zT_o zWo_3 | exact zT_w zWo_3 rfl | exact zT_o zWo_18 | exact zT_X | exact zT_H | exact zT_S | exact zT_C | exact zT_G | exact zT_N (zNo_w zWo_3) | exact zT_n (zNo_w zWo_3) (by decide) | exact zpT_a (c := 284) rfl | exact zT_L) rfl rfl ?_
                refine z_iload (q := 33) dX7_worstLoss_31 rfl rfl ?_
                refine z_v1 (q := 36) dX7_worstLoss_33 zkX7_136 zt_mX6_isOn rfl (by first | exact zT_0 | exact zT_o zWo_3 | exact zT_w zWo_3 rfl | exact zT_o zWo_18 | exact zT_X | exact zT_H | exact zT_S | exact zT_C | exact zT_G | exact zT_N (zNo_w zWo_3) | exact zT_n (zNo_w zWo_3) (by decide) | exact zpT_a (c := 284) rfl | exact zT_L) rfl (Nat.le_of_ble_eq_true rfl) (ct_X6_isOn zWo_3 hD hin) rfl ?_
                refine z_eqi ((congrArg zbi (hon)).trans zbi_t) ?_
                refine z_if_eq (tg := 66) (q := 39) dX7_worstLoss_36 rfl rfl ?_ ?_
                · intro hc36
                  exact absurd hc36 (by decide)
                · intro hc36
                  refine z_aload_n (q := 40) dX7_worstLoss_39 rfl rfl ?_
                  refine z_iload (q := 42) dX7_worstLoss_40 rfl rfl ?_
                  refine z_iload_n (q := 43) dX7_worstLoss_42 rfl rfl ?_
                  refine z_V2 (q := 46) dX7_worstLoss_43 zkX7_264 zt_mX7_progressWithout rfl (by first | exact zT_0 | exact zT_o zWo_3 | exact zT_w zWo_3 rfl | exact zT_o zWo_18 | exact zT_X | exact zT_H | exact zT_S | exact zT_C | exact zT_G | exact zT_N (zNo_w zWo_3) | exact zT_n (zNo_w zWo_3) (by decide) | exact zpT_a (c := 284) rfl | exact zT_L) rfl (Nat.le_of_ble_eq_true rfl) (ct_X7_progressWithout hD hin hon (by omega)) (Nat.zero_le _) (Nat.zero_le _) rfl ?_
                  rintro _ _ ⟨rfl, D2, rfl, hS2⟩
                  refine z_istore (q := 48) dX7_worstLoss_46 (Nat.le_of_ble_eq_true rfl) rfl rfl ?_
                  refine z_iload_n (q := 49) dX7_worstLoss_48 rfl rfl ?_
                  refine z_eqi (show _ = nI k from rfl) ?_
                  refine z_bipush (q := 51) dX7_worstLoss_49 zcb_m9 rfl ?_
                  refine z_icmp_eq (tg := 60) (q := 54) dX7_worstLoss_51 rfl rfl ?_ ?_
                  · intro hc51
                    exact absurd hc51 (nI_nm9 (by omega))
                  · intro hc51
                    refine z_iload (q := 56) dX7_worstLoss_54 rfl rfl ?_
                    refine z_iload_n (q := 57) dX7_worstLoss_56 rfl rfl ?_
                    refine z_icmp_ge (tg := 66) (q := 60) dX7_worstLoss_57 rfl rfl ?_ ?_
                    · intro hc57
                      refine z_iincN (q := 69) dX7_worstLoss_66 rfl rfl rfl ?_
                      refine z_goto (q := 0) (tg := 15) dX7_worstLoss_69 rfl ?_
                      have e9 := ih (r - 1) (by omega) (i + 1) D2
                      rw [qLoss_3 hq hle, hq] at e9
                      exact e9 _ (by omega) (fun c hc => (hS2 c hc).trans (hS c hc))
                    · intro hc57
                      exact absurd hle hc57
            · skip
              refine z_iload (q := 17) dX7_worstLoss_15 rfl rfl ?_
              refine z_aload_n (q := 18) dX7_worstLoss_17 rfl rfl ?_
              refine z_get (q := 21) dX7_worstLoss_18 zfX7_19 (by first | exact zT_0 | exact zT_o zWo_3 | exact zT_w zWo_3 rfl | exact zT_o zWo_18 | exact zT_X | exact zT_H | exact zT_S | exact zT_C | exact zT_G | exact zT_N (zNo_w zWo_3) | exact zT_n (zNo_w zWo_3) (by decide) | exact zpT_a (c := 284) rfl | exact zT_L) rfl rfl ?_
              refine z_get (q := 24) dX7_worstLoss_21 zfX7_94 (by first | exact zT_0 | exact zT_o zWo_3 | exact zT_w zWo_3 rfl | exact zT_o zWo_18 | exact zT_X | exact zT_H | exact zT_S | exact zT_C | exact zT_G | exact zT_N (zNo_w zWo_3) | exact zT_n (zNo_w zWo_3) (by decide) | exact zpT_a (c := 284) rfl | exact zT_L) rfl rfl ?_
              refine z_eqi (zR_0 hD) ?_
              refine z_icmp_geN (tg := 72) (q := 27) dX7_worstLoss_24 rfl rfl (by omega) (by omega) ?_ ?_
              · intro hc24
                omega
              · intro hc24
                refine z_aload_n (q := 28) dX7_worstLoss_27 rfl rfl ?_
                refine z_get (q := 31) dX7_worstLoss_28 zfX7_19 (by first | exact zT_0 | exact zT_o zWo_3 | exact zT_w zWo_3 rfl | exact zT_o zWo_18 | exact zT_X | exact zT_H | exact zT_S | exact zT_C | exact zT_G | exact zT_N (zNo_w zWo_3) | exact zT_n (zNo_w zWo_3) (by decide) | exact zpT_a (c := 284) rfl | exact zT_L) rfl rfl ?_
                refine z_iload (q := 33) dX7_worstLoss_31 rfl rfl ?_
                refine z_v1 (q := 36) dX7_worstLoss_33 zkX7_136 zt_mX6_isOn rfl (by first | exact zT_0 | exact zT_o zWo_3 | exact zT_w zWo_3 rfl | exact zT_o zWo_18 | exact zT_X | exact zT_H | exact zT_S | exact zT_C | exact zT_G | exact zT_N (zNo_w zWo_3) | exact zT_n (zNo_w zWo_3) (by decide) | exact zpT_a (c := 284) rfl | exact zT_L) rfl (Nat.le_of_ble_eq_true rfl) (ct_X6_isOn zWo_3 hD hin) rfl ?_
                refine z_eqi ((congrArg zbi (hon)).trans zbi_t) ?_
                refine z_if_eq (tg := 66) (q := 39) dX7_worstLoss_36 rfl rfl ?_ ?_
                · intro hc36
                  exact absurd hc36 (by decide)
                · intro hc36
                  refine z_aload_n (q := 40) dX7_worstLoss_39 rfl rfl ?_
                  refine z_iload (q := 42) dX7_worstLoss_40 rfl rfl ?_
                  refine z_iload_n (q := 43) dX7_worstLoss_42 rfl rfl ?_
                  refine z_V2 (q := 46) dX7_worstLoss_43 zkX7_264 zt_mX7_progressWithout rfl (by first | exact zT_0 | exact zT_o zWo_3 | exact zT_w zWo_3 rfl | exact zT_o zWo_18 | exact zT_X | exact zT_H | exact zT_S | exact zT_C | exact zT_G | exact zT_N (zNo_w zWo_3) | exact zT_n (zNo_w zWo_3) (by decide) | exact zpT_a (c := 284) rfl | exact zT_L) rfl (Nat.le_of_ble_eq_true rfl) (ct_X7_progressWithout hD hin hon (by omega)) (Nat.zero_le _) (Nat.zero_le _) rfl ?_
                  rintro _ _ ⟨rfl, D2, rfl, hS2⟩
                  refine z_istore (q := 48) dX7_worstLoss_46 (Nat.le_of_ble_eq_true rfl) rfl rfl ?_
                  refine z_iload_n (q := 49) dX7_worstLoss_48 rfl rfl ?_
                  refine z_eqi (show _ = nI k from rfl) ?_
                  refine z_bipush (q := 51) dX7_worstLoss_49 zcb_m9 rfl ?_
                  refine z_icmp_eq (tg := 60) (q := 54) dX7_worstLoss_51 rfl rfl ?_ ?_
                  · intro hc51
                    exact absurd hc51 (nI_nm9 (by omega))
                  · intro hc51
                    refine z_iload (q := 56) dX7_worstLoss_54 rfl rfl ?_
                    refine z_iload_n (q := 57) dX7_worstLoss_56 rfl rfl ?_
                    refine z_icmp_ge (tg := 66) (q := 60) dX7_worstLoss_57 rfl rfl ?_ ?_
                    · intro hc57
                      exact absurd hc57 hle
                    · intro hc57
                      refine z_iload (q := 62) dX7_worstLoss_60 rfl rfl ?_
                      refine z_istore_n (q := 63) dX7_worstLoss_62 (Nat.le_of_ble_eq_true rfl) rfl rfl ?_
                      refine z_iload (q := 65) dX7_worstLoss_63 rfl rfl ?_
                      refine z_istore_n (q := 66) dX7_worstLoss_65 (Nat.le_of_ble_eq_true rfl) rfl rfl ?_
                      refine z_iincN (q := 69) dX7_worstLoss_66 rfl rfl rfl ?_
                      refine z_goto (q := 0) (tg := 15) dX7_worstLoss_69 rfl ?_
                      have e9 := ih (r - 1) (by omega) (i + 1) D2
                      rw [qLoss_2 hon hq hle] at e9
                      exact e9 _ (by omega) (fun c hc => (hS2 c hc).trans (hS c hc))
      · obtain rfl : i = n := by omega
        refine z_iload (q := 17) dX7_worstLoss_15 rfl rfl ?_
        refine z_aload_n (q := 18) dX7_worstLoss_17 rfl rfl ?_
        refine z_get (q := 21) dX7_worstLoss_18 zfX7_19 (by first | exact zT_0 | exact zT_o zWo_3 | exact zT_w zWo_3 rfl | exact zT_o zWo_18 | exact zT_X | exact zT_H | exact zT_S | exact zT_C | exact zT_G | exact zT_N (zNo_w zWo_3) | exact zT_n (zNo_w zWo_3) (by decide) | exact zpT_a (c := 284) rfl | exact zT_L) rfl rfl ?_
        refine z_get (q := 24) dX7_worstLoss_21 zfX7_94 (by first | exact zT_0 | exact zT_o zWo_3 | exact zT_w zWo_3 rfl | exact zT_o zWo_18 | exact zT_X | exact zT_H | exact zT_S | exact zT_C | exact zT_G | exact zT_N (zNo_w zWo_3) | exact zT_n (zNo_w zWo_3) (by decide) | exact zpT_a (c := 284) rfl | exact zT_L) rfl rfl ?_
        refine z_eqi (zR_0 hD) ?_
        refine z_icmp_geN (tg := 72) (q := 27) dX7_worstLoss_24 rfl rfl (by omega) (by omega) ?_ ?_
        · intro hc24
          refine z_iload_n (q := 73) dX7_worstLoss_72 rfl rfl ?_
          exact z_reti dX7_worstLoss_73 rfl (⟨rfl, D, rfl, i, K, zJo_same hS hJ⟩)
        · intro hc24
          omega
  refine z_iload_n (q := 1) dX7_worstLoss_0 rfl rfl ?_
  refine z_iconst (q := 2) dX7_worstLoss_1 zci_1 rfl ?_
  refine z_bipush (q := 4) dX7_worstLoss_2 zcb_99 rfl ?_
  refine z_u3 (q := 7) dX7_worstLoss_4 zkX7_64 zt_mX7_requireBetween rfl (Nat.le_of_ble_eq_true rfl) (ct_X7_requireBetween (qBt_i hx1 hx (by decide))) rfl ?_
  refine z_bipush (q := 9) dX7_worstLoss_7 zcb_m9 rfl ?_
  refine z_istore_n (q := 10) dX7_worstLoss_9 (Nat.le_of_ble_eq_true rfl) rfl rfl ?_
  refine z_iconst (q := 11) dX7_worstLoss_10 zci_0 rfl ?_
  refine z_istore_n (q := 12) dX7_worstLoss_11 (Nat.le_of_ble_eq_true rfl) rfl rfl ?_
  refine z_iconst (q := 13) dX7_worstLoss_12 zci_0 rfl ?_
  refine z_istore (q := 15) dX7_worstLoss_13 (Nat.le_of_ble_eq_true rfl) rfl rfl ?_
  exact loop n 0 d _ (by omega) (fun _ _ => rfl)
set_option maxRecDepth 100000 in
set_option maxHeartbeats 4000000 in
theorem cx_X7_bestShare1 {g : zGl} {h : zHp} {b n K : Nat} {d u : Nat → Nat → Int32} {x : Int32} (hJ : zJo d u n K) (hx : ¬ x = -1) (hv : qHas x n = false) : zX g mX7_bestShare [.ref b, .int x] (zpT g h b d) "java/lang/IndexOutOfBoundsException" (zXJ g h b u) 1 6 := by
  have hR := hJ.1
  have hn := zR_n6 hR
  have hK := zR_K8 hR
  refine zX_ofA (lv := [some (.ref b), some (.int x)]) (by decide) rfl (Nat.le_of_ble_eq_true rfl) ?_
  refine z_iload_n (q := 1) dX7_bestShare_0 rfl rfl ?_
  refine z_iconst (q := 2) dX7_bestShare_1 zci_m1 rfl ?_
  refine z_icmp_eq (tg := 16) (q := 5) dX7_bestShare_2 rfl rfl ?_ ?_
  · intro hc2
    exact absurd hc2 hx
  · intro hc2
    refine z_aload_n (q := 6) dX7_bestShare_5 rfl rfl ?_
    refine z_get (q := 9) dX7_bestShare_6 zfX7_19 (by first | exact zT_0 | exact zT_o zWo_3 | exact zT_w zWo_3 rfl | exact zT_o zWo_18 | exact zT_X | exact zT_H | exact zT_S | exact zT_C | exact zT_G | exact zT_N (zNo_w zWo_3) | exact zT_n (zNo_w zWo_3) (by decide) | exact zpT_a (c := 284) rfl | exact zT_L) rfl rfl ?_
    refine z_iload_n (q := 10) dX7_bestShare_9 rfl rfl ?_
    refine z_v1 (q := 13) dX7_bestShare_10 zkX7_119 zt_mX6_hasAgent rfl (by first | exact zT_0 | exact zT_o zWo_3 | exact zT_w zWo_3 rfl | exact zT_o zWo_18 | exact zT_X | exact zT_H | exact zT_S | exact zT_C | exact zT_G | exact zT_N (zNo_w zWo_3) | exact zT_n (zNo_w zWo_3) (by decide) | exact zpT_a (c := 284) rfl | exact zT_L) rfl (Nat.le_of_ble_eq_true rfl) (ct_X6_hasAgent zWo_3 (zR_0 hR)) rfl ?_
    refine z_eqi ((congrArg zbi (hv)).trans zbi_f) ?_
    refine z_if_eq (tg := 20) (q := 16) dX7_bestShare_13 rfl rfl ?_ ?_
    · intro hc13
      refine z_iconst (q := 21) dX7_bestShare_20 zci_0 rfl ?_
      exact z_cSX (av := [.int (nI 0)]) dX7_bestShare_21 zkX7_123 zw513 zt_mX7_requireIndex rfl rfl (Nat.le_of_ble_eq_true rfl) cx_X7_requireIndex (by decide) (by decide) (fun _ hh => ⟨d, ⟨n, K, hJ⟩, hh⟩)
    · intro hc13
      exact absurd hc13 (by decide)
set_option maxRecDepth 100000 in
set_option maxHeartbeats 4000000 in
theorem ct_X7_bestShare0 {g : zGl} {h : zHp} {b n K : Nat} {d u : Nat → Nat → Int32} (hJ : zJo d u n K) : zC g mX7_bestShare [.ref b, .int (-1)] (zpT g h b d) (zRJ g h b u (qSh (u 3) n K (u 11)).2.1) 0 0 := by
  have hR := hJ.1
  have hn := zR_n6 hR
  have hK := zR_K8 hR
  refine zC_ofA (lv := [some (.ref b), some (.int (-1))]) (by decide) rfl (Nat.le_of_ble_eq_true rfl) ?_
  refine z_iload_n (q := 1) dX7_bestShare_0 rfl rfl ?_
  refine z_iconst (q := 2) dX7_bestShare_1 zci_m1 rfl ?_
  refine z_icmp_eq (tg := 16) (q := 5) dX7_bestShare_2 rfl rfl ?_ ?_
  · intro hc2
    refine z_iconst (q := 17) dX7_bestShare_16 zci_1 rfl ?_
    refine z_goto (q := 0) (tg := 21) dX7_bestShare_17 rfl ?_
    refine z_u1 (q := 24) dX7_bestShare_21 zkX7_123 zt_mX7_requireIndex rfl (Nat.le_of_ble_eq_true rfl) (ct_X7_requireIndex) rfl ?_
    refine z_aload_n (q := 25) dX7_bestShare_24 rfl rfl ?_
    refine z_get (q := 28) dX7_bestShare_25 zfX7_60 (by first | exact zT_0 | exact zT_o zWo_3 | exact zT_w zWo_3 rfl | exact zT_o zWo_18 | exact zT_X | exact zT_H | exact zT_S | exact zT_C | exact zT_G | exact zT_N (zNo_w zWo_3) | exact zT_n (zNo_w zWo_3) (by decide) | exact zpT_a (c := 284) rfl | exact zT_L) rfl rfl ?_
    refine z_aload_n (q := 29) dX7_bestShare_28 rfl rfl ?_
    refine z_get (q := 32) dX7_bestShare_29 zfX7_19 (by first | exact zT_0 | exact zT_o zWo_3 | exact zT_w zWo_3 rfl | exact zT_o zWo_18 | exact zT_X | exact zT_H | exact zT_S | exact zT_C | exact zT_G | exact zT_N (zNo_w zWo_3) | exact zT_n (zNo_w zWo_3) (by decide) | exact zpT_a (c := 284) rfl | exact zT_L) rfl rfl ?_
    refine z_V1 (q := 35) dX7_bestShare_32 zkX7_270 zt_mX3_findBest rfl zT_G rfl (Nat.le_of_ble_eq_true rfl) (ct_X3_findBest hR) (Nat.zero_le _) (Nat.zero_le _) rfl ?_
    rintro _ _ ⟨rfl, D, rfl, hO, hs1, hs2⟩
    refine z_iload_n (q := 36) dX7_bestShare_35 rfl rfl ?_
    refine z_iconst (q := 37) dX7_bestShare_36 zci_m1 rfl ?_
    refine z_icmp_ne (tg := 50) (q := 40) dX7_bestShare_37 rfl rfl ?_ ?_
    · intro hc37
      exact absurd rfl hc37
    · intro hc37
      refine z_aload_n (q := 41) dX7_bestShare_40 rfl rfl ?_
      refine z_get (q := 44) dX7_bestShare_41 zfX7_60 (by first | exact zT_0 | exact zT_o zWo_3 | exact zT_w zWo_3 rfl | exact zT_o zWo_18 | exact zT_X | exact zT_H | exact zT_S | exact zT_C | exact zT_G | exact zT_N (zNo_w zWo_3) | exact zT_n (zNo_w zWo_3) (by decide) | exact zpT_a (c := 284) rfl | exact zT_L) rfl rfl ?_
      refine z_get (q := 47) dX7_bestShare_44 zfX7_273 (by first | exact zT_0 | exact zT_o zWo_3 | exact zT_w zWo_3 rfl | exact zT_o zWo_18 | exact zT_X | exact zT_H | exact zT_S | exact zT_C | exact zT_G | exact zT_N (zNo_w zWo_3) | exact zT_n (zNo_w zWo_3) (by decide) | exact zpT_a (c := 284) rfl | exact zT_L) rfl rfl ?_
      refine z_eqi hs1 ?_
      refine z_goto (q := 0) (tg := 59) dX7_bestShare_47 rfl ?_
      exact z_reti dX7_bestShare_59 rfl (⟨by rw [(qSh_v hR.1).1], D, rfl, n, K, zJo_same (fun c hc => hO c (by omega)) hJ⟩)
  · intro hc2
    exact absurd rfl hc2
theorem nI_m1 {k : Nat} (hk : k < 2 ^ 31) : ¬ nI k = -1 := by
  intro h
  have h2 := congrArg Int32.toInt h
  rw [nI_toInt hk, show (-1 : Int32).toInt = -1 by decide] at h2
  omega
set_option maxRecDepth 100000 in
set_option maxHeartbeats 4000000 in
theorem ct_X7_bestShare2 {g : zGl} {h : zHp} {b n K x : Nat} {d u : Nat → Nat → Int32} (hJ : zJo d u n K) (ha : x < n) : zC g mX7_bestShare [.ref b, .int (nI x)] (zpT g h b d) (zRJ g h b u (if (qSh (u 3) n K (u 11)).2.2 x = nI 8 then -9 else (qSh (u 3) n K (u 11)).2.2 x)) 0 0 := by
  have hR := hJ.1
  have hn := zR_n6 hR
  have hK := zR_K8 hR
  refine zC_ofA (lv := [some (.ref b), some (.int (nI x))]) (by decide) rfl (Nat.le_of_ble_eq_true rfl) ?_
  refine z_iload_n (q := 1) dX7_bestShare_0 rfl rfl ?_
  refine z_iconst (q := 2) dX7_bestShare_1 zci_m1 rfl ?_
  refine z_icmp_eq (tg := 16) (q := 5) dX7_bestShare_2 rfl rfl ?_ ?_
  · intro hc2
    exact absurd hc2 (nI_m1 (by omega))
  · intro hc2
    refine z_aload_n (q := 6) dX7_bestShare_5 rfl rfl ?_
    refine z_get (q := 9) dX7_bestShare_6 zfX7_19 (by first | exact zT_0 | exact zT_o zWo_3 | exact zT_w zWo_3 rfl | exact zT_o zWo_18 | exact zT_X | exact zT_H | exact zT_S | exact zT_C | exact zT_G | exact zT_N (zNo_w zWo_3) | exact zT_n (zNo_w zWo_3) (by decide) | exact zpT_a (c := 284) rfl | exact zT_L) rfl rfl ?_
    refine z_iload_n (q := 10) dX7_bestShare_9 rfl rfl ?_
    refine z_v1 (q := 13) dX7_bestShare_10 zkX7_119 zt_mX6_hasAgent rfl (by first | exact zT_0 | exact zT_o zWo_3 | exact zT_w zWo_3 rfl | exact zT_o zWo_18 | exact zT_X | exact zT_H | exact zT_S | exact zT_C | exact zT_G | exact zT_N (zNo_w zWo_3) | exact zT_n (zNo_w zWo_3) (by decide) | exact zpT_a (c := 284) rfl | exact zT_L) rfl (Nat.le_of_ble_eq_true rfl) (ct_X6_hasAgent zWo_3 (zR_0 hR)) rfl ?_
    refine z_eqi ((congrArg zbi ((qHas_i ha (by omega)))).trans zbi_t) ?_
    refine z_if_eq (tg := 20) (q := 16) dX7_bestShare_13 rfl rfl ?_ ?_
    · intro hc13
      exact absurd hc13 (by decide)
    · intro hc13
      refine z_iconst (q := 17) dX7_bestShare_16 zci_1 rfl ?_
      refine z_goto (q := 0) (tg := 21) dX7_bestShare_17 rfl ?_
      refine z_u1 (q := 24) dX7_bestShare_21 zkX7_123 zt_mX7_requireIndex rfl (Nat.le_of_ble_eq_true rfl) (ct_X7_requireIndex) rfl ?_
      refine z_aload_n (q := 25) dX7_bestShare_24 rfl rfl ?_
      refine z_get (q := 28) dX7_bestShare_25 zfX7_60 (by first | exact zT_0 | exact zT_o zWo_3 | exact zT_w zWo_3 rfl | exact zT_o zWo_18 | exact zT_X | exact zT_H | exact zT_S | exact zT_C | exact zT_G | exact zT_N (zNo_w zWo_3) | exact zT_n (zNo_w zWo_3) (by decide) | exact zpT_a (c := 284) rfl | exact zT_L) rfl rfl ?_
      refine z_aload_n (q := 29) dX7_bestShare_28 rfl rfl ?_
      refine z_get (q := 32) dX7_bestShare_29 zfX7_19 (by first | exact zT_0 | exact zT_o zWo_3 | exact zT_w zWo_3 rfl | exact zT_o zWo_18 | exact zT_X | exact zT_H | exact zT_S | exact zT_C | exact zT_G | exact zT_N (zNo_w zWo_3) | exact zT_n (zNo_w zWo_3) (by decide) | exact zpT_a (c := 284) rfl | exact zT_L) rfl rfl ?_
      refine z_V1 (q := 35) dX7_bestShare_32 zkX7_270 zt_mX3_findBest rfl zT_G rfl (Nat.le_of_ble_eq_true rfl) (ct_X3_findBest hR) (Nat.zero_le _) (Nat.zero_le _) rfl ?_
      rintro _ _ ⟨rfl, D, rfl, hO, hs1, hs2⟩
      refine z_iload_n (q := 36) dX7_bestShare_35 rfl rfl ?_
      refine z_iconst (q := 37) dX7_bestShare_36 zci_m1 rfl ?_
      refine z_icmp_ne (tg := 50) (q := 40) dX7_bestShare_37 rfl rfl ?_ ?_
      · intro hc37
        refine z_aload_n (q := 51) dX7_bestShare_50 rfl rfl ?_
        refine z_get (q := 54) dX7_bestShare_51 zfX7_60 (by first | exact zT_0 | exact zT_o zWo_3 | exact zT_w zWo_3 rfl | exact zT_o zWo_18 | exact zT_X | exact zT_H | exact zT_S | exact zT_C | exact zT_G | exact zT_N (zNo_w zWo_3) | exact zT_n (zNo_w zWo_3) (by decide) | exact zpT_a (c := 284) rfl | exact zT_L) rfl rfl ?_
        refine z_get (q := 57) dX7_bestShare_54 zfX7_276 (by first | exact zT_0 | exact zT_o zWo_3 | exact zT_w zWo_3 rfl | exact zT_o zWo_18 | exact zT_X | exact zT_H | exact zT_S | exact zT_C | exact zT_G | exact zT_N (zNo_w zWo_3) | exact zT_n (zNo_w zWo_3) (by decide) | exact zpT_a (c := 284) rfl | exact zT_L) rfl rfl ?_
        refine z_iload_n (q := 58) dX7_bestShare_57 rfl rfl ?_
        refine z_iald (q := 59) dX7_bestShare_58 (by first | exact zT_0 | exact zT_o zWo_3 | exact zT_w zWo_3 rfl | exact zT_o zWo_18 | exact zT_X | exact zT_H | exact zT_S | exact zT_C | exact zT_G | exact zT_N (zNo_w zWo_3) | exact zT_n (zNo_w zWo_3) (by decide) | exact zpT_a (c := 284) rfl | exact zT_L) (by omega) (by omega) rfl ?_
        refine z_eqi (hs2 x ha) ?_
        exact z_reti dX7_bestShare_59 rfl (⟨by rw [(qSh_v hR.1).2]; rfl, D, rfl, n, K, zJo_same (fun c hc => hO c (by omega)) hJ⟩)
      · intro hc37
        exact absurd hc37 (nI_m1 (by omega))
set_option maxRecDepth 100000 in
set_option maxHeartbeats 4000000 in
theorem cx_X7_save1 {g : zGl} {h : zHp} {b n K : Nat} {d u : Nat → Nat → Int32} {x : Int32} (hJ : zJo d u n K) (hv : qBt x 0 1 = false) : zX g mX7_save [.ref b, .int x] (zpT g h b d) "java/lang/IndexOutOfBoundsException" (zXJ g h b u) 1 6 := by
  have hR := hJ.1
  have hn := zR_n6 hR
  have hK := zR_K8 hR
  have hq := qBt_0 hv
  refine zX_ofA (lv := [some (.ref b), some (.int x)]) (by decide) rfl (Nat.le_of_ble_eq_true rfl) ?_
  refine z_iload_n (q := 1) dX7_save_0 rfl rfl ?_
  refine z_if_lt (tg := 13) (q := 4) dX7_save_1 rfl rfl ?_ ?_
  · intro hc1
    refine z_iconst (q := 14) dX7_save_13 zci_0 rfl ?_
    exact z_cSX (av := [.int (nI 0)]) dX7_save_14 zkX7_123 zw513 zt_mX7_requireIndex rfl rfl (Nat.le_of_ble_eq_true rfl) cx_X7_requireIndex (by decide) (by decide) (fun _ hh => ⟨d, ⟨n, K, hJ⟩, hh⟩)
  · intro hc1
    refine z_iload_n (q := 5) dX7_save_4 rfl rfl ?_
    refine z_iconst (q := 6) dX7_save_5 zci_2 rfl ?_
    refine z_icmp_ge (tg := 13) (q := 9) dX7_save_6 rfl rfl ?_ ?_
    · intro hc6
      refine z_iconst (q := 14) dX7_save_13 zci_0 rfl ?_
      exact z_cSX (av := [.int (nI 0)]) dX7_save_14 zkX7_123 zw513 zt_mX7_requireIndex rfl rfl (Nat.le_of_ble_eq_true rfl) cx_X7_requireIndex (by decide) (by decide) (fun _ hh => ⟨d, ⟨n, K, hJ⟩, hh⟩)
    · intro hc6
      exact absurd (hq hc1) (by rw [Int32.lt_iff_toInt_lt, nI_toInt (by decide)] at *; have e2 : x < nI 2 := Int32.not_le.mp hc6; rw [Int32.lt_iff_toInt_lt, nI_toInt (by decide)] at e2; omega)
set_option maxRecDepth 100000 in
set_option maxHeartbeats 4000000 in
theorem ct_X7_save0 {g : zGl} {h : zHp} {b n K s : Nat} {d u : Nat → Nat → Int32} (hJ : zJo d u n K) (hs : s ≤ 1) : zC g mX7_save [.ref b, .int (nI s)] (zpT g h b d) (zRJ g h b (va_up (va_up u 8 (va_up (u 8) s (nI 1))) 7 (va_cpy (u 3) (u 7) 0 (264 * s) 264)) (u 3 2)) 0 0 := by
  have hR := hJ.1
  have hn := zR_n6 hR
  have hK := zR_K8 hR
  obtain ⟨F, hF4, hF, -⟩ := hJ.2.2.2
  have hws : zWo (246 + 15 * s) := by
    rcases (show s = 0 ∨ s = 1 by omega) with rfl | rfl
    · exact Or.inr (Or.inr (Or.inr (Or.inl rfl)))
    · exact Or.inr (Or.inr (Or.inr (Or.inr rfl)))
  refine zC_ofA (lv := [some (.ref b), some (.int (nI s))]) (by decide) rfl (Nat.le_of_ble_eq_true rfl) ?_
  refine z_iload_n (q := 1) dX7_save_0 rfl rfl ?_
  refine z_if_lt (tg := 13) (q := 4) dX7_save_1 rfl rfl ?_ ?_
  · intro hc1
    exact absurd hc1 (nI_pos (by omega))
  · intro hc1
    refine z_iload_n (q := 5) dX7_save_4 rfl rfl ?_
    refine z_iconst (q := 6) dX7_save_5 zci_2 rfl ?_
    refine z_icmp_geN (tg := 13) (q := 9) dX7_save_6 rfl rfl (by omega) (by omega) ?_ ?_
    · intro hc6
      omega
    · intro hc6
      refine z_iconst (q := 10) dX7_save_9 zci_1 rfl ?_
      refine z_goto (q := 0) (tg := 14) dX7_save_10 rfl ?_
      refine z_u1 (q := 17) dX7_save_14 zkX7_123 zt_mX7_requireIndex rfl (Nat.le_of_ble_eq_true rfl) (ct_X7_requireIndex) rfl ?_
      refine z_aload_n (q := 18) dX7_save_17 rfl rfl ?_
      refine z_get (q := 21) dX7_save_18 zfX7_33 (by first | exact zT_0 | exact zT_o zWo_3 | exact zT_w zWo_3 rfl | exact zT_o zWo_18 | exact zT_X | exact zT_H | exact zT_S | exact zT_C | exact zT_G | exact zT_N (zNo_w zWo_3) | exact zT_n (zNo_w zWo_3) (by decide) | exact zpT_a (c := 284) rfl | exact zT_L) rfl rfl ?_
      refine z_iload_n (q := 22) dX7_save_21 rfl rfl ?_
      refine z_aald (q := 23) (x := b + (246 + 15 * s)) dX7_save_22 zT_L (by decide) (by omega) rfl rfl ?_
      refine z_aload_n (q := 24) dX7_save_23 rfl rfl ?_
      refine z_get (q := 27) dX7_save_24 zfX7_19 (by first | exact zT_0 | exact zT_o zWo_3 | exact zT_w zWo_3 rfl | exact zT_o zWo_18 | exact zT_X | exact zT_H | exact zT_S | exact zT_C | exact zT_G | exact zT_N (zNo_w zWo_3) | exact zT_n (zNo_w zWo_3) (by decide) | exact zpT_a (c := 284) rfl | exact zT_L) rfl rfl ?_
      refine z_V1 (q := 30) dX7_save_27 zkX7_87 zt_mX6_copyFrom rfl (zT_o hws) rfl (Nat.le_of_ble_eq_true rfl) (ct_X6_copyFrom hws zWo_3 (by omega)) (Nat.zero_le _) (Nat.zero_le _) rfl ?_
      rintro _ _ ⟨rfl, D, rfl, hD⟩
      refine z_aload_n (q := 31) dX7_save_30 rfl rfl ?_
      refine z_dup (q := 32) dX7_save_31 rfl rfl ?_
      refine z_get (q := 35) dX7_save_32 zfX7_37 (by first | exact zT_0 | exact zT_o zWo_3 | exact zT_w zWo_3 rfl | exact zT_o zWo_18 | exact zT_X | exact zT_H | exact zT_S | exact zT_C | exact zT_G | exact zT_N (zNo_w zWo_3) | exact zT_n (zNo_w zWo_3) (by decide) | exact zpT_a (c := 284) rfl | exact zT_L) rfl rfl ?_
      refine z_eqi (show _ = nI F by rw [hD.2.2.2 0 (by omega)]; exact hF) ?_
      refine z_iconst (q := 36) dX7_save_35 zci_1 rfl ?_
      refine z_iload_n (q := 37) dX7_save_36 rfl rfl ?_
      refine z_ishl (q := 38) dX7_save_37 rfl ?_
      refine z_eqi (nI_shl (by omega)) ?_
      refine z_ior (q := 39) dX7_save_38 rfl ?_
      refine z_eqi (nI_or _ _) ?_
      refine z_put0 (q := 42) dX7_save_39 zfX7_37 rfl ?_
      refine z_aload_n (q := 43) dX7_save_42 rfl rfl ?_
      refine z_get (q := 46) dX7_save_43 zfX7_19 (by first | exact zT_0 | exact zT_o zWo_3 | exact zT_w zWo_3 rfl | exact zT_o zWo_18 | exact zT_X | exact zT_H | exact zT_S | exact zT_C | exact zT_G | exact zT_N (zNo_w zWo_3) | exact zT_n (zNo_w zWo_3) (by decide) | exact zpT_a (c := 284) rfl | exact zT_L) rfl rfl ?_
      refine z_get (q := 49) dX7_save_46 zfX7_100 (by first | exact zT_0 | exact zT_o zWo_3 | exact zT_w zWo_3 rfl | exact zT_o zWo_18 | exact zT_X | exact zT_H | exact zT_S | exact zT_C | exact zT_G | exact zT_N (zNo_w zWo_3) | exact zT_n (zNo_w zWo_3) (by decide) | exact zpT_a (c := 284) rfl | exact zT_L) rfl rfl ?_
      refine z_eqi (show _ = u 3 2 by rw [zu_ne (by decide), hD.2.2.2 3 (by omega)]; exact zR_3 hR) ?_
      exact z_reti dX7_save_49 rfl (⟨rfl, _, rfl, n, K, zJo_save hJ hs hF hF4 (by rw [zu_eq, zu_eq]) (Or.inr ⟨D, hD, fun q hq => zu_ne hq⟩)⟩)
set_option maxRecDepth 100000 in
set_option maxHeartbeats 4000000 in
theorem cx_X7_restore1 {g : zGl} {h : zHp} {b n K : Nat} {d u : Nat → Nat → Int32} {x : Int32} (hJ : zJo d u n K) (hv : qBt x 0 1 = false) : zX g mX7_restore [.ref b, .int x] (zpT g h b d) "java/lang/IndexOutOfBoundsException" (zXJ g h b u) 1 6 := by
  have hR := hJ.1
  have hn := zR_n6 hR
  have hK := zR_K8 hR
  have hq := qBt_0 hv
  refine zX_ofA (lv := [some (.ref b), some (.int x)]) (by decide) rfl (Nat.le_of_ble_eq_true rfl) ?_
  refine z_iload_n (q := 1) dX7_restore_0 rfl rfl ?_
  refine z_if_lt (tg := 13) (q := 4) dX7_restore_1 rfl rfl ?_ ?_
  · intro hc1
    refine z_iconst (q := 14) dX7_restore_13 zci_0 rfl ?_
    exact z_cSX (av := [.int (nI 0)]) dX7_restore_14 zkX7_123 zw513 zt_mX7_requireIndex rfl rfl (Nat.le_of_ble_eq_true rfl) cx_X7_requireIndex (by decide) (by decide) (fun _ hh => ⟨d, ⟨n, K, hJ⟩, hh⟩)
  · intro hc1
    refine z_iload_n (q := 5) dX7_restore_4 rfl rfl ?_
    refine z_iconst (q := 6) dX7_restore_5 zci_2 rfl ?_
    refine z_icmp_ge (tg := 13) (q := 9) dX7_restore_6 rfl rfl ?_ ?_
    · intro hc6
      refine z_iconst (q := 14) dX7_restore_13 zci_0 rfl ?_
      exact z_cSX (av := [.int (nI 0)]) dX7_restore_14 zkX7_123 zw513 zt_mX7_requireIndex rfl rfl (Nat.le_of_ble_eq_true rfl) cx_X7_requireIndex (by decide) (by decide) (fun _ hh => ⟨d, ⟨n, K, hJ⟩, hh⟩)
    · intro hc6
      exact absurd (hq hc1) (by rw [Int32.lt_iff_toInt_lt, nI_toInt (by decide)] at *; have e2 : x < nI 2 := Int32.not_le.mp hc6; rw [Int32.lt_iff_toInt_lt, nI_toInt (by decide)] at e2; omega)
set_option maxRecDepth 100000 in
set_option maxHeartbeats 4000000 in
theorem cx_X7_restore2 {g : zGl} {h : zHp} {b n K s : Nat} {d u : Nat → Nat → Int32} (hJ : zJo d u n K) (hs : s ≤ 1) (hk : u 8 s = nI 0) : zX g mX7_restore [.ref b, .int (nI s)] (zpT g h b d) "java/lang/IllegalStateException" (zXJ g h b u) 1 6 := by
  have hR := hJ.1
  have hn := zR_n6 hR
  have hK := zR_K8 hR
  obtain ⟨F, hF4, hF, hFs⟩ := hJ.2.2.2
  have hb : F.testBit s = false := (hFs s hs).elim (fun hh => absurd (hk.symm.trans hh.2.1) nI01) (fun hh => hh.1)
  refine zX_ofA (lv := [some (.ref b), some (.int (nI s))]) (by decide) rfl (Nat.le_of_ble_eq_true rfl) ?_
  refine z_iload_n (q := 1) dX7_restore_0 rfl rfl ?_
  refine z_if_lt (tg := 13) (q := 4) dX7_restore_1 rfl rfl ?_ ?_
  · intro hc1
    exact absurd hc1 (nI_pos (by omega))
  · intro hc1
    refine z_iload_n (q := 5) dX7_restore_4 rfl rfl ?_
    refine z_iconst (q := 6) dX7_restore_5 zci_2 rfl ?_
    refine z_icmp_geN (tg := 13) (q := 9) dX7_restore_6 rfl rfl (by omega) (by omega) ?_ ?_
    · intro hc6
      omega
    · intro hc6
      refine z_iconst (q := 10) dX7_restore_9 zci_1 rfl ?_
      refine z_goto (q := 0) (tg := 14) dX7_restore_10 rfl ?_
      refine z_u1 (q := 17) dX7_restore_14 zkX7_123 zt_mX7_requireIndex rfl (Nat.le_of_ble_eq_true rfl) (ct_X7_requireIndex) rfl ?_
      refine z_aload_n (q := 18) dX7_restore_17 rfl rfl ?_
      refine z_get (q := 21) dX7_restore_18 zfX7_37 (by first | exact zT_0 | exact zT_o zWo_3 | exact zT_w zWo_3 rfl | exact zT_o zWo_18 | exact zT_X | exact zT_H | exact zT_S | exact zT_C | exact zT_G | exact zT_N (zNo_w zWo_3) | exact zT_n (zNo_w zWo_3) (by decide) | exact zpT_a (c := 284) rfl | exact zT_L) rfl rfl ?_
      refine z_eqi hF ?_
      refine z_iload_n (q := 22) dX7_restore_21 rfl rfl ?_
      refine z_s2 (q := 25) dX7_restore_22 zkX7_240 zt_mX7_isIn rfl (Nat.le_of_ble_eq_true rfl) (ct_X7_isIn (by omega) (by omega)) rfl ?_
      refine z_eqi ((congrArg zbi (hb)).trans zbi_f) ?_
      exact z_cSX (av := [.int (nI 0)]) dX7_restore_25 zkX7_72 zw440 zt_mX7_requireState rfl rfl (Nat.le_of_ble_eq_true rfl) cx_X7_requireState (by decide) (by decide) (fun _ hh => ⟨d, ⟨n, K, hJ⟩, hh⟩)
set_option maxRecDepth 100000 in
set_option maxHeartbeats 4000000 in
theorem ct_X7_restore0 {g : zGl} {h : zHp} {b n K s : Nat} {d u : Nat → Nat → Int32} (hJ : zJo d u n K) (hs : s ≤ 1) (hk : u 8 s = nI 1) : zC g mX7_restore [.ref b, .int (nI s)] (zpT g h b d) (zRJ g h b (va_up (va_up u 3 (va_cpy (u 7) (u 3) (264 * s) 0 264)) 0 (va_up (u 0) 9 (nI 0))) (u 7 (264 * s + 2))) 0 0 := by
  have hR := hJ.1
  have hn := zR_n6 hR
  have hK := zR_K8 hR
  obtain ⟨F, hF4, hF, hFs⟩ := hJ.2.2.2
  obtain ⟨hb, -, n2, K2, hl⟩ := (hFs s hs).resolve_right (fun hh => absurd (hh.2.symm.trans hk) nI01)
  have hws : zWo (246 + 15 * s) := by
    rcases (show s = 0 ∨ s = 1 by omega) with rfl | rfl
    · exact Or.inr (Or.inr (Or.inr (Or.inl rfl)))
    · exact Or.inr (Or.inr (Or.inr (Or.inr rfl)))
  refine zC_ofA (lv := [some (.ref b), some (.int (nI s))]) (by decide) rfl (Nat.le_of_ble_eq_true rfl) ?_
  refine z_iload_n (q := 1) dX7_restore_0 rfl rfl ?_
  refine z_if_lt (tg := 13) (q := 4) dX7_restore_1 rfl rfl ?_ ?_
  · intro hc1
    exact absurd hc1 (nI_pos (by omega))
  · intro hc1
    refine z_iload_n (q := 5) dX7_restore_4 rfl rfl ?_
    refine z_iconst (q := 6) dX7_restore_5 zci_2 rfl ?_
    refine z_icmp_geN (tg := 13) (q := 9) dX7_restore_6 rfl rfl (by omega) (by omega) ?_ ?_
    · intro hc6
      omega
    · intro hc6
      refine z_iconst (q := 10) dX7_restore_9 zci_1 rfl ?_
      refine z_goto (q := 0) (tg := 14) dX7_restore_10 rfl ?_
      refine z_u1 (q := 17) dX7_restore_14 zkX7_123 zt_mX7_requireIndex rfl (Nat.le_of_ble_eq_true rfl) (ct_X7_requireIndex) rfl ?_
      refine z_aload_n (q := 18) dX7_restore_17 rfl rfl ?_
      refine z_get (q := 21) dX7_restore_18 zfX7_37 (by first | exact zT_0 | exact zT_o zWo_3 | exact zT_w zWo_3 rfl | exact zT_o zWo_18 | exact zT_X | exact zT_H | exact zT_S | exact zT_C | exact zT_G | exact zT_N (zNo_w zWo_3) | exact zT_n (zNo_w zWo_3) (by decide) | exact zpT_a (c := 284) rfl | exact zT_L) rfl rfl ?_
      refine z_eqi hF ?_
      refine z_iload_n (q := 22) dX7_restore_21 rfl rfl ?_
      refine z_s2 (q := 25) dX7_restore_22 zkX7_240 zt_mX7_isIn rfl (Nat.le_of_ble_eq_true rfl) (ct_X7_isIn (by omega) (by omega)) rfl ?_
      refine z_eqi ((congrArg zbi (hb)).trans zbi_t) ?_
      refine z_u1 (q := 28) dX7_restore_25 zkX7_72 zt_mX7_requireState rfl (Nat.le_of_ble_eq_true rfl) (ct_X7_requireState) rfl ?_
      refine z_aload_n (q := 29) dX7_restore_28 rfl rfl ?_
      refine z_get (q := 32) dX7_restore_29 zfX7_19 (by first | exact zT_0 | exact zT_o zWo_3 | exact zT_w zWo_3 rfl | exact zT_o zWo_18 | exact zT_X | exact zT_H | exact zT_S | exact zT_C | exact zT_G | exact zT_N (zNo_w zWo_3) | exact zT_n (zNo_w zWo_3) (by decide) | exact zpT_a (c := 284) rfl | exact zT_L) rfl rfl ?_
      refine z_aload_n (q := 33) dX7_restore_32 rfl rfl ?_
      refine z_get (q := 36) dX7_restore_33 zfX7_33 (by first | exact zT_0 | exact zT_o zWo_3 | exact zT_w zWo_3 rfl | exact zT_o zWo_18 | exact zT_X | exact zT_H | exact zT_S | exact zT_C | exact zT_G | exact zT_N (zNo_w zWo_3) | exact zT_n (zNo_w zWo_3) (by decide) | exact zpT_a (c := 284) rfl | exact zT_L) rfl rfl ?_
      refine z_iload_n (q := 37) dX7_restore_36 rfl rfl ?_
      refine z_aald (q := 38) (x := b + (246 + 15 * s)) dX7_restore_37 zT_L (by decide) (by omega) rfl rfl ?_
      refine z_V1 (q := 41) dX7_restore_38 zkX7_87 zt_mX6_copyFrom rfl (zT_o zWo_3) rfl (Nat.le_of_ble_eq_true rfl) (ct_X6_copyFrom zWo_3 hws (by omega)) (Nat.zero_le _) (Nat.zero_le _) rfl ?_
      rintro _ _ ⟨rfl, D, rfl, hD⟩
      have hR2 := zCy_R hD hl
      refine z_aload_n (q := 42) dX7_restore_41 rfl rfl ?_
      refine z_get (q := 45) dX7_restore_42 zfX7_29 (by first | exact zT_0 | exact zT_o zWo_3 | exact zT_w zWo_3 rfl | exact zT_o zWo_18 | exact zT_X | exact zT_H | exact zT_S | exact zT_C | exact zT_G | exact zT_N (zNo_w zWo_3) | exact zT_n (zNo_w zWo_3) (by decide) | exact zpT_a (c := 284) rfl | exact zT_L) rfl rfl ?_
      refine z_w0 (q := 48) dX7_restore_45 zkX7_91 zt_mX1_forget rfl (by first | exact zT_0 | exact zT_o zWo_3 | exact zT_w zWo_3 rfl | exact zT_o zWo_18 | exact zT_X | exact zT_H | exact zT_S | exact zT_C | exact zT_G | exact zT_N (zNo_w zWo_3) | exact zT_n (zNo_w zWo_3) (by decide) | exact zpT_a (c := 284) rfl | exact zT_L) rfl (Nat.le_of_ble_eq_true rfl) (ct_X1_forget) rfl ?_
      refine z_aload_n (q := 49) dX7_restore_48 rfl rfl ?_
      refine z_get (q := 52) dX7_restore_49 zfX7_19 (by first | exact zT_0 | exact zT_o zWo_3 | exact zT_w zWo_3 rfl | exact zT_o zWo_18 | exact zT_X | exact zT_H | exact zT_S | exact zT_C | exact zT_G | exact zT_N (zNo_w zWo_3) | exact zT_n (zNo_w zWo_3) (by decide) | exact zpT_a (c := 284) rfl | exact zT_L) rfl rfl ?_
      refine z_get (q := 55) dX7_restore_52 zfX7_100 (by first | exact zT_0 | exact zT_o zWo_3 | exact zT_w zWo_3 rfl | exact zT_o zWo_18 | exact zT_X | exact zT_H | exact zT_S | exact zT_C | exact zT_G | exact zT_N (zNo_w zWo_3) | exact zT_n (zNo_w zWo_3) (by decide) | exact zpT_a (c := 284) rfl | exact zT_L) rfl rfl ?_
      refine z_eqi (show _ = u 7 (264 * s + 2) by rw [zu_ne (by decide)]; exact zR_3 hR2) ?_
      exact z_reti dX7_restore_55 rfl (⟨rfl, _, rfl, n2, K2, zJo_restore hJ hs hl hD rfl⟩)
