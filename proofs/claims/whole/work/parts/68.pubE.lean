/-! ===== the component: scripts, simulations ===== -/
theorem lN_tI {a : Nat} (h : a < 2 ^ 63) : (lN a).toInt = (a : Int) := lg_ofNat_toInt h
theorem lN_mo {U : Nat} (h : 0 < U) : lN U - 1 = lN (U - 1) := by
  have e : lN U = lN (U - 1) + lN 1 := by
    rw [show lN (U - 1) + lN 1 = lN (U - 1 + 1) from (Int64.ofNat_add (U - 1) 1).symm, Nat.sub_add_cancel h]
  rw [e]
  exact Int64.add_sub_cancel _ _
theorem qIn_u {z : Int64} {U : Nat} (h0 : 0 < U) (hU : U < 2 ^ 62) : qIn z 0 (lN U - 1) = (decide (¬ z < 0) && decide (z < lN U)) := by
  rw [lN_mo h0, qIn]
  congr 1
  · exact decide_eq_decide.mpr Int64.not_lt.symm
  · refine decide_eq_decide.mpr ?_
    rw [Int64.le_iff_toInt_le, Int64.lt_iff_toInt_lt, lN_tI (by omega), lN_tI (by omega)]
    omega
theorem ten5 {i : Nat} : 10 ^ (5 * i) * 100000 = 10 ^ (5 * (i + 1)) := by
  rw [show 5 * (i + 1) = 5 * i + 5 by omega, Nat.pow_add]
theorem ten5d {i : Nat} : 10 ^ (5 * (i + 1)) / 100000 = 10 ^ (5 * i) := by
  rw [← ten5, Nat.mul_div_cancel _ (by decide)]
theorem ten5_le {i : Nat} (h : i ≤ 3) : 10 ^ (5 * i) ≤ 10 ^ 15 := Nat.pow_le_pow_right (by decide) (by omega)
theorem ten5_0 {i : Nat} : 0 < 10 ^ (5 * i) := Nat.pos_of_ne_zero (by simp)
set_option maxRecDepth 100000 in
set_option maxHeartbeats 4000000 in
theorem cx_X7_runScript1 {g : zGl} {h : zHp} {b n K : Nat} {d u : Nat → Nat → Int32} {x : Int32} {z : Int64} (hJ : zJo d u n K) (hv : qBt x 1 3 = false) : zX g mX7_runScript [.ref b, .int x, .long z] (zpT g h b d) "java/lang/IllegalArgumentException" (zXJ g h b u) 1 6 := by
  have hR := hJ.1
  have hn := zR_n6 hR
  have hK := zR_K8 hR
  refine zX_ofA (lv := [some (.ref b), some (.int x), some (.long z), none, none, none, none, none]) (by decide) rfl (Nat.le_of_ble_eq_true rfl) ?_
  refine z_iload_n (q := 1) dX7_runScript_0 rfl rfl ?_
  refine z_iconst (q := 2) dX7_runScript_1 zci_1 rfl ?_
  refine z_iconst (q := 3) dX7_runScript_2 zci_3 rfl ?_
  exact z_cSX (av := [.int x, .int (nI 1), .int (nI 3)]) dX7_runScript_3 zkX7_64 zw362 zt_mX7_requireBetween rfl rfl (Nat.le_of_ble_eq_true rfl) (cx_X7_requireBetween hv) (by decide) (by decide) (fun _ hh => ⟨d, ⟨n, K, hJ⟩, hh⟩)
set_option maxRecDepth 100000 in
set_option maxHeartbeats 4000000 in
theorem cx_X7_runScript2 {g : zGl} {h : zHp} {b n K x : Nat} {d u : Nat → Nat → Int32} {z : Int64} (hJ : zJo d u n K) (h1 : 1 ≤ x) (h2 : x ≤ 3) (hz : qIn z 0 (lN (10 ^ (5 * x)) - 1) = false) : zX g mX7_runScript [.ref b, .int (nI x), .long z] (zpT g h b d) "java/lang/IllegalArgumentException" (zXJ g h b u) 1 6 := by
  have hR := hJ.1
  have hn := zR_n6 hR
  have hK := zR_K8 hR
  have hp2 := ten5_le h2
  rw [qIn_u ten5_0 (by omega)] at hz
  refine zX_ofA (lv := [some (.ref b), some (.int (nI x)), some (.long z), none, none, none, none, none]) (by decide) rfl (Nat.le_of_ble_eq_true rfl) ?_
  have first : ∀ r i, i + r = x → zA g (zZx g mX7_runScript "java/lang/IllegalArgumentException" (zXJ g h b u) 1 6) 1 6 12 [some (.ref b), some (.int (nI x)), some (.long z), none, some (.long (lN (10 ^ (5 * i)))), none, some (.int (nI i)), none] [] (zpT g h b d) := by
    intro r
    induction r using Nat.strongRecOn with
    | ind r ih =>
      intro i hi
      refine z_iload (q := 14) dX7_runScript_12 rfl rfl ?_
      refine z_iload_n (q := 15) dX7_runScript_14 rfl rfl ?_
      refine z_icmp_geN (tg := 32) (q := 18) dX7_runScript_15 rfl rfl (by omega) (by omega) ?_ ?_
      · intro hc15
        obtain rfl : i = x := by omega
        refine z_lload_n (q := 33) dX7_runScript_32 rfl rfl ?_
        refine z_lconst (q := 34) (v := 0) dX7_runScript_33 (by decide) rfl ?_
        refine z_lcmp (q := 35) dX7_runScript_34 rfl ?_
        refine z_if_lt (tg := 49) (q := 38) dX7_runScript_35 rfl rfl ?_ ?_
        · intro hc35
          rw [lg_cmp_lt] at hc35
          refine z_iconst (q := 50) dX7_runScript_49 zci_0 rfl ?_
          exact z_cSX (av := [.int (nI 0)]) dX7_runScript_50 zkX7_220 zw365 zt_mX7_requireArgument rfl rfl (Nat.le_of_ble_eq_true rfl) cx_X7_requireArgument (by decide) (by decide) (fun _ hh => ⟨d, ⟨n, K, hJ⟩, hh⟩)
        · intro hc35
          rw [lg_cmp_lt] at hc35
          refine z_lload_n (q := 39) dX7_runScript_38 rfl rfl ?_
          refine z_lload (q := 41) dX7_runScript_39 rfl rfl ?_
          refine z_lcmp (q := 42) dX7_runScript_41 rfl ?_
          refine z_if_ge (tg := 49) (q := 45) dX7_runScript_42 rfl rfl ?_ ?_
          · intro hc42
            refine z_iconst (q := 50) dX7_runScript_49 zci_0 rfl ?_
            exact z_cSX (av := [.int (nI 0)]) dX7_runScript_50 zkX7_220 zw365 zt_mX7_requireArgument rfl rfl (Nat.le_of_ble_eq_true rfl) cx_X7_requireArgument (by decide) (by decide) (fun _ hh => ⟨d, ⟨n, K, hJ⟩, hh⟩)
          · intro hc42
            exact absurd hz (by rw [decide_eq_true hc35, decide_eq_true (show z < lN (10 ^ (5 * i)) by have e := Int32.not_le.mp hc42; rw [lg_cmp_lt] at e; exact e)]; decide)
      · intro hc15
        refine z_lload (q := 20) dX7_runScript_18 rfl rfl ?_
        refine z_ldc2 (q := 23) dX7_runScript_20 zqX7_279 rfl ?_
        refine z_lmul (q := 24) dX7_runScript_23 rfl ?_
        refine z_eql (show lN (10 ^ (5 * i)) * 100000 = lN (10 ^ (5 * (i + 1))) from (lN_m (10 ^ (5 * i)) 100000).trans (congrArg lN ten5)) ?_
        refine z_lstore (q := 26) dX7_runScript_24 (Nat.le_of_ble_eq_true rfl) rfl rfl ?_
        refine z_iincN (q := 29) dX7_runScript_26 rfl rfl rfl ?_
        refine z_goto (q := 0) (tg := 12) dX7_runScript_29 rfl ?_
        exact ih (r - 1) (by omega) (i + 1) (by omega)
  refine z_iload_n (q := 1) dX7_runScript_0 rfl rfl ?_
  refine z_iconst (q := 2) dX7_runScript_1 zci_1 rfl ?_
  refine z_iconst (q := 3) dX7_runScript_2 zci_3 rfl ?_
  refine z_u3 (q := 6) dX7_runScript_3 zkX7_64 zt_mX7_requireBetween rfl (Nat.le_of_ble_eq_true rfl) (ct_X7_requireBetween (qBt_i h1 h2 (by decide))) rfl ?_
  refine z_lconst (q := 7) (v := 1) dX7_runScript_6 (by decide) rfl ?_
  refine z_lstore (q := 9) dX7_runScript_7 (Nat.le_of_ble_eq_true rfl) rfl rfl ?_
  refine z_iconst (q := 10) dX7_runScript_9 zci_0 rfl ?_
  refine z_istore (q := 12) dX7_runScript_10 (Nat.le_of_ble_eq_true rfl) rfl rfl ?_
  exact first x 0 (by omega)
set_option maxRecDepth 100000 in
set_option maxHeartbeats 4000000 in
theorem ct_X7_runScript0 {g : zGl} {h : zHp} {b n K x Y : Nat} {d u : Nat → Nat → Int32} (hJ : zJo d u n K) (h1 : 1 ≤ x) (h2 : x ≤ 3) (hY : Y < 10 ^ 15) (hz : qIn (lN Y) 0 (lN (10 ^ (5 * x)) - 1) = true) : zC g mX7_runScript [.ref b, .int (nI x), .long (lN Y)] (zpT g h b d) (zRJ g h b u (qRun (u 3) n K x Y)) 0 0 := by
  have hR := hJ.1
  have hn := zR_n6 hR
  have hK := zR_K8 hR
  have hp2 := ten5_le h2
  rw [qIn_u ten5_0 (by omega), Bool.and_eq_true, decide_eq_true_eq, decide_eq_true_eq] at hz
  obtain ⟨z, hzY⟩ : ∃ z, z = lN Y := ⟨_, rfl⟩
  refine zC_ofA (lv := [some (.ref b), some (.int (nI x)), some (.long (lN Y)), none, none, none, none, none]) (by decide) rfl (Nat.le_of_ble_eq_true rfl) ?_
  have loop : ∀ r i D l7, i + r = x → (∀ j, j < i → (!(qCmd (qScr (u 3) n K x Y j) n K (qG x Y j)).1) = false) → zR D 18 (qScr (u 3) n K x Y i) n K → (∀ c, c < 18 ∨ (33 ≤ c ∧ c < 276) → D c = d c) → zA g (zZc g mX7_runScript (zRJ g h b u (qRun (u 3) n K x Y)) 0 0) 0 0 67 [some (.ref b), some (.int (nI x)), some (.long (lN Y)), none, some (.long (lN (10 ^ (5 * (x - i))))), none, some (.int (nI i)), l7] [] (zpT g h b D) := by
    intro r
    induction r using Nat.strongRecOn with
    | ind r ih =>
      intro i D l7 hi hj hD hS
      by_cases hix : i < x
      · have e1 : x - i = (x - 1 - i) + 1 := by omega
        have hp3 := ten5_le (i := x - 1 - i) (by omega)
        have hp4 := ten5_le (i := x - 1 - i + 1) (by omega)
        have hp0 : 0 < 10 ^ (5 * (x - 1 - i)) := ten5_0
        refine z_iload (q := 69) dX7_runScript_67 rfl rfl ?_
        refine z_iload_n (q := 70) dX7_runScript_69 rfl rfl ?_
        refine z_icmp_geN (tg := 117) (q := 73) dX7_runScript_70 rfl rfl (by omega) (by omega) ?_ ?_
        · intro hc70
          omega
        · intro hc70
          refine z_lload (q := 75) dX7_runScript_73 rfl rfl ?_
          rw [e1]
          refine z_ldc2 (q := 78) dX7_runScript_75 zqX7_279 rfl ?_
          refine z_ldiv (q := 79) dX7_runScript_78 (by decide) rfl ?_
          refine z_eql (show _ = lN (10 ^ (5 * (x - 1 - i))) from (pk_lDiv (b := 100000) (by omega) (by decide) (by decide)).trans (congrArg lN ten5d)) ?_
          refine z_lstore (q := 81) dX7_runScript_79 (Nat.le_of_ble_eq_true rfl) rfl rfl ?_
          refine z_lload_n (q := 82) dX7_runScript_81 rfl rfl ?_
          refine z_lload (q := 84) dX7_runScript_82 rfl rfl ?_
          refine z_ldiv (q := 85) dX7_runScript_84 (lN_ne0 hp0 (by omega)) rfl ?_
          refine z_eql (pk_lDiv (by omega) hp0 (by omega)) ?_
          refine z_ldc2 (q := 88) dX7_runScript_85 zqX7_279 rfl ?_
          refine z_lrem (q := 89) dX7_runScript_88 (by decide) rfl ?_
          refine z_eql (pk_lRem (b := 100000) (Nat.lt_of_le_of_lt (Nat.div_le_self _ _) (by omega)) (by decide) (by decide)) ?_
          refine z_l2i (q := 90) dX7_runScript_89 rfl rfl ?_
          refine z_eqi (show _ = nI (qG x Y i) from lN_toI _) ?_
          refine z_istore (q := 92) dX7_runScript_90 (Nat.le_of_ble_eq_true rfl) rfl rfl ?_
          refine z_aload_n (q := 93) dX7_runScript_92 rfl rfl ?_
          refine z_get (q := 96) dX7_runScript_93 zfX7_53 (by first | exact zT_0 | exact zT_o zWo_3 | exact zT_w zWo_3 rfl | exact zT_o zWo_18 | exact zT_X | exact zT_H | exact zT_S | exact zT_C | exact zT_G | exact zT_N (zNo_w zWo_3) | exact zT_n (zNo_w zWo_3) (by decide) | exact zpT_a (c := 284) rfl | exact zT_L) rfl rfl ?_
          refine z_aload_n (q := 97) dX7_runScript_96 rfl rfl ?_
          refine z_get (q := 100) dX7_runScript_97 zfX7_23 (by first | exact zT_0 | exact zT_o zWo_3 | exact zT_w zWo_3 rfl | exact zT_o zWo_18 | exact zT_X | exact zT_H | exact zT_S | exact zT_C | exact zT_G | exact zT_N (zNo_w zWo_3) | exact zT_n (zNo_w zWo_3) (by decide) | exact zpT_a (c := 284) rfl | exact zT_L) rfl rfl ?_
          refine z_iload (q := 102) dX7_runScript_100 rfl rfl ?_
          refine z_V2 (q := 105) dX7_runScript_102 zkX7_281 zt_mX0_succeeds rfl zT_C rfl (Nat.le_of_ble_eq_true rfl) (ct_X0_succeeds zWo_18 hD qG_le) (Nat.zero_le _) (Nat.zero_le _) rfl ?_
          rintro _ _ ⟨rfl, D2, rfl, hD2, hO2⟩
          refine z_ifb_ne (tg := 111) (q := 108) dX7_runScript_105 rfl rfl ?_ ?_
          · intro hc105
            refine z_iincN (q := 114) dX7_runScript_111 rfl rfl rfl ?_
            refine z_goto (q := 0) (tg := 67) dX7_runScript_114 rfl ?_
            have e9 := ih (r - 1) (by omega) (i + 1) D2
            rw [show x - (i + 1) = x - 1 - i by omega] at e9
            refine e9 _ (by omega) (fun j hj2 => ?_) hD2 (fun c hc => (zO2_s hO2 c hc).trans (hS c hc))
            rcases Nat.lt_succ_iff_lt_or_eq.mp hj2 with h9 | rfl
            · exact hj j h9
            · rw [hc105]; rfl
          · intro hc105
            refine z_iload (q := 110) dX7_runScript_108 rfl rfl ?_
            exact z_reti dX7_runScript_110 rfl (⟨by rw [qRun, qFst_some (i := i) (by omega) (by simp [hc105]) hj]; rfl, D2, rfl, n, K, zJo_same (fun c hc => (zO2_s hO2 c hc).trans (hS c hc)) hJ⟩)
      · skip
        refine z_iload (q := 69) dX7_runScript_67 rfl rfl ?_
        refine z_iload_n (q := 70) dX7_runScript_69 rfl rfl ?_
        refine z_icmp_geN (tg := 117) (q := 73) dX7_runScript_70 rfl rfl (by omega) (by omega) ?_ ?_
        · intro hc70
          refine z_bipush (q := 119) dX7_runScript_117 zcb_m9 rfl ?_
          exact z_reti dX7_runScript_119 rfl (⟨by rw [qRun, qFst_none (fun j hj2 => hj j (by omega))]; rfl, D, rfl, n, K, zJo_same hS hJ⟩)
        · intro hc70
          omega
  rw [← hzY]
  rw [← hzY] at hz loop
  have first : ∀ r i, i + r = x → zA g (zZc g mX7_runScript (zRJ g h b u (qRun (u 3) n K x Y)) 0 0) 0 0 12 [some (.ref b), some (.int (nI x)), some (.long z), none, some (.long (lN (10 ^ (5 * i)))), none, some (.int (nI i)), none] [] (zpT g h b d) := by
    intro r
    induction r using Nat.strongRecOn with
    | ind r ih =>
      intro i hi
      refine z_iload (q := 14) dX7_runScript_12 rfl rfl ?_
      refine z_iload_n (q := 15) dX7_runScript_14 rfl rfl ?_
      refine z_icmp_geN (tg := 32) (q := 18) dX7_runScript_15 rfl rfl (by omega) (by omega) ?_ ?_
      · intro hc15
        obtain rfl : i = x := by omega
        refine z_lload_n (q := 33) dX7_runScript_32 rfl rfl ?_
        refine z_lconst (q := 34) (v := 0) dX7_runScript_33 (by decide) rfl ?_
        refine z_lcmp (q := 35) dX7_runScript_34 rfl ?_
        refine z_if_lt (tg := 49) (q := 38) dX7_runScript_35 rfl rfl ?_ ?_
        · intro hc35
          exact absurd ((lg_cmp_lt _ _).mp hc35) hz.1
        · intro hc35
          refine z_lload_n (q := 39) dX7_runScript_38 rfl rfl ?_
          refine z_lload (q := 41) dX7_runScript_39 rfl rfl ?_
          refine z_lcmp (q := 42) dX7_runScript_41 rfl ?_
          refine z_if_ge (tg := 49) (q := 45) dX7_runScript_42 rfl rfl ?_ ?_
          · intro hc42
            exact absurd (show lg_cmp z (lN (10 ^ (5 * i))) < 0 from (lg_cmp_lt _ _).mpr hz.2) (Int32.not_lt.mpr hc42)
          · intro hc42
            refine z_iconst (q := 46) dX7_runScript_45 zci_1 rfl ?_
            refine z_goto (q := 0) (tg := 50) dX7_runScript_46 rfl ?_
            refine z_u1 (q := 53) dX7_runScript_50 zkX7_220 zt_mX7_requireArgument rfl (Nat.le_of_ble_eq_true rfl) (ct_X7_requireArgument) rfl ?_
            refine z_aload_n (q := 54) dX7_runScript_53 rfl rfl ?_
            refine z_get (q := 57) dX7_runScript_54 zfX7_23 (by first | exact zT_0 | exact zT_o zWo_3 | exact zT_w zWo_3 rfl | exact zT_o zWo_18 | exact zT_X | exact zT_H | exact zT_S | exact zT_C | exact zT_G | exact zT_N (zNo_w zWo_3) | exact zT_n (zNo_w zWo_3) (by decide) | exact zpT_a (c := 284) rfl | exact zT_L) rfl rfl ?_
            refine z_aload_n (q := 58) dX7_runScript_57 rfl rfl ?_
            refine z_get (q := 61) dX7_runScript_58 zfX7_19 (by first | exact zT_0 | exact zT_o zWo_3 | exact zT_w zWo_3 rfl | exact zT_o zWo_18 | exact zT_X | exact zT_H | exact zT_S | exact zT_C | exact zT_G | exact zT_N (zNo_w zWo_3) | exact zT_n (zNo_w zWo_3) (by decide) | exact zpT_a (c := 284) rfl | exact zT_L) rfl rfl ?_
            refine z_V1 (q := 64) dX7_runScript_61 zkX7_87 zt_mX6_copyFrom rfl (zT_o zWo_18) rfl (Nat.le_of_ble_eq_true rfl) (ct_X6_copyFrom zWo_18 zWo_3 (by omega)) (Nat.zero_le _) (Nat.zero_le _) rfl ?_
            rintro _ _ ⟨rfl, D, rfl, hD⟩
            have hR1 := zCy_R hD hR
            have hS1 := zOut_s hD.2.2.2
            refine z_iconst (q := 65) dX7_runScript_64 zci_0 rfl ?_
            refine z_istore (q := 67) dX7_runScript_65 (Nat.le_of_ble_eq_true rfl) rfl rfl ?_
            exact loop i 0 D _ (by omega) (fun j hj => absurd hj (Nat.not_lt_zero j)) hR1 hS1
      · intro hc15
        refine z_lload (q := 20) dX7_runScript_18 rfl rfl ?_
        refine z_ldc2 (q := 23) dX7_runScript_20 zqX7_279 rfl ?_
        refine z_lmul (q := 24) dX7_runScript_23 rfl ?_
        refine z_eql (show lN (10 ^ (5 * i)) * 100000 = lN (10 ^ (5 * (i + 1))) from (lN_m (10 ^ (5 * i)) 100000).trans (congrArg lN ten5)) ?_
        refine z_lstore (q := 26) dX7_runScript_24 (Nat.le_of_ble_eq_true rfl) rfl rfl ?_
        refine z_iincN (q := 29) dX7_runScript_26 rfl rfl rfl ?_
        refine z_goto (q := 0) (tg := 12) dX7_runScript_29 rfl ?_
        exact ih (r - 1) (by omega) (i + 1) (by omega)
  refine z_iload_n (q := 1) dX7_runScript_0 rfl rfl ?_
  refine z_iconst (q := 2) dX7_runScript_1 zci_1 rfl ?_
  refine z_iconst (q := 3) dX7_runScript_2 zci_3 rfl ?_
  refine z_u3 (q := 6) dX7_runScript_3 zkX7_64 zt_mX7_requireBetween rfl (Nat.le_of_ble_eq_true rfl) (ct_X7_requireBetween (qBt_i h1 h2 (by decide))) rfl ?_
  refine z_lconst (q := 7) (v := 1) dX7_runScript_6 (by decide) rfl ?_
  refine z_lstore (q := 9) dX7_runScript_7 (Nat.le_of_ble_eq_true rfl) rfl rfl ?_
  refine z_iconst (q := 10) dX7_runScript_9 zci_0 rfl ?_
  refine z_istore (q := 12) dX7_runScript_10 (Nat.le_of_ble_eq_true rfl) rfl rfl ?_
  exact first x 0 (by omega)
set_option maxRecDepth 100000 in
set_option maxHeartbeats 4000000 in
theorem cx_X7_simulate1 {g : zGl} {h : zHp} {b n K : Nat} {d u : Nat → Nat → Int32} {x : Int32} {X : Int64} (hJ : zJo d u n K) (hv : qBt x 1 60 = false) : zX g mX7_simulate [.ref b, .long X, .int x] (zpT g h b d) "java/lang/IllegalArgumentException" (zXJ g h b u) 1 6 := by
  have hR := hJ.1
  have hn := zR_n6 hR
  have hK := zR_K8 hR
  refine zX_ofA (lv := [some (.ref b), some (.long X), none, some (.int x), none, none, none]) (by decide) rfl (Nat.le_of_ble_eq_true rfl) ?_
  refine z_iload_n (q := 1) dX7_simulate_0 rfl rfl ?_
  refine z_iconst (q := 2) dX7_simulate_1 zci_1 rfl ?_
  refine z_bipush (q := 4) dX7_simulate_2 zcb_60 rfl ?_
  exact z_cSX (av := [.int x, .int (nI 1), .int (nI 60)]) dX7_simulate_4 zkX7_64 zw362 zt_mX7_requireBetween rfl rfl (Nat.le_of_ble_eq_true rfl) (cx_X7_requireBetween hv) (by decide) (by decide) (fun _ hh => ⟨d, ⟨n, K, hJ⟩, hh⟩)
set_option maxRecDepth 100000 in
set_option maxHeartbeats 4000000 in
theorem ct_X7_simulate0 {g : zGl} {h : zHp} {b n K x : Nat} {d u : Nat → Nat → Int32} {X : Int64} (hJ : zJo d u n K) (h1 : 1 ≤ x) (h2 : x ≤ 60) : zC g mX7_simulate [.ref b, .long X, .int (nI x)] (zpT g h b d) (zRJ g h b u (qPrg (qSim (u 3) n K X x).2 K + nI 100 * qSum (qSim (u 3) n K X x).2 n 5)) 0 0 := by
  have hR := hJ.1
  have hn := zR_n6 hR
  have hK := zR_K8 hR
  refine zC_ofA (lv := [some (.ref b), some (.long X), none, some (.int (nI x)), none, none, none]) (by decide) rfl (Nat.le_of_ble_eq_true rfl) ?_
  have loop : ∀ r i D, i + r = x → zR D 18 (qSim (u 3) n K X i).2 n K → (∀ c, c < 18 ∨ (33 ≤ c ∧ c < 276) → D c = d c) → zA g (zZc g mX7_simulate (zRJ g h b u (qPrg (qSim (u 3) n K X x).2 K + nI 100 * qSum (qSim (u 3) n K X x).2 n 5)) 0 0) 0 0 24 [some (.ref b), some (.long X), none, some (.int (nI x)), some (.long (qSim (u 3) n K X i).1), none, some (.int (nI i))] [] (zpT g h b D) := by
    intro r
    induction r using Nat.strongRecOn with
    | ind r ih =>
      intro i D hi hD hS
      have hr := qRh_lt (X := qNx (qSim (u 3) n K X i).1)
      refine z_iload (q := 26) dX7_simulate_24 rfl rfl ?_
      refine z_iload_n (q := 27) dX7_simulate_26 rfl rfl ?_
      refine z_icmp_geN (tg := 73) (q := 30) dX7_simulate_27 rfl rfl (by omega) (by omega) ?_ ?_
      · intro hc27
        refine z_aload_n (q := 74) dX7_simulate_73 rfl rfl ?_
        refine z_get (q := 77) dX7_simulate_74 zfX7_23 (by first | exact zT_0 | exact zT_o zWo_3 | exact zT_w zWo_3 rfl | exact zT_o zWo_18 | exact zT_X | exact zT_H | exact zT_S | exact zT_C | exact zT_G | exact zT_N (zNo_w zWo_3) | exact zT_n (zNo_w zWo_3) (by decide) | exact zpT_a (c := 284) rfl | exact zT_L) rfl rfl ?_
        refine z_v0 (q := 80) dX7_simulate_77 zkX7_267 zt_mX6_allProgress rfl (zT_o zWo_18) rfl (Nat.le_of_ble_eq_true rfl) (ct_X6_allProgress zWo_18 hD) rfl ?_
        refine z_bipush (q := 82) dX7_simulate_80 zcb_100 rfl ?_
        refine z_aload_n (q := 83) dX7_simulate_82 rfl rfl ?_
        refine z_get (q := 86) dX7_simulate_83 zfX7_23 (by first | exact zT_0 | exact zT_o zWo_3 | exact zT_w zWo_3 rfl | exact zT_o zWo_18 | exact zT_X | exact zT_H | exact zT_S | exact zT_C | exact zT_G | exact zT_N (zNo_w zWo_3) | exact zT_n (zNo_w zWo_3) (by decide) | exact zpT_a (c := 284) rfl | exact zT_L) rfl rfl ?_
        refine z_v0 (q := 89) dX7_simulate_86 zkX7_113 zt_mX6_allWasted rfl (zT_o zWo_18) rfl (Nat.le_of_ble_eq_true rfl) (ct_X6_allWasted zWo_18 hD) rfl ?_
        refine z_imul (q := 90) dX7_simulate_89 rfl ?_
        refine z_iadd (q := 91) dX7_simulate_90 rfl ?_
        exact z_reti dX7_simulate_91 rfl (⟨by rw [show i = x by omega], D, rfl, n, K, zJo_same hS hJ⟩)
      · intro hc27
        refine z_lload (q := 32) dX7_simulate_30 rfl rfl ?_
        refine z_ldc2 (q := 35) dX7_simulate_32 zqX7_285 rfl ?_
        refine z_lmul (q := 36) dX7_simulate_35 rfl ?_
        refine z_ldc2 (q := 39) dX7_simulate_36 zqX7_287 rfl ?_
        refine z_ladd (q := 40) dX7_simulate_39 rfl ?_
        refine z_eql (show _ = qNx (qSim (u 3) n K X i).1 from rfl) ?_
        refine z_lstore (q := 42) dX7_simulate_40 (Nat.le_of_ble_eq_true rfl) rfl rfl ?_
        refine z_aload_n (q := 43) dX7_simulate_42 rfl rfl ?_
        refine z_get (q := 46) dX7_simulate_43 zfX7_23 (by first | exact zT_0 | exact zT_o zWo_3 | exact zT_w zWo_3 rfl | exact zT_o zWo_18 | exact zT_X | exact zT_H | exact zT_S | exact zT_C | exact zT_G | exact zT_N (zNo_w zWo_3) | exact zT_n (zNo_w zWo_3) (by decide) | exact zpT_a (c := 284) rfl | exact zT_L) rfl rfl ?_
        refine z_lload (q := 48) dX7_simulate_46 rfl rfl ?_
        refine z_bipush (q := 50) dX7_simulate_48 zcb_33 rfl ?_
        refine z_lushr (q := 51) dX7_simulate_50 rfl rfl ?_
        refine z_l2i (q := 52) dX7_simulate_51 rfl rfl ?_
        refine z_eqi qRh_i ?_
        refine z_S2 (q := 55) dX7_simulate_52 zkX7_289 zt_mX7_disturb rfl (Nat.le_of_ble_eq_true rfl) (ct_X7_disturb zWo_18 hD hr) (Nat.zero_le _) (Nat.zero_le _) rfl ?_
        rintro _ _ ⟨rfl, D2, rfl, hD2, hO2⟩
        refine z_aload_n (q := 56) dX7_simulate_55 rfl rfl ?_
        refine z_get (q := 59) dX7_simulate_56 zfX7_44 (by first | exact zT_0 | exact zT_o zWo_3 | exact zT_w zWo_3 rfl | exact zT_o zWo_18 | exact zT_X | exact zT_H | exact zT_S | exact zT_C | exact zT_G | exact zT_N (zNo_w zWo_3) | exact zT_n (zNo_w zWo_3) (by decide) | exact zpT_a (c := 284) rfl | exact zT_L) rfl rfl ?_
        refine z_aload_n (q := 60) dX7_simulate_59 rfl rfl ?_
        refine z_get (q := 63) dX7_simulate_60 zfX7_23 (by first | exact zT_0 | exact zT_o zWo_3 | exact zT_w zWo_3 rfl | exact zT_o zWo_18 | exact zT_X | exact zT_H | exact zT_S | exact zT_C | exact zT_G | exact zT_N (zNo_w zWo_3) | exact zT_n (zNo_w zWo_3) (by decide) | exact zpT_a (c := 284) rfl | exact zT_L) rfl rfl ?_
        refine z_iconst (q := 64) dX7_simulate_63 zci_1 rfl ?_
        refine z_V2 (q := 67) dX7_simulate_64 zkX7_201 zt_mX4_makeSteps rfl zT_S rfl (Nat.le_of_ble_eq_true rfl) (ct_X4_makeSteps zWo_18 hD2 (by decide)) (Nat.zero_le _) (Nat.zero_le _) rfl ?_
        rintro _ _ ⟨rfl, D3, rfl, hD3, hO3⟩
        refine z_iincN (q := 70) dX7_simulate_67 rfl rfl rfl ?_
        refine z_goto (q := 0) (tg := 24) dX7_simulate_70 rfl ?_
        exact ih (r - 1) (by omega) (i + 1) D3 (by omega) hD3 (fun c hc => (zO2_s hO3 c hc).trans ((zOut_s hO2 c hc).trans (hS c hc)))
  refine z_iload_n (q := 1) dX7_simulate_0 rfl rfl ?_
  refine z_iconst (q := 2) dX7_simulate_1 zci_1 rfl ?_
  refine z_bipush (q := 4) dX7_simulate_2 zcb_60 rfl ?_
  refine z_u3 (q := 7) dX7_simulate_4 zkX7_64 zt_mX7_requireBetween rfl (Nat.le_of_ble_eq_true rfl) (ct_X7_requireBetween (qBt_i h1 h2 (by decide))) rfl ?_
  refine z_aload_n (q := 8) dX7_simulate_7 rfl rfl ?_
  refine z_get (q := 11) dX7_simulate_8 zfX7_23 (by first | exact zT_0 | exact zT_o zWo_3 | exact zT_w zWo_3 rfl | exact zT_o zWo_18 | exact zT_X | exact zT_H | exact zT_S | exact zT_C | exact zT_G | exact zT_N (zNo_w zWo_3) | exact zT_n (zNo_w zWo_3) (by decide) | exact zpT_a (c := 284) rfl | exact zT_L) rfl rfl ?_
  refine z_aload_n (q := 12) dX7_simulate_11 rfl rfl ?_
  refine z_get (q := 15) dX7_simulate_12 zfX7_19 (by first | exact zT_0 | exact zT_o zWo_3 | exact zT_w zWo_3 rfl | exact zT_o zWo_18 | exact zT_X | exact zT_H | exact zT_S | exact zT_C | exact zT_G | exact zT_N (zNo_w zWo_3) | exact zT_n (zNo_w zWo_3) (by decide) | exact zpT_a (c := 284) rfl | exact zT_L) rfl rfl ?_
  refine z_V1 (q := 18) dX7_simulate_15 zkX7_87 zt_mX6_copyFrom rfl (zT_o zWo_18) rfl (Nat.le_of_ble_eq_true rfl) (ct_X6_copyFrom zWo_18 zWo_3 (by omega)) (Nat.zero_le _) (Nat.zero_le _) rfl ?_
  rintro _ _ ⟨rfl, D, rfl, hD⟩
  have hR1 := zCy_R hD hR
  have hS1 := zOut_s hD.2.2.2
  refine z_lload_n (q := 19) dX7_simulate_18 rfl rfl ?_
  refine z_lstore (q := 21) dX7_simulate_19 (Nat.le_of_ble_eq_true rfl) rfl rfl ?_
  refine z_iconst (q := 22) dX7_simulate_21 zci_0 rfl ?_
  refine z_istore (q := 24) dX7_simulate_22 (Nat.le_of_ble_eq_true rfl) rfl rfl ?_
  exact loop x 0 D (by omega) hR1 hS1
