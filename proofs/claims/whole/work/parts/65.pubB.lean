/-! ===== the component: actions ===== -/
theorem zAg_t {d D E : Nat → Nat → Int32} (h1 : zAg d D) (h2 : zAg D E) : zAg d E := fun c hc => (h2 c hc).trans (h1 c hc)
theorem zAg_o {d D : Nat → Nat → Int32} (h : zOut d D 3 15) : zAg d D := fun c hc => h c (by omega)
theorem zAg_2 {d D : Nat → Nat → Int32} (h : zO2 d D 3) : zAg d D := fun c hc => h c (by omega) (by omega)
theorem qSum_on {f : Nat → Int32} {n K : Nat} (h : zWF f n K) : qSum f n 3 = nI (pcN (mk (qOn f) n)) := by
  rw [qSg_pc h.1]
  exact qIt_congr (fun i x hi => by rw [on_v h hi])
set_option maxRecDepth 100000 in
set_option maxHeartbeats 4000000 in
theorem cx_X7_step1 {g : zGl} {h : zHp} {b n K : Nat} {d u : Nat → Nat → Int32} {x : Int32} (hJ : zJo d u n K) (hv : qBt x 1 99 = false) : zX g mX7_step [.ref b, .int x] (zpT g h b d) "java/lang/IllegalArgumentException" (zXJ g h b u) 1 6 := by
  have hR := hJ.1
  have hn := zR_n6 hR
  have hK := zR_K8 hR
  refine zX_ofA (lv := [some (.ref b), some (.int x)]) (by decide) rfl (Nat.le_of_ble_eq_true rfl) ?_
  refine z_iload_n (q := 1) dX7_step_0 rfl rfl ?_
  refine z_iconst (q := 2) dX7_step_1 zci_1 rfl ?_
  refine z_bipush (q := 4) dX7_step_2 zcb_99 rfl ?_
  exact z_cSX (av := [.int x, .int (nI 1), .int (nI 99)]) dX7_step_4 zkX7_64 zw362 zt_mX7_requireBetween rfl rfl (Nat.le_of_ble_eq_true rfl) (cx_X7_requireBetween hv) (by decide) (by decide) (fun _ hh => ⟨d, ⟨n, K, hJ⟩, hh⟩)
set_option maxRecDepth 100000 in
set_option maxHeartbeats 4000000 in
theorem ct_X7_step0 {g : zGl} {h : zHp} {b n K c x : Nat} {d u : Nat → Nat → Int32} (hJ : zJo d u n K) (hc : u 0 9 = nI c) (hle : c ≤ 14) (hx1 : 1 ≤ x) (hx : x ≤ 99) : zC g mX7_step [.ref b, .int (nI x)] (zpT g h b d) (zRJ g h b (va_up (qNd u c) 3 (qSteps (u 3) n K x)) (qFin (qSteps (u 3) n K x) K)) 0 0 := by
  have hR := hJ.1
  have hn := zR_n6 hR
  have hK := zR_K8 hR
  obtain ⟨x0, hx0, h331, h332⟩ := zJo_h hJ hc hle
  refine zC_ofA (lv := [some (.ref b), some (.int (nI x))]) (by decide) rfl (Nat.le_of_ble_eq_true rfl) ?_
  refine z_iload_n (q := 1) dX7_step_0 rfl rfl ?_
  refine z_iconst (q := 2) dX7_step_1 zci_1 rfl ?_
  refine z_bipush (q := 4) dX7_step_2 zcb_99 rfl ?_
  refine z_u3 (q := 7) dX7_step_4 zkX7_64 zt_mX7_requireBetween rfl (Nat.le_of_ble_eq_true rfl) (ct_X7_requireBetween (qBt_i hx1 hx (by decide))) rfl ?_
  refine z_aload_n (q := 8) dX7_step_7 rfl rfl ?_
  refine z_get (q := 11) dX7_step_8 zfX7_29 (by first | exact zT_0 | exact zT_o zWo_3 | exact zT_w zWo_3 rfl | exact zT_o zWo_18 | exact zT_X | exact zT_H | exact zT_S | exact zT_C | exact zT_G | exact zT_N (zNo_w zWo_3) | exact zT_n (zNo_w zWo_3) (by decide) | exact zpT_a (c := 284) rfl | exact zT_L) rfl rfl ?_
  refine z_aload_n (q := 12) dX7_step_11 rfl rfl ?_
  refine z_get (q := 15) dX7_step_12 zfX7_19 (by first | exact zT_0 | exact zT_o zWo_3 | exact zT_w zWo_3 rfl | exact zT_o zWo_18 | exact zT_X | exact zT_H | exact zT_S | exact zT_C | exact zT_G | exact zT_N (zNo_w zWo_3) | exact zT_n (zNo_w zWo_3) (by decide) | exact zpT_a (c := 284) rfl | exact zT_L) rfl rfl ?_
  refine z_V1 (q := 18) dX7_step_15 zkX7_198 zt_mX1_remember rfl zT_H rfl (Nat.le_of_ble_eq_true rfl) (ct_X1_remember h331 hx0 h332 hle) (Nat.zero_le _) (Nat.zero_le _) rfl ?_
  rintro _ _ ⟨rfl, D, rfl, D0, hC0, hD0⟩
  have hJ1 := zJo_rem hJ hx0 hle h331 h332 hC0 hD0
  have hR1 : zR D 3 (u 3) n K := hJ1.1
  refine z_aload_n (q := 19) dX7_step_18 rfl rfl ?_
  refine z_get (q := 22) dX7_step_19 zfX7_44 (by first | exact zT_0 | exact zT_o zWo_3 | exact zT_w zWo_3 rfl | exact zT_o zWo_18 | exact zT_X | exact zT_H | exact zT_S | exact zT_C | exact zT_G | exact zT_N (zNo_w zWo_3) | exact zT_n (zNo_w zWo_3) (by decide) | exact zpT_a (c := 284) rfl | exact zT_L) rfl rfl ?_
  refine z_aload_n (q := 23) dX7_step_22 rfl rfl ?_
  refine z_get (q := 26) dX7_step_23 zfX7_19 (by first | exact zT_0 | exact zT_o zWo_3 | exact zT_w zWo_3 rfl | exact zT_o zWo_18 | exact zT_X | exact zT_H | exact zT_S | exact zT_C | exact zT_G | exact zT_N (zNo_w zWo_3) | exact zT_n (zNo_w zWo_3) (by decide) | exact zpT_a (c := 284) rfl | exact zT_L) rfl rfl ?_
  refine z_iload_n (q := 27) dX7_step_26 rfl rfl ?_
  refine z_V2 (q := 30) dX7_step_27 zkX7_201 zt_mX4_makeSteps rfl zT_S rfl (Nat.le_of_ble_eq_true rfl) (ct_X4_makeSteps zWo_3 hR1 (by omega)) (Nat.zero_le _) (Nat.zero_le _) rfl ?_
  rintro _ _ ⟨rfl, D2, rfl, hR2, hO2⟩
  refine z_aload_n (q := 31) dX7_step_30 rfl rfl ?_
  refine z_get (q := 34) dX7_step_31 zfX7_19 (by first | exact zT_0 | exact zT_o zWo_3 | exact zT_w zWo_3 rfl | exact zT_o zWo_18 | exact zT_X | exact zT_H | exact zT_S | exact zT_C | exact zT_G | exact zT_N (zNo_w zWo_3) | exact zT_n (zNo_w zWo_3) (by decide) | exact zpT_a (c := 284) rfl | exact zT_L) rfl rfl ?_
  refine z_v0 (q := 37) dX7_step_34 zkX7_106 zt_mX6_finishedTasks rfl (by first | exact zT_0 | exact zT_o zWo_3 | exact zT_w zWo_3 rfl | exact zT_o zWo_18 | exact zT_X | exact zT_H | exact zT_S | exact zT_C | exact zT_G | exact zT_N (zNo_w zWo_3) | exact zT_n (zNo_w zWo_3) (by decide) | exact zpT_a (c := 284) rfl | exact zT_L) rfl (Nat.le_of_ble_eq_true rfl) (ct_X6_finishedTasks zWo_3 hR2) rfl ?_
  exact z_reti dX7_step_37 rfl (⟨rfl, D2, rfl, n, K, zJo_w (zAg_2 hO2) hR2 hJ1⟩)
set_option maxRecDepth 100000 in
set_option maxHeartbeats 4000000 in
theorem cx_X7_setRange1 {g : zGl} {h : zHp} {b n K : Nat} {d u : Nat → Nat → Int32} {x y : Int32} (hJ : zJo d u n K) (hv : qHas x n = false) : zX g mX7_setRange [.ref b, .int x, .int y] (zpT g h b d) "java/lang/IndexOutOfBoundsException" (zXJ g h b u) 1 6 := by
  have hR := hJ.1
  have hn := zR_n6 hR
  have hK := zR_K8 hR
  refine zX_ofA (lv := [some (.ref b), some (.int x), some (.int y), none]) (by decide) rfl (Nat.le_of_ble_eq_true rfl) ?_
  refine z_aload_n (q := 1) dX7_setRange_0 rfl rfl ?_
  refine z_get (q := 4) dX7_setRange_1 zfX7_19 (by first | exact zT_0 | exact zT_o zWo_3 | exact zT_w zWo_3 rfl | exact zT_o zWo_18 | exact zT_X | exact zT_H | exact zT_S | exact zT_C | exact zT_G | exact zT_N (zNo_w zWo_3) | exact zT_n (zNo_w zWo_3) (by decide) | exact zpT_a (c := 284) rfl | exact zT_L) rfl rfl ?_
  refine z_iload_n (q := 5) dX7_setRange_4 rfl rfl ?_
  refine z_v1 (q := 8) dX7_setRange_5 zkX7_119 zt_mX6_hasAgent rfl (by first | exact zT_0 | exact zT_o zWo_3 | exact zT_w zWo_3 rfl | exact zT_o zWo_18 | exact zT_X | exact zT_H | exact zT_S | exact zT_C | exact zT_G | exact zT_N (zNo_w zWo_3) | exact zT_n (zNo_w zWo_3) (by decide) | exact zpT_a (c := 284) rfl | exact zT_L) rfl (Nat.le_of_ble_eq_true rfl) (ct_X6_hasAgent zWo_3 (zR_0 hR)) rfl ?_
  refine z_eqi ((congrArg zbi (hv)).trans zbi_f) ?_
  exact z_cSX (av := [.int (nI 0)]) dX7_setRange_8 zkX7_123 zw513 zt_mX7_requireIndex rfl rfl (Nat.le_of_ble_eq_true rfl) cx_X7_requireIndex (by decide) (by decide) (fun _ hh => ⟨d, ⟨n, K, hJ⟩, hh⟩)
set_option maxRecDepth 100000 in
set_option maxHeartbeats 4000000 in
theorem cx_X7_setRange2 {g : zGl} {h : zHp} {b n K : Nat} {d u : Nat → Nat → Int32} {x y : Int32} (hJ : zJo d u n K) (hv : qHas x n = true) (hv2 : qBt y 0 22 = false) : zX g mX7_setRange [.ref b, .int x, .int y] (zpT g h b d) "java/lang/IllegalArgumentException" (zXJ g h b u) 1 6 := by
  have hR := hJ.1
  have hn := zR_n6 hR
  have hK := zR_K8 hR
  refine zX_ofA (lv := [some (.ref b), some (.int x), some (.int y), none]) (by decide) rfl (Nat.le_of_ble_eq_true rfl) ?_
  refine z_aload_n (q := 1) dX7_setRange_0 rfl rfl ?_
  refine z_get (q := 4) dX7_setRange_1 zfX7_19 (by first | exact zT_0 | exact zT_o zWo_3 | exact zT_w zWo_3 rfl | exact zT_o zWo_18 | exact zT_X | exact zT_H | exact zT_S | exact zT_C | exact zT_G | exact zT_N (zNo_w zWo_3) | exact zT_n (zNo_w zWo_3) (by decide) | exact zpT_a (c := 284) rfl | exact zT_L) rfl rfl ?_
  refine z_iload_n (q := 5) dX7_setRange_4 rfl rfl ?_
  refine z_v1 (q := 8) dX7_setRange_5 zkX7_119 zt_mX6_hasAgent rfl (by first | exact zT_0 | exact zT_o zWo_3 | exact zT_w zWo_3 rfl | exact zT_o zWo_18 | exact zT_X | exact zT_H | exact zT_S | exact zT_C | exact zT_G | exact zT_N (zNo_w zWo_3) | exact zT_n (zNo_w zWo_3) (by decide) | exact zpT_a (c := 284) rfl | exact zT_L) rfl (Nat.le_of_ble_eq_true rfl) (ct_X6_hasAgent zWo_3 (zR_0 hR)) rfl ?_
  refine z_eqi ((congrArg zbi (hv)).trans zbi_t) ?_
  refine z_u1 (q := 11) dX7_setRange_8 zkX7_123 zt_mX7_requireIndex rfl (Nat.le_of_ble_eq_true rfl) (ct_X7_requireIndex) rfl ?_
  refine z_iload_n (q := 12) dX7_setRange_11 rfl rfl ?_
  refine z_iconst (q := 13) dX7_setRange_12 zci_0 rfl ?_
  refine z_bipush (q := 15) dX7_setRange_13 zcb_22 rfl ?_
  exact z_cSX (av := [.int y, .int (nI 0), .int (nI 22)]) dX7_setRange_15 zkX7_64 zw362 zt_mX7_requireBetween rfl rfl (Nat.le_of_ble_eq_true rfl) (cx_X7_requireBetween hv2) (by decide) (by decide) (fun _ hh => ⟨d, ⟨n, K, hJ⟩, hh⟩)
set_option maxRecDepth 100000 in
set_option maxHeartbeats 4000000 in
theorem ct_X7_setRange0 {g : zGl} {h : zHp} {b n K c a : Nat} {d u : Nat → Nat → Int32} {y : Int32} (hJ : zJo d u n K) (hc : u 0 9 = nI c) (hle : c ≤ 14) (ha : a < n) (hv2 : qBt y 0 22 = true) : zC g mX7_setRange [.ref b, .int (nI a), .int y] (zpT g h b d) (zRJ g h b (va_up (qNd u c) 3 (va_up (u 3) (4 + 6 * a + 2) y)) (u 3 (4 + 6 * a + 2))) 0 0 := by
  have hR := hJ.1
  have hn := zR_n6 hR
  have hK := zR_K8 hR
  obtain ⟨x0, hx0, h331, h332⟩ := zJo_h hJ hc hle
  have hy : zPl y 23 := by
    obtain ⟨j, -, j2, e⟩ := qBt_t hv2 (by decide) (by decide)
    exact ⟨j, by omega, e⟩
  refine zC_ofA (lv := [some (.ref b), some (.int (nI a)), some (.int y), none]) (by decide) rfl (Nat.le_of_ble_eq_true rfl) ?_
  refine z_aload_n (q := 1) dX7_setRange_0 rfl rfl ?_
  refine z_get (q := 4) dX7_setRange_1 zfX7_19 (by first | exact zT_0 | exact zT_o zWo_3 | exact zT_w zWo_3 rfl | exact zT_o zWo_18 | exact zT_X | exact zT_H | exact zT_S | exact zT_C | exact zT_G | exact zT_N (zNo_w zWo_3) | exact zT_n (zNo_w zWo_3) (by decide) | exact zpT_a (c := 284) rfl | exact zT_L) rfl rfl ?_
  refine z_iload_n (q := 5) dX7_setRange_4 rfl rfl ?_
  refine z_v1 (q := 8) dX7_setRange_5 zkX7_119 zt_mX6_hasAgent rfl (by first | exact zT_0 | exact zT_o zWo_3 | exact zT_w zWo_3 rfl | exact zT_o zWo_18 | exact zT_X | exact zT_H | exact zT_S | exact zT_C | exact zT_G | exact zT_N (zNo_w zWo_3) | exact zT_n (zNo_w zWo_3) (by decide) | exact zpT_a (c := 284) rfl | exact zT_L) rfl (Nat.le_of_ble_eq_true rfl) (ct_X6_hasAgent zWo_3 (zR_0 hR)) rfl ?_
  refine z_eqi ((congrArg zbi ((qHas_i ha (by omega)))).trans zbi_t) ?_
  refine z_u1 (q := 11) dX7_setRange_8 zkX7_123 zt_mX7_requireIndex rfl (Nat.le_of_ble_eq_true rfl) (ct_X7_requireIndex) rfl ?_
  refine z_iload_n (q := 12) dX7_setRange_11 rfl rfl ?_
  refine z_iconst (q := 13) dX7_setRange_12 zci_0 rfl ?_
  refine z_bipush (q := 15) dX7_setRange_13 zcb_22 rfl ?_
  refine z_u3 (q := 18) dX7_setRange_15 zkX7_64 zt_mX7_requireBetween rfl (Nat.le_of_ble_eq_true rfl) (ct_X7_requireBetween hv2) rfl ?_
  refine z_aload_n (q := 19) dX7_setRange_18 rfl rfl ?_
  refine z_get (q := 22) dX7_setRange_19 zfX7_29 (by first | exact zT_0 | exact zT_o zWo_3 | exact zT_w zWo_3 rfl | exact zT_o zWo_18 | exact zT_X | exact zT_H | exact zT_S | exact zT_C | exact zT_G | exact zT_N (zNo_w zWo_3) | exact zT_n (zNo_w zWo_3) (by decide) | exact zpT_a (c := 284) rfl | exact zT_L) rfl rfl ?_
  refine z_aload_n (q := 23) dX7_setRange_22 rfl rfl ?_
  refine z_get (q := 26) dX7_setRange_23 zfX7_19 (by first | exact zT_0 | exact zT_o zWo_3 | exact zT_w zWo_3 rfl | exact zT_o zWo_18 | exact zT_X | exact zT_H | exact zT_S | exact zT_C | exact zT_G | exact zT_N (zNo_w zWo_3) | exact zT_n (zNo_w zWo_3) (by decide) | exact zpT_a (c := 284) rfl | exact zT_L) rfl rfl ?_
  refine z_V1 (q := 29) dX7_setRange_26 zkX7_198 zt_mX1_remember rfl zT_H rfl (Nat.le_of_ble_eq_true rfl) (ct_X1_remember h331 hx0 h332 hle) (Nat.zero_le _) (Nat.zero_le _) rfl ?_
  rintro _ _ ⟨rfl, D, rfl, D0, hC0, hD0⟩
  have hJ1 := zJo_rem hJ hx0 hle h331 h332 hC0 hD0
  have hR1 : zR D 3 (u 3) n K := hJ1.1
  refine z_aload_n (q := 30) dX7_setRange_29 rfl rfl ?_
  refine z_get (q := 33) dX7_setRange_30 zfX7_19 (by first | exact zT_0 | exact zT_o zWo_3 | exact zT_w zWo_3 rfl | exact zT_o zWo_18 | exact zT_X | exact zT_H | exact zT_S | exact zT_C | exact zT_G | exact zT_N (zNo_w zWo_3) | exact zT_n (zNo_w zWo_3) (by decide) | exact zpT_a (c := 284) rfl | exact zT_L) rfl rfl ?_
  refine z_get (q := 36) dX7_setRange_33 zfX7_133 (by first | exact zT_0 | exact zT_o zWo_3 | exact zT_w zWo_3 rfl | exact zT_o zWo_18 | exact zT_X | exact zT_H | exact zT_S | exact zT_C | exact zT_G | exact zT_N (zNo_w zWo_3) | exact zT_n (zNo_w zWo_3) (by decide) | exact zpT_a (c := 284) rfl | exact zT_L) rfl rfl ?_
  refine z_iload_n (q := 37) dX7_setRange_36 rfl rfl ?_
  refine z_iald (q := 38) dX7_setRange_37 (by first | exact zT_0 | exact zT_o zWo_3 | exact zT_w zWo_3 rfl | exact zT_o zWo_18 | exact zT_X | exact zT_H | exact zT_S | exact zT_C | exact zT_G | exact zT_N (zNo_w zWo_3) | exact zT_n (zNo_w zWo_3) (by decide) | exact zpT_a (c := 284) rfl | exact zT_L) (by omega) (by omega) rfl ?_
  refine z_eqi (zR_a hR1 ha).2.2.1 ?_
  refine z_istore_n (q := 39) dX7_setRange_38 (Nat.le_of_ble_eq_true rfl) rfl rfl ?_
  refine z_aload_n (q := 40) dX7_setRange_39 rfl rfl ?_
  refine z_get (q := 43) dX7_setRange_40 zfX7_19 (by first | exact zT_0 | exact zT_o zWo_3 | exact zT_w zWo_3 rfl | exact zT_o zWo_18 | exact zT_X | exact zT_H | exact zT_S | exact zT_C | exact zT_G | exact zT_N (zNo_w zWo_3) | exact zT_n (zNo_w zWo_3) (by decide) | exact zpT_a (c := 284) rfl | exact zT_L) rfl rfl ?_
  refine z_get (q := 46) dX7_setRange_43 zfX7_133 (by first | exact zT_0 | exact zT_o zWo_3 | exact zT_w zWo_3 rfl | exact zT_o zWo_18 | exact zT_X | exact zT_H | exact zT_S | exact zT_C | exact zT_G | exact zT_N (zNo_w zWo_3) | exact zT_n (zNo_w zWo_3) (by decide) | exact zpT_a (c := 284) rfl | exact zT_L) rfl rfl ?_
  refine z_iload_n (q := 47) dX7_setRange_46 rfl rfl ?_
  refine z_iload_n (q := 48) dX7_setRange_47 rfl rfl ?_
  refine z_iastT (q := 49) dX7_setRange_48 (zWl_T zWo_3 rfl) (by omega) rfl ?_
  refine z_iload_n (q := 50) dX7_setRange_49 rfl rfl ?_
  exact z_reti dX7_setRange_50 rfl (⟨rfl, _, rfl, n, K, zJo_w (fun q hq => zu_ne (by omega)) (zR_r hy ha hR1) hJ1⟩)
set_option maxRecDepth 100000 in
set_option maxHeartbeats 4000000 in
theorem cx_X7_put1 {g : zGl} {h : zHp} {b n K : Nat} {d u : Nat → Nat → Int32} {x y z : Int32} (hJ : zJo d u n K) (hv : qHas x n = false) : zX g mX7_put [.ref b, .int x, .int y, .int z] (zpT g h b d) "java/lang/IndexOutOfBoundsException" (zXJ g h b u) 1 6 := by
  have hR := hJ.1
  have hn := zR_n6 hR
  have hK := zR_K8 hR
  refine zX_ofA (lv := [some (.ref b), some (.int x), some (.int y), some (.int z), none]) (by decide) rfl (Nat.le_of_ble_eq_true rfl) ?_
  refine z_aload_n (q := 1) dX7_put_0 rfl rfl ?_
  refine z_get (q := 4) dX7_put_1 zfX7_19 (by first | exact zT_0 | exact zT_o zWo_3 | exact zT_w zWo_3 rfl | exact zT_o zWo_18 | exact zT_X | exact zT_H | exact zT_S | exact zT_C | exact zT_G | exact zT_N (zNo_w zWo_3) | exact zT_n (zNo_w zWo_3) (by decide) | exact zpT_a (c := 284) rfl | exact zT_L) rfl rfl ?_
  refine z_iload_n (q := 5) dX7_put_4 rfl rfl ?_
  refine z_v1 (q := 8) dX7_put_5 zkX7_119 zt_mX6_hasAgent rfl (by first | exact zT_0 | exact zT_o zWo_3 | exact zT_w zWo_3 rfl | exact zT_o zWo_18 | exact zT_X | exact zT_H | exact zT_S | exact zT_C | exact zT_G | exact zT_N (zNo_w zWo_3) | exact zT_n (zNo_w zWo_3) (by decide) | exact zpT_a (c := 284) rfl | exact zT_L) rfl (Nat.le_of_ble_eq_true rfl) (ct_X6_hasAgent zWo_3 (zR_0 hR)) rfl ?_
  refine z_eqi ((congrArg zbi (hv)).trans zbi_f) ?_
  exact z_cSX (av := [.int (nI 0)]) dX7_put_8 zkX7_123 zw513 zt_mX7_requireIndex rfl rfl (Nat.le_of_ble_eq_true rfl) cx_X7_requireIndex (by decide) (by decide) (fun _ hh => ⟨d, ⟨n, K, hJ⟩, hh⟩)
theorem and_f {p q : Bool} (h : (p && q) = false) (hp : p = true) : q = false := by rw [hp, Bool.true_and] at h; exact h
set_option maxRecDepth 100000 in
set_option maxHeartbeats 4000000 in
theorem cx_X7_put2 {g : zGl} {h : zHp} {b n K : Nat} {d u : Nat → Nat → Int32} {x y z : Int32} (hJ : zJo d u n K) (hv : qHas x n = true) (hv2 : (qBt y 0 11 && qBt z 0 11) = false) : zX g mX7_put [.ref b, .int x, .int y, .int z] (zpT g h b d) "java/lang/IllegalArgumentException" (zXJ g h b u) 1 6 := by
  have hR := hJ.1
  have hn := zR_n6 hR
  have hK := zR_K8 hR
  refine zX_ofA (lv := [some (.ref b), some (.int x), some (.int y), some (.int z), none]) (by decide) rfl (Nat.le_of_ble_eq_true rfl) ?_
  cases hy : qBt y 0 11 with
  | false =>
    refine z_aload_n (q := 1) dX7_put_0 rfl rfl ?_
    refine z_get (q := 4) dX7_put_1 zfX7_19 (by first | exact zT_0 | exact zT_o zWo_3 | exact zT_w zWo_3 rfl | exact zT_o zWo_18 | exact zT_X | exact zT_H | exact zT_S | exact zT_C | exact zT_G | exact zT_N (zNo_w zWo_3) | exact zT_n (zNo_w zWo_3) (by decide) | exact zpT_a (c := 284) rfl | exact zT_L) rfl rfl ?_
    refine z_iload_n (q := 5) dX7_put_4 rfl rfl ?_
    refine z_v1 (q := 8) dX7_put_5 zkX7_119 zt_mX6_hasAgent rfl (by first | exact zT_0 | exact zT_o zWo_3 | exact zT_w zWo_3 rfl | exact zT_o zWo_18 | exact zT_X | exact zT_H | exact zT_S | exact zT_C | exact zT_G | exact zT_N (zNo_w zWo_3) | exact zT_n (zNo_w zWo_3) (by decide) | exact zpT_a (c := 284) rfl | exact zT_L) rfl (Nat.le_of_ble_eq_true rfl) (ct_X6_hasAgent zWo_3 (zR_0 hR)) rfl ?_
    refine z_eqi ((congrArg zbi (hv)).trans zbi_t) ?_
    refine z_u1 (q := 11) dX7_put_8 zkX7_123 zt_mX7_requireIndex rfl (Nat.le_of_ble_eq_true rfl) (ct_X7_requireIndex) rfl ?_
    refine z_iload_n (q := 12) dX7_put_11 rfl rfl ?_
    refine z_iconst (q := 13) dX7_put_12 zci_0 rfl ?_
    refine z_bipush (q := 15) dX7_put_13 zcb_11 rfl ?_
    exact z_cSX (av := [.int y, .int (nI 0), .int (nI 11)]) dX7_put_15 zkX7_64 zw362 zt_mX7_requireBetween rfl rfl (Nat.le_of_ble_eq_true rfl) (cx_X7_requireBetween hy) (by decide) (by decide) (fun _ hh => ⟨d, ⟨n, K, hJ⟩, hh⟩)
  | true =>
    have hz := and_f hv2 hy
    refine z_aload_n (q := 1) dX7_put_0 rfl rfl ?_
    refine z_get (q := 4) dX7_put_1 zfX7_19 (by first | exact zT_0 | exact zT_o zWo_3 | exact zT_w zWo_3 rfl | exact zT_o zWo_18 | exact zT_X | exact zT_H | exact zT_S | exact zT_C | exact zT_G | exact zT_N (zNo_w zWo_3) | exact zT_n (zNo_w zWo_3) (by decide) | exact zpT_a (c := 284) rfl | exact zT_L) rfl rfl ?_
    refine z_iload_n (q := 5) dX7_put_4 rfl rfl ?_
    refine z_v1 (q := 8) dX7_put_5 zkX7_119 zt_mX6_hasAgent rfl (by first | exact zT_0 | exact zT_o zWo_3 | exact zT_w zWo_3 rfl | exact zT_o zWo_18 | exact zT_X | exact zT_H | exact zT_S | exact zT_C | exact zT_G | exact zT_N (zNo_w zWo_3) | exact zT_n (zNo_w zWo_3) (by decide) | exact zpT_a (c := 284) rfl | exact zT_L) rfl (Nat.le_of_ble_eq_true rfl) (ct_X6_hasAgent zWo_3 (zR_0 hR)) rfl ?_
    refine z_eqi ((congrArg zbi (hv)).trans zbi_t) ?_
    refine z_u1 (q := 11) dX7_put_8 zkX7_123 zt_mX7_requireIndex rfl (Nat.le_of_ble_eq_true rfl) (ct_X7_requireIndex) rfl ?_
    refine z_iload_n (q := 12) dX7_put_11 rfl rfl ?_
    refine z_iconst (q := 13) dX7_put_12 zci_0 rfl ?_
    refine z_bipush (q := 15) dX7_put_13 zcb_11 rfl ?_
    refine z_u3 (q := 18) dX7_put_15 zkX7_64 zt_mX7_requireBetween rfl (Nat.le_of_ble_eq_true rfl) (ct_X7_requireBetween hy) rfl ?_
    refine z_iload_n (q := 19) dX7_put_18 rfl rfl ?_
    refine z_iconst (q := 20) dX7_put_19 zci_0 rfl ?_
    refine z_bipush (q := 22) dX7_put_20 zcb_11 rfl ?_
    exact z_cSX (av := [.int z, .int (nI 0), .int (nI 11)]) dX7_put_22 zkX7_64 zw362 zt_mX7_requireBetween rfl rfl (Nat.le_of_ble_eq_true rfl) (cx_X7_requireBetween hz) (by decide) (by decide) (fun _ hh => ⟨d, ⟨n, K, hJ⟩, hh⟩)
set_option maxRecDepth 100000 in
set_option maxHeartbeats 4000000 in
theorem ct_X7_put0 {g : zGl} {h : zHp} {b n K c a : Nat} {d u : Nat → Nat → Int32} {y z : Int32} (hJ : zJo d u n K) (hc : u 0 9 = nI c) (hle : c ≤ 14) (ha : a < n) (hv2 : (qBt y 0 11 && qBt z 0 11) = true) : zC g mX7_put [.ref b, .int (nI a), .int y, .int z] (zpT g h b d) (zRJ g h b (va_up (qNd u c) 3 (va_up (va_up (u 3) (4 + 6 * a) y) (4 + 6 * a + 1) z)) (qSz (u 3 (4 + 6 * a) - y) + qSz (u 3 (4 + 6 * a + 1) - z))) 0 0 := by
  have hR := hJ.1
  have hn := zR_n6 hR
  have hK := zR_K8 hR
  obtain ⟨x0, hx0, h331, h332⟩ := zJo_h hJ hc hle
  rw [Bool.and_eq_true] at hv2
  have hy : zPl y 12 := by
    obtain ⟨j, -, j2, e⟩ := qBt_t hv2.1 (by decide) (by decide)
    exact ⟨j, by omega, e⟩
  have hz : zPl z 12 := by
    obtain ⟨j, -, j2, e⟩ := qBt_t hv2.2 (by decide) (by decide)
    exact ⟨j, by omega, e⟩
  have w1 := zWF_a hR.1 ha
  refine zC_ofA (lv := [some (.ref b), some (.int (nI a)), some (.int y), some (.int z), none]) (by decide) rfl (Nat.le_of_ble_eq_true rfl) ?_
  refine z_aload_n (q := 1) dX7_put_0 rfl rfl ?_
  refine z_get (q := 4) dX7_put_1 zfX7_19 (by first | exact zT_0 | exact zT_o zWo_3 | exact zT_w zWo_3 rfl | exact zT_o zWo_18 | exact zT_X | exact zT_H | exact zT_S | exact zT_C | exact zT_G | exact zT_N (zNo_w zWo_3) | exact zT_n (zNo_w zWo_3) (by decide) | exact zpT_a (c := 284) rfl | exact zT_L) rfl rfl ?_
  refine z_iload_n (q := 5) dX7_put_4 rfl rfl ?_
  refine z_v1 (q := 8) dX7_put_5 zkX7_119 zt_mX6_hasAgent rfl (by first | exact zT_0 | exact zT_o zWo_3 | exact zT_w zWo_3 rfl | exact zT_o zWo_18 | exact zT_X | exact zT_H | exact zT_S | exact zT_C | exact zT_G | exact zT_N (zNo_w zWo_3) | exact zT_n (zNo_w zWo_3) (by decide) | exact zpT_a (c := 284) rfl | exact zT_L) rfl (Nat.le_of_ble_eq_true rfl) (ct_X6_hasAgent zWo_3 (zR_0 hR)) rfl ?_
  refine z_eqi ((congrArg zbi ((qHas_i ha (by omega)))).trans zbi_t) ?_
  refine z_u1 (q := 11) dX7_put_8 zkX7_123 zt_mX7_requireIndex rfl (Nat.le_of_ble_eq_true rfl) (ct_X7_requireIndex) rfl ?_
  refine z_iload_n (q := 12) dX7_put_11 rfl rfl ?_
  refine z_iconst (q := 13) dX7_put_12 zci_0 rfl ?_
  refine z_bipush (q := 15) dX7_put_13 zcb_11 rfl ?_
  refine z_u3 (q := 18) dX7_put_15 zkX7_64 zt_mX7_requireBetween rfl (Nat.le_of_ble_eq_true rfl) (ct_X7_requireBetween hv2.1) rfl ?_
  refine z_iload_n (q := 19) dX7_put_18 rfl rfl ?_
  refine z_iconst (q := 20) dX7_put_19 zci_0 rfl ?_
  refine z_bipush (q := 22) dX7_put_20 zcb_11 rfl ?_
  refine z_u3 (q := 25) dX7_put_22 zkX7_64 zt_mX7_requireBetween rfl (Nat.le_of_ble_eq_true rfl) (ct_X7_requireBetween hv2.2) rfl ?_
  refine z_aload_n (q := 26) dX7_put_25 rfl rfl ?_
  refine z_get (q := 29) dX7_put_26 zfX7_29 (by first | exact zT_0 | exact zT_o zWo_3 | exact zT_w zWo_3 rfl | exact zT_o zWo_18 | exact zT_X | exact zT_H | exact zT_S | exact zT_C | exact zT_G | exact zT_N (zNo_w zWo_3) | exact zT_n (zNo_w zWo_3) (by decide) | exact zpT_a (c := 284) rfl | exact zT_L) rfl rfl ?_
  refine z_aload_n (q := 30) dX7_put_29 rfl rfl ?_
  refine z_get (q := 33) dX7_put_30 zfX7_19 (by first | exact zT_0 | exact zT_o zWo_3 | exact zT_w zWo_3 rfl | exact zT_o zWo_18 | exact zT_X | exact zT_H | exact zT_S | exact zT_C | exact zT_G | exact zT_N (zNo_w zWo_3) | exact zT_n (zNo_w zWo_3) (by decide) | exact zpT_a (c := 284) rfl | exact zT_L) rfl rfl ?_
  refine z_V1 (q := 36) dX7_put_33 zkX7_198 zt_mX1_remember rfl zT_H rfl (Nat.le_of_ble_eq_true rfl) (ct_X1_remember h331 hx0 h332 hle) (Nat.zero_le _) (Nat.zero_le _) rfl ?_
  rintro _ _ ⟨rfl, D, rfl, D0, hC0, hD0⟩
  have hJ1 := zJo_rem hJ hx0 hle h331 h332 hC0 hD0
  have hR1 : zR D 3 (u 3) n K := hJ1.1
  refine z_aload_n (q := 37) dX7_put_36 rfl rfl ?_
  refine z_get (q := 40) dX7_put_37 zfX7_19 (by first | exact zT_0 | exact zT_o zWo_3 | exact zT_w zWo_3 rfl | exact zT_o zWo_18 | exact zT_X | exact zT_H | exact zT_S | exact zT_C | exact zT_G | exact zT_N (zNo_w zWo_3) | exact zT_n (zNo_w zWo_3) (by decide) | exact zpT_a (c := 284) rfl | exact zT_L) rfl rfl ?_
  refine z_get (q := 43) dX7_put_40 zfX7_126 (by first | exact zT_0 | exact zT_o zWo_3 | exact zT_w zWo_3 rfl | exact zT_o zWo_18 | exact zT_X | exact zT_H | exact zT_S | exact zT_C | exact zT_G | exact zT_N (zNo_w zWo_3) | exact zT_n (zNo_w zWo_3) (by decide) | exact zpT_a (c := 284) rfl | exact zT_L) rfl rfl ?_
  refine z_iload_n (q := 44) dX7_put_43 rfl rfl ?_
  refine z_iald (q := 45) dX7_put_44 (by first | exact zT_0 | exact zT_o zWo_3 | exact zT_w zWo_3 rfl | exact zT_o zWo_18 | exact zT_X | exact zT_H | exact zT_S | exact zT_C | exact zT_G | exact zT_N (zNo_w zWo_3) | exact zT_n (zNo_w zWo_3) (by decide) | exact zpT_a (c := 284) rfl | exact zT_L) (by omega) (by omega) rfl ?_
  refine z_eqi (zR_a hR1 ha).1 ?_
  refine z_aload_n (q := 46) dX7_put_45 rfl rfl ?_
  refine z_get (q := 49) dX7_put_46 zfX7_19 (by first | exact zT_0 | exact zT_o zWo_3 | exact zT_w zWo_3 rfl | exact zT_o zWo_18 | exact zT_X | exact zT_H | exact zT_S | exact zT_C | exact zT_G | exact zT_N (zNo_w zWo_3) | exact zT_n (zNo_w zWo_3) (by decide) | exact zpT_a (c := 284) rfl | exact zT_L) rfl rfl ?_
  refine z_get (q := 52) dX7_put_49 zfX7_130 (by first | exact zT_0 | exact zT_o zWo_3 | exact zT_w zWo_3 rfl | exact zT_o zWo_18 | exact zT_X | exact zT_H | exact zT_S | exact zT_C | exact zT_G | exact zT_N (zNo_w zWo_3) | exact zT_n (zNo_w zWo_3) (by decide) | exact zpT_a (c := 284) rfl | exact zT_L) rfl rfl ?_
  refine z_iload_n (q := 53) dX7_put_52 rfl rfl ?_
  refine z_iald (q := 54) dX7_put_53 (by first | exact zT_0 | exact zT_o zWo_3 | exact zT_w zWo_3 rfl | exact zT_o zWo_18 | exact zT_X | exact zT_H | exact zT_S | exact zT_C | exact zT_G | exact zT_N (zNo_w zWo_3) | exact zT_n (zNo_w zWo_3) (by decide) | exact zpT_a (c := 284) rfl | exact zT_L) (by omega) (by omega) rfl ?_
  refine z_eqi (zR_a hR1 ha).2.1 ?_
  refine z_iload_n (q := 55) dX7_put_54 rfl rfl ?_
  refine z_iload_n (q := 56) dX7_put_55 rfl rfl ?_
  refine z_s4 (q := 59) dX7_put_56 zkX7_205 zt_mX7_distanceOf rfl (Nat.le_of_ble_eq_true rfl) (ct_X7_distanceOf) rfl ?_
  refine z_eqi (show _ = qSz (u 3 (4 + 6 * a) - y) + qSz (u 3 (4 + 6 * a + 1) - z) by rw [qDst_sz w1.1 hy, qDst_sz w1.2.1 hz]) ?_
  refine z_istore (q := 61) dX7_put_59 (Nat.le_of_ble_eq_true rfl) rfl rfl ?_
  refine z_aload_n (q := 62) dX7_put_61 rfl rfl ?_
  refine z_get (q := 65) dX7_put_62 zfX7_19 (by first | exact zT_0 | exact zT_o zWo_3 | exact zT_w zWo_3 rfl | exact zT_o zWo_18 | exact zT_X | exact zT_H | exact zT_S | exact zT_C | exact zT_G | exact zT_N (zNo_w zWo_3) | exact zT_n (zNo_w zWo_3) (by decide) | exact zpT_a (c := 284) rfl | exact zT_L) rfl rfl ?_
  refine z_iload_n (q := 66) dX7_put_65 rfl rfl ?_
  refine z_iload_n (q := 67) dX7_put_66 rfl rfl ?_
  refine z_iload_n (q := 68) dX7_put_67 rfl rfl ?_
  refine z_V3 (q := 71) dX7_put_68 zkX7_209 zt_mX6_placeAgent rfl (by first | exact zT_0 | exact zT_o zWo_3 | exact zT_w zWo_3 rfl | exact zT_o zWo_18 | exact zT_X | exact zT_H | exact zT_S | exact zT_C | exact zT_G | exact zT_N (zNo_w zWo_3) | exact zT_n (zNo_w zWo_3) (by decide) | exact zpT_a (c := 284) rfl | exact zT_L) rfl (Nat.le_of_ble_eq_true rfl) (ct_X6_placeAgent zWo_3 hR1 ha hy hz) (Nat.zero_le _) (Nat.zero_le _) rfl ?_
  rintro _ _ ⟨rfl, D2, rfl, hR2, hO2⟩
  refine z_iload (q := 73) dX7_put_71 rfl rfl ?_
  exact z_reti dX7_put_73 rfl (⟨rfl, D2, rfl, n, K, zJo_w (zAg_o hO2) hR2 hJ1⟩)
set_option maxRecDepth 100000 in
set_option maxHeartbeats 4000000 in
theorem cx_X7_toggle1 {g : zGl} {h : zHp} {b n K : Nat} {d u : Nat → Nat → Int32} {x : Int32} (hJ : zJo d u n K) (hv : qHas x n = false) : zX g mX7_toggle [.ref b, .int x] (zpT g h b d) "java/lang/IndexOutOfBoundsException" (zXJ g h b u) 1 6 := by
  have hR := hJ.1
  have hn := zR_n6 hR
  have hK := zR_K8 hR
  refine zX_ofA (lv := [some (.ref b), some (.int x)]) (by decide) rfl (Nat.le_of_ble_eq_true rfl) ?_
  refine z_aload_n (q := 1) dX7_toggle_0 rfl rfl ?_
  refine z_get (q := 4) dX7_toggle_1 zfX7_19 (by first | exact zT_0 | exact zT_o zWo_3 | exact zT_w zWo_3 rfl | exact zT_o zWo_18 | exact zT_X | exact zT_H | exact zT_S | exact zT_C | exact zT_G | exact zT_N (zNo_w zWo_3) | exact zT_n (zNo_w zWo_3) (by decide) | exact zpT_a (c := 284) rfl | exact zT_L) rfl rfl ?_
  refine z_iload_n (q := 5) dX7_toggle_4 rfl rfl ?_
  refine z_v1 (q := 8) dX7_toggle_5 zkX7_119 zt_mX6_hasAgent rfl (by first | exact zT_0 | exact zT_o zWo_3 | exact zT_w zWo_3 rfl | exact zT_o zWo_18 | exact zT_X | exact zT_H | exact zT_S | exact zT_C | exact zT_G | exact zT_N (zNo_w zWo_3) | exact zT_n (zNo_w zWo_3) (by decide) | exact zpT_a (c := 284) rfl | exact zT_L) rfl (Nat.le_of_ble_eq_true rfl) (ct_X6_hasAgent zWo_3 (zR_0 hR)) rfl ?_
  refine z_eqi ((congrArg zbi (hv)).trans zbi_f) ?_
  exact z_cSX (av := [.int (nI 0)]) dX7_toggle_8 zkX7_123 zw513 zt_mX7_requireIndex rfl rfl (Nat.le_of_ble_eq_true rfl) cx_X7_requireIndex (by decide) (by decide) (fun _ hh => ⟨d, ⟨n, K, hJ⟩, hh⟩)
set_option maxRecDepth 100000 in
set_option maxHeartbeats 4000000 in
theorem ct_X7_toggle0 {g : zGl} {h : zHp} {b n K c a : Nat} {d u : Nat → Nat → Int32} (hJ : zJo d u n K) (hc : u 0 9 = nI c) (hle : c ≤ 14) (ha : a < n) : zC g mX7_toggle [.ref b, .int (nI a)] (zpT g h b d) (zRJ g h b (va_up (qNd u c) 3 (qTog (u 3) a)) (qSum (qTog (u 3) a) n 3)) 0 0 := by
  have hR := hJ.1
  have hn := zR_n6 hR
  have hK := zR_K8 hR
  obtain ⟨x0, hx0, h331, h332⟩ := zJo_h hJ hc hle
  refine zC_ofA (lv := [some (.ref b), some (.int (nI a))]) (by decide) rfl (Nat.le_of_ble_eq_true rfl) ?_
  refine z_aload_n (q := 1) dX7_toggle_0 rfl rfl ?_
  refine z_get (q := 4) dX7_toggle_1 zfX7_19 (by first | exact zT_0 | exact zT_o zWo_3 | exact zT_w zWo_3 rfl | exact zT_o zWo_18 | exact zT_X | exact zT_H | exact zT_S | exact zT_C | exact zT_G | exact zT_N (zNo_w zWo_3) | exact zT_n (zNo_w zWo_3) (by decide) | exact zpT_a (c := 284) rfl | exact zT_L) rfl rfl ?_
  refine z_iload_n (q := 5) dX7_toggle_4 rfl rfl ?_
  refine z_v1 (q := 8) dX7_toggle_5 zkX7_119 zt_mX6_hasAgent rfl (by first | exact zT_0 | exact zT_o zWo_3 | exact zT_w zWo_3 rfl | exact zT_o zWo_18 | exact zT_X | exact zT_H | exact zT_S | exact zT_C | exact zT_G | exact zT_N (zNo_w zWo_3) | exact zT_n (zNo_w zWo_3) (by decide) | exact zpT_a (c := 284) rfl | exact zT_L) rfl (Nat.le_of_ble_eq_true rfl) (ct_X6_hasAgent zWo_3 (zR_0 hR)) rfl ?_
  refine z_eqi ((congrArg zbi ((qHas_i ha (by omega)))).trans zbi_t) ?_
  refine z_u1 (q := 11) dX7_toggle_8 zkX7_123 zt_mX7_requireIndex rfl (Nat.le_of_ble_eq_true rfl) (ct_X7_requireIndex) rfl ?_
  refine z_aload_n (q := 12) dX7_toggle_11 rfl rfl ?_
  refine z_get (q := 15) dX7_toggle_12 zfX7_29 (by first | exact zT_0 | exact zT_o zWo_3 | exact zT_w zWo_3 rfl | exact zT_o zWo_18 | exact zT_X | exact zT_H | exact zT_S | exact zT_C | exact zT_G | exact zT_N (zNo_w zWo_3) | exact zT_n (zNo_w zWo_3) (by decide) | exact zpT_a (c := 284) rfl | exact zT_L) rfl rfl ?_
  refine z_aload_n (q := 16) dX7_toggle_15 rfl rfl ?_
  refine z_get (q := 19) dX7_toggle_16 zfX7_19 (by first | exact zT_0 | exact zT_o zWo_3 | exact zT_w zWo_3 rfl | exact zT_o zWo_18 | exact zT_X | exact zT_H | exact zT_S | exact zT_C | exact zT_G | exact zT_N (zNo_w zWo_3) | exact zT_n (zNo_w zWo_3) (by decide) | exact zpT_a (c := 284) rfl | exact zT_L) rfl rfl ?_
  refine z_V1 (q := 22) dX7_toggle_19 zkX7_198 zt_mX1_remember rfl zT_H rfl (Nat.le_of_ble_eq_true rfl) (ct_X1_remember h331 hx0 h332 hle) (Nat.zero_le _) (Nat.zero_le _) rfl ?_
  rintro _ _ ⟨rfl, D, rfl, D0, hC0, hD0⟩
  have hJ1 := zJo_rem hJ hx0 hle h331 h332 hC0 hD0
  have hR1 : zR D 3 (u 3) n K := hJ1.1
  refine z_aload_n (q := 23) dX7_toggle_22 rfl rfl ?_
  refine z_get (q := 26) dX7_toggle_23 zfX7_19 (by first | exact zT_0 | exact zT_o zWo_3 | exact zT_w zWo_3 rfl | exact zT_o zWo_18 | exact zT_X | exact zT_H | exact zT_S | exact zT_C | exact zT_G | exact zT_N (zNo_w zWo_3) | exact zT_n (zNo_w zWo_3) (by decide) | exact zpT_a (c := 284) rfl | exact zT_L) rfl rfl ?_
  refine z_iload_n (q := 27) dX7_toggle_26 rfl rfl ?_
  refine z_V1 (q := 30) dX7_toggle_27 zkX7_212 zt_mX6_switchAgent rfl (by first | exact zT_0 | exact zT_o zWo_3 | exact zT_w zWo_3 rfl | exact zT_o zWo_18 | exact zT_X | exact zT_H | exact zT_S | exact zT_C | exact zT_G | exact zT_N (zNo_w zWo_3) | exact zT_n (zNo_w zWo_3) (by decide) | exact zpT_a (c := 284) rfl | exact zT_L) rfl (Nat.le_of_ble_eq_true rfl) (ct_X6_switchAgent zWo_3 hR1 ha) (Nat.zero_le _) (Nat.zero_le _) rfl ?_
  rintro _ _ ⟨rfl, D2, rfl, hR2, hO2⟩
  refine z_aload_n (q := 31) dX7_toggle_30 rfl rfl ?_
  refine z_get (q := 34) dX7_toggle_31 zfX7_19 (by first | exact zT_0 | exact zT_o zWo_3 | exact zT_w zWo_3 rfl | exact zT_o zWo_18 | exact zT_X | exact zT_H | exact zT_S | exact zT_C | exact zT_G | exact zT_N (zNo_w zWo_3) | exact zT_n (zNo_w zWo_3) (by decide) | exact zpT_a (c := 284) rfl | exact zT_L) rfl rfl ?_
  refine z_get (q := 37) dX7_toggle_34 zfX7_116 (by first | exact zT_0 | exact zT_o zWo_3 | exact zT_w zWo_3 rfl | exact zT_o zWo_18 | exact zT_X | exact zT_H | exact zT_S | exact zT_C | exact zT_G | exact zT_N (zNo_w zWo_3) | exact zT_n (zNo_w zWo_3) (by decide) | exact zpT_a (c := 284) rfl | exact zT_L) rfl rfl ?_
  refine z_eqi (zR_mk hR2) ?_
  refine z_s1 (q := 40) dX7_toggle_37 zkX7_215 zt_mJ6_bitCount_0f7a4 rfl (Nat.le_of_ble_eq_true rfl) (ct_J6_bitCount (zS_31 mk_lt hn)) rfl ?_
  exact z_reti dX7_toggle_40 rfl (⟨by rw [qSum_on hR2.1], D2, rfl, n, K, zJo_w (zAg_o hO2) hR2 hJ1⟩)
set_option maxRecDepth 100000 in
set_option maxHeartbeats 4000000 in
theorem cx_X7_handOver1 {g : zGl} {h : zHp} {b n K : Nat} {d u : Nat → Nat → Int32} {x y : Int32} (hJ : zJo d u n K) (hv : (qHas x n && qHas y n) = false) : zX g mX7_handOver [.ref b, .int x, .int y] (zpT g h b d) "java/lang/IndexOutOfBoundsException" (zXJ g h b u) 1 6 := by
  have hR := hJ.1
  have hn := zR_n6 hR
  have hK := zR_K8 hR
  refine zX_ofA (lv := [some (.ref b), some (.int x), some (.int y), none]) (by decide) rfl (Nat.le_of_ble_eq_true rfl) ?_
  refine z_aload_n (q := 1) dX7_handOver_0 rfl rfl ?_
  refine z_get (q := 4) dX7_handOver_1 zfX7_19 (by first | exact zT_0 | exact zT_o zWo_3 | exact zT_w zWo_3 rfl | exact zT_o zWo_18 | exact zT_X | exact zT_H | exact zT_S | exact zT_C | exact zT_G | exact zT_N (zNo_w zWo_3) | exact zT_n (zNo_w zWo_3) (by decide) | exact zpT_a (c := 284) rfl | exact zT_L) rfl rfl ?_
  refine z_iload_n (q := 5) dX7_handOver_4 rfl rfl ?_
  refine z_v1 (q := 8) dX7_handOver_5 zkX7_119 zt_mX6_hasAgent rfl (by first | exact zT_0 | exact zT_o zWo_3 | exact zT_w zWo_3 rfl | exact zT_o zWo_18 | exact zT_X | exact zT_H | exact zT_S | exact zT_C | exact zT_G | exact zT_N (zNo_w zWo_3) | exact zT_n (zNo_w zWo_3) (by decide) | exact zpT_a (c := 284) rfl | exact zT_L) rfl (Nat.le_of_ble_eq_true rfl) (ct_X6_hasAgent zWo_3 (zR_0 hR)) rfl ?_
  refine z_ifb_eq (tg := 26) (q := 11) dX7_handOver_8 rfl rfl ?_ ?_
  · intro hc8
    refine z_iconst (q := 27) dX7_handOver_26 zci_0 rfl ?_
    exact z_cSX (av := [.int (nI 0)]) dX7_handOver_27 zkX7_123 zw513 zt_mX7_requireIndex rfl rfl (Nat.le_of_ble_eq_true rfl) cx_X7_requireIndex (by decide) (by decide) (fun _ hh => ⟨d, ⟨n, K, hJ⟩, hh⟩)
  · intro hc8
    refine z_aload_n (q := 12) dX7_handOver_11 rfl rfl ?_
    refine z_get (q := 15) dX7_handOver_12 zfX7_19 (by first | exact zT_0 | exact zT_o zWo_3 | exact zT_w zWo_3 rfl | exact zT_o zWo_18 | exact zT_X | exact zT_H | exact zT_S | exact zT_C | exact zT_G | exact zT_N (zNo_w zWo_3) | exact zT_n (zNo_w zWo_3) (by decide) | exact zpT_a (c := 284) rfl | exact zT_L) rfl rfl ?_
    refine z_iload_n (q := 16) dX7_handOver_15 rfl rfl ?_
    refine z_v1 (q := 19) dX7_handOver_16 zkX7_119 zt_mX6_hasAgent rfl (by first | exact zT_0 | exact zT_o zWo_3 | exact zT_w zWo_3 rfl | exact zT_o zWo_18 | exact zT_X | exact zT_H | exact zT_S | exact zT_C | exact zT_G | exact zT_N (zNo_w zWo_3) | exact zT_n (zNo_w zWo_3) (by decide) | exact zpT_a (c := 284) rfl | exact zT_L) rfl (Nat.le_of_ble_eq_true rfl) (ct_X6_hasAgent zWo_3 (zR_0 hR)) rfl ?_
    refine z_ifb_eq (tg := 26) (q := 22) dX7_handOver_19 rfl rfl ?_ ?_
    · intro hc19
      refine z_iconst (q := 27) dX7_handOver_26 zci_0 rfl ?_
      exact z_cSX (av := [.int (nI 0)]) dX7_handOver_27 zkX7_123 zw513 zt_mX7_requireIndex rfl rfl (Nat.le_of_ble_eq_true rfl) cx_X7_requireIndex (by decide) (by decide) (fun _ hh => ⟨d, ⟨n, K, hJ⟩, hh⟩)
    · intro hc19
      exact absurd hv (by rw [hc8, hc19]; decide)
set_option maxRecDepth 100000 in
set_option maxHeartbeats 4000000 in
theorem cx_X7_handOver2 {g : zGl} {h : zHp} {b n K a : Nat} {d u : Nat → Nat → Int32} (hJ : zJo d u n K) (ha : a < n) : zX g mX7_handOver [.ref b, .int (nI a), .int (nI a)] (zpT g h b d) "java/lang/IllegalArgumentException" (zXJ g h b u) 1 6 := by
  have hR := hJ.1
  have hn := zR_n6 hR
  have hK := zR_K8 hR
  have hb := ha
  refine zX_ofA (lv := [some (.ref b), some (.int (nI a)), some (.int (nI a)), none]) (by decide) rfl (Nat.le_of_ble_eq_true rfl) ?_
  refine z_aload_n (q := 1) dX7_handOver_0 rfl rfl ?_
  refine z_get (q := 4) dX7_handOver_1 zfX7_19 (by first | exact zT_0 | exact zT_o zWo_3 | exact zT_w zWo_3 rfl | exact zT_o zWo_18 | exact zT_X | exact zT_H | exact zT_S | exact zT_C | exact zT_G | exact zT_N (zNo_w zWo_3) | exact zT_n (zNo_w zWo_3) (by decide) | exact zpT_a (c := 284) rfl | exact zT_L) rfl rfl ?_
  refine z_iload_n (q := 5) dX7_handOver_4 rfl rfl ?_
  refine z_v1 (q := 8) dX7_handOver_5 zkX7_119 zt_mX6_hasAgent rfl (by first | exact zT_0 | exact zT_o zWo_3 | exact zT_w zWo_3 rfl | exact zT_o zWo_18 | exact zT_X | exact zT_H | exact zT_S | exact zT_C | exact zT_G | exact zT_N (zNo_w zWo_3) | exact zT_n (zNo_w zWo_3) (by decide) | exact zpT_a (c := 284) rfl | exact zT_L) rfl (Nat.le_of_ble_eq_true rfl) (ct_X6_hasAgent zWo_3 (zR_0 hR)) rfl ?_
  refine z_eqi ((congrArg zbi ((qHas_i ha (by omega)))).trans zbi_t) ?_
  refine z_if_eq (tg := 26) (q := 11) dX7_handOver_8 rfl rfl ?_ ?_
  · intro hc8
    exact absurd hc8 (by decide)
  · intro hc8
    refine z_aload_n (q := 12) dX7_handOver_11 rfl rfl ?_
    refine z_get (q := 15) dX7_handOver_12 zfX7_19 (by first | exact zT_0 | exact zT_o zWo_3 | exact zT_w zWo_3 rfl | exact zT_o zWo_18 | exact zT_X | exact zT_H | exact zT_S | exact zT_C | exact zT_G | exact zT_N (zNo_w zWo_3) | exact zT_n (zNo_w zWo_3) (by decide) | exact zpT_a (c := 284) rfl | exact zT_L) rfl rfl ?_
    refine z_iload_n (q := 16) dX7_handOver_15 rfl rfl ?_
    refine z_v1 (q := 19) dX7_handOver_16 zkX7_119 zt_mX6_hasAgent rfl (by first | exact zT_0 | exact zT_o zWo_3 | exact zT_w zWo_3 rfl | exact zT_o zWo_18 | exact zT_X | exact zT_H | exact zT_S | exact zT_C | exact zT_G | exact zT_N (zNo_w zWo_3) | exact zT_n (zNo_w zWo_3) (by decide) | exact zpT_a (c := 284) rfl | exact zT_L) rfl (Nat.le_of_ble_eq_true rfl) (ct_X6_hasAgent zWo_3 (zR_0 hR)) rfl ?_
    refine z_eqi ((congrArg zbi ((qHas_i hb (by omega)))).trans zbi_t) ?_
    refine z_if_eq (tg := 26) (q := 22) dX7_handOver_19 rfl rfl ?_ ?_
    · intro hc19
      exact absurd hc19 (by decide)
    · intro hc19
      refine z_iconst (q := 23) dX7_handOver_22 zci_1 rfl ?_
      refine z_goto (q := 0) (tg := 27) dX7_handOver_23 rfl ?_
      refine z_u1 (q := 30) dX7_handOver_27 zkX7_123 zt_mX7_requireIndex rfl (Nat.le_of_ble_eq_true rfl) (ct_X7_requireIndex) rfl ?_
      refine z_iload_n (q := 31) dX7_handOver_30 rfl rfl ?_
      refine z_iload_n (q := 32) dX7_handOver_31 rfl rfl ?_
      refine z_icmp_eqN (tg := 39) (q := 35) dX7_handOver_32 rfl rfl (by omega) (by omega) ?_ ?_
      · intro hc32
        refine z_iconst (q := 40) dX7_handOver_39 zci_0 rfl ?_
        exact z_cSX (av := [.int (nI 0)]) dX7_handOver_40 zkX7_220 zw365 zt_mX7_requireArgument rfl rfl (Nat.le_of_ble_eq_true rfl) cx_X7_requireArgument (by decide) (by decide) (fun _ hh => ⟨d, ⟨n, K, hJ⟩, hh⟩)
      · intro hc32
        exact absurd rfl hc32
set_option maxRecDepth 100000 in
set_option maxHeartbeats 4000000 in
theorem cx_X7_handOver3 {g : zGl} {h : zHp} {b n K a c : Nat} {d u : Nat → Nat → Int32} (hJ : zJo d u n K) (ha : a < n) (hb : c < n) (hab : a ≠ c) (hv : qCan (u 3) K a c = false) : zX g mX7_handOver [.ref b, .int (nI a), .int (nI c)] (zpT g h b d) "java/lang/IllegalStateException" (zXJ g h b u) 1 6 := by
  have hR := hJ.1
  have hn := zR_n6 hR
  have hK := zR_K8 hR
  refine zX_ofA (lv := [some (.ref b), some (.int (nI a)), some (.int (nI c)), none]) (by decide) rfl (Nat.le_of_ble_eq_true rfl) ?_
  refine z_aload_n (q := 1) dX7_handOver_0 rfl rfl ?_
  refine z_get (q := 4) dX7_handOver_1 zfX7_19 (by first | exact zT_0 | exact zT_o zWo_3 | exact zT_w zWo_3 rfl | exact zT_o zWo_18 | exact zT_X | exact zT_H | exact zT_S | exact zT_C | exact zT_G | exact zT_N (zNo_w zWo_3) | exact zT_n (zNo_w zWo_3) (by decide) | exact zpT_a (c := 284) rfl | exact zT_L) rfl rfl ?_
  refine z_iload_n (q := 5) dX7_handOver_4 rfl rfl ?_
  refine z_v1 (q := 8) dX7_handOver_5 zkX7_119 zt_mX6_hasAgent rfl (by first | exact zT_0 | exact zT_o zWo_3 | exact zT_w zWo_3 rfl | exact zT_o zWo_18 | exact zT_X | exact zT_H | exact zT_S | exact zT_C | exact zT_G | exact zT_N (zNo_w zWo_3) | exact zT_n (zNo_w zWo_3) (by decide) | exact zpT_a (c := 284) rfl | exact zT_L) rfl (Nat.le_of_ble_eq_true rfl) (ct_X6_hasAgent zWo_3 (zR_0 hR)) rfl ?_
  refine z_eqi ((congrArg zbi ((qHas_i ha (by omega)))).trans zbi_t) ?_
  refine z_if_eq (tg := 26) (q := 11) dX7_handOver_8 rfl rfl ?_ ?_
  · intro hc8
    exact absurd hc8 (by decide)
  · intro hc8
    refine z_aload_n (q := 12) dX7_handOver_11 rfl rfl ?_
    refine z_get (q := 15) dX7_handOver_12 zfX7_19 (by first | exact zT_0 | exact zT_o zWo_3 | exact zT_w zWo_3 rfl | exact zT_o zWo_18 | exact zT_X | exact zT_H | exact zT_S | exact zT_C | exact zT_G | exact zT_N (zNo_w zWo_3) | exact zT_n (zNo_w zWo_3) (by decide) | exact zpT_a (c := 284) rfl | exact zT_L) rfl rfl ?_
    refine z_iload_n (q := 16) dX7_handOver_15 rfl rfl ?_
    refine z_v1 (q := 19) dX7_handOver_16 zkX7_119 zt_mX6_hasAgent rfl (by first | exact zT_0 | exact zT_o zWo_3 | exact zT_w zWo_3 rfl | exact zT_o zWo_18 | exact zT_X | exact zT_H | exact zT_S | exact zT_C | exact zT_G | exact zT_N (zNo_w zWo_3) | exact zT_n (zNo_w zWo_3) (by decide) | exact zpT_a (c := 284) rfl | exact zT_L) rfl (Nat.le_of_ble_eq_true rfl) (ct_X6_hasAgent zWo_3 (zR_0 hR)) rfl ?_
    refine z_eqi ((congrArg zbi ((qHas_i hb (by omega)))).trans zbi_t) ?_
    refine z_if_eq (tg := 26) (q := 22) dX7_handOver_19 rfl rfl ?_ ?_
    · intro hc19
      exact absurd hc19 (by decide)
    · intro hc19
      refine z_iconst (q := 23) dX7_handOver_22 zci_1 rfl ?_
      refine z_goto (q := 0) (tg := 27) dX7_handOver_23 rfl ?_
      refine z_u1 (q := 30) dX7_handOver_27 zkX7_123 zt_mX7_requireIndex rfl (Nat.le_of_ble_eq_true rfl) (ct_X7_requireIndex) rfl ?_
      refine z_iload_n (q := 31) dX7_handOver_30 rfl rfl ?_
      refine z_iload_n (q := 32) dX7_handOver_31 rfl rfl ?_
      refine z_icmp_eqN (tg := 39) (q := 35) dX7_handOver_32 rfl rfl (by omega) (by omega) ?_ ?_
      · intro hc32
        exact absurd hc32 hab
      · intro hc32
        refine z_iconst (q := 36) dX7_handOver_35 zci_1 rfl ?_
        refine z_goto (q := 0) (tg := 40) dX7_handOver_36 rfl ?_
        refine z_u1 (q := 43) dX7_handOver_40 zkX7_220 zt_mX7_requireArgument rfl (Nat.le_of_ble_eq_true rfl) (ct_X7_requireArgument) rfl ?_
        refine z_aload_n (q := 44) dX7_handOver_43 rfl rfl ?_
        refine z_get (q := 47) dX7_handOver_44 zfX7_19 (by first | exact zT_0 | exact zT_o zWo_3 | exact zT_w zWo_3 rfl | exact zT_o zWo_18 | exact zT_X | exact zT_H | exact zT_S | exact zT_C | exact zT_G | exact zT_N (zNo_w zWo_3) | exact zT_n (zNo_w zWo_3) (by decide) | exact zpT_a (c := 284) rfl | exact zT_L) rfl rfl ?_
        refine z_iload_n (q := 48) dX7_handOver_47 rfl rfl ?_
        refine z_iload_n (q := 49) dX7_handOver_48 rfl rfl ?_
        refine z_v2 (q := 52) dX7_handOver_49 zkX7_223 zt_mX6_canPassClaim rfl (by first | exact zT_0 | exact zT_o zWo_3 | exact zT_w zWo_3 rfl | exact zT_o zWo_18 | exact zT_X | exact zT_H | exact zT_S | exact zT_C | exact zT_G | exact zT_N (zNo_w zWo_3) | exact zT_n (zNo_w zWo_3) (by decide) | exact zpT_a (c := 284) rfl | exact zT_L) rfl (Nat.le_of_ble_eq_true rfl) (ct_X6_canPassClaim zWo_3 hR ha hb) rfl ?_
        refine z_eqi ((congrArg zbi (hv)).trans zbi_f) ?_
        exact z_cSX (av := [.int (nI 0)]) dX7_handOver_52 zkX7_72 zw440 zt_mX7_requireState rfl rfl (Nat.le_of_ble_eq_true rfl) cx_X7_requireState (by decide) (by decide) (fun _ hh => ⟨d, ⟨n, K, hJ⟩, hh⟩)
set_option maxRecDepth 100000 in
set_option maxHeartbeats 4000000 in
theorem ct_X7_handOver0 {g : zGl} {h : zHp} {b n K c a e t : Nat} {d u : Nat → Nat → Int32} (hJ : zJo d u n K) (hc : u 0 9 = nI c) (hle : c ≤ 14) (ha : a < n) (hb : e < n) (hab : a ≠ e) (hv : qCan (u 3) K a e = true) (ht : qOwnTask (u 3) K a = some t) : zC g mX7_handOver [.ref b, .int (nI a), .int (nI e)] (zpT g h b d) (zRJ g h b (va_up (qNd u c) 3 (qHand (u 3) a e t)) (nI t)) 0 0 := by
  have hR := hJ.1
  have hn := zR_n6 hR
  have hK := zR_K8 hR
  obtain ⟨x0, hx0, h331, h332⟩ := zJo_h hJ hc hle
  refine zC_ofA (lv := [some (.ref b), some (.int (nI a)), some (.int (nI e)), none]) (by decide) rfl (Nat.le_of_ble_eq_true rfl) ?_
  refine z_aload_n (q := 1) dX7_handOver_0 rfl rfl ?_
  refine z_get (q := 4) dX7_handOver_1 zfX7_19 (by first | exact zT_0 | exact zT_o zWo_3 | exact zT_w zWo_3 rfl | exact zT_o zWo_18 | exact zT_X | exact zT_H | exact zT_S | exact zT_C | exact zT_G | exact zT_N (zNo_w zWo_3) | exact zT_n (zNo_w zWo_3) (by decide) | exact zpT_a (c := 284) rfl | exact zT_L) rfl rfl ?_
  refine z_iload_n (q := 5) dX7_handOver_4 rfl rfl ?_
  refine z_v1 (q := 8) dX7_handOver_5 zkX7_119 zt_mX6_hasAgent rfl (by first | exact zT_0 | exact zT_o zWo_3 | exact zT_w zWo_3 rfl | exact zT_o zWo_18 | exact zT_X | exact zT_H | exact zT_S | exact zT_C | exact zT_G | exact zT_N (zNo_w zWo_3) | exact zT_n (zNo_w zWo_3) (by decide) | exact zpT_a (c := 284) rfl | exact zT_L) rfl (Nat.le_of_ble_eq_true rfl) (ct_X6_hasAgent zWo_3 (zR_0 hR)) rfl ?_
  refine z_eqi ((congrArg zbi ((qHas_i ha (by omega)))).trans zbi_t) ?_
  refine z_if_eq (tg := 26) (q := 11) dX7_handOver_8 rfl rfl ?_ ?_
  · intro hc8
    exact absurd hc8 (by decide)
  · intro hc8
    refine z_aload_n (q := 12) dX7_handOver_11 rfl rfl ?_
    refine z_get (q := 15) dX7_handOver_12 zfX7_19 (by first | exact zT_0 | exact zT_o zWo_3 | exact zT_w zWo_3 rfl | exact zT_o zWo_18 | exact zT_X | exact zT_H | exact zT_S | exact zT_C | exact zT_G | exact zT_N (zNo_w zWo_3) | exact zT_n (zNo_w zWo_3) (by decide) | exact zpT_a (c := 284) rfl | exact zT_L) rfl rfl ?_
    refine z_iload_n (q := 16) dX7_handOver_15 rfl rfl ?_
    refine z_v1 (q := 19) dX7_handOver_16 zkX7_119 zt_mX6_hasAgent rfl (by first | exact zT_0 | exact zT_o zWo_3 | exact zT_w zWo_3 rfl | exact zT_o zWo_18 | exact zT_X | exact zT_H | exact zT_S | exact zT_C | exact zT_G | exact zT_N (zNo_w zWo_3) | exact zT_n (zNo_w zWo_3) (by decide) | exact zpT_a (c := 284) rfl | exact zT_L) rfl (Nat.le_of_ble_eq_true rfl) (ct_X6_hasAgent zWo_3 (zR_0 hR)) rfl ?_
    refine z_eqi ((congrArg zbi ((qHas_i hb (by omega)))).trans zbi_t) ?_
    refine z_if_eq (tg := 26) (q := 22) dX7_handOver_19 rfl rfl ?_ ?_
    · intro hc19
      exact absurd hc19 (by decide)
    · intro hc19
      refine z_iconst (q := 23) dX7_handOver_22 zci_1 rfl ?_
      refine z_goto (q := 0) (tg := 27) dX7_handOver_23 rfl ?_
      refine z_u1 (q := 30) dX7_handOver_27 zkX7_123 zt_mX7_requireIndex rfl (Nat.le_of_ble_eq_true rfl) (ct_X7_requireIndex) rfl ?_
      refine z_iload_n (q := 31) dX7_handOver_30 rfl rfl ?_
      refine z_iload_n (q := 32) dX7_handOver_31 rfl rfl ?_
      refine z_icmp_eqN (tg := 39) (q := 35) dX7_handOver_32 rfl rfl (by omega) (by omega) ?_ ?_
      · intro hc32
        exact absurd hc32 hab
      · intro hc32
        refine z_iconst (q := 36) dX7_handOver_35 zci_1 rfl ?_
        refine z_goto (q := 0) (tg := 40) dX7_handOver_36 rfl ?_
        refine z_u1 (q := 43) dX7_handOver_40 zkX7_220 zt_mX7_requireArgument rfl (Nat.le_of_ble_eq_true rfl) (ct_X7_requireArgument) rfl ?_
        refine z_aload_n (q := 44) dX7_handOver_43 rfl rfl ?_
        refine z_get (q := 47) dX7_handOver_44 zfX7_19 (by first | exact zT_0 | exact zT_o zWo_3 | exact zT_w zWo_3 rfl | exact zT_o zWo_18 | exact zT_X | exact zT_H | exact zT_S | exact zT_C | exact zT_G | exact zT_N (zNo_w zWo_3) | exact zT_n (zNo_w zWo_3) (by decide) | exact zpT_a (c := 284) rfl | exact zT_L) rfl rfl ?_
        refine z_iload_n (q := 48) dX7_handOver_47 rfl rfl ?_
        refine z_iload_n (q := 49) dX7_handOver_48 rfl rfl ?_
        refine z_v2 (q := 52) dX7_handOver_49 zkX7_223 zt_mX6_canPassClaim rfl (by first | exact zT_0 | exact zT_o zWo_3 | exact zT_w zWo_3 rfl | exact zT_o zWo_18 | exact zT_X | exact zT_H | exact zT_S | exact zT_C | exact zT_G | exact zT_N (zNo_w zWo_3) | exact zT_n (zNo_w zWo_3) (by decide) | exact zpT_a (c := 284) rfl | exact zT_L) rfl (Nat.le_of_ble_eq_true rfl) (ct_X6_canPassClaim zWo_3 hR ha hb) rfl ?_
        refine z_eqi ((congrArg zbi (hv)).trans zbi_t) ?_
        refine z_u1 (q := 55) dX7_handOver_52 zkX7_72 zt_mX7_requireState rfl (Nat.le_of_ble_eq_true rfl) (ct_X7_requireState) rfl ?_
        refine z_aload_n (q := 56) dX7_handOver_55 rfl rfl ?_
        refine z_get (q := 59) dX7_handOver_56 zfX7_29 (by first | exact zT_0 | exact zT_o zWo_3 | exact zT_w zWo_3 rfl | exact zT_o zWo_18 | exact zT_X | exact zT_H | exact zT_S | exact zT_C | exact zT_G | exact zT_N (zNo_w zWo_3) | exact zT_n (zNo_w zWo_3) (by decide) | exact zpT_a (c := 284) rfl | exact zT_L) rfl rfl ?_
        refine z_aload_n (q := 60) dX7_handOver_59 rfl rfl ?_
        refine z_get (q := 63) dX7_handOver_60 zfX7_19 (by first | exact zT_0 | exact zT_o zWo_3 | exact zT_w zWo_3 rfl | exact zT_o zWo_18 | exact zT_X | exact zT_H | exact zT_S | exact zT_C | exact zT_G | exact zT_N (zNo_w zWo_3) | exact zT_n (zNo_w zWo_3) (by decide) | exact zpT_a (c := 284) rfl | exact zT_L) rfl rfl ?_
        refine z_V1 (q := 66) dX7_handOver_63 zkX7_198 zt_mX1_remember rfl zT_H rfl (Nat.le_of_ble_eq_true rfl) (ct_X1_remember h331 hx0 h332 hle) (Nat.zero_le _) (Nat.zero_le _) rfl ?_
        rintro _ _ ⟨rfl, D, rfl, D0, hC0, hD0⟩
        have hJ1 := zJo_rem hJ hx0 hle h331 h332 hC0 hD0
        have hR1 : zR D 3 (u 3) n K := hJ1.1
        refine z_aload_n (q := 67) dX7_handOver_66 rfl rfl ?_
        refine z_get (q := 70) dX7_handOver_67 zfX7_19 (by first | exact zT_0 | exact zT_o zWo_3 | exact zT_w zWo_3 rfl | exact zT_o zWo_18 | exact zT_X | exact zT_H | exact zT_S | exact zT_C | exact zT_G | exact zT_N (zNo_w zWo_3) | exact zT_n (zNo_w zWo_3) (by decide) | exact zpT_a (c := 284) rfl | exact zT_L) rfl rfl ?_
        refine z_iload_n (q := 71) dX7_handOver_70 rfl rfl ?_
        refine z_v1 (q := 74) dX7_handOver_71 zkX7_139 zt_mX6_ownTask rfl (by first | exact zT_0 | exact zT_o zWo_3 | exact zT_w zWo_3 rfl | exact zT_o zWo_18 | exact zT_X | exact zT_H | exact zT_S | exact zT_C | exact zT_G | exact zT_N (zNo_w zWo_3) | exact zT_n (zNo_w zWo_3) (by decide) | exact zpT_a (c := 284) rfl | exact zT_L) rfl (Nat.le_of_ble_eq_true rfl) (ct_X6_ownTask zWo_3 hR1 ha) rfl ?_
        refine z_eqi (show _ = nI t by rw [ht]; rfl) ?_
        refine z_istore_n (q := 75) dX7_handOver_74 (Nat.le_of_ble_eq_true rfl) rfl rfl ?_
        refine z_aload_n (q := 76) dX7_handOver_75 rfl rfl ?_
        refine z_get (q := 79) dX7_handOver_76 zfX7_19 (by first | exact zT_0 | exact zT_o zWo_3 | exact zT_w zWo_3 rfl | exact zT_o zWo_18 | exact zT_X | exact zT_H | exact zT_S | exact zT_C | exact zT_G | exact zT_N (zNo_w zWo_3) | exact zT_n (zNo_w zWo_3) (by decide) | exact zpT_a (c := 284) rfl | exact zT_L) rfl rfl ?_
        refine z_iload_n (q := 80) dX7_handOver_79 rfl rfl ?_
        refine z_iload_n (q := 81) dX7_handOver_80 rfl rfl ?_
        refine z_V2 (q := 84) dX7_handOver_81 zkX7_227 zt_mX6_passClaim rfl (by first | exact zT_0 | exact zT_o zWo_3 | exact zT_w zWo_3 rfl | exact zT_o zWo_18 | exact zT_X | exact zT_H | exact zT_S | exact zT_C | exact zT_G | exact zT_N (zNo_w zWo_3) | exact zT_n (zNo_w zWo_3) (by decide) | exact zpT_a (c := 284) rfl | exact zT_L) rfl (Nat.le_of_ble_eq_true rfl) (ct_X6_passClaim zWo_3 hR1 ha hb ht) (Nat.zero_le _) (Nat.zero_le _) rfl ?_
        rintro _ _ ⟨rfl, D2, rfl, hR2, hO2⟩
        refine z_iload_n (q := 85) dX7_handOver_84 rfl rfl ?_
        exact z_reti dX7_handOver_85 rfl (⟨rfl, D2, rfl, n, K, zJo_w (zAg_o hO2) hR2 hJ1⟩)
set_option maxRecDepth 100000 in
set_option maxHeartbeats 4000000 in
theorem cx_X7_drop1 {g : zGl} {h : zHp} {b n K : Nat} {d u : Nat → Nat → Int32} {x : Int32} (hJ : zJo d u n K) (hv : qHas x n = false) : zX g mX7_drop [.ref b, .int x] (zpT g h b d) "java/lang/IndexOutOfBoundsException" (zXJ g h b u) 1 6 := by
  have hR := hJ.1
  have hn := zR_n6 hR
  have hK := zR_K8 hR
  refine zX_ofA (lv := [some (.ref b), some (.int x)]) (by decide) rfl (Nat.le_of_ble_eq_true rfl) ?_
  refine z_aload_n (q := 1) dX7_drop_0 rfl rfl ?_
  refine z_get (q := 4) dX7_drop_1 zfX7_19 (by first | exact zT_0 | exact zT_o zWo_3 | exact zT_w zWo_3 rfl | exact zT_o zWo_18 | exact zT_X | exact zT_H | exact zT_S | exact zT_C | exact zT_G | exact zT_N (zNo_w zWo_3) | exact zT_n (zNo_w zWo_3) (by decide) | exact zpT_a (c := 284) rfl | exact zT_L) rfl rfl ?_
  refine z_iload_n (q := 5) dX7_drop_4 rfl rfl ?_
  refine z_v1 (q := 8) dX7_drop_5 zkX7_119 zt_mX6_hasAgent rfl (by first | exact zT_0 | exact zT_o zWo_3 | exact zT_w zWo_3 rfl | exact zT_o zWo_18 | exact zT_X | exact zT_H | exact zT_S | exact zT_C | exact zT_G | exact zT_N (zNo_w zWo_3) | exact zT_n (zNo_w zWo_3) (by decide) | exact zpT_a (c := 284) rfl | exact zT_L) rfl (Nat.le_of_ble_eq_true rfl) (ct_X6_hasAgent zWo_3 (zR_0 hR)) rfl ?_
  refine z_eqi ((congrArg zbi (hv)).trans zbi_f) ?_
  exact z_cSX (av := [.int (nI 0)]) dX7_drop_8 zkX7_123 zw513 zt_mX7_requireIndex rfl rfl (Nat.le_of_ble_eq_true rfl) cx_X7_requireIndex (by decide) (by decide) (fun _ hh => ⟨d, ⟨n, K, hJ⟩, hh⟩)
set_option maxRecDepth 100000 in
set_option maxHeartbeats 4000000 in
theorem ct_X7_drop0 {g : zGl} {h : zHp} {b n K c a : Nat} {d u : Nat → Nat → Int32} (hJ : zJo d u n K) (hc : u 0 9 = nI c) (hle : c ≤ 14) (ha : a < n) : zC g mX7_drop [.ref b, .int (nI a)] (zpT g h b d) (zRJ g h b (va_up (qNd u c) 3 (qDrop (u 3) a K).1) (nI (qDrop (u 3) a K).2)) 0 0 := by
  have hR := hJ.1
  have hn := zR_n6 hR
  have hK := zR_K8 hR
  obtain ⟨x0, hx0, h331, h332⟩ := zJo_h hJ hc hle
  refine zC_ofA (lv := [some (.ref b), some (.int (nI a))]) (by decide) rfl (Nat.le_of_ble_eq_true rfl) ?_
  refine z_aload_n (q := 1) dX7_drop_0 rfl rfl ?_
  refine z_get (q := 4) dX7_drop_1 zfX7_19 (by first | exact zT_0 | exact zT_o zWo_3 | exact zT_w zWo_3 rfl | exact zT_o zWo_18 | exact zT_X | exact zT_H | exact zT_S | exact zT_C | exact zT_G | exact zT_N (zNo_w zWo_3) | exact zT_n (zNo_w zWo_3) (by decide) | exact zpT_a (c := 284) rfl | exact zT_L) rfl rfl ?_
  refine z_iload_n (q := 5) dX7_drop_4 rfl rfl ?_
  refine z_v1 (q := 8) dX7_drop_5 zkX7_119 zt_mX6_hasAgent rfl (by first | exact zT_0 | exact zT_o zWo_3 | exact zT_w zWo_3 rfl | exact zT_o zWo_18 | exact zT_X | exact zT_H | exact zT_S | exact zT_C | exact zT_G | exact zT_N (zNo_w zWo_3) | exact zT_n (zNo_w zWo_3) (by decide) | exact zpT_a (c := 284) rfl | exact zT_L) rfl (Nat.le_of_ble_eq_true rfl) (ct_X6_hasAgent zWo_3 (zR_0 hR)) rfl ?_
  refine z_eqi ((congrArg zbi ((qHas_i ha (by omega)))).trans zbi_t) ?_
  refine z_u1 (q := 11) dX7_drop_8 zkX7_123 zt_mX7_requireIndex rfl (Nat.le_of_ble_eq_true rfl) (ct_X7_requireIndex) rfl ?_
  refine z_aload_n (q := 12) dX7_drop_11 rfl rfl ?_
  refine z_get (q := 15) dX7_drop_12 zfX7_29 (by first | exact zT_0 | exact zT_o zWo_3 | exact zT_w zWo_3 rfl | exact zT_o zWo_18 | exact zT_X | exact zT_H | exact zT_S | exact zT_C | exact zT_G | exact zT_N (zNo_w zWo_3) | exact zT_n (zNo_w zWo_3) (by decide) | exact zpT_a (c := 284) rfl | exact zT_L) rfl rfl ?_
  refine z_aload_n (q := 16) dX7_drop_15 rfl rfl ?_
  refine z_get (q := 19) dX7_drop_16 zfX7_19 (by first | exact zT_0 | exact zT_o zWo_3 | exact zT_w zWo_3 rfl | exact zT_o zWo_18 | exact zT_X | exact zT_H | exact zT_S | exact zT_C | exact zT_G | exact zT_N (zNo_w zWo_3) | exact zT_n (zNo_w zWo_3) (by decide) | exact zpT_a (c := 284) rfl | exact zT_L) rfl rfl ?_
  refine z_V1 (q := 22) dX7_drop_19 zkX7_198 zt_mX1_remember rfl zT_H rfl (Nat.le_of_ble_eq_true rfl) (ct_X1_remember h331 hx0 h332 hle) (Nat.zero_le _) (Nat.zero_le _) rfl ?_
  rintro _ _ ⟨rfl, D, rfl, D0, hC0, hD0⟩
  have hJ1 := zJo_rem hJ hx0 hle h331 h332 hC0 hD0
  have hR1 : zR D 3 (u 3) n K := hJ1.1
  refine z_aload_n (q := 23) dX7_drop_22 rfl rfl ?_
  refine z_get (q := 26) dX7_drop_23 zfX7_19 (by first | exact zT_0 | exact zT_o zWo_3 | exact zT_w zWo_3 rfl | exact zT_o zWo_18 | exact zT_X | exact zT_H | exact zT_S | exact zT_C | exact zT_G | exact zT_N (zNo_w zWo_3) | exact zT_n (zNo_w zWo_3) (by decide) | exact zpT_a (c := 284) rfl | exact zT_L) rfl rfl ?_
  refine z_iload_n (q := 27) dX7_drop_26 rfl rfl ?_
  refine z_V1 (q := 30) dX7_drop_27 zkX7_231 zt_mX6_dropClaims rfl (by first | exact zT_0 | exact zT_o zWo_3 | exact zT_w zWo_3 rfl | exact zT_o zWo_18 | exact zT_X | exact zT_H | exact zT_S | exact zT_C | exact zT_G | exact zT_N (zNo_w zWo_3) | exact zT_n (zNo_w zWo_3) (by decide) | exact zpT_a (c := 284) rfl | exact zT_L) rfl (Nat.le_of_ble_eq_true rfl) (ct_X6_dropClaims zWo_3 hR1 ha) (Nat.zero_le _) (Nat.zero_le _) rfl ?_
  rintro _ _ ⟨rfl, D2, rfl, hR2, hO2⟩
  exact z_reti dX7_drop_30 rfl (⟨rfl, D2, rfl, n, K, zJo_w (zAg_o hO2) hR2 hJ1⟩)
set_option maxRecDepth 100000 in
set_option maxHeartbeats 4000000 in
theorem cx_X7_setLifetime1 {g : zGl} {h : zHp} {b n K : Nat} {d u : Nat → Nat → Int32} {x : Int32} (hJ : zJo d u n K) (hv : qBt x 1 20 = false) : zX g mX7_setLifetime [.ref b, .int x] (zpT g h b d) "java/lang/IllegalArgumentException" (zXJ g h b u) 1 6 := by
  have hR := hJ.1
  have hn := zR_n6 hR
  have hK := zR_K8 hR
  refine zX_ofA (lv := [some (.ref b), some (.int x), none]) (by decide) rfl (Nat.le_of_ble_eq_true rfl) ?_
  refine z_iload_n (q := 1) dX7_setLifetime_0 rfl rfl ?_
  refine z_iconst (q := 2) dX7_setLifetime_1 zci_1 rfl ?_
  refine z_bipush (q := 4) dX7_setLifetime_2 zcb_20 rfl ?_
  exact z_cSX (av := [.int x, .int (nI 1), .int (nI 20)]) dX7_setLifetime_4 zkX7_64 zw362 zt_mX7_requireBetween rfl rfl (Nat.le_of_ble_eq_true rfl) (cx_X7_requireBetween hv) (by decide) (by decide) (fun _ hh => ⟨d, ⟨n, K, hJ⟩, hh⟩)
set_option maxRecDepth 100000 in
set_option maxHeartbeats 4000000 in
theorem ct_X7_setLifetime0 {g : zGl} {h : zHp} {b n K c : Nat} {d u : Nat → Nat → Int32} {x : Int32} (hJ : zJo d u n K) (hc : u 0 9 = nI c) (hle : c ≤ 14) (hv : qBt x 1 20 = true) : zC g mX7_setLifetime [.ref b, .int x] (zpT g h b d) (zRJ g h b (va_up (qNd u c) 3 (va_up (u 3) 3 x)) (u 3 3)) 0 0 := by
  have hR := hJ.1
  have hn := zR_n6 hR
  have hK := zR_K8 hR
  obtain ⟨x0, hx0, h331, h332⟩ := zJo_h hJ hc hle
  refine zC_ofA (lv := [some (.ref b), some (.int x), none]) (by decide) rfl (Nat.le_of_ble_eq_true rfl) ?_
  refine z_iload_n (q := 1) dX7_setLifetime_0 rfl rfl ?_
  refine z_iconst (q := 2) dX7_setLifetime_1 zci_1 rfl ?_
  refine z_bipush (q := 4) dX7_setLifetime_2 zcb_20 rfl ?_
  refine z_u3 (q := 7) dX7_setLifetime_4 zkX7_64 zt_mX7_requireBetween rfl (Nat.le_of_ble_eq_true rfl) (ct_X7_requireBetween hv) rfl ?_
  refine z_aload_n (q := 8) dX7_setLifetime_7 rfl rfl ?_
  refine z_get (q := 11) dX7_setLifetime_8 zfX7_29 (by first | exact zT_0 | exact zT_o zWo_3 | exact zT_w zWo_3 rfl | exact zT_o zWo_18 | exact zT_X | exact zT_H | exact zT_S | exact zT_C | exact zT_G | exact zT_N (zNo_w zWo_3) | exact zT_n (zNo_w zWo_3) (by decide) | exact zpT_a (c := 284) rfl | exact zT_L) rfl rfl ?_
  refine z_aload_n (q := 12) dX7_setLifetime_11 rfl rfl ?_
  refine z_get (q := 15) dX7_setLifetime_12 zfX7_19 (by first | exact zT_0 | exact zT_o zWo_3 | exact zT_w zWo_3 rfl | exact zT_o zWo_18 | exact zT_X | exact zT_H | exact zT_S | exact zT_C | exact zT_G | exact zT_N (zNo_w zWo_3) | exact zT_n (zNo_w zWo_3) (by decide) | exact zpT_a (c := 284) rfl | exact zT_L) rfl rfl ?_
  refine z_V1 (q := 18) dX7_setLifetime_15 zkX7_198 zt_mX1_remember rfl zT_H rfl (Nat.le_of_ble_eq_true rfl) (ct_X1_remember h331 hx0 h332 hle) (Nat.zero_le _) (Nat.zero_le _) rfl ?_
  rintro _ _ ⟨rfl, D, rfl, D0, hC0, hD0⟩
  have hJ1 := zJo_rem hJ hx0 hle h331 h332 hC0 hD0
  have hR1 : zR D 3 (u 3) n K := hJ1.1
  refine z_aload_n (q := 19) dX7_setLifetime_18 rfl rfl ?_
  refine z_get (q := 22) dX7_setLifetime_19 zfX7_19 (by first | exact zT_0 | exact zT_o zWo_3 | exact zT_w zWo_3 rfl | exact zT_o zWo_18 | exact zT_X | exact zT_H | exact zT_S | exact zT_C | exact zT_G | exact zT_N (zNo_w zWo_3) | exact zT_n (zNo_w zWo_3) (by decide) | exact zpT_a (c := 284) rfl | exact zT_L) rfl rfl ?_
  refine z_get (q := 25) dX7_setLifetime_22 zfX7_103 (by first | exact zT_0 | exact zT_o zWo_3 | exact zT_w zWo_3 rfl | exact zT_o zWo_18 | exact zT_X | exact zT_H | exact zT_S | exact zT_C | exact zT_G | exact zT_N (zNo_w zWo_3) | exact zT_n (zNo_w zWo_3) (by decide) | exact zpT_a (c := 284) rfl | exact zT_L) rfl rfl ?_
  refine z_eqi (zR_2 hR1) ?_
  refine z_istore_n (q := 26) dX7_setLifetime_25 (Nat.le_of_ble_eq_true rfl) rfl rfl ?_
  refine z_aload_n (q := 27) dX7_setLifetime_26 rfl rfl ?_
  refine z_get (q := 30) dX7_setLifetime_27 zfX7_19 (by first | exact zT_0 | exact zT_o zWo_3 | exact zT_w zWo_3 rfl | exact zT_o zWo_18 | exact zT_X | exact zT_H | exact zT_S | exact zT_C | exact zT_G | exact zT_N (zNo_w zWo_3) | exact zT_n (zNo_w zWo_3) (by decide) | exact zpT_a (c := 284) rfl | exact zT_L) rfl rfl ?_
  refine z_iload_n (q := 31) dX7_setLifetime_30 rfl rfl ?_
  refine z_putT (q := 34) zWo_3 dX7_setLifetime_31 zfX7_103 (by decide) rfl ?_
  refine z_iload_n (q := 35) dX7_setLifetime_34 rfl rfl ?_
  exact z_reti dX7_setLifetime_35 rfl (⟨rfl, _, rfl, n, K, zJo_w (fun q hq => zu_ne (by omega)) (zR_lif hR1) hJ1⟩)
set_option maxRecDepth 100000 in
set_option maxHeartbeats 4000000 in
theorem cx_X7_undo1 {g : zGl} {h : zHp} {b n K : Nat} {d u : Nat → Nat → Int32} (hJ : zJo d u n K) (hc : u 0 9 = nI 0) : zX g mX7_undo [.ref b] (zpT g h b d) "java/lang/IllegalStateException" (zXJ g h b u) 1 6 := by
  have hR := hJ.1
  have hn := zR_n6 hR
  have hK := zR_K8 hR
  obtain ⟨x0, hx0, h331, h332⟩ := zJo_h hJ hc (by decide)
  refine zX_ofA (lv := [some (.ref b)]) (by decide) rfl (Nat.le_of_ble_eq_true rfl) ?_
  refine z_aload_n (q := 1) dX7_undo_0 rfl rfl ?_
  refine z_get (q := 4) dX7_undo_1 zfX7_29 (by first | exact zT_0 | exact zT_o zWo_3 | exact zT_w zWo_3 rfl | exact zT_o zWo_18 | exact zT_X | exact zT_H | exact zT_S | exact zT_C | exact zT_G | exact zT_N (zNo_w zWo_3) | exact zT_n (zNo_w zWo_3) (by decide) | exact zpT_a (c := 284) rfl | exact zT_L) rfl rfl ?_
  refine z_get (q := 7) dX7_undo_4 zfX7_234 (by first | exact zT_0 | exact zT_o zWo_3 | exact zT_w zWo_3 rfl | exact zT_o zWo_18 | exact zT_X | exact zT_H | exact zT_S | exact zT_C | exact zT_G | exact zT_N (zNo_w zWo_3) | exact zT_n (zNo_w zWo_3) (by decide) | exact zpT_a (c := 284) rfl | exact zT_L) rfl rfl ?_
  refine z_eqi h332 ?_
  refine z_if_le (tg := 14) (q := 10) dX7_undo_7 rfl rfl ?_ ?_
  · intro hc7
    refine z_iconst (q := 15) dX7_undo_14 zci_0 rfl ?_
    exact z_cSX (av := [.int (nI 0)]) dX7_undo_15 zkX7_72 zw440 zt_mX7_requireState rfl rfl (Nat.le_of_ble_eq_true rfl) cx_X7_requireState (by decide) (by decide) (fun _ hh => ⟨d, ⟨n, K, hJ⟩, hh⟩)
  · intro hc7
    exact absurd (by decide) hc7
set_option maxRecDepth 100000 in
set_option maxHeartbeats 4000000 in
theorem ct_X7_undo0 {g : zGl} {h : zHp} {b n K c : Nat} {d u : Nat → Nat → Int32} (hJ : zJo d u n K) (hc : u 0 9 = nI (c + 1)) (hle : c < 14) : zC g mX7_undo [.ref b] (zpT g h b d) (zRJ g h b (va_up (va_up u 3 (va_cpy (u 6) (u 3) (264 * c) 0 264)) 0 (va_up (u 0) 9 (nI c))) (nI c)) 0 0 := by
  have hR := hJ.1
  have hn := zR_n6 hR
  have hK := zR_K8 hR
  obtain ⟨x0, hx0, h331, h332⟩ := zJo_h hJ hc (by omega)
  refine zC_ofA (lv := [some (.ref b)]) (by decide) rfl (Nat.le_of_ble_eq_true rfl) ?_
  refine z_aload_n (q := 1) dX7_undo_0 rfl rfl ?_
  refine z_get (q := 4) dX7_undo_1 zfX7_29 (by first | exact zT_0 | exact zT_o zWo_3 | exact zT_w zWo_3 rfl | exact zT_o zWo_18 | exact zT_X | exact zT_H | exact zT_S | exact zT_C | exact zT_G | exact zT_N (zNo_w zWo_3) | exact zT_n (zNo_w zWo_3) (by decide) | exact zpT_a (c := 284) rfl | exact zT_L) rfl rfl ?_
  refine z_get (q := 7) dX7_undo_4 zfX7_234 (by first | exact zT_0 | exact zT_o zWo_3 | exact zT_w zWo_3 rfl | exact zT_o zWo_18 | exact zT_X | exact zT_H | exact zT_S | exact zT_C | exact zT_G | exact zT_N (zNo_w zWo_3) | exact zT_n (zNo_w zWo_3) (by decide) | exact zpT_a (c := 284) rfl | exact zT_L) rfl rfl ?_
  refine z_eqi h332 ?_
  refine z_if_le (tg := 14) (q := 10) dX7_undo_7 rfl rfl ?_ ?_
  · intro hc7
    exact absurd hc7 (Int32.not_le.mpr (nI_lt (show 0 < c + 1 by omega) (by omega)))
  · intro hc7
    refine z_iconst (q := 11) dX7_undo_10 zci_1 rfl ?_
    refine z_goto (q := 0) (tg := 15) dX7_undo_11 rfl ?_
    refine z_u1 (q := 18) dX7_undo_15 zkX7_72 zt_mX7_requireState rfl (Nat.le_of_ble_eq_true rfl) (ct_X7_requireState) rfl ?_
    refine z_aload_n (q := 19) dX7_undo_18 rfl rfl ?_
    refine z_get (q := 22) dX7_undo_19 zfX7_29 (by first | exact zT_0 | exact zT_o zWo_3 | exact zT_w zWo_3 rfl | exact zT_o zWo_18 | exact zT_X | exact zT_H | exact zT_S | exact zT_C | exact zT_G | exact zT_N (zNo_w zWo_3) | exact zT_n (zNo_w zWo_3) (by decide) | exact zpT_a (c := 284) rfl | exact zT_L) rfl rfl ?_
    refine z_aload_n (q := 23) dX7_undo_22 rfl rfl ?_
    refine z_get (q := 26) dX7_undo_23 zfX7_19 (by first | exact zT_0 | exact zT_o zWo_3 | exact zT_w zWo_3 rfl | exact zT_o zWo_18 | exact zT_X | exact zT_H | exact zT_S | exact zT_C | exact zT_G | exact zT_N (zNo_w zWo_3) | exact zT_n (zNo_w zWo_3) (by decide) | exact zpT_a (c := 284) rfl | exact zT_L) rfl rfl ?_
    refine z_V1 (q := 29) dX7_undo_26 zkX7_237 zt_mX1_takeBack rfl zT_H rfl (Nat.le_of_ble_eq_true rfl) (ct_X1_takeBack h331 hx0 h332 hle) (Nat.zero_le _) (Nat.zero_le _) rfl ?_
    rintro _ _ ⟨rfl, D, rfl, hD⟩
    refine z_aload_n (q := 30) dX7_undo_29 rfl rfl ?_
    refine z_get (q := 33) dX7_undo_30 zfX7_29 (by first | exact zT_0 | exact zT_o zWo_3 | exact zT_w zWo_3 rfl | exact zT_o zWo_18 | exact zT_X | exact zT_H | exact zT_S | exact zT_C | exact zT_G | exact zT_N (zNo_w zWo_3) | exact zT_n (zNo_w zWo_3) (by decide) | exact zpT_a (c := 284) rfl | exact zT_L) rfl rfl ?_
    refine z_get (q := 36) dX7_undo_33 zfX7_234 (by first | exact zT_0 | exact zT_o zWo_3 | exact zT_w zWo_3 rfl | exact zT_o zWo_18 | exact zT_X | exact zT_H | exact zT_S | exact zT_C | exact zT_G | exact zT_N (zNo_w zWo_3) | exact zT_n (zNo_w zWo_3) (by decide) | exact zpT_a (c := 284) rfl | exact zT_L) rfl rfl ?_
    refine z_eqi (show _ = nI c by rw [hD.2.2.2 33 (by omega), zu_eq, zu_eq]) ?_
    exact z_reti dX7_undo_36 rfl (⟨rfl, D, rfl, zJo_back hJ hx0 hle h331 h332 hD⟩)
