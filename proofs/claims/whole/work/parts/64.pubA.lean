/-! ===== the component: what there is ===== -/
theorem zWo_18 : zWo 18 := Or.inr (Or.inl rfl)
theorem zT_0 {g : zGl} {h : zHp} {b : Nat} {d : Nat → Nat → Int32} : (zpT g h b d).1 b = some (.inr (7, zTf b (d 0))) := zpT_c (c := 0) (by decide)
theorem zT_L {g : zGl} {h : zHp} {b : Nat} {d : Nat → Nat → Int32} : (zpT g h b d).1 (b + 245) = some (zW g 2 (fun i => some (b + (246 + 15 * i)))) := zpT_c (c := 245) (by decide)
/-- the answer v, the reference as u -/
def zRJ (g : zGl) (h : zHp) (b : Nat) (u : Nat → Nat → Int32) (v : Int32) : Option Value → zHp → Prop := zTU g h b (fun D => zJE D u) (some (.int v))
def zXJ (g : zGl) (h : zHp) (b : Nat) (u : Nat → Nat → Int32) : zHp → Prop := fun h' => ∃ D, zJE D u ∧ h' = zpT g (h.1, none) b D
theorem zRJ_v {g : zGl} {h : zHp} {b n K : Nat} {d u : Nat → Nat → Int32} {v w : Int32} (hJ : zJo d u n K) (e : w = v) : zRJ g h b u v (some (.int w)) (zpT g h b d) := ⟨by rw [e], d, rfl, n, K, hJ⟩
theorem zJo_t {d u : Nat → Nat → Int32} {n K s : Nat} (hJ : zJo d u n K) (hs : u 0 2 = nI s) (hs1 : s ≤ 120) : d 1 1 = nI s ∧ d 2 = u 1 := by
  obtain ⟨L, t1, t2, t3, t4⟩ := hJ.2.1
  obtain rfl : L = s := (nI_eq (by omega) (by omega)).mp (t3.symm.trans hs)
  exact ⟨t2, t4⟩
theorem zJo_h {d u : Nat → Nat → Int32} {n K c : Nat} (hJ : zJo d u n K) (hc : u 0 9 = nI c) (hle : c ≤ 14) : ∃ x, x < 14 ∧ d 33 1 = nI x ∧ d 33 2 = nI c := by
  obtain ⟨x, c', g1, g2, g3, g4, g5, -⟩ := hJ.2.2.1
  obtain rfl : c' = c := (nI_eq (by omega) (by omega)).mp (g5.symm.trans hc)
  exact ⟨x, g1, g3, g4⟩
theorem zJo_tx {d D u : Nat → Nat → Int32} {n K L : Nat} {f : Nat → Int32} (hJ : zJo d u n K) (hL : L ≤ 120) (h1 : D 1 1 = nI L) (h2 : D 2 = f) (hO : ∀ c, c ≠ 1 → c ≠ 2 → D c = d c) : zJo D (va_up (va_up u 1 f) 0 (va_up (u 0) 2 (nI L))) n K := by
  obtain ⟨hR, -, ⟨x, c, g1, g2, g3, g4, g5, g6⟩, ⟨F, f1, f2, f3⟩⟩ := hJ
  refine ⟨zR_same (fun q q1 q2 => hO q (by omega) (by omega)) hR, ⟨L, hL, h1, by rw [zu_eq, zu_eq], h2⟩, ⟨x, c, g1, g2, by rw [hO 33 (by decide) (by decide)]; exact g3, by rw [hO 33 (by decide) (by decide)]; exact g4, g5, fun i hi => ?_⟩, ⟨F, f1, by rw [hO 0 (by decide) (by decide)]; exact f2, fun s hs => ?_⟩⟩
  · obtain ⟨n, K, hh⟩ := g6 i hi
    exact ⟨n, K, zR_same (fun q q1 q2 => hO q (by omega) (by omega)) hh⟩
  · rcases f3 s hs with ⟨q1, q2, n, K, hh⟩ | hh
    · exact Or.inl ⟨q1, q2, n, K, zR_same (fun q q1 q2 => hO q (by omega) (by omega)) hh⟩
    · exact Or.inr hh
theorem on_v {f : Nat → Int32} {n K a : Nat} (h : zWF f n K) (ha : a < n) : f (4 + 6 * a + 3) = zbi (qOn f a) := by
  obtain ⟨p, hp, e⟩ := (zWF_a h ha).2.2.2
  rw [qOn, e]
  rcases (show p = 0 ∨ p = 1 by omega) with rfl | rfl <;> decide
theorem qKnS_i {f : Nat → Int32} {t n : Nat} (hn : n ≤ 31) : qKnS f t n = nI (mk (fun a => decide (f (72 + 4 * (8 * a + t)) = nI 2)) n) := by
  rw [← mk_i hn, qKnS]
  refine qIt_congr (fun i x hi => ?_)
  by_cases h : f (72 + 4 * (8 * i + t)) = nI 2 <;> simp [h]
set_option maxRecDepth 100000 in
set_option maxHeartbeats 4000000 in
theorem cx_X7_append1 {g : zGl} {h : zHp} {b n K : Nat} {d u : Nat → Nat → Int32} {x : Int32} (hJ : zJo d u n K) (hv : qBt x 0 255 = false) : zX g mX7_append [.ref b, .int x] (zpT g h b d) "java/lang/IllegalArgumentException" (zXJ g h b u) 1 6 := by
  have hR := hJ.1
  have hn := zR_n6 hR
  have hK := zR_K8 hR
  refine zX_ofA (lv := [some (.ref b), some (.int x)]) (by decide) rfl (Nat.le_of_ble_eq_true rfl) ?_
  refine z_iload_n (q := 1) dX7_append_0 rfl rfl ?_
  refine z_iconst (q := 2) dX7_append_1 zci_0 rfl ?_
  refine z_sipush (q := 5) dX7_append_2 zcs_255 rfl ?_
  exact z_cSX (av := [.int x, .int (nI 0), .int (nI 255)]) dX7_append_5 zkX7_64 zw362 zt_mX7_requireBetween rfl rfl (Nat.le_of_ble_eq_true rfl) (cx_X7_requireBetween hv) (by decide) (by decide) (fun _ hh => ⟨d, ⟨n, K, hJ⟩, hh⟩)
set_option maxRecDepth 100000 in
set_option maxHeartbeats 4000000 in
theorem cx_X7_append2 {g : zGl} {h : zHp} {b n K : Nat} {d u : Nat → Nat → Int32} {x : Int32} (hJ : zJo d u n K) (hv : qBt x 0 255 = true) (hs : u 0 2 = nI 120) : zX g mX7_append [.ref b, .int x] (zpT g h b d) "java/lang/IllegalStateException" (zXJ g h b u) 1 6 := by
  have hR := hJ.1
  have hn := zR_n6 hR
  have hK := zR_K8 hR
  obtain ⟨t1, -⟩ := zJo_t hJ hs (by decide)
  refine zX_ofA (lv := [some (.ref b), some (.int x)]) (by decide) rfl (Nat.le_of_ble_eq_true rfl) ?_
  refine z_iload_n (q := 1) dX7_append_0 rfl rfl ?_
  refine z_iconst (q := 2) dX7_append_1 zci_0 rfl ?_
  refine z_sipush (q := 5) dX7_append_2 zcs_255 rfl ?_
  refine z_u3 (q := 8) dX7_append_5 zkX7_64 zt_mX7_requireBetween rfl (Nat.le_of_ble_eq_true rfl) (ct_X7_requireBetween hv) rfl ?_
  refine z_aload_n (q := 9) dX7_append_8 rfl rfl ?_
  refine z_get (q := 12) dX7_append_9 zfX7_10 (by first | exact zT_0 | exact zT_o zWo_3 | exact zT_w zWo_3 rfl | exact zT_o zWo_18 | exact zT_X | exact zT_H | exact zT_S | exact zT_C | exact zT_G | exact zT_N (zNo_w zWo_3) | exact zT_n (zNo_w zWo_3) (by decide) | exact zpT_a (c := 284) rfl | exact zT_L) rfl rfl ?_
  refine z_v0 (q := 15) dX7_append_12 zkX7_68 zt_mX5_hasRoom rfl (by first | exact zT_0 | exact zT_o zWo_3 | exact zT_w zWo_3 rfl | exact zT_o zWo_18 | exact zT_X | exact zT_H | exact zT_S | exact zT_C | exact zT_G | exact zT_N (zNo_w zWo_3) | exact zT_n (zNo_w zWo_3) (by decide) | exact zpT_a (c := 284) rfl | exact zT_L) rfl (Nat.le_of_ble_eq_true rfl) (ct_X5_hasRoom t1 (by decide)) rfl ?_
  refine z_eqi ((congrArg zbi ((by decide))).trans zbi_f) ?_
  exact z_cSX (av := [.int (nI 0)]) dX7_append_15 zkX7_72 zw440 zt_mX7_requireState rfl rfl (Nat.le_of_ble_eq_true rfl) cx_X7_requireState (by decide) (by decide) (fun _ hh => ⟨d, ⟨n, K, hJ⟩, hh⟩)
set_option maxRecDepth 100000 in
set_option maxHeartbeats 4000000 in
theorem ct_X7_append0 {g : zGl} {h : zHp} {b n K s : Nat} {d u : Nat → Nat → Int32} {x : Int32} (hJ : zJo d u n K) (hv : qBt x 0 255 = true) (hs : u 0 2 = nI s) (hs1 : s < 120) : zC g mX7_append [.ref b, .int x] (zpT g h b d) (zRJ g h b (va_up (va_up u 1 (va_up (u 1) s x)) 0 (va_up (u 0) 2 (nI (s + 1)))) (nI (s + 1))) 0 0 := by
  have hR := hJ.1
  have hn := zR_n6 hR
  have hK := zR_K8 hR
  obtain ⟨t1, t2⟩ := zJo_t hJ hs (by omega)
  refine zC_ofA (lv := [some (.ref b), some (.int x)]) (by decide) rfl (Nat.le_of_ble_eq_true rfl) ?_
  refine z_iload_n (q := 1) dX7_append_0 rfl rfl ?_
  refine z_iconst (q := 2) dX7_append_1 zci_0 rfl ?_
  refine z_sipush (q := 5) dX7_append_2 zcs_255 rfl ?_
  refine z_u3 (q := 8) dX7_append_5 zkX7_64 zt_mX7_requireBetween rfl (Nat.le_of_ble_eq_true rfl) (ct_X7_requireBetween hv) rfl ?_
  refine z_aload_n (q := 9) dX7_append_8 rfl rfl ?_
  refine z_get (q := 12) dX7_append_9 zfX7_10 (by first | exact zT_0 | exact zT_o zWo_3 | exact zT_w zWo_3 rfl | exact zT_o zWo_18 | exact zT_X | exact zT_H | exact zT_S | exact zT_C | exact zT_G | exact zT_N (zNo_w zWo_3) | exact zT_n (zNo_w zWo_3) (by decide) | exact zpT_a (c := 284) rfl | exact zT_L) rfl rfl ?_
  refine z_v0 (q := 15) dX7_append_12 zkX7_68 zt_mX5_hasRoom rfl (by first | exact zT_0 | exact zT_o zWo_3 | exact zT_w zWo_3 rfl | exact zT_o zWo_18 | exact zT_X | exact zT_H | exact zT_S | exact zT_C | exact zT_G | exact zT_N (zNo_w zWo_3) | exact zT_n (zNo_w zWo_3) (by decide) | exact zpT_a (c := 284) rfl | exact zT_L) rfl (Nat.le_of_ble_eq_true rfl) (ct_X5_hasRoom t1 (by omega)) rfl ?_
  refine z_eqi ((congrArg zbi ((decide_eq_true hs1))).trans zbi_t) ?_
  refine z_u1 (q := 18) dX7_append_15 zkX7_72 zt_mX7_requireState rfl (Nat.le_of_ble_eq_true rfl) (ct_X7_requireState) rfl ?_
  refine z_aload_n (q := 19) dX7_append_18 rfl rfl ?_
  refine z_get (q := 22) dX7_append_19 zfX7_10 (by first | exact zT_0 | exact zT_o zWo_3 | exact zT_w zWo_3 rfl | exact zT_o zWo_18 | exact zT_X | exact zT_H | exact zT_S | exact zT_C | exact zT_G | exact zT_N (zNo_w zWo_3) | exact zT_n (zNo_w zWo_3) (by decide) | exact zpT_a (c := 284) rfl | exact zT_L) rfl rfl ?_
  refine z_iload_n (q := 23) dX7_append_22 rfl rfl ?_
  refine z_w1 (q := 26) dX7_append_23 zkX7_76 zt_mX5_add rfl (by first | exact zT_0 | exact zT_o zWo_3 | exact zT_w zWo_3 rfl | exact zT_o zWo_18 | exact zT_X | exact zT_H | exact zT_S | exact zT_C | exact zT_G | exact zT_N (zNo_w zWo_3) | exact zT_n (zNo_w zWo_3) (by decide) | exact zpT_a (c := 284) rfl | exact zT_L) rfl (Nat.le_of_ble_eq_true rfl) (ct_X5_add t1 hs1) rfl ?_
  refine z_aload_n (q := 27) dX7_append_26 rfl rfl ?_
  refine z_get (q := 30) dX7_append_27 zfX7_10 (by first | exact zT_0 | exact zT_o zWo_3 | exact zT_w zWo_3 rfl | exact zT_o zWo_18 | exact zT_X | exact zT_H | exact zT_S | exact zT_C | exact zT_G | exact zT_N (zNo_w zWo_3) | exact zT_n (zNo_w zWo_3) (by decide) | exact zpT_a (c := 284) rfl | exact zT_L) rfl rfl ?_
  refine z_get (q := 33) dX7_append_30 zfX7_80 (by first | exact zT_0 | exact zT_o zWo_3 | exact zT_w zWo_3 rfl | exact zT_o zWo_18 | exact zT_X | exact zT_H | exact zT_S | exact zT_C | exact zT_G | exact zT_N (zNo_w zWo_3) | exact zT_n (zNo_w zWo_3) (by decide) | exact zpT_a (c := 284) rfl | exact zT_L) rfl rfl ?_
  refine z_eqi (show _ = nI (s + 1) by rw [zu_eq, zu_eq]) ?_
  exact z_reti dX7_append_33 rfl (⟨rfl, _, rfl, n, K, zJo_tx hJ (by omega) (by rw [zu_eq, zu_eq]) (by rw [zu_ne (by decide), zu_eq, t2]) (fun c c1 c2 => by rw [zu_ne c1, zu_ne c2])⟩)
set_option maxRecDepth 100000 in
set_option maxHeartbeats 4000000 in
theorem ct_X7_clearText {g : zGl} {h : zHp} {b n K : Nat} {d u : Nat → Nat → Int32} (hJ : zJo d u n K) : zC g mX7_clearText [.ref b] (zpT g h b d) (zRJ g h b (va_up u 0 (va_up (u 0) 2 (nI 0))) (u 0 2)) 0 0 := by
  have hR := hJ.1
  have hn := zR_n6 hR
  have hK := zR_K8 hR
  obtain ⟨L, l1, t1, l2, t2⟩ := hJ.2.1
  refine zC_ofA (lv := [some (.ref b), none]) (by decide) rfl (Nat.le_of_ble_eq_true rfl) ?_
  refine z_aload_n (q := 1) dX7_clearText_0 rfl rfl ?_
  refine z_get (q := 4) dX7_clearText_1 zfX7_10 (by first | exact zT_0 | exact zT_o zWo_3 | exact zT_w zWo_3 rfl | exact zT_o zWo_18 | exact zT_X | exact zT_H | exact zT_S | exact zT_C | exact zT_G | exact zT_N (zNo_w zWo_3) | exact zT_n (zNo_w zWo_3) (by decide) | exact zpT_a (c := 284) rfl | exact zT_L) rfl rfl ?_
  refine z_get (q := 7) dX7_clearText_4 zfX7_80 (by first | exact zT_0 | exact zT_o zWo_3 | exact zT_w zWo_3 rfl | exact zT_o zWo_18 | exact zT_X | exact zT_H | exact zT_S | exact zT_C | exact zT_G | exact zT_N (zNo_w zWo_3) | exact zT_n (zNo_w zWo_3) (by decide) | exact zpT_a (c := 284) rfl | exact zT_L) rfl rfl ?_
  refine z_eqi (t1.trans l2.symm) ?_
  refine z_istore_n (q := 8) dX7_clearText_7 (Nat.le_of_ble_eq_true rfl) rfl rfl ?_
  refine z_aload_n (q := 9) dX7_clearText_8 rfl rfl ?_
  refine z_get (q := 12) dX7_clearText_9 zfX7_10 (by first | exact zT_0 | exact zT_o zWo_3 | exact zT_w zWo_3 rfl | exact zT_o zWo_18 | exact zT_X | exact zT_H | exact zT_S | exact zT_C | exact zT_G | exact zT_N (zNo_w zWo_3) | exact zT_n (zNo_w zWo_3) (by decide) | exact zpT_a (c := 284) rfl | exact zT_L) rfl rfl ?_
  refine z_iconst (q := 13) dX7_clearText_12 zci_0 rfl ?_
  refine z_putX (q := 16) dX7_clearText_13 zfX7_80 rfl ?_
  refine z_iload_n (q := 17) dX7_clearText_16 rfl rfl ?_
  exact z_reti dX7_clearText_17 rfl (⟨rfl, _, rfl, n, K, by
    have e := zJo_tx (D := va_up d 1 (va_up (d 1) 1 (nI 0))) (L := 0) (f := u 1) hJ (by omega) (by rw [zu_eq, zu_eq]) (by rw [zu_ne (by decide), t2]) (fun c c1 c2 => zu_ne c1)
    rw [zu_self] at e
    exact e⟩)
set_option maxRecDepth 100000 in
set_option maxHeartbeats 4000000 in
theorem ct_X7_errorPosition {g : zGl} {h : zHp} {b n K L : Nat} {d u : Nat → Nat → Int32} (hJ : zJo d u n K) (hL : u 0 2 = nI L) (hL2 : L ≤ 120) : zC g mX7_errorPosition [.ref b] (zpT g h b d) (zRJ g h b u (qRead (u 1) L).1) 0 0 := by
  have hR := hJ.1
  have hn := zR_n6 hR
  have hK := zR_K8 hR
  obtain ⟨t1, t2⟩ := zJo_t hJ hL hL2
  refine zC_ofA (lv := [some (.ref b)]) (by decide) rfl (Nat.le_of_ble_eq_true rfl) ?_
  refine z_aload_n (q := 1) dX7_errorPosition_0 rfl rfl ?_
  refine z_get (q := 4) dX7_errorPosition_1 zfX7_10 (by first | exact zT_0 | exact zT_o zWo_3 | exact zT_w zWo_3 rfl | exact zT_o zWo_18 | exact zT_X | exact zT_H | exact zT_S | exact zT_C | exact zT_G | exact zT_N (zNo_w zWo_3) | exact zT_n (zNo_w zWo_3) (by decide) | exact zpT_a (c := 284) rfl | exact zT_L) rfl rfl ?_
  refine z_aload_n (q := 5) dX7_errorPosition_4 rfl rfl ?_
  refine z_get (q := 8) dX7_errorPosition_5 zfX7_23 (by first | exact zT_0 | exact zT_o zWo_3 | exact zT_w zWo_3 rfl | exact zT_o zWo_18 | exact zT_X | exact zT_H | exact zT_S | exact zT_C | exact zT_G | exact zT_N (zNo_w zWo_3) | exact zT_n (zNo_w zWo_3) (by decide) | exact zpT_a (c := 284) rfl | exact zT_L) rfl rfl ?_
  refine z_V1 (q := 11) dX7_errorPosition_8 zkX7_83 zt_mX5_readInto rfl zT_X rfl (Nat.le_of_ble_eq_true rfl) (ct_X5_readInto zWo_18 t1 hL2) (Nat.zero_le _) (Nat.zero_le _) rfl ?_
  rintro _ _ ⟨rfl, D, rfl, hD, hO⟩
  exact z_reti dX7_errorPosition_11 rfl (⟨by rw [t2], D, rfl, n, K, zJo_same (fun c hc => hO c (by omega)) hJ⟩)
set_option maxRecDepth 100000 in
set_option maxHeartbeats 4000000 in
theorem cx_X7_load1 {g : zGl} {h : zHp} {b n K L : Nat} {d u : Nat → Nat → Int32} (hJ : zJo d u n K) (hL : u 0 2 = nI L) (hL2 : L ≤ 120) (hv : ¬ (qRead (u 1) L).1 = -9) : zX g mX7_load [.ref b] (zpT g h b d) "java/lang/IllegalStateException" (zXJ g h b u) 1 6 := by
  have hR := hJ.1
  have hn := zR_n6 hR
  have hK := zR_K8 hR
  obtain ⟨t1, t2⟩ := zJo_t hJ hL hL2
  refine zX_ofA (lv := [some (.ref b)]) (by decide) rfl (Nat.le_of_ble_eq_true rfl) ?_
  refine z_aload_n (q := 1) dX7_load_0 rfl rfl ?_
  refine z_get (q := 4) dX7_load_1 zfX7_10 (by first | exact zT_0 | exact zT_o zWo_3 | exact zT_w zWo_3 rfl | exact zT_o zWo_18 | exact zT_X | exact zT_H | exact zT_S | exact zT_C | exact zT_G | exact zT_N (zNo_w zWo_3) | exact zT_n (zNo_w zWo_3) (by decide) | exact zpT_a (c := 284) rfl | exact zT_L) rfl rfl ?_
  refine z_aload_n (q := 5) dX7_load_4 rfl rfl ?_
  refine z_get (q := 8) dX7_load_5 zfX7_23 (by first | exact zT_0 | exact zT_o zWo_3 | exact zT_w zWo_3 rfl | exact zT_o zWo_18 | exact zT_X | exact zT_H | exact zT_S | exact zT_C | exact zT_G | exact zT_N (zNo_w zWo_3) | exact zT_n (zNo_w zWo_3) (by decide) | exact zpT_a (c := 284) rfl | exact zT_L) rfl rfl ?_
  refine z_V1 (q := 11) dX7_load_8 zkX7_83 zt_mX5_readInto rfl zT_X rfl (Nat.le_of_ble_eq_true rfl) (ct_X5_readInto zWo_18 t1 hL2) (Nat.zero_le _) (Nat.zero_le _) rfl ?_
  rintro _ _ ⟨rfl, D, rfl, hD, hO⟩
  refine z_bipush (q := 13) dX7_load_11 zcb_m9 rfl ?_
  refine z_icmp_ne (tg := 20) (q := 16) dX7_load_13 rfl rfl ?_ ?_
  · intro hc13
    refine z_iconst (q := 21) dX7_load_20 zci_0 rfl ?_
    exact z_cSX (av := [.int (nI 0)]) dX7_load_21 zkX7_72 zw440 zt_mX7_requireState rfl rfl (Nat.le_of_ble_eq_true rfl) cx_X7_requireState (by decide) (by decide) (fun _ hh => ⟨D, ⟨n, K, zJo_same (fun c hc => hO c (by omega)) hJ⟩, hh⟩)
  · intro hc13
    exact absurd (by rw [← t2]; exact hc13) hv
theorem z_put0 {g : zGl} {Z : zZt} {k n pc q : Nat} {lv : List (Option Value)} {st : List Value} {h : zHp} {idx b : Nat} {C0 : String} {d : Nat → Nat → Int32} {v : Int32} (hd : decode Z.1.2.1 pc = .ok (.putfield idx, 3)) (hf : zFld Z.1.1.cls idx 7 5 .int false C0) (hp : pc + 3 = q) (kk : zA g Z k n q lv st (zpT g h b (va_up d 0 (va_up (d 0) 5 v)))) : zA g Z k n pc lv (.int v :: .ref b :: st) (zpT g h b d) := by
  refine z_put hd hf zT_0 (show 5 < 9 by decide) rfl rfl hp ?_
  have e := zpT_up (g := g) (h := h) (b := b) (c := 0) (d := d) (f := va_up (d 0) 5 v) (e := .inr (7, (zTf b (d 0)).set 5 (.int v))) (by decide) rfl
  rw [show b + 0 = b from rfl] at e
  rw [e]
  exact kk
set_option maxRecDepth 100000 in
set_option maxHeartbeats 4000000 in
theorem ct_X7_load0 {g : zGl} {h : zHp} {b n K L : Nat} {d u : Nat → Nat → Int32} (hJ : zJo d u n K) (hL : u 0 2 = nI L) (hL2 : L ≤ 120) (hv : (qRead (u 1) L).1 = -9) : zC g mX7_load [.ref b] (zpT g h b d) (zRJ g h b (va_up (va_up (va_up u 3 (qRead (u 1) L).2) 8 (va_up (va_up (u 8) 0 (nI 0)) 1 (nI 0))) 0 (va_up (u 0) 9 (nI 0))) ((qRead (u 1) L).2 0)) 0 0 := by
  have hR := hJ.1
  have hn := zR_n6 hR
  have hK := zR_K8 hR
  obtain ⟨t1, t2⟩ := zJo_t hJ hL hL2
  refine zC_ofA (lv := [some (.ref b)]) (by decide) rfl (Nat.le_of_ble_eq_true rfl) ?_
  refine z_aload_n (q := 1) dX7_load_0 rfl rfl ?_
  refine z_get (q := 4) dX7_load_1 zfX7_10 (by first | exact zT_0 | exact zT_o zWo_3 | exact zT_w zWo_3 rfl | exact zT_o zWo_18 | exact zT_X | exact zT_H | exact zT_S | exact zT_C | exact zT_G | exact zT_N (zNo_w zWo_3) | exact zT_n (zNo_w zWo_3) (by decide) | exact zpT_a (c := 284) rfl | exact zT_L) rfl rfl ?_
  refine z_aload_n (q := 5) dX7_load_4 rfl rfl ?_
  refine z_get (q := 8) dX7_load_5 zfX7_23 (by first | exact zT_0 | exact zT_o zWo_3 | exact zT_w zWo_3 rfl | exact zT_o zWo_18 | exact zT_X | exact zT_H | exact zT_S | exact zT_C | exact zT_G | exact zT_N (zNo_w zWo_3) | exact zT_n (zNo_w zWo_3) (by decide) | exact zpT_a (c := 284) rfl | exact zT_L) rfl rfl ?_
  refine z_V1 (q := 11) dX7_load_8 zkX7_83 zt_mX5_readInto rfl zT_X rfl (Nat.le_of_ble_eq_true rfl) (ct_X5_readInto zWo_18 t1 hL2) (Nat.zero_le _) (Nat.zero_le _) rfl ?_
  rintro _ _ ⟨rfl, D, rfl, hD, hO⟩
  rw [t2] at hD
  obtain ⟨n2, K2, hRD⟩ := hD hv
  refine z_bipush (q := 13) dX7_load_11 zcb_m9 rfl ?_
  refine z_icmp_ne (tg := 20) (q := 16) dX7_load_13 rfl rfl ?_ ?_
  · intro hc13
    exact absurd (by rw [t2]; exact hv) hc13
  · intro hc13
    refine z_iconst (q := 17) dX7_load_16 zci_1 rfl ?_
    refine z_goto (q := 0) (tg := 21) dX7_load_17 rfl ?_
    refine z_u1 (q := 24) dX7_load_21 zkX7_72 zt_mX7_requireState rfl (Nat.le_of_ble_eq_true rfl) (ct_X7_requireState) rfl ?_
    refine z_aload_n (q := 25) dX7_load_24 rfl rfl ?_
    refine z_get (q := 28) dX7_load_25 zfX7_19 (by first | exact zT_0 | exact zT_o zWo_3 | exact zT_w zWo_3 rfl | exact zT_o zWo_18 | exact zT_X | exact zT_H | exact zT_S | exact zT_C | exact zT_G | exact zT_N (zNo_w zWo_3) | exact zT_n (zNo_w zWo_3) (by decide) | exact zpT_a (c := 284) rfl | exact zT_L) rfl rfl ?_
    refine z_aload_n (q := 29) dX7_load_28 rfl rfl ?_
    refine z_get (q := 32) dX7_load_29 zfX7_23 (by first | exact zT_0 | exact zT_o zWo_3 | exact zT_w zWo_3 rfl | exact zT_o zWo_18 | exact zT_X | exact zT_H | exact zT_S | exact zT_C | exact zT_G | exact zT_N (zNo_w zWo_3) | exact zT_n (zNo_w zWo_3) (by decide) | exact zpT_a (c := 284) rfl | exact zT_L) rfl rfl ?_
    refine z_V1 (q := 35) dX7_load_32 zkX7_87 zt_mX6_copyFrom rfl (zT_o zWo_3) rfl (Nat.le_of_ble_eq_true rfl) (ct_X6_copyFrom zWo_3 zWo_18 (by omega)) (Nat.zero_le _) (Nat.zero_le _) rfl ?_
    rintro _ _ ⟨rfl, D2, rfl, hD2⟩
    have hR2 := zCy_R hD2 hRD
    have hO2 := hD2.2.2.2
    refine z_aload_n (q := 36) dX7_load_35 rfl rfl ?_
    refine z_get (q := 39) dX7_load_36 zfX7_29 (by first | exact zT_0 | exact zT_o zWo_3 | exact zT_w zWo_3 rfl | exact zT_o zWo_18 | exact zT_X | exact zT_H | exact zT_S | exact zT_C | exact zT_G | exact zT_N (zNo_w zWo_3) | exact zT_n (zNo_w zWo_3) (by decide) | exact zpT_a (c := 284) rfl | exact zT_L) rfl rfl ?_
    refine z_w0 (q := 42) dX7_load_39 zkX7_91 zt_mX1_forget rfl (by first | exact zT_0 | exact zT_o zWo_3 | exact zT_w zWo_3 rfl | exact zT_o zWo_18 | exact zT_X | exact zT_H | exact zT_S | exact zT_C | exact zT_G | exact zT_N (zNo_w zWo_3) | exact zT_n (zNo_w zWo_3) (by decide) | exact zpT_a (c := 284) rfl | exact zT_L) rfl (Nat.le_of_ble_eq_true rfl) (ct_X1_forget) rfl ?_
    refine z_aload_n (q := 43) dX7_load_42 rfl rfl ?_
    refine z_iconst (q := 44) dX7_load_43 zci_0 rfl ?_
    refine z_put0 (q := 47) dX7_load_44 zfX7_37 rfl ?_
    refine z_aload_n (q := 48) dX7_load_47 rfl rfl ?_
    refine z_get (q := 51) dX7_load_48 zfX7_19 (by first | exact zT_0 | exact zT_o zWo_3 | exact zT_w zWo_3 rfl | exact zT_o zWo_18 | exact zT_X | exact zT_H | exact zT_S | exact zT_C | exact zT_G | exact zT_N (zNo_w zWo_3) | exact zT_n (zNo_w zWo_3) (by decide) | exact zpT_a (c := 284) rfl | exact zT_L) rfl rfl ?_
    refine z_get (q := 54) dX7_load_51 zfX7_94 (by first | exact zT_0 | exact zT_o zWo_3 | exact zT_w zWo_3 rfl | exact zT_o zWo_18 | exact zT_X | exact zT_H | exact zT_S | exact zT_C | exact zT_G | exact zT_N (zNo_w zWo_3) | exact zT_n (zNo_w zWo_3) (by decide) | exact zpT_a (c := 284) rfl | exact zT_L) rfl rfl ?_
    refine z_eqi (show _ = (qRead (u 1) L).2 0 by rw [zu_ne (by decide), zu_ne (by decide), zR_0 hR2, zR_f0 hR2]) ?_
    exact z_reti dX7_load_54 rfl (⟨rfl, _, rfl, zJo_load hJ (by rw [zu_eq, zu_eq]) (by rw [zu_ne (by decide), zu_ne (by decide), hO2 1 (by omega)]; exact hO 1 (by omega)) (by rw [zu_ne (by decide), zu_ne (by decide), hO2 2 (by omega)]; exact hO 2 (by omega)) (by rw [zu_ne (by decide), zu_eq, zu_ne (by decide), hO2 33 (by omega), hO 33 (by omega)]) (by rw [zu_ne (by decide), zu_eq, zu_eq]) (zR_same (fun q q1 q2 => by rw [zu_ne (by omega), zu_ne (by omega)]) hR2)⟩)
set_option maxRecDepth 100000 in
set_option maxHeartbeats 4000000 in
theorem cx_X7_about1 {g : zGl} {h : zHp} {b n K : Nat} {d u : Nat → Nat → Int32} {x : Int32} (hJ : zJo d u n K) (hv : qBt x 0 7 = false) : zX g mX7_about [.ref b, .int x] (zpT g h b d) "java/lang/IllegalArgumentException" (zXJ g h b u) 1 6 := by
  have hR := hJ.1
  have hn := zR_n6 hR
  have hK := zR_K8 hR
  refine zX_ofA (lv := [some (.ref b), some (.int x)]) (by decide) rfl (Nat.le_of_ble_eq_true rfl) ?_
  refine z_iload_n (q := 1) dX7_about_0 rfl rfl ?_
  refine z_iconst (q := 2) dX7_about_1 zci_0 rfl ?_
  refine z_bipush (q := 4) dX7_about_2 zcb_7 rfl ?_
  exact z_cSX (av := [.int x, .int (nI 0), .int (nI 7)]) dX7_about_4 zkX7_64 zw362 zt_mX7_requireBetween rfl rfl (Nat.le_of_ble_eq_true rfl) (cx_X7_requireBetween hv) (by decide) (by decide) (fun _ hh => ⟨d, ⟨n, K, hJ⟩, hh⟩)
set_option maxRecDepth 100000 in
set_option maxHeartbeats 4000000 in
theorem ct_X7_about0 {g : zGl} {h : zHp} {b n K w : Nat} {d u : Nat → Nat → Int32} (hJ : zJo d u n K) (hw : w ≤ 7) : zC g mX7_about [.ref b, .int (nI w)] (zpT g h b d) (zRJ g h b u (qAbout (u 3) n K w)) 0 0 := by
  have hR := hJ.1
  have hn := zR_n6 hR
  have hK := zR_K8 hR
  refine zC_ofA (lv := [some (.ref b), some (.int (nI w))]) (by decide) rfl (Nat.le_of_ble_eq_true rfl) ?_
  rcases (show w = 0 ∨ w = 1 ∨ w = 2 ∨ w = 3 ∨ w = 4 ∨ w = 5 ∨ w = 6 ∨ w = 7 by omega) with rfl | rfl | rfl | rfl | rfl | rfl | rfl | rfl
  · skip
    refine z_iload_n (q := 1) dX7_about_0 rfl rfl ?_
    refine z_iconst (q := 2) dX7_about_1 zci_0 rfl ?_
    refine z_bipush (q := 4) dX7_about_2 zcb_7 rfl ?_
    refine z_u3 (q := 7) dX7_about_4 zkX7_64 zt_mX7_requireBetween rfl (Nat.le_of_ble_eq_true rfl) (ct_X7_requireBetween (qBt_i (by decide) (by decide) (by decide))) rfl ?_
    refine z_iload_n (q := 8) dX7_about_7 rfl rfl ?_
    refine z_tableIn (q := 0) (tg := 52) dX7_about_8 (by decide) (by decide) rfl rfl ?_
    refine z_aload_n (q := 53) dX7_about_52 rfl rfl ?_
    refine z_get (q := 56) dX7_about_53 zfX7_19 (by first | exact zT_0 | exact zT_o zWo_3 | exact zT_w zWo_3 rfl | exact zT_o zWo_18 | exact zT_X | exact zT_H | exact zT_S | exact zT_C | exact zT_G | exact zT_N (zNo_w zWo_3) | exact zT_n (zNo_w zWo_3) (by decide) | exact zpT_a (c := 284) rfl | exact zT_L) rfl rfl ?_
    refine z_get (q := 59) dX7_about_56 zfX7_94 (by first | exact zT_0 | exact zT_o zWo_3 | exact zT_w zWo_3 rfl | exact zT_o zWo_18 | exact zT_X | exact zT_H | exact zT_S | exact zT_C | exact zT_G | exact zT_N (zNo_w zWo_3) | exact zT_n (zNo_w zWo_3) (by decide) | exact zpT_a (c := 284) rfl | exact zT_L) rfl rfl ?_
    refine z_eqi ((zR_0 hR).trans (zR_f0 hR).symm) ?_
    exact z_reti dX7_about_59 rfl (zRJ_v hJ rfl)
  · skip
    refine z_iload_n (q := 1) dX7_about_0 rfl rfl ?_
    refine z_iconst (q := 2) dX7_about_1 zci_0 rfl ?_
    refine z_bipush (q := 4) dX7_about_2 zcb_7 rfl ?_
    refine z_u3 (q := 7) dX7_about_4 zkX7_64 zt_mX7_requireBetween rfl (Nat.le_of_ble_eq_true rfl) (ct_X7_requireBetween (qBt_i (by decide) (by decide) (by decide))) rfl ?_
    refine z_iload_n (q := 8) dX7_about_7 rfl rfl ?_
    refine z_tableIn (q := 0) (tg := 60) dX7_about_8 (by decide) (by decide) rfl rfl ?_
    refine z_aload_n (q := 61) dX7_about_60 rfl rfl ?_
    refine z_get (q := 64) dX7_about_61 zfX7_19 (by first | exact zT_0 | exact zT_o zWo_3 | exact zT_w zWo_3 rfl | exact zT_o zWo_18 | exact zT_X | exact zT_H | exact zT_S | exact zT_C | exact zT_G | exact zT_N (zNo_w zWo_3) | exact zT_n (zNo_w zWo_3) (by decide) | exact zpT_a (c := 284) rfl | exact zT_L) rfl rfl ?_
    refine z_get (q := 67) dX7_about_64 zfX7_97 (by first | exact zT_0 | exact zT_o zWo_3 | exact zT_w zWo_3 rfl | exact zT_o zWo_18 | exact zT_X | exact zT_H | exact zT_S | exact zT_C | exact zT_G | exact zT_N (zNo_w zWo_3) | exact zT_n (zNo_w zWo_3) (by decide) | exact zpT_a (c := 284) rfl | exact zT_L) rfl rfl ?_
    refine z_eqi ((zR_1 hR).trans (zR_f1 hR).symm) ?_
    exact z_reti dX7_about_67 rfl (zRJ_v hJ rfl)
  · skip
    refine z_iload_n (q := 1) dX7_about_0 rfl rfl ?_
    refine z_iconst (q := 2) dX7_about_1 zci_0 rfl ?_
    refine z_bipush (q := 4) dX7_about_2 zcb_7 rfl ?_
    refine z_u3 (q := 7) dX7_about_4 zkX7_64 zt_mX7_requireBetween rfl (Nat.le_of_ble_eq_true rfl) (ct_X7_requireBetween (qBt_i (by decide) (by decide) (by decide))) rfl ?_
    refine z_iload_n (q := 8) dX7_about_7 rfl rfl ?_
    refine z_tableIn (q := 0) (tg := 68) dX7_about_8 (by decide) (by decide) rfl rfl ?_
    refine z_aload_n (q := 69) dX7_about_68 rfl rfl ?_
    refine z_get (q := 72) dX7_about_69 zfX7_19 (by first | exact zT_0 | exact zT_o zWo_3 | exact zT_w zWo_3 rfl | exact zT_o zWo_18 | exact zT_X | exact zT_H | exact zT_S | exact zT_C | exact zT_G | exact zT_N (zNo_w zWo_3) | exact zT_n (zNo_w zWo_3) (by decide) | exact zpT_a (c := 284) rfl | exact zT_L) rfl rfl ?_
    refine z_get (q := 75) dX7_about_72 zfX7_100 (by first | exact zT_0 | exact zT_o zWo_3 | exact zT_w zWo_3 rfl | exact zT_o zWo_18 | exact zT_X | exact zT_H | exact zT_S | exact zT_C | exact zT_G | exact zT_N (zNo_w zWo_3) | exact zT_n (zNo_w zWo_3) (by decide) | exact zpT_a (c := 284) rfl | exact zT_L) rfl rfl ?_
    refine z_eqi (zR_3 hR) ?_
    exact z_reti dX7_about_75 rfl (zRJ_v hJ rfl)
  · skip
    refine z_iload_n (q := 1) dX7_about_0 rfl rfl ?_
    refine z_iconst (q := 2) dX7_about_1 zci_0 rfl ?_
    refine z_bipush (q := 4) dX7_about_2 zcb_7 rfl ?_
    refine z_u3 (q := 7) dX7_about_4 zkX7_64 zt_mX7_requireBetween rfl (Nat.le_of_ble_eq_true rfl) (ct_X7_requireBetween (qBt_i (by decide) (by decide) (by decide))) rfl ?_
    refine z_iload_n (q := 8) dX7_about_7 rfl rfl ?_
    refine z_tableIn (q := 0) (tg := 76) dX7_about_8 (by decide) (by decide) rfl rfl ?_
    refine z_aload_n (q := 77) dX7_about_76 rfl rfl ?_
    refine z_get (q := 80) dX7_about_77 zfX7_19 (by first | exact zT_0 | exact zT_o zWo_3 | exact zT_w zWo_3 rfl | exact zT_o zWo_18 | exact zT_X | exact zT_H | exact zT_S | exact zT_C | exact zT_G | exact zT_N (zNo_w zWo_3) | exact zT_n (zNo_w zWo_3) (by decide) | exact zpT_a (c := 284) rfl | exact zT_L) rfl rfl ?_
    refine z_get (q := 83) dX7_about_80 zfX7_103 (by first | exact zT_0 | exact zT_o zWo_3 | exact zT_w zWo_3 rfl | exact zT_o zWo_18 | exact zT_X | exact zT_H | exact zT_S | exact zT_C | exact zT_G | exact zT_N (zNo_w zWo_3) | exact zT_n (zNo_w zWo_3) (by decide) | exact zpT_a (c := 284) rfl | exact zT_L) rfl rfl ?_
    refine z_eqi (zR_2 hR) ?_
    exact z_reti dX7_about_83 rfl (zRJ_v hJ rfl)
  · skip
    refine z_iload_n (q := 1) dX7_about_0 rfl rfl ?_
    refine z_iconst (q := 2) dX7_about_1 zci_0 rfl ?_
    refine z_bipush (q := 4) dX7_about_2 zcb_7 rfl ?_
    refine z_u3 (q := 7) dX7_about_4 zkX7_64 zt_mX7_requireBetween rfl (Nat.le_of_ble_eq_true rfl) (ct_X7_requireBetween (qBt_i (by decide) (by decide) (by decide))) rfl ?_
    refine z_iload_n (q := 8) dX7_about_7 rfl rfl ?_
    refine z_tableIn (q := 0) (tg := 84) dX7_about_8 (by decide) (by decide) rfl rfl ?_
    refine z_aload_n (q := 85) dX7_about_84 rfl rfl ?_
    refine z_get (q := 88) dX7_about_85 zfX7_19 (by first | exact zT_0 | exact zT_o zWo_3 | exact zT_w zWo_3 rfl | exact zT_o zWo_18 | exact zT_X | exact zT_H | exact zT_S | exact zT_C | exact zT_G | exact zT_N (zNo_w zWo_3) | exact zT_n (zNo_w zWo_3) (by decide) | exact zpT_a (c := 284) rfl | exact zT_L) rfl rfl ?_
    refine z_v0 (q := 91) dX7_about_88 zkX7_106 zt_mX6_finishedTasks rfl (by first | exact zT_0 | exact zT_o zWo_3 | exact zT_w zWo_3 rfl | exact zT_o zWo_18 | exact zT_X | exact zT_H | exact zT_S | exact zT_C | exact zT_G | exact zT_N (zNo_w zWo_3) | exact zT_n (zNo_w zWo_3) (by decide) | exact zpT_a (c := 284) rfl | exact zT_L) rfl (Nat.le_of_ble_eq_true rfl) (ct_X6_finishedTasks zWo_3 hR) rfl ?_
    exact z_reti dX7_about_91 rfl (zRJ_v hJ rfl)
  · skip
    refine z_iload_n (q := 1) dX7_about_0 rfl rfl ?_
    refine z_iconst (q := 2) dX7_about_1 zci_0 rfl ?_
    refine z_bipush (q := 4) dX7_about_2 zcb_7 rfl ?_
    refine z_u3 (q := 7) dX7_about_4 zkX7_64 zt_mX7_requireBetween rfl (Nat.le_of_ble_eq_true rfl) (ct_X7_requireBetween (qBt_i (by decide) (by decide) (by decide))) rfl ?_
    refine z_iload_n (q := 8) dX7_about_7 rfl rfl ?_
    refine z_tableIn (q := 0) (tg := 92) dX7_about_8 (by decide) (by decide) rfl rfl ?_
    refine z_aload_n (q := 93) dX7_about_92 rfl rfl ?_
    refine z_get (q := 96) dX7_about_93 zfX7_19 (by first | exact zT_0 | exact zT_o zWo_3 | exact zT_w zWo_3 rfl | exact zT_o zWo_18 | exact zT_X | exact zT_H | exact zT_S | exact zT_C | exact zT_G | exact zT_N (zNo_w zWo_3) | exact zT_n (zNo_w zWo_3) (by decide) | exact zpT_a (c := 284) rfl | exact zT_L) rfl rfl ?_
    refine z_v0 (q := 99) dX7_about_96 zkX7_110 zt_mX6_allMoves rfl (by first | exact zT_0 | exact zT_o zWo_3 | exact zT_w zWo_3 rfl | exact zT_o zWo_18 | exact zT_X | exact zT_H | exact zT_S | exact zT_C | exact zT_G | exact zT_N (zNo_w zWo_3) | exact zT_n (zNo_w zWo_3) (by decide) | exact zpT_a (c := 284) rfl | exact zT_L) rfl (Nat.le_of_ble_eq_true rfl) (ct_X6_allMoves zWo_3 hR) rfl ?_
    exact z_reti dX7_about_99 rfl (zRJ_v hJ rfl)
  · skip
    refine z_iload_n (q := 1) dX7_about_0 rfl rfl ?_
    refine z_iconst (q := 2) dX7_about_1 zci_0 rfl ?_
    refine z_bipush (q := 4) dX7_about_2 zcb_7 rfl ?_
    refine z_u3 (q := 7) dX7_about_4 zkX7_64 zt_mX7_requireBetween rfl (Nat.le_of_ble_eq_true rfl) (ct_X7_requireBetween (qBt_i (by decide) (by decide) (by decide))) rfl ?_
    refine z_iload_n (q := 8) dX7_about_7 rfl rfl ?_
    refine z_tableIn (q := 0) (tg := 100) dX7_about_8 (by decide) (by decide) rfl rfl ?_
    refine z_aload_n (q := 101) dX7_about_100 rfl rfl ?_
    refine z_get (q := 104) dX7_about_101 zfX7_19 (by first | exact zT_0 | exact zT_o zWo_3 | exact zT_w zWo_3 rfl | exact zT_o zWo_18 | exact zT_X | exact zT_H | exact zT_S | exact zT_C | exact zT_G | exact zT_N (zNo_w zWo_3) | exact zT_n (zNo_w zWo_3) (by decide) | exact zpT_a (c := 284) rfl | exact zT_L) rfl rfl ?_
    refine z_v0 (q := 107) dX7_about_104 zkX7_113 zt_mX6_allWasted rfl (by first | exact zT_0 | exact zT_o zWo_3 | exact zT_w zWo_3 rfl | exact zT_o zWo_18 | exact zT_X | exact zT_H | exact zT_S | exact zT_C | exact zT_G | exact zT_N (zNo_w zWo_3) | exact zT_n (zNo_w zWo_3) (by decide) | exact zpT_a (c := 284) rfl | exact zT_L) rfl (Nat.le_of_ble_eq_true rfl) (ct_X6_allWasted zWo_3 hR) rfl ?_
    exact z_reti dX7_about_107 rfl (zRJ_v hJ rfl)
  · skip
    refine z_iload_n (q := 1) dX7_about_0 rfl rfl ?_
    refine z_iconst (q := 2) dX7_about_1 zci_0 rfl ?_
    refine z_bipush (q := 4) dX7_about_2 zcb_7 rfl ?_
    refine z_u3 (q := 7) dX7_about_4 zkX7_64 zt_mX7_requireBetween rfl (Nat.le_of_ble_eq_true rfl) (ct_X7_requireBetween (qBt_i (by decide) (by decide) (by decide))) rfl ?_
    refine z_iload_n (q := 8) dX7_about_7 rfl rfl ?_
    refine z_tableOut (q := 0) (tg := 108) dX7_about_8 (by decide) rfl ?_
    refine z_aload_n (q := 109) dX7_about_108 rfl rfl ?_
    refine z_get (q := 112) dX7_about_109 zfX7_19 (by first | exact zT_0 | exact zT_o zWo_3 | exact zT_w zWo_3 rfl | exact zT_o zWo_18 | exact zT_X | exact zT_H | exact zT_S | exact zT_C | exact zT_G | exact zT_N (zNo_w zWo_3) | exact zT_n (zNo_w zWo_3) (by decide) | exact zpT_a (c := 284) rfl | exact zT_L) rfl rfl ?_
    refine z_get (q := 115) dX7_about_112 zfX7_116 (by first | exact zT_0 | exact zT_o zWo_3 | exact zT_w zWo_3 rfl | exact zT_o zWo_18 | exact zT_X | exact zT_H | exact zT_S | exact zT_C | exact zT_G | exact zT_N (zNo_w zWo_3) | exact zT_n (zNo_w zWo_3) (by decide) | exact zpT_a (c := 284) rfl | exact zT_L) rfl rfl ?_
    refine z_eqi (zR_mk hR) ?_
    exact z_reti dX7_about_115 rfl (zRJ_v hJ (mk_i (by omega)).symm)
set_option maxRecDepth 100000 in
set_option maxHeartbeats 4000000 in
theorem cx_X7_agent1 {g : zGl} {h : zHp} {b n K : Nat} {d u : Nat → Nat → Int32} {x y : Int32} (hJ : zJo d u n K) (hv : qHas x n = false) : zX g mX7_agent [.ref b, .int x, .int y] (zpT g h b d) "java/lang/IndexOutOfBoundsException" (zXJ g h b u) 1 6 := by
  have hR := hJ.1
  have hn := zR_n6 hR
  have hK := zR_K8 hR
  refine zX_ofA (lv := [some (.ref b), some (.int x), some (.int y)]) (by decide) rfl (Nat.le_of_ble_eq_true rfl) ?_
  refine z_aload_n (q := 1) dX7_agent_0 rfl rfl ?_
  refine z_get (q := 4) dX7_agent_1 zfX7_19 (by first | exact zT_0 | exact zT_o zWo_3 | exact zT_w zWo_3 rfl | exact zT_o zWo_18 | exact zT_X | exact zT_H | exact zT_S | exact zT_C | exact zT_G | exact zT_N (zNo_w zWo_3) | exact zT_n (zNo_w zWo_3) (by decide) | exact zpT_a (c := 284) rfl | exact zT_L) rfl rfl ?_
  refine z_iload_n (q := 5) dX7_agent_4 rfl rfl ?_
  refine z_v1 (q := 8) dX7_agent_5 zkX7_119 zt_mX6_hasAgent rfl (by first | exact zT_0 | exact zT_o zWo_3 | exact zT_w zWo_3 rfl | exact zT_o zWo_18 | exact zT_X | exact zT_H | exact zT_S | exact zT_C | exact zT_G | exact zT_N (zNo_w zWo_3) | exact zT_n (zNo_w zWo_3) (by decide) | exact zpT_a (c := 284) rfl | exact zT_L) rfl (Nat.le_of_ble_eq_true rfl) (ct_X6_hasAgent zWo_3 (zR_0 hR)) rfl ?_
  refine z_eqi ((congrArg zbi (hv)).trans zbi_f) ?_
  exact z_cSX (av := [.int (nI 0)]) dX7_agent_8 zkX7_123 zw513 zt_mX7_requireIndex rfl rfl (Nat.le_of_ble_eq_true rfl) cx_X7_requireIndex (by decide) (by decide) (fun _ hh => ⟨d, ⟨n, K, hJ⟩, hh⟩)
set_option maxRecDepth 100000 in
set_option maxHeartbeats 4000000 in
theorem cx_X7_agent2 {g : zGl} {h : zHp} {b n K : Nat} {d u : Nat → Nat → Int32} {x y : Int32} (hJ : zJo d u n K) (hv : qHas x n = true) (hv2 : qBt y 0 7 = false) : zX g mX7_agent [.ref b, .int x, .int y] (zpT g h b d) "java/lang/IllegalArgumentException" (zXJ g h b u) 1 6 := by
  have hR := hJ.1
  have hn := zR_n6 hR
  have hK := zR_K8 hR
  refine zX_ofA (lv := [some (.ref b), some (.int x), some (.int y)]) (by decide) rfl (Nat.le_of_ble_eq_true rfl) ?_
  refine z_aload_n (q := 1) dX7_agent_0 rfl rfl ?_
  refine z_get (q := 4) dX7_agent_1 zfX7_19 (by first | exact zT_0 | exact zT_o zWo_3 | exact zT_w zWo_3 rfl | exact zT_o zWo_18 | exact zT_X | exact zT_H | exact zT_S | exact zT_C | exact zT_G | exact zT_N (zNo_w zWo_3) | exact zT_n (zNo_w zWo_3) (by decide) | exact zpT_a (c := 284) rfl | exact zT_L) rfl rfl ?_
  refine z_iload_n (q := 5) dX7_agent_4 rfl rfl ?_
  refine z_v1 (q := 8) dX7_agent_5 zkX7_119 zt_mX6_hasAgent rfl (by first | exact zT_0 | exact zT_o zWo_3 | exact zT_w zWo_3 rfl | exact zT_o zWo_18 | exact zT_X | exact zT_H | exact zT_S | exact zT_C | exact zT_G | exact zT_N (zNo_w zWo_3) | exact zT_n (zNo_w zWo_3) (by decide) | exact zpT_a (c := 284) rfl | exact zT_L) rfl (Nat.le_of_ble_eq_true rfl) (ct_X6_hasAgent zWo_3 (zR_0 hR)) rfl ?_
  refine z_eqi ((congrArg zbi (hv)).trans zbi_t) ?_
  refine z_u1 (q := 11) dX7_agent_8 zkX7_123 zt_mX7_requireIndex rfl (Nat.le_of_ble_eq_true rfl) (ct_X7_requireIndex) rfl ?_
  refine z_iload_n (q := 12) dX7_agent_11 rfl rfl ?_
  refine z_iconst (q := 13) dX7_agent_12 zci_0 rfl ?_
  refine z_bipush (q := 15) dX7_agent_13 zcb_7 rfl ?_
  exact z_cSX (av := [.int y, .int (nI 0), .int (nI 7)]) dX7_agent_15 zkX7_64 zw362 zt_mX7_requireBetween rfl rfl (Nat.le_of_ble_eq_true rfl) (cx_X7_requireBetween hv2) (by decide) (by decide) (fun _ hh => ⟨d, ⟨n, K, hJ⟩, hh⟩)
set_option maxRecDepth 100000 in
set_option maxHeartbeats 4000000 in
theorem ct_X7_agent0 {g : zGl} {h : zHp} {b n K a w : Nat} {d u : Nat → Nat → Int32} (hJ : zJo d u n K) (ha : a < n) (hw : w ≤ 7) : zC g mX7_agent [.ref b, .int (nI a), .int (nI w)] (zpT g h b d) (zRJ g h b u (qAgent (u 3) n K a w)) 0 0 := by
  have hR := hJ.1
  have hn := zR_n6 hR
  have hK := zR_K8 hR
  refine zC_ofA (lv := [some (.ref b), some (.int (nI a)), some (.int (nI w))]) (by decide) rfl (Nat.le_of_ble_eq_true rfl) ?_
  rcases (show w = 0 ∨ w = 1 ∨ w = 2 ∨ w = 3 ∨ w = 4 ∨ w = 5 ∨ w = 6 ∨ w = 7 by omega) with rfl | rfl | rfl | rfl | rfl | rfl | rfl | rfl
  · skip
    refine z_aload_n (q := 1) dX7_agent_0 rfl rfl ?_
    refine z_get (q := 4) dX7_agent_1 zfX7_19 (by first | exact zT_0 | exact zT_o zWo_3 | exact zT_w zWo_3 rfl | exact zT_o zWo_18 | exact zT_X | exact zT_H | exact zT_S | exact zT_C | exact zT_G | exact zT_N (zNo_w zWo_3) | exact zT_n (zNo_w zWo_3) (by decide) | exact zpT_a (c := 284) rfl | exact zT_L) rfl rfl ?_
    refine z_iload_n (q := 5) dX7_agent_4 rfl rfl ?_
    refine z_v1 (q := 8) dX7_agent_5 zkX7_119 zt_mX6_hasAgent rfl (by first | exact zT_0 | exact zT_o zWo_3 | exact zT_w zWo_3 rfl | exact zT_o zWo_18 | exact zT_X | exact zT_H | exact zT_S | exact zT_C | exact zT_G | exact zT_N (zNo_w zWo_3) | exact zT_n (zNo_w zWo_3) (by decide) | exact zpT_a (c := 284) rfl | exact zT_L) rfl (Nat.le_of_ble_eq_true rfl) (ct_X6_hasAgent zWo_3 (zR_0 hR)) rfl ?_
    refine z_eqi ((congrArg zbi ((qHas_i ha (by omega)))).trans zbi_t) ?_
    refine z_u1 (q := 11) dX7_agent_8 zkX7_123 zt_mX7_requireIndex rfl (Nat.le_of_ble_eq_true rfl) (ct_X7_requireIndex) rfl ?_
    refine z_iload_n (q := 12) dX7_agent_11 rfl rfl ?_
    refine z_iconst (q := 13) dX7_agent_12 zci_0 rfl ?_
    refine z_bipush (q := 15) dX7_agent_13 zcb_7 rfl ?_
    refine z_u3 (q := 18) dX7_agent_15 zkX7_64 zt_mX7_requireBetween rfl (Nat.le_of_ble_eq_true rfl) (ct_X7_requireBetween (qBt_i (by decide) (by decide) (by decide))) rfl ?_
    refine z_iload_n (q := 19) dX7_agent_18 rfl rfl ?_
    refine z_tableIn (q := 0) (tg := 60) dX7_agent_19 (by decide) (by decide) rfl rfl ?_
    refine z_aload_n (q := 61) dX7_agent_60 rfl rfl ?_
    refine z_get (q := 64) dX7_agent_61 zfX7_19 (by first | exact zT_0 | exact zT_o zWo_3 | exact zT_w zWo_3 rfl | exact zT_o zWo_18 | exact zT_X | exact zT_H | exact zT_S | exact zT_C | exact zT_G | exact zT_N (zNo_w zWo_3) | exact zT_n (zNo_w zWo_3) (by decide) | exact zpT_a (c := 284) rfl | exact zT_L) rfl rfl ?_
    refine z_get (q := 67) dX7_agent_64 zfX7_126 (by first | exact zT_0 | exact zT_o zWo_3 | exact zT_w zWo_3 rfl | exact zT_o zWo_18 | exact zT_X | exact zT_H | exact zT_S | exact zT_C | exact zT_G | exact zT_N (zNo_w zWo_3) | exact zT_n (zNo_w zWo_3) (by decide) | exact zpT_a (c := 284) rfl | exact zT_L) rfl rfl ?_
    refine z_iload_n (q := 68) dX7_agent_67 rfl rfl ?_
    refine z_iald (q := 69) dX7_agent_68 (by first | exact zT_0 | exact zT_o zWo_3 | exact zT_w zWo_3 rfl | exact zT_o zWo_18 | exact zT_X | exact zT_H | exact zT_S | exact zT_C | exact zT_G | exact zT_N (zNo_w zWo_3) | exact zT_n (zNo_w zWo_3) (by decide) | exact zpT_a (c := 284) rfl | exact zT_L) (by omega) (by omega) rfl ?_
    refine z_eqi (zR_a hR ha).1 ?_
    exact z_reti dX7_agent_69 rfl (zRJ_v hJ rfl)
  · skip
    refine z_aload_n (q := 1) dX7_agent_0 rfl rfl ?_
    refine z_get (q := 4) dX7_agent_1 zfX7_19 (by first | exact zT_0 | exact zT_o zWo_3 | exact zT_w zWo_3 rfl | exact zT_o zWo_18 | exact zT_X | exact zT_H | exact zT_S | exact zT_C | exact zT_G | exact zT_N (zNo_w zWo_3) | exact zT_n (zNo_w zWo_3) (by decide) | exact zpT_a (c := 284) rfl | exact zT_L) rfl rfl ?_
    refine z_iload_n (q := 5) dX7_agent_4 rfl rfl ?_
    refine z_v1 (q := 8) dX7_agent_5 zkX7_119 zt_mX6_hasAgent rfl (by first | exact zT_0 | exact zT_o zWo_3 | exact zT_w zWo_3 rfl | exact zT_o zWo_18 | exact zT_X | exact zT_H | exact zT_S | exact zT_C | exact zT_G | exact zT_N (zNo_w zWo_3) | exact zT_n (zNo_w zWo_3) (by decide) | exact zpT_a (c := 284) rfl | exact zT_L) rfl (Nat.le_of_ble_eq_true rfl) (ct_X6_hasAgent zWo_3 (zR_0 hR)) rfl ?_
    refine z_eqi ((congrArg zbi ((qHas_i ha (by omega)))).trans zbi_t) ?_
    refine z_u1 (q := 11) dX7_agent_8 zkX7_123 zt_mX7_requireIndex rfl (Nat.le_of_ble_eq_true rfl) (ct_X7_requireIndex) rfl ?_
    refine z_iload_n (q := 12) dX7_agent_11 rfl rfl ?_
    refine z_iconst (q := 13) dX7_agent_12 zci_0 rfl ?_
    refine z_bipush (q := 15) dX7_agent_13 zcb_7 rfl ?_
    refine z_u3 (q := 18) dX7_agent_15 zkX7_64 zt_mX7_requireBetween rfl (Nat.le_of_ble_eq_true rfl) (ct_X7_requireBetween (qBt_i (by decide) (by decide) (by decide))) rfl ?_
    refine z_iload_n (q := 19) dX7_agent_18 rfl rfl ?_
    refine z_tableIn (q := 0) (tg := 70) dX7_agent_19 (by decide) (by decide) rfl rfl ?_
    refine z_aload_n (q := 71) dX7_agent_70 rfl rfl ?_
    refine z_get (q := 74) dX7_agent_71 zfX7_19 (by first | exact zT_0 | exact zT_o zWo_3 | exact zT_w zWo_3 rfl | exact zT_o zWo_18 | exact zT_X | exact zT_H | exact zT_S | exact zT_C | exact zT_G | exact zT_N (zNo_w zWo_3) | exact zT_n (zNo_w zWo_3) (by decide) | exact zpT_a (c := 284) rfl | exact zT_L) rfl rfl ?_
    refine z_get (q := 77) dX7_agent_74 zfX7_130 (by first | exact zT_0 | exact zT_o zWo_3 | exact zT_w zWo_3 rfl | exact zT_o zWo_18 | exact zT_X | exact zT_H | exact zT_S | exact zT_C | exact zT_G | exact zT_N (zNo_w zWo_3) | exact zT_n (zNo_w zWo_3) (by decide) | exact zpT_a (c := 284) rfl | exact zT_L) rfl rfl ?_
    refine z_iload_n (q := 78) dX7_agent_77 rfl rfl ?_
    refine z_iald (q := 79) dX7_agent_78 (by first | exact zT_0 | exact zT_o zWo_3 | exact zT_w zWo_3 rfl | exact zT_o zWo_18 | exact zT_X | exact zT_H | exact zT_S | exact zT_C | exact zT_G | exact zT_N (zNo_w zWo_3) | exact zT_n (zNo_w zWo_3) (by decide) | exact zpT_a (c := 284) rfl | exact zT_L) (by omega) (by omega) rfl ?_
    refine z_eqi (zR_a hR ha).2.1 ?_
    exact z_reti dX7_agent_79 rfl (zRJ_v hJ rfl)
  · skip
    refine z_aload_n (q := 1) dX7_agent_0 rfl rfl ?_
    refine z_get (q := 4) dX7_agent_1 zfX7_19 (by first | exact zT_0 | exact zT_o zWo_3 | exact zT_w zWo_3 rfl | exact zT_o zWo_18 | exact zT_X | exact zT_H | exact zT_S | exact zT_C | exact zT_G | exact zT_N (zNo_w zWo_3) | exact zT_n (zNo_w zWo_3) (by decide) | exact zpT_a (c := 284) rfl | exact zT_L) rfl rfl ?_
    refine z_iload_n (q := 5) dX7_agent_4 rfl rfl ?_
    refine z_v1 (q := 8) dX7_agent_5 zkX7_119 zt_mX6_hasAgent rfl (by first | exact zT_0 | exact zT_o zWo_3 | exact zT_w zWo_3 rfl | exact zT_o zWo_18 | exact zT_X | exact zT_H | exact zT_S | exact zT_C | exact zT_G | exact zT_N (zNo_w zWo_3) | exact zT_n (zNo_w zWo_3) (by decide) | exact zpT_a (c := 284) rfl | exact zT_L) rfl (Nat.le_of_ble_eq_true rfl) (ct_X6_hasAgent zWo_3 (zR_0 hR)) rfl ?_
    refine z_eqi ((congrArg zbi ((qHas_i ha (by omega)))).trans zbi_t) ?_
    refine z_u1 (q := 11) dX7_agent_8 zkX7_123 zt_mX7_requireIndex rfl (Nat.le_of_ble_eq_true rfl) (ct_X7_requireIndex) rfl ?_
    refine z_iload_n (q := 12) dX7_agent_11 rfl rfl ?_
    refine z_iconst (q := 13) dX7_agent_12 zci_0 rfl ?_
    refine z_bipush (q := 15) dX7_agent_13 zcb_7 rfl ?_
    refine z_u3 (q := 18) dX7_agent_15 zkX7_64 zt_mX7_requireBetween rfl (Nat.le_of_ble_eq_true rfl) (ct_X7_requireBetween (qBt_i (by decide) (by decide) (by decide))) rfl ?_
    refine z_iload_n (q := 19) dX7_agent_18 rfl rfl ?_
    refine z_tableIn (q := 0) (tg := 80) dX7_agent_19 (by decide) (by decide) rfl rfl ?_
    refine z_aload_n (q := 81) dX7_agent_80 rfl rfl ?_
    refine z_get (q := 84) dX7_agent_81 zfX7_19 (by first | exact zT_0 | exact zT_o zWo_3 | exact zT_w zWo_3 rfl | exact zT_o zWo_18 | exact zT_X | exact zT_H | exact zT_S | exact zT_C | exact zT_G | exact zT_N (zNo_w zWo_3) | exact zT_n (zNo_w zWo_3) (by decide) | exact zpT_a (c := 284) rfl | exact zT_L) rfl rfl ?_
    refine z_get (q := 87) dX7_agent_84 zfX7_133 (by first | exact zT_0 | exact zT_o zWo_3 | exact zT_w zWo_3 rfl | exact zT_o zWo_18 | exact zT_X | exact zT_H | exact zT_S | exact zT_C | exact zT_G | exact zT_N (zNo_w zWo_3) | exact zT_n (zNo_w zWo_3) (by decide) | exact zpT_a (c := 284) rfl | exact zT_L) rfl rfl ?_
    refine z_iload_n (q := 88) dX7_agent_87 rfl rfl ?_
    refine z_iald (q := 89) dX7_agent_88 (by first | exact zT_0 | exact zT_o zWo_3 | exact zT_w zWo_3 rfl | exact zT_o zWo_18 | exact zT_X | exact zT_H | exact zT_S | exact zT_C | exact zT_G | exact zT_N (zNo_w zWo_3) | exact zT_n (zNo_w zWo_3) (by decide) | exact zpT_a (c := 284) rfl | exact zT_L) (by omega) (by omega) rfl ?_
    refine z_eqi (zR_a hR ha).2.2.1 ?_
    exact z_reti dX7_agent_89 rfl (zRJ_v hJ rfl)
  · skip
    refine z_aload_n (q := 1) dX7_agent_0 rfl rfl ?_
    refine z_get (q := 4) dX7_agent_1 zfX7_19 (by first | exact zT_0 | exact zT_o zWo_3 | exact zT_w zWo_3 rfl | exact zT_o zWo_18 | exact zT_X | exact zT_H | exact zT_S | exact zT_C | exact zT_G | exact zT_N (zNo_w zWo_3) | exact zT_n (zNo_w zWo_3) (by decide) | exact zpT_a (c := 284) rfl | exact zT_L) rfl rfl ?_
    refine z_iload_n (q := 5) dX7_agent_4 rfl rfl ?_
    refine z_v1 (q := 8) dX7_agent_5 zkX7_119 zt_mX6_hasAgent rfl (by first | exact zT_0 | exact zT_o zWo_3 | exact zT_w zWo_3 rfl | exact zT_o zWo_18 | exact zT_X | exact zT_H | exact zT_S | exact zT_C | exact zT_G | exact zT_N (zNo_w zWo_3) | exact zT_n (zNo_w zWo_3) (by decide) | exact zpT_a (c := 284) rfl | exact zT_L) rfl (Nat.le_of_ble_eq_true rfl) (ct_X6_hasAgent zWo_3 (zR_0 hR)) rfl ?_
    refine z_eqi ((congrArg zbi ((qHas_i ha (by omega)))).trans zbi_t) ?_
    refine z_u1 (q := 11) dX7_agent_8 zkX7_123 zt_mX7_requireIndex rfl (Nat.le_of_ble_eq_true rfl) (ct_X7_requireIndex) rfl ?_
    refine z_iload_n (q := 12) dX7_agent_11 rfl rfl ?_
    refine z_iconst (q := 13) dX7_agent_12 zci_0 rfl ?_
    refine z_bipush (q := 15) dX7_agent_13 zcb_7 rfl ?_
    refine z_u3 (q := 18) dX7_agent_15 zkX7_64 zt_mX7_requireBetween rfl (Nat.le_of_ble_eq_true rfl) (ct_X7_requireBetween (qBt_i (by decide) (by decide) (by decide))) rfl ?_
    refine z_iload_n (q := 19) dX7_agent_18 rfl rfl ?_
    refine z_tableIn (q := 0) (tg := 90) dX7_agent_19 (by decide) (by decide) rfl rfl ?_
    refine z_aload_n (q := 91) dX7_agent_90 rfl rfl ?_
    refine z_get (q := 94) dX7_agent_91 zfX7_19 (by first | exact zT_0 | exact zT_o zWo_3 | exact zT_w zWo_3 rfl | exact zT_o zWo_18 | exact zT_X | exact zT_H | exact zT_S | exact zT_C | exact zT_G | exact zT_N (zNo_w zWo_3) | exact zT_n (zNo_w zWo_3) (by decide) | exact zpT_a (c := 284) rfl | exact zT_L) rfl rfl ?_
    refine z_iload_n (q := 95) dX7_agent_94 rfl rfl ?_
    refine z_v1 (q := 98) dX7_agent_95 zkX7_136 zt_mX6_isOn rfl (by first | exact zT_0 | exact zT_o zWo_3 | exact zT_w zWo_3 rfl | exact zT_o zWo_18 | exact zT_X | exact zT_H | exact zT_S | exact zT_C | exact zT_G | exact zT_N (zNo_w zWo_3) | exact zT_n (zNo_w zWo_3) (by decide) | exact zpT_a (c := 284) rfl | exact zT_L) rfl (Nat.le_of_ble_eq_true rfl) (ct_X6_isOn zWo_3 hR ha) rfl ?_
    refine z_ifb_eq (tg := 105) (q := 101) dX7_agent_98 rfl rfl ?_ ?_
    · intro hc98
      refine z_iconst (q := 106) dX7_agent_105 zci_0 rfl ?_
      exact z_reti dX7_agent_106 rfl (zRJ_v hJ (by show _ = u 3 (4 + 6 * a + 3); rw [on_v hR.1 ha, hc98]; rfl))
    · intro hc98
      refine z_iconst (q := 102) dX7_agent_101 zci_1 rfl ?_
      refine z_goto (q := 0) (tg := 106) dX7_agent_102 rfl ?_
      exact z_reti dX7_agent_106 rfl (zRJ_v hJ (by show _ = u 3 (4 + 6 * a + 3); rw [on_v hR.1 ha, hc98]; rfl))
  · skip
    refine z_aload_n (q := 1) dX7_agent_0 rfl rfl ?_
    refine z_get (q := 4) dX7_agent_1 zfX7_19 (by first | exact zT_0 | exact zT_o zWo_3 | exact zT_w zWo_3 rfl | exact zT_o zWo_18 | exact zT_X | exact zT_H | exact zT_S | exact zT_C | exact zT_G | exact zT_N (zNo_w zWo_3) | exact zT_n (zNo_w zWo_3) (by decide) | exact zpT_a (c := 284) rfl | exact zT_L) rfl rfl ?_
    refine z_iload_n (q := 5) dX7_agent_4 rfl rfl ?_
    refine z_v1 (q := 8) dX7_agent_5 zkX7_119 zt_mX6_hasAgent rfl (by first | exact zT_0 | exact zT_o zWo_3 | exact zT_w zWo_3 rfl | exact zT_o zWo_18 | exact zT_X | exact zT_H | exact zT_S | exact zT_C | exact zT_G | exact zT_N (zNo_w zWo_3) | exact zT_n (zNo_w zWo_3) (by decide) | exact zpT_a (c := 284) rfl | exact zT_L) rfl (Nat.le_of_ble_eq_true rfl) (ct_X6_hasAgent zWo_3 (zR_0 hR)) rfl ?_
    refine z_eqi ((congrArg zbi ((qHas_i ha (by omega)))).trans zbi_t) ?_
    refine z_u1 (q := 11) dX7_agent_8 zkX7_123 zt_mX7_requireIndex rfl (Nat.le_of_ble_eq_true rfl) (ct_X7_requireIndex) rfl ?_
    refine z_iload_n (q := 12) dX7_agent_11 rfl rfl ?_
    refine z_iconst (q := 13) dX7_agent_12 zci_0 rfl ?_
    refine z_bipush (q := 15) dX7_agent_13 zcb_7 rfl ?_
    refine z_u3 (q := 18) dX7_agent_15 zkX7_64 zt_mX7_requireBetween rfl (Nat.le_of_ble_eq_true rfl) (ct_X7_requireBetween (qBt_i (by decide) (by decide) (by decide))) rfl ?_
    refine z_iload_n (q := 19) dX7_agent_18 rfl rfl ?_
    refine z_tableIn (q := 0) (tg := 107) dX7_agent_19 (by decide) (by decide) rfl rfl ?_
    refine z_aload_n (q := 108) dX7_agent_107 rfl rfl ?_
    refine z_get (q := 111) dX7_agent_108 zfX7_19 (by first | exact zT_0 | exact zT_o zWo_3 | exact zT_w zWo_3 rfl | exact zT_o zWo_18 | exact zT_X | exact zT_H | exact zT_S | exact zT_C | exact zT_G | exact zT_N (zNo_w zWo_3) | exact zT_n (zNo_w zWo_3) (by decide) | exact zpT_a (c := 284) rfl | exact zT_L) rfl rfl ?_
    refine z_iload_n (q := 112) dX7_agent_111 rfl rfl ?_
    refine z_v1 (q := 115) dX7_agent_112 zkX7_139 zt_mX6_ownTask rfl (by first | exact zT_0 | exact zT_o zWo_3 | exact zT_w zWo_3 rfl | exact zT_o zWo_18 | exact zT_X | exact zT_H | exact zT_S | exact zT_C | exact zT_G | exact zT_N (zNo_w zWo_3) | exact zT_n (zNo_w zWo_3) (by decide) | exact zpT_a (c := 284) rfl | exact zT_L) rfl (Nat.le_of_ble_eq_true rfl) (ct_X6_ownTask zWo_3 hR ha) rfl ?_
    exact z_reti dX7_agent_115 rfl (zRJ_v hJ rfl)
  · skip
    refine z_aload_n (q := 1) dX7_agent_0 rfl rfl ?_
    refine z_get (q := 4) dX7_agent_1 zfX7_19 (by first | exact zT_0 | exact zT_o zWo_3 | exact zT_w zWo_3 rfl | exact zT_o zWo_18 | exact zT_X | exact zT_H | exact zT_S | exact zT_C | exact zT_G | exact zT_N (zNo_w zWo_3) | exact zT_n (zNo_w zWo_3) (by decide) | exact zpT_a (c := 284) rfl | exact zT_L) rfl rfl ?_
    refine z_iload_n (q := 5) dX7_agent_4 rfl rfl ?_
    refine z_v1 (q := 8) dX7_agent_5 zkX7_119 zt_mX6_hasAgent rfl (by first | exact zT_0 | exact zT_o zWo_3 | exact zT_w zWo_3 rfl | exact zT_o zWo_18 | exact zT_X | exact zT_H | exact zT_S | exact zT_C | exact zT_G | exact zT_N (zNo_w zWo_3) | exact zT_n (zNo_w zWo_3) (by decide) | exact zpT_a (c := 284) rfl | exact zT_L) rfl (Nat.le_of_ble_eq_true rfl) (ct_X6_hasAgent zWo_3 (zR_0 hR)) rfl ?_
    refine z_eqi ((congrArg zbi ((qHas_i ha (by omega)))).trans zbi_t) ?_
    refine z_u1 (q := 11) dX7_agent_8 zkX7_123 zt_mX7_requireIndex rfl (Nat.le_of_ble_eq_true rfl) (ct_X7_requireIndex) rfl ?_
    refine z_iload_n (q := 12) dX7_agent_11 rfl rfl ?_
    refine z_iconst (q := 13) dX7_agent_12 zci_0 rfl ?_
    refine z_bipush (q := 15) dX7_agent_13 zcb_7 rfl ?_
    refine z_u3 (q := 18) dX7_agent_15 zkX7_64 zt_mX7_requireBetween rfl (Nat.le_of_ble_eq_true rfl) (ct_X7_requireBetween (qBt_i (by decide) (by decide) (by decide))) rfl ?_
    refine z_iload_n (q := 19) dX7_agent_18 rfl rfl ?_
    refine z_tableIn (q := 0) (tg := 116) dX7_agent_19 (by decide) (by decide) rfl rfl ?_
    refine z_aload_n (q := 117) dX7_agent_116 rfl rfl ?_
    refine z_get (q := 120) dX7_agent_117 zfX7_19 (by first | exact zT_0 | exact zT_o zWo_3 | exact zT_w zWo_3 rfl | exact zT_o zWo_18 | exact zT_X | exact zT_H | exact zT_S | exact zT_C | exact zT_G | exact zT_N (zNo_w zWo_3) | exact zT_n (zNo_w zWo_3) (by decide) | exact zpT_a (c := 284) rfl | exact zT_L) rfl rfl ?_
    refine z_get (q := 123) dX7_agent_120 zfX7_143 (by first | exact zT_0 | exact zT_o zWo_3 | exact zT_w zWo_3 rfl | exact zT_o zWo_18 | exact zT_X | exact zT_H | exact zT_S | exact zT_C | exact zT_G | exact zT_N (zNo_w zWo_3) | exact zT_n (zNo_w zWo_3) (by decide) | exact zpT_a (c := 284) rfl | exact zT_L) rfl rfl ?_
    refine z_iload_n (q := 124) dX7_agent_123 rfl rfl ?_
    refine z_iald (q := 125) dX7_agent_124 (by first | exact zT_0 | exact zT_o zWo_3 | exact zT_w zWo_3 rfl | exact zT_o zWo_18 | exact zT_X | exact zT_H | exact zT_S | exact zT_C | exact zT_G | exact zT_N (zNo_w zWo_3) | exact zT_n (zNo_w zWo_3) (by decide) | exact zpT_a (c := 284) rfl | exact zT_L) (by omega) (by omega) rfl ?_
    refine z_eqi (zR_a hR ha).2.2.2.1 ?_
    exact z_reti dX7_agent_125 rfl (zRJ_v hJ rfl)
  · skip
    refine z_aload_n (q := 1) dX7_agent_0 rfl rfl ?_
    refine z_get (q := 4) dX7_agent_1 zfX7_19 (by first | exact zT_0 | exact zT_o zWo_3 | exact zT_w zWo_3 rfl | exact zT_o zWo_18 | exact zT_X | exact zT_H | exact zT_S | exact zT_C | exact zT_G | exact zT_N (zNo_w zWo_3) | exact zT_n (zNo_w zWo_3) (by decide) | exact zpT_a (c := 284) rfl | exact zT_L) rfl rfl ?_
    refine z_iload_n (q := 5) dX7_agent_4 rfl rfl ?_
    refine z_v1 (q := 8) dX7_agent_5 zkX7_119 zt_mX6_hasAgent rfl (by first | exact zT_0 | exact zT_o zWo_3 | exact zT_w zWo_3 rfl | exact zT_o zWo_18 | exact zT_X | exact zT_H | exact zT_S | exact zT_C | exact zT_G | exact zT_N (zNo_w zWo_3) | exact zT_n (zNo_w zWo_3) (by decide) | exact zpT_a (c := 284) rfl | exact zT_L) rfl (Nat.le_of_ble_eq_true rfl) (ct_X6_hasAgent zWo_3 (zR_0 hR)) rfl ?_
    refine z_eqi ((congrArg zbi ((qHas_i ha (by omega)))).trans zbi_t) ?_
    refine z_u1 (q := 11) dX7_agent_8 zkX7_123 zt_mX7_requireIndex rfl (Nat.le_of_ble_eq_true rfl) (ct_X7_requireIndex) rfl ?_
    refine z_iload_n (q := 12) dX7_agent_11 rfl rfl ?_
    refine z_iconst (q := 13) dX7_agent_12 zci_0 rfl ?_
    refine z_bipush (q := 15) dX7_agent_13 zcb_7 rfl ?_
    refine z_u3 (q := 18) dX7_agent_15 zkX7_64 zt_mX7_requireBetween rfl (Nat.le_of_ble_eq_true rfl) (ct_X7_requireBetween (qBt_i (by decide) (by decide) (by decide))) rfl ?_
    refine z_iload_n (q := 19) dX7_agent_18 rfl rfl ?_
    refine z_tableIn (q := 0) (tg := 126) dX7_agent_19 (by decide) (by decide) rfl rfl ?_
    refine z_aload_n (q := 127) dX7_agent_126 rfl rfl ?_
    refine z_get (q := 130) dX7_agent_127 zfX7_19 (by first | exact zT_0 | exact zT_o zWo_3 | exact zT_w zWo_3 rfl | exact zT_o zWo_18 | exact zT_X | exact zT_H | exact zT_S | exact zT_C | exact zT_G | exact zT_N (zNo_w zWo_3) | exact zT_n (zNo_w zWo_3) (by decide) | exact zpT_a (c := 284) rfl | exact zT_L) rfl rfl ?_
    refine z_get (q := 133) dX7_agent_130 zfX7_146 (by first | exact zT_0 | exact zT_o zWo_3 | exact zT_w zWo_3 rfl | exact zT_o zWo_18 | exact zT_X | exact zT_H | exact zT_S | exact zT_C | exact zT_G | exact zT_N (zNo_w zWo_3) | exact zT_n (zNo_w zWo_3) (by decide) | exact zpT_a (c := 284) rfl | exact zT_L) rfl rfl ?_
    refine z_iload_n (q := 134) dX7_agent_133 rfl rfl ?_
    refine z_iald (q := 135) dX7_agent_134 (by first | exact zT_0 | exact zT_o zWo_3 | exact zT_w zWo_3 rfl | exact zT_o zWo_18 | exact zT_X | exact zT_H | exact zT_S | exact zT_C | exact zT_G | exact zT_N (zNo_w zWo_3) | exact zT_n (zNo_w zWo_3) (by decide) | exact zpT_a (c := 284) rfl | exact zT_L) (by omega) (by omega) rfl ?_
    refine z_eqi (zR_a hR ha).2.2.2.2 ?_
    exact z_reti dX7_agent_135 rfl (zRJ_v hJ rfl)
  · skip
    refine z_aload_n (q := 1) dX7_agent_0 rfl rfl ?_
    refine z_get (q := 4) dX7_agent_1 zfX7_19 (by first | exact zT_0 | exact zT_o zWo_3 | exact zT_w zWo_3 rfl | exact zT_o zWo_18 | exact zT_X | exact zT_H | exact zT_S | exact zT_C | exact zT_G | exact zT_N (zNo_w zWo_3) | exact zT_n (zNo_w zWo_3) (by decide) | exact zpT_a (c := 284) rfl | exact zT_L) rfl rfl ?_
    refine z_iload_n (q := 5) dX7_agent_4 rfl rfl ?_
    refine z_v1 (q := 8) dX7_agent_5 zkX7_119 zt_mX6_hasAgent rfl (by first | exact zT_0 | exact zT_o zWo_3 | exact zT_w zWo_3 rfl | exact zT_o zWo_18 | exact zT_X | exact zT_H | exact zT_S | exact zT_C | exact zT_G | exact zT_N (zNo_w zWo_3) | exact zT_n (zNo_w zWo_3) (by decide) | exact zpT_a (c := 284) rfl | exact zT_L) rfl (Nat.le_of_ble_eq_true rfl) (ct_X6_hasAgent zWo_3 (zR_0 hR)) rfl ?_
    refine z_eqi ((congrArg zbi ((qHas_i ha (by omega)))).trans zbi_t) ?_
    refine z_u1 (q := 11) dX7_agent_8 zkX7_123 zt_mX7_requireIndex rfl (Nat.le_of_ble_eq_true rfl) (ct_X7_requireIndex) rfl ?_
    refine z_iload_n (q := 12) dX7_agent_11 rfl rfl ?_
    refine z_iconst (q := 13) dX7_agent_12 zci_0 rfl ?_
    refine z_bipush (q := 15) dX7_agent_13 zcb_7 rfl ?_
    refine z_u3 (q := 18) dX7_agent_15 zkX7_64 zt_mX7_requireBetween rfl (Nat.le_of_ble_eq_true rfl) (ct_X7_requireBetween (qBt_i (by decide) (by decide) (by decide))) rfl ?_
    refine z_iload_n (q := 19) dX7_agent_18 rfl rfl ?_
    refine z_tableOut (q := 0) (tg := 136) dX7_agent_19 (by decide) rfl ?_
    refine z_aload_n (q := 137) dX7_agent_136 rfl rfl ?_
    refine z_get (q := 140) dX7_agent_137 zfX7_19 (by first | exact zT_0 | exact zT_o zWo_3 | exact zT_w zWo_3 rfl | exact zT_o zWo_18 | exact zT_X | exact zT_H | exact zT_S | exact zT_C | exact zT_G | exact zT_N (zNo_w zWo_3) | exact zT_n (zNo_w zWo_3) (by decide) | exact zpT_a (c := 284) rfl | exact zT_L) rfl rfl ?_
    refine z_iload_n (q := 141) dX7_agent_140 rfl rfl ?_
    refine z_v1 (q := 144) dX7_agent_141 zkX7_149 zt_mX6_heardBy rfl (by first | exact zT_0 | exact zT_o zWo_3 | exact zT_w zWo_3 rfl | exact zT_o zWo_18 | exact zT_X | exact zT_H | exact zT_S | exact zT_C | exact zT_G | exact zT_N (zNo_w zWo_3) | exact zT_n (zNo_w zWo_3) (by decide) | exact zpT_a (c := 284) rfl | exact zT_L) rfl (Nat.le_of_ble_eq_true rfl) (ct_X6_heardBy zWo_3 hR ha) rfl ?_
    exact z_reti dX7_agent_144 rfl (zRJ_v hJ (mk_i (by omega)).symm)
set_option maxRecDepth 100000 in
set_option maxHeartbeats 4000000 in
theorem cx_X7_task1 {g : zGl} {h : zHp} {b n K : Nat} {d u : Nat → Nat → Int32} {x y : Int32} (hJ : zJo d u n K) (hv : qHas x K = false) : zX g mX7_task [.ref b, .int x, .int y] (zpT g h b d) "java/lang/IndexOutOfBoundsException" (zXJ g h b u) 1 6 := by
  have hR := hJ.1
  have hn := zR_n6 hR
  have hK := zR_K8 hR
  refine zX_ofA (lv := [some (.ref b), some (.int x), some (.int y)]) (by decide) rfl (Nat.le_of_ble_eq_true rfl) ?_
  refine z_aload_n (q := 1) dX7_task_0 rfl rfl ?_
  refine z_get (q := 4) dX7_task_1 zfX7_19 (by first | exact zT_0 | exact zT_o zWo_3 | exact zT_w zWo_3 rfl | exact zT_o zWo_18 | exact zT_X | exact zT_H | exact zT_S | exact zT_C | exact zT_G | exact zT_N (zNo_w zWo_3) | exact zT_n (zNo_w zWo_3) (by decide) | exact zpT_a (c := 284) rfl | exact zT_L) rfl rfl ?_
  refine z_iload_n (q := 5) dX7_task_4 rfl rfl ?_
  refine z_v1 (q := 8) dX7_task_5 zkX7_152 zt_mX6_hasTask rfl (by first | exact zT_0 | exact zT_o zWo_3 | exact zT_w zWo_3 rfl | exact zT_o zWo_18 | exact zT_X | exact zT_H | exact zT_S | exact zT_C | exact zT_G | exact zT_N (zNo_w zWo_3) | exact zT_n (zNo_w zWo_3) (by decide) | exact zpT_a (c := 284) rfl | exact zT_L) rfl (Nat.le_of_ble_eq_true rfl) (ct_X6_hasTask zWo_3 (zR_1 hR)) rfl ?_
  refine z_eqi ((congrArg zbi (hv)).trans zbi_f) ?_
  exact z_cSX (av := [.int (nI 0)]) dX7_task_8 zkX7_123 zw513 zt_mX7_requireIndex rfl rfl (Nat.le_of_ble_eq_true rfl) cx_X7_requireIndex (by decide) (by decide) (fun _ hh => ⟨d, ⟨n, K, hJ⟩, hh⟩)
set_option maxRecDepth 100000 in
set_option maxHeartbeats 4000000 in
theorem cx_X7_task2 {g : zGl} {h : zHp} {b n K : Nat} {d u : Nat → Nat → Int32} {x y : Int32} (hJ : zJo d u n K) (hv : qHas x K = true) (hv2 : qBt y 0 6 = false) : zX g mX7_task [.ref b, .int x, .int y] (zpT g h b d) "java/lang/IllegalArgumentException" (zXJ g h b u) 1 6 := by
  have hR := hJ.1
  have hn := zR_n6 hR
  have hK := zR_K8 hR
  refine zX_ofA (lv := [some (.ref b), some (.int x), some (.int y)]) (by decide) rfl (Nat.le_of_ble_eq_true rfl) ?_
  refine z_aload_n (q := 1) dX7_task_0 rfl rfl ?_
  refine z_get (q := 4) dX7_task_1 zfX7_19 (by first | exact zT_0 | exact zT_o zWo_3 | exact zT_w zWo_3 rfl | exact zT_o zWo_18 | exact zT_X | exact zT_H | exact zT_S | exact zT_C | exact zT_G | exact zT_N (zNo_w zWo_3) | exact zT_n (zNo_w zWo_3) (by decide) | exact zpT_a (c := 284) rfl | exact zT_L) rfl rfl ?_
  refine z_iload_n (q := 5) dX7_task_4 rfl rfl ?_
  refine z_v1 (q := 8) dX7_task_5 zkX7_152 zt_mX6_hasTask rfl (by first | exact zT_0 | exact zT_o zWo_3 | exact zT_w zWo_3 rfl | exact zT_o zWo_18 | exact zT_X | exact zT_H | exact zT_S | exact zT_C | exact zT_G | exact zT_N (zNo_w zWo_3) | exact zT_n (zNo_w zWo_3) (by decide) | exact zpT_a (c := 284) rfl | exact zT_L) rfl (Nat.le_of_ble_eq_true rfl) (ct_X6_hasTask zWo_3 (zR_1 hR)) rfl ?_
  refine z_eqi ((congrArg zbi (hv)).trans zbi_t) ?_
  refine z_u1 (q := 11) dX7_task_8 zkX7_123 zt_mX7_requireIndex rfl (Nat.le_of_ble_eq_true rfl) (ct_X7_requireIndex) rfl ?_
  refine z_iload_n (q := 12) dX7_task_11 rfl rfl ?_
  refine z_iconst (q := 13) dX7_task_12 zci_0 rfl ?_
  refine z_bipush (q := 15) dX7_task_13 zcb_6 rfl ?_
  exact z_cSX (av := [.int y, .int (nI 0), .int (nI 6)]) dX7_task_15 zkX7_64 zw362 zt_mX7_requireBetween rfl rfl (Nat.le_of_ble_eq_true rfl) (cx_X7_requireBetween hv2) (by decide) (by decide) (fun _ hh => ⟨d, ⟨n, K, hJ⟩, hh⟩)
set_option maxRecDepth 100000 in
set_option maxHeartbeats 4000000 in
theorem ct_X7_task0 {g : zGl} {h : zHp} {b n K t w : Nat} {d u : Nat → Nat → Int32} (hJ : zJo d u n K) (ht : t < K) (hw : w ≤ 6) : zC g mX7_task [.ref b, .int (nI t), .int (nI w)] (zpT g h b d) (zRJ g h b u (qTask (u 3) n t w)) 0 0 := by
  have hR := hJ.1
  have hn := zR_n6 hR
  have hK := zR_K8 hR
  refine zC_ofA (lv := [some (.ref b), some (.int (nI t)), some (.int (nI w))]) (by decide) rfl (Nat.le_of_ble_eq_true rfl) ?_
  rcases (show w = 0 ∨ w = 1 ∨ w = 2 ∨ w = 3 ∨ w = 4 ∨ w = 5 ∨ w = 6 by omega) with rfl | rfl | rfl | rfl | rfl | rfl | rfl
  · skip
    refine z_aload_n (q := 1) dX7_task_0 rfl rfl ?_
    refine z_get (q := 4) dX7_task_1 zfX7_19 (by first | exact zT_0 | exact zT_o zWo_3 | exact zT_w zWo_3 rfl | exact zT_o zWo_18 | exact zT_X | exact zT_H | exact zT_S | exact zT_C | exact zT_G | exact zT_N (zNo_w zWo_3) | exact zT_n (zNo_w zWo_3) (by decide) | exact zpT_a (c := 284) rfl | exact zT_L) rfl rfl ?_
    refine z_iload_n (q := 5) dX7_task_4 rfl rfl ?_
    refine z_v1 (q := 8) dX7_task_5 zkX7_152 zt_mX6_hasTask rfl (by first | exact zT_0 | exact zT_o zWo_3 | exact zT_w zWo_3 rfl | exact zT_o zWo_18 | exact zT_X | exact zT_H | exact zT_S | exact zT_C | exact zT_G | exact zT_N (zNo_w zWo_3) | exact zT_n (zNo_w zWo_3) (by decide) | exact zpT_a (c := 284) rfl | exact zT_L) rfl (Nat.le_of_ble_eq_true rfl) (ct_X6_hasTask zWo_3 (zR_1 hR)) rfl ?_
    refine z_eqi ((congrArg zbi ((qHas_i ht (by omega)))).trans zbi_t) ?_
    refine z_u1 (q := 11) dX7_task_8 zkX7_123 zt_mX7_requireIndex rfl (Nat.le_of_ble_eq_true rfl) (ct_X7_requireIndex) rfl ?_
    refine z_iload_n (q := 12) dX7_task_11 rfl rfl ?_
    refine z_iconst (q := 13) dX7_task_12 zci_0 rfl ?_
    refine z_bipush (q := 15) dX7_task_13 zcb_6 rfl ?_
    refine z_u3 (q := 18) dX7_task_15 zkX7_64 zt_mX7_requireBetween rfl (Nat.le_of_ble_eq_true rfl) (ct_X7_requireBetween (qBt_i (by decide) (by decide) (by decide))) rfl ?_
    refine z_iload_n (q := 19) dX7_task_18 rfl rfl ?_
    refine z_tableIn (q := 0) (tg := 56) dX7_task_19 (by decide) (by decide) rfl rfl ?_
    refine z_aload_n (q := 57) dX7_task_56 rfl rfl ?_
    refine z_get (q := 60) dX7_task_57 zfX7_19 (by first | exact zT_0 | exact zT_o zWo_3 | exact zT_w zWo_3 rfl | exact zT_o zWo_18 | exact zT_X | exact zT_H | exact zT_S | exact zT_C | exact zT_G | exact zT_N (zNo_w zWo_3) | exact zT_n (zNo_w zWo_3) (by decide) | exact zpT_a (c := 284) rfl | exact zT_L) rfl rfl ?_
    refine z_get (q := 63) dX7_task_60 zfX7_155 (by first | exact zT_0 | exact zT_o zWo_3 | exact zT_w zWo_3 rfl | exact zT_o zWo_18 | exact zT_X | exact zT_H | exact zT_S | exact zT_C | exact zT_G | exact zT_N (zNo_w zWo_3) | exact zT_n (zNo_w zWo_3) (by decide) | exact zpT_a (c := 284) rfl | exact zT_L) rfl rfl ?_
    refine z_iload_n (q := 64) dX7_task_63 rfl rfl ?_
    refine z_iald (q := 65) dX7_task_64 (by first | exact zT_0 | exact zT_o zWo_3 | exact zT_w zWo_3 rfl | exact zT_o zWo_18 | exact zT_X | exact zT_H | exact zT_S | exact zT_C | exact zT_G | exact zT_N (zNo_w zWo_3) | exact zT_n (zNo_w zWo_3) (by decide) | exact zpT_a (c := 284) rfl | exact zT_L) (by omega) (by omega) rfl ?_
    refine z_eqi (zR_t hR ht).1 ?_
    exact z_reti dX7_task_65 rfl (zRJ_v hJ rfl)
  · skip
    refine z_aload_n (q := 1) dX7_task_0 rfl rfl ?_
    refine z_get (q := 4) dX7_task_1 zfX7_19 (by first | exact zT_0 | exact zT_o zWo_3 | exact zT_w zWo_3 rfl | exact zT_o zWo_18 | exact zT_X | exact zT_H | exact zT_S | exact zT_C | exact zT_G | exact zT_N (zNo_w zWo_3) | exact zT_n (zNo_w zWo_3) (by decide) | exact zpT_a (c := 284) rfl | exact zT_L) rfl rfl ?_
    refine z_iload_n (q := 5) dX7_task_4 rfl rfl ?_
    refine z_v1 (q := 8) dX7_task_5 zkX7_152 zt_mX6_hasTask rfl (by first | exact zT_0 | exact zT_o zWo_3 | exact zT_w zWo_3 rfl | exact zT_o zWo_18 | exact zT_X | exact zT_H | exact zT_S | exact zT_C | exact zT_G | exact zT_N (zNo_w zWo_3) | exact zT_n (zNo_w zWo_3) (by decide) | exact zpT_a (c := 284) rfl | exact zT_L) rfl (Nat.le_of_ble_eq_true rfl) (ct_X6_hasTask zWo_3 (zR_1 hR)) rfl ?_
    refine z_eqi ((congrArg zbi ((qHas_i ht (by omega)))).trans zbi_t) ?_
    refine z_u1 (q := 11) dX7_task_8 zkX7_123 zt_mX7_requireIndex rfl (Nat.le_of_ble_eq_true rfl) (ct_X7_requireIndex) rfl ?_
    refine z_iload_n (q := 12) dX7_task_11 rfl rfl ?_
    refine z_iconst (q := 13) dX7_task_12 zci_0 rfl ?_
    refine z_bipush (q := 15) dX7_task_13 zcb_6 rfl ?_
    refine z_u3 (q := 18) dX7_task_15 zkX7_64 zt_mX7_requireBetween rfl (Nat.le_of_ble_eq_true rfl) (ct_X7_requireBetween (qBt_i (by decide) (by decide) (by decide))) rfl ?_
    refine z_iload_n (q := 19) dX7_task_18 rfl rfl ?_
    refine z_tableIn (q := 0) (tg := 66) dX7_task_19 (by decide) (by decide) rfl rfl ?_
    refine z_aload_n (q := 67) dX7_task_66 rfl rfl ?_
    refine z_get (q := 70) dX7_task_67 zfX7_19 (by first | exact zT_0 | exact zT_o zWo_3 | exact zT_w zWo_3 rfl | exact zT_o zWo_18 | exact zT_X | exact zT_H | exact zT_S | exact zT_C | exact zT_G | exact zT_N (zNo_w zWo_3) | exact zT_n (zNo_w zWo_3) (by decide) | exact zpT_a (c := 284) rfl | exact zT_L) rfl rfl ?_
    refine z_get (q := 73) dX7_task_70 zfX7_158 (by first | exact zT_0 | exact zT_o zWo_3 | exact zT_w zWo_3 rfl | exact zT_o zWo_18 | exact zT_X | exact zT_H | exact zT_S | exact zT_C | exact zT_G | exact zT_N (zNo_w zWo_3) | exact zT_n (zNo_w zWo_3) (by decide) | exact zpT_a (c := 284) rfl | exact zT_L) rfl rfl ?_
    refine z_iload_n (q := 74) dX7_task_73 rfl rfl ?_
    refine z_iald (q := 75) dX7_task_74 (by first | exact zT_0 | exact zT_o zWo_3 | exact zT_w zWo_3 rfl | exact zT_o zWo_18 | exact zT_X | exact zT_H | exact zT_S | exact zT_C | exact zT_G | exact zT_N (zNo_w zWo_3) | exact zT_n (zNo_w zWo_3) (by decide) | exact zpT_a (c := 284) rfl | exact zT_L) (by omega) (by omega) rfl ?_
    refine z_eqi (zR_t hR ht).2.1 ?_
    exact z_reti dX7_task_75 rfl (zRJ_v hJ rfl)
  · skip
    refine z_aload_n (q := 1) dX7_task_0 rfl rfl ?_
    refine z_get (q := 4) dX7_task_1 zfX7_19 (by first | exact zT_0 | exact zT_o zWo_3 | exact zT_w zWo_3 rfl | exact zT_o zWo_18 | exact zT_X | exact zT_H | exact zT_S | exact zT_C | exact zT_G | exact zT_N (zNo_w zWo_3) | exact zT_n (zNo_w zWo_3) (by decide) | exact zpT_a (c := 284) rfl | exact zT_L) rfl rfl ?_
    refine z_iload_n (q := 5) dX7_task_4 rfl rfl ?_
    refine z_v1 (q := 8) dX7_task_5 zkX7_152 zt_mX6_hasTask rfl (by first | exact zT_0 | exact zT_o zWo_3 | exact zT_w zWo_3 rfl | exact zT_o zWo_18 | exact zT_X | exact zT_H | exact zT_S | exact zT_C | exact zT_G | exact zT_N (zNo_w zWo_3) | exact zT_n (zNo_w zWo_3) (by decide) | exact zpT_a (c := 284) rfl | exact zT_L) rfl (Nat.le_of_ble_eq_true rfl) (ct_X6_hasTask zWo_3 (zR_1 hR)) rfl ?_
    refine z_eqi ((congrArg zbi ((qHas_i ht (by omega)))).trans zbi_t) ?_
    refine z_u1 (q := 11) dX7_task_8 zkX7_123 zt_mX7_requireIndex rfl (Nat.le_of_ble_eq_true rfl) (ct_X7_requireIndex) rfl ?_
    refine z_iload_n (q := 12) dX7_task_11 rfl rfl ?_
    refine z_iconst (q := 13) dX7_task_12 zci_0 rfl ?_
    refine z_bipush (q := 15) dX7_task_13 zcb_6 rfl ?_
    refine z_u3 (q := 18) dX7_task_15 zkX7_64 zt_mX7_requireBetween rfl (Nat.le_of_ble_eq_true rfl) (ct_X7_requireBetween (qBt_i (by decide) (by decide) (by decide))) rfl ?_
    refine z_iload_n (q := 19) dX7_task_18 rfl rfl ?_
    refine z_tableIn (q := 0) (tg := 76) dX7_task_19 (by decide) (by decide) rfl rfl ?_
    refine z_aload_n (q := 77) dX7_task_76 rfl rfl ?_
    refine z_get (q := 80) dX7_task_77 zfX7_19 (by first | exact zT_0 | exact zT_o zWo_3 | exact zT_w zWo_3 rfl | exact zT_o zWo_18 | exact zT_X | exact zT_H | exact zT_S | exact zT_C | exact zT_G | exact zT_N (zNo_w zWo_3) | exact zT_n (zNo_w zWo_3) (by decide) | exact zpT_a (c := 284) rfl | exact zT_L) rfl rfl ?_
    refine z_get (q := 83) dX7_task_80 zfX7_161 (by first | exact zT_0 | exact zT_o zWo_3 | exact zT_w zWo_3 rfl | exact zT_o zWo_18 | exact zT_X | exact zT_H | exact zT_S | exact zT_C | exact zT_G | exact zT_N (zNo_w zWo_3) | exact zT_n (zNo_w zWo_3) (by decide) | exact zpT_a (c := 284) rfl | exact zT_L) rfl rfl ?_
    refine z_iload_n (q := 84) dX7_task_83 rfl rfl ?_
    refine z_iald (q := 85) dX7_task_84 (by first | exact zT_0 | exact zT_o zWo_3 | exact zT_w zWo_3 rfl | exact zT_o zWo_18 | exact zT_X | exact zT_H | exact zT_S | exact zT_C | exact zT_G | exact zT_N (zNo_w zWo_3) | exact zT_n (zNo_w zWo_3) (by decide) | exact zpT_a (c := 284) rfl | exact zT_L) (by omega) (by omega) rfl ?_
    refine z_eqi (zR_t hR ht).2.2.1 ?_
    exact z_reti dX7_task_85 rfl (zRJ_v hJ rfl)
  · skip
    refine z_aload_n (q := 1) dX7_task_0 rfl rfl ?_
    refine z_get (q := 4) dX7_task_1 zfX7_19 (by first | exact zT_0 | exact zT_o zWo_3 | exact zT_w zWo_3 rfl | exact zT_o zWo_18 | exact zT_X | exact zT_H | exact zT_S | exact zT_C | exact zT_G | exact zT_N (zNo_w zWo_3) | exact zT_n (zNo_w zWo_3) (by decide) | exact zpT_a (c := 284) rfl | exact zT_L) rfl rfl ?_
    refine z_iload_n (q := 5) dX7_task_4 rfl rfl ?_
    refine z_v1 (q := 8) dX7_task_5 zkX7_152 zt_mX6_hasTask rfl (by first | exact zT_0 | exact zT_o zWo_3 | exact zT_w zWo_3 rfl | exact zT_o zWo_18 | exact zT_X | exact zT_H | exact zT_S | exact zT_C | exact zT_G | exact zT_N (zNo_w zWo_3) | exact zT_n (zNo_w zWo_3) (by decide) | exact zpT_a (c := 284) rfl | exact zT_L) rfl (Nat.le_of_ble_eq_true rfl) (ct_X6_hasTask zWo_3 (zR_1 hR)) rfl ?_
    refine z_eqi ((congrArg zbi ((qHas_i ht (by omega)))).trans zbi_t) ?_
    refine z_u1 (q := 11) dX7_task_8 zkX7_123 zt_mX7_requireIndex rfl (Nat.le_of_ble_eq_true rfl) (ct_X7_requireIndex) rfl ?_
    refine z_iload_n (q := 12) dX7_task_11 rfl rfl ?_
    refine z_iconst (q := 13) dX7_task_12 zci_0 rfl ?_
    refine z_bipush (q := 15) dX7_task_13 zcb_6 rfl ?_
    refine z_u3 (q := 18) dX7_task_15 zkX7_64 zt_mX7_requireBetween rfl (Nat.le_of_ble_eq_true rfl) (ct_X7_requireBetween (qBt_i (by decide) (by decide) (by decide))) rfl ?_
    refine z_iload_n (q := 19) dX7_task_18 rfl rfl ?_
    refine z_tableIn (q := 0) (tg := 86) dX7_task_19 (by decide) (by decide) rfl rfl ?_
    refine z_aload_n (q := 87) dX7_task_86 rfl rfl ?_
    refine z_get (q := 90) dX7_task_87 zfX7_19 (by first | exact zT_0 | exact zT_o zWo_3 | exact zT_w zWo_3 rfl | exact zT_o zWo_18 | exact zT_X | exact zT_H | exact zT_S | exact zT_C | exact zT_G | exact zT_N (zNo_w zWo_3) | exact zT_n (zNo_w zWo_3) (by decide) | exact zpT_a (c := 284) rfl | exact zT_L) rfl rfl ?_
    refine z_get (q := 93) dX7_task_90 zfX7_164 (by first | exact zT_0 | exact zT_o zWo_3 | exact zT_w zWo_3 rfl | exact zT_o zWo_18 | exact zT_X | exact zT_H | exact zT_S | exact zT_C | exact zT_G | exact zT_N (zNo_w zWo_3) | exact zT_n (zNo_w zWo_3) (by decide) | exact zpT_a (c := 284) rfl | exact zT_L) rfl rfl ?_
    refine z_iload_n (q := 94) dX7_task_93 rfl rfl ?_
    refine z_iald (q := 95) dX7_task_94 (by first | exact zT_0 | exact zT_o zWo_3 | exact zT_w zWo_3 rfl | exact zT_o zWo_18 | exact zT_X | exact zT_H | exact zT_S | exact zT_C | exact zT_G | exact zT_N (zNo_w zWo_3) | exact zT_n (zNo_w zWo_3) (by decide) | exact zpT_a (c := 284) rfl | exact zT_L) (by omega) (by omega) rfl ?_
    refine z_eqi (zR_t hR ht).2.2.2 ?_
    exact z_reti dX7_task_95 rfl (zRJ_v hJ rfl)
  · skip
    refine z_aload_n (q := 1) dX7_task_0 rfl rfl ?_
    refine z_get (q := 4) dX7_task_1 zfX7_19 (by first | exact zT_0 | exact zT_o zWo_3 | exact zT_w zWo_3 rfl | exact zT_o zWo_18 | exact zT_X | exact zT_H | exact zT_S | exact zT_C | exact zT_G | exact zT_N (zNo_w zWo_3) | exact zT_n (zNo_w zWo_3) (by decide) | exact zpT_a (c := 284) rfl | exact zT_L) rfl rfl ?_
    refine z_iload_n (q := 5) dX7_task_4 rfl rfl ?_
    refine z_v1 (q := 8) dX7_task_5 zkX7_152 zt_mX6_hasTask rfl (by first | exact zT_0 | exact zT_o zWo_3 | exact zT_w zWo_3 rfl | exact zT_o zWo_18 | exact zT_X | exact zT_H | exact zT_S | exact zT_C | exact zT_G | exact zT_N (zNo_w zWo_3) | exact zT_n (zNo_w zWo_3) (by decide) | exact zpT_a (c := 284) rfl | exact zT_L) rfl (Nat.le_of_ble_eq_true rfl) (ct_X6_hasTask zWo_3 (zR_1 hR)) rfl ?_
    refine z_eqi ((congrArg zbi ((qHas_i ht (by omega)))).trans zbi_t) ?_
    refine z_u1 (q := 11) dX7_task_8 zkX7_123 zt_mX7_requireIndex rfl (Nat.le_of_ble_eq_true rfl) (ct_X7_requireIndex) rfl ?_
    refine z_iload_n (q := 12) dX7_task_11 rfl rfl ?_
    refine z_iconst (q := 13) dX7_task_12 zci_0 rfl ?_
    refine z_bipush (q := 15) dX7_task_13 zcb_6 rfl ?_
    refine z_u3 (q := 18) dX7_task_15 zkX7_64 zt_mX7_requireBetween rfl (Nat.le_of_ble_eq_true rfl) (ct_X7_requireBetween (qBt_i (by decide) (by decide) (by decide))) rfl ?_
    refine z_iload_n (q := 19) dX7_task_18 rfl rfl ?_
    refine z_tableIn (q := 0) (tg := 96) dX7_task_19 (by decide) (by decide) rfl rfl ?_
    refine z_aload_n (q := 97) dX7_task_96 rfl rfl ?_
    refine z_get (q := 100) dX7_task_97 zfX7_19 (by first | exact zT_0 | exact zT_o zWo_3 | exact zT_w zWo_3 rfl | exact zT_o zWo_18 | exact zT_X | exact zT_H | exact zT_S | exact zT_C | exact zT_G | exact zT_N (zNo_w zWo_3) | exact zT_n (zNo_w zWo_3) (by decide) | exact zpT_a (c := 284) rfl | exact zT_L) rfl rfl ?_
    refine z_iload_n (q := 101) dX7_task_100 rfl rfl ?_
    refine z_v1 (q := 104) dX7_task_101 zkX7_167 zt_mX6_isFinished rfl (by first | exact zT_0 | exact zT_o zWo_3 | exact zT_w zWo_3 rfl | exact zT_o zWo_18 | exact zT_X | exact zT_H | exact zT_S | exact zT_C | exact zT_G | exact zT_N (zNo_w zWo_3) | exact zT_n (zNo_w zWo_3) (by decide) | exact zpT_a (c := 284) rfl | exact zT_L) rfl (Nat.le_of_ble_eq_true rfl) (ct_X6_isFinished zWo_3 hR ht) rfl ?_
    refine z_ifb_eq (tg := 111) (q := 107) dX7_task_104 rfl rfl ?_ ?_
    · intro hc104
      refine z_iconst (q := 112) dX7_task_111 zci_0 rfl ?_
      exact z_reti dX7_task_112 rfl (zRJ_v hJ (by show _ = zbi (qDone (u 3) t); rw [hc104]; rfl))
    · intro hc104
      refine z_iconst (q := 108) dX7_task_107 zci_1 rfl ?_
      refine z_goto (q := 0) (tg := 112) dX7_task_108 rfl ?_
      exact z_reti dX7_task_112 rfl (zRJ_v hJ (by show _ = zbi (qDone (u 3) t); rw [hc104]; rfl))
  · skip
    refine z_aload_n (q := 1) dX7_task_0 rfl rfl ?_
    refine z_get (q := 4) dX7_task_1 zfX7_19 (by first | exact zT_0 | exact zT_o zWo_3 | exact zT_w zWo_3 rfl | exact zT_o zWo_18 | exact zT_X | exact zT_H | exact zT_S | exact zT_C | exact zT_G | exact zT_N (zNo_w zWo_3) | exact zT_n (zNo_w zWo_3) (by decide) | exact zpT_a (c := 284) rfl | exact zT_L) rfl rfl ?_
    refine z_iload_n (q := 5) dX7_task_4 rfl rfl ?_
    refine z_v1 (q := 8) dX7_task_5 zkX7_152 zt_mX6_hasTask rfl (by first | exact zT_0 | exact zT_o zWo_3 | exact zT_w zWo_3 rfl | exact zT_o zWo_18 | exact zT_X | exact zT_H | exact zT_S | exact zT_C | exact zT_G | exact zT_N (zNo_w zWo_3) | exact zT_n (zNo_w zWo_3) (by decide) | exact zpT_a (c := 284) rfl | exact zT_L) rfl (Nat.le_of_ble_eq_true rfl) (ct_X6_hasTask zWo_3 (zR_1 hR)) rfl ?_
    refine z_eqi ((congrArg zbi ((qHas_i ht (by omega)))).trans zbi_t) ?_
    refine z_u1 (q := 11) dX7_task_8 zkX7_123 zt_mX7_requireIndex rfl (Nat.le_of_ble_eq_true rfl) (ct_X7_requireIndex) rfl ?_
    refine z_iload_n (q := 12) dX7_task_11 rfl rfl ?_
    refine z_iconst (q := 13) dX7_task_12 zci_0 rfl ?_
    refine z_bipush (q := 15) dX7_task_13 zcb_6 rfl ?_
    refine z_u3 (q := 18) dX7_task_15 zkX7_64 zt_mX7_requireBetween rfl (Nat.le_of_ble_eq_true rfl) (ct_X7_requireBetween (qBt_i (by decide) (by decide) (by decide))) rfl ?_
    refine z_iload_n (q := 19) dX7_task_18 rfl rfl ?_
    refine z_tableIn (q := 0) (tg := 113) dX7_task_19 (by decide) (by decide) rfl rfl ?_
    refine z_aload_n (q := 114) dX7_task_113 rfl rfl ?_
    refine z_get (q := 117) dX7_task_114 zfX7_19 (by first | exact zT_0 | exact zT_o zWo_3 | exact zT_w zWo_3 rfl | exact zT_o zWo_18 | exact zT_X | exact zT_H | exact zT_S | exact zT_C | exact zT_G | exact zT_N (zNo_w zWo_3) | exact zT_n (zNo_w zWo_3) (by decide) | exact zpT_a (c := 284) rfl | exact zT_L) rfl rfl ?_
    refine z_iload_n (q := 118) dX7_task_117 rfl rfl ?_
    refine z_v1 (q := 121) dX7_task_118 zkX7_170 zt_mX6_knowers rfl (by first | exact zT_0 | exact zT_o zWo_3 | exact zT_w zWo_3 rfl | exact zT_o zWo_18 | exact zT_X | exact zT_H | exact zT_S | exact zT_C | exact zT_G | exact zT_N (zNo_w zWo_3) | exact zT_n (zNo_w zWo_3) (by decide) | exact zpT_a (c := 284) rfl | exact zT_L) rfl (Nat.le_of_ble_eq_true rfl) (ct_X6_knowers zWo_3 hR ht) rfl ?_
    exact z_reti dX7_task_121 rfl (zRJ_v hJ (qKnS_i (by omega)).symm)
  · skip
    refine z_aload_n (q := 1) dX7_task_0 rfl rfl ?_
    refine z_get (q := 4) dX7_task_1 zfX7_19 (by first | exact zT_0 | exact zT_o zWo_3 | exact zT_w zWo_3 rfl | exact zT_o zWo_18 | exact zT_X | exact zT_H | exact zT_S | exact zT_C | exact zT_G | exact zT_N (zNo_w zWo_3) | exact zT_n (zNo_w zWo_3) (by decide) | exact zpT_a (c := 284) rfl | exact zT_L) rfl rfl ?_
    refine z_iload_n (q := 5) dX7_task_4 rfl rfl ?_
    refine z_v1 (q := 8) dX7_task_5 zkX7_152 zt_mX6_hasTask rfl (by first | exact zT_0 | exact zT_o zWo_3 | exact zT_w zWo_3 rfl | exact zT_o zWo_18 | exact zT_X | exact zT_H | exact zT_S | exact zT_C | exact zT_G | exact zT_N (zNo_w zWo_3) | exact zT_n (zNo_w zWo_3) (by decide) | exact zpT_a (c := 284) rfl | exact zT_L) rfl (Nat.le_of_ble_eq_true rfl) (ct_X6_hasTask zWo_3 (zR_1 hR)) rfl ?_
    refine z_eqi ((congrArg zbi ((qHas_i ht (by omega)))).trans zbi_t) ?_
    refine z_u1 (q := 11) dX7_task_8 zkX7_123 zt_mX7_requireIndex rfl (Nat.le_of_ble_eq_true rfl) (ct_X7_requireIndex) rfl ?_
    refine z_iload_n (q := 12) dX7_task_11 rfl rfl ?_
    refine z_iconst (q := 13) dX7_task_12 zci_0 rfl ?_
    refine z_bipush (q := 15) dX7_task_13 zcb_6 rfl ?_
    refine z_u3 (q := 18) dX7_task_15 zkX7_64 zt_mX7_requireBetween rfl (Nat.le_of_ble_eq_true rfl) (ct_X7_requireBetween (qBt_i (by decide) (by decide) (by decide))) rfl ?_
    refine z_iload_n (q := 19) dX7_task_18 rfl rfl ?_
    refine z_tableOut (q := 0) (tg := 122) dX7_task_19 (by decide) rfl ?_
    refine z_aload_n (q := 123) dX7_task_122 rfl rfl ?_
    refine z_get (q := 126) dX7_task_123 zfX7_19 (by first | exact zT_0 | exact zT_o zWo_3 | exact zT_w zWo_3 rfl | exact zT_o zWo_18 | exact zT_X | exact zT_H | exact zT_S | exact zT_C | exact zT_G | exact zT_N (zNo_w zWo_3) | exact zT_n (zNo_w zWo_3) (by decide) | exact zpT_a (c := 284) rfl | exact zT_L) rfl rfl ?_
    refine z_iload_n (q := 127) dX7_task_126 rfl rfl ?_
    refine z_v1 (q := 130) dX7_task_127 zkX7_173 zt_mX6_claimants rfl (by first | exact zT_0 | exact zT_o zWo_3 | exact zT_w zWo_3 rfl | exact zT_o zWo_18 | exact zT_X | exact zT_H | exact zT_S | exact zT_C | exact zT_G | exact zT_N (zNo_w zWo_3) | exact zT_n (zNo_w zWo_3) (by decide) | exact zpT_a (c := 284) rfl | exact zT_L) rfl (Nat.le_of_ble_eq_true rfl) (ct_X6_claimants zWo_3 hR ht) rfl ?_
    exact z_reti dX7_task_130 rfl (zRJ_v hJ (mk_i (p := fun a => qOn (u 3) a && qOwn (u 3) a t) (by omega)).symm)
set_option maxRecDepth 100000 in
set_option maxHeartbeats 4000000 in
theorem cx_X7_note1 {g : zGl} {h : zHp} {b n K : Nat} {d u : Nat → Nat → Int32} {x y z : Int32} (hJ : zJo d u n K) (hv : (qHas x n && qHas y K) = false) : zX g mX7_note [.ref b, .int x, .int y, .int z] (zpT g h b d) "java/lang/IndexOutOfBoundsException" (zXJ g h b u) 1 6 := by
  have hR := hJ.1
  have hn := zR_n6 hR
  have hK := zR_K8 hR
  refine zX_ofA (lv := [some (.ref b), some (.int x), some (.int y), some (.int z), none]) (by decide) rfl (Nat.le_of_ble_eq_true rfl) ?_
  refine z_aload_n (q := 1) dX7_note_0 rfl rfl ?_
  refine z_get (q := 4) dX7_note_1 zfX7_19 (by first | exact zT_0 | exact zT_o zWo_3 | exact zT_w zWo_3 rfl | exact zT_o zWo_18 | exact zT_X | exact zT_H | exact zT_S | exact zT_C | exact zT_G | exact zT_N (zNo_w zWo_3) | exact zT_n (zNo_w zWo_3) (by decide) | exact zpT_a (c := 284) rfl | exact zT_L) rfl rfl ?_
  refine z_iload_n (q := 5) dX7_note_4 rfl rfl ?_
  refine z_v1 (q := 8) dX7_note_5 zkX7_119 zt_mX6_hasAgent rfl (by first | exact zT_0 | exact zT_o zWo_3 | exact zT_w zWo_3 rfl | exact zT_o zWo_18 | exact zT_X | exact zT_H | exact zT_S | exact zT_C | exact zT_G | exact zT_N (zNo_w zWo_3) | exact zT_n (zNo_w zWo_3) (by decide) | exact zpT_a (c := 284) rfl | exact zT_L) rfl (Nat.le_of_ble_eq_true rfl) (ct_X6_hasAgent zWo_3 (zR_0 hR)) rfl ?_
  refine z_ifb_eq (tg := 26) (q := 11) dX7_note_8 rfl rfl ?_ ?_
  · intro hc8
    refine z_iconst (q := 27) dX7_note_26 zci_0 rfl ?_
    exact z_cSX (av := [.int (nI 0)]) dX7_note_27 zkX7_123 zw513 zt_mX7_requireIndex rfl rfl (Nat.le_of_ble_eq_true rfl) cx_X7_requireIndex (by decide) (by decide) (fun _ hh => ⟨d, ⟨n, K, hJ⟩, hh⟩)
  · intro hc8
    refine z_aload_n (q := 12) dX7_note_11 rfl rfl ?_
    refine z_get (q := 15) dX7_note_12 zfX7_19 (by first | exact zT_0 | exact zT_o zWo_3 | exact zT_w zWo_3 rfl | exact zT_o zWo_18 | exact zT_X | exact zT_H | exact zT_S | exact zT_C | exact zT_G | exact zT_N (zNo_w zWo_3) | exact zT_n (zNo_w zWo_3) (by decide) | exact zpT_a (c := 284) rfl | exact zT_L) rfl rfl ?_
    refine z_iload_n (q := 16) dX7_note_15 rfl rfl ?_
    refine z_v1 (q := 19) dX7_note_16 zkX7_152 zt_mX6_hasTask rfl (by first | exact zT_0 | exact zT_o zWo_3 | exact zT_w zWo_3 rfl | exact zT_o zWo_18 | exact zT_X | exact zT_H | exact zT_S | exact zT_C | exact zT_G | exact zT_N (zNo_w zWo_3) | exact zT_n (zNo_w zWo_3) (by decide) | exact zpT_a (c := 284) rfl | exact zT_L) rfl (Nat.le_of_ble_eq_true rfl) (ct_X6_hasTask zWo_3 (zR_1 hR)) rfl ?_
    refine z_ifb_eq (tg := 26) (q := 22) dX7_note_19 rfl rfl ?_ ?_
    · intro hc19
      refine z_iconst (q := 27) dX7_note_26 zci_0 rfl ?_
      exact z_cSX (av := [.int (nI 0)]) dX7_note_27 zkX7_123 zw513 zt_mX7_requireIndex rfl rfl (Nat.le_of_ble_eq_true rfl) cx_X7_requireIndex (by decide) (by decide) (fun _ hh => ⟨d, ⟨n, K, hJ⟩, hh⟩)
    · intro hc19
      exact absurd hv (by rw [hc8, hc19]; decide)
set_option maxRecDepth 100000 in
set_option maxHeartbeats 4000000 in
theorem cx_X7_note2 {g : zGl} {h : zHp} {b n K : Nat} {d u : Nat → Nat → Int32} {x y z : Int32} (hJ : zJo d u n K) (hx : qHas x n = true) (hy : qHas y K = true) (hv2 : qBt z 0 3 = false) : zX g mX7_note [.ref b, .int x, .int y, .int z] (zpT g h b d) "java/lang/IllegalArgumentException" (zXJ g h b u) 1 6 := by
  have hR := hJ.1
  have hn := zR_n6 hR
  have hK := zR_K8 hR
  refine zX_ofA (lv := [some (.ref b), some (.int x), some (.int y), some (.int z), none]) (by decide) rfl (Nat.le_of_ble_eq_true rfl) ?_
  refine z_aload_n (q := 1) dX7_note_0 rfl rfl ?_
  refine z_get (q := 4) dX7_note_1 zfX7_19 (by first | exact zT_0 | exact zT_o zWo_3 | exact zT_w zWo_3 rfl | exact zT_o zWo_18 | exact zT_X | exact zT_H | exact zT_S | exact zT_C | exact zT_G | exact zT_N (zNo_w zWo_3) | exact zT_n (zNo_w zWo_3) (by decide) | exact zpT_a (c := 284) rfl | exact zT_L) rfl rfl ?_
  refine z_iload_n (q := 5) dX7_note_4 rfl rfl ?_
  refine z_v1 (q := 8) dX7_note_5 zkX7_119 zt_mX6_hasAgent rfl (by first | exact zT_0 | exact zT_o zWo_3 | exact zT_w zWo_3 rfl | exact zT_o zWo_18 | exact zT_X | exact zT_H | exact zT_S | exact zT_C | exact zT_G | exact zT_N (zNo_w zWo_3) | exact zT_n (zNo_w zWo_3) (by decide) | exact zpT_a (c := 284) rfl | exact zT_L) rfl (Nat.le_of_ble_eq_true rfl) (ct_X6_hasAgent zWo_3 (zR_0 hR)) rfl ?_
  refine z_eqi ((congrArg zbi (hx)).trans zbi_t) ?_
  refine z_if_eq (tg := 26) (q := 11) dX7_note_8 rfl rfl ?_ ?_
  · intro hc8
    exact absurd hc8 (by decide)
  · intro hc8
    refine z_aload_n (q := 12) dX7_note_11 rfl rfl ?_
    refine z_get (q := 15) dX7_note_12 zfX7_19 (by first | exact zT_0 | exact zT_o zWo_3 | exact zT_w zWo_3 rfl | exact zT_o zWo_18 | exact zT_X | exact zT_H | exact zT_S | exact zT_C | exact zT_G | exact zT_N (zNo_w zWo_3) | exact zT_n (zNo_w zWo_3) (by decide) | exact zpT_a (c := 284) rfl | exact zT_L) rfl rfl ?_
    refine z_iload_n (q := 16) dX7_note_15 rfl rfl ?_
    refine z_v1 (q := 19) dX7_note_16 zkX7_152 zt_mX6_hasTask rfl (by first | exact zT_0 | exact zT_o zWo_3 | exact zT_w zWo_3 rfl | exact zT_o zWo_18 | exact zT_X | exact zT_H | exact zT_S | exact zT_C | exact zT_G | exact zT_N (zNo_w zWo_3) | exact zT_n (zNo_w zWo_3) (by decide) | exact zpT_a (c := 284) rfl | exact zT_L) rfl (Nat.le_of_ble_eq_true rfl) (ct_X6_hasTask zWo_3 (zR_1 hR)) rfl ?_
    refine z_eqi ((congrArg zbi (hy)).trans zbi_t) ?_
    refine z_if_eq (tg := 26) (q := 22) dX7_note_19 rfl rfl ?_ ?_
    · intro hc19
      exact absurd hc19 (by decide)
    · intro hc19
      refine z_iconst (q := 23) dX7_note_22 zci_1 rfl ?_
      refine z_goto (q := 0) (tg := 27) dX7_note_23 rfl ?_
      refine z_u1 (q := 30) dX7_note_27 zkX7_123 zt_mX7_requireIndex rfl (Nat.le_of_ble_eq_true rfl) (ct_X7_requireIndex) rfl ?_
      refine z_iload_n (q := 31) dX7_note_30 rfl rfl ?_
      refine z_iconst (q := 32) dX7_note_31 zci_0 rfl ?_
      refine z_iconst (q := 33) dX7_note_32 zci_3 rfl ?_
      exact z_cSX (av := [.int z, .int (nI 0), .int (nI 3)]) dX7_note_33 zkX7_64 zw362 zt_mX7_requireBetween rfl rfl (Nat.le_of_ble_eq_true rfl) (cx_X7_requireBetween hv2) (by decide) (by decide) (fun _ hh => ⟨d, ⟨n, K, hJ⟩, hh⟩)
set_option maxRecDepth 100000 in
set_option maxHeartbeats 4000000 in
theorem ct_X7_note0 {g : zGl} {h : zHp} {b n K a t w : Nat} {d u : Nat → Nat → Int32} (hJ : zJo d u n K) (ha : a < n) (ht : t < K) (hw : w ≤ 3) : zC g mX7_note [.ref b, .int (nI a), .int (nI t), .int (nI w)] (zpT g h b d) (zRJ g h b u (qNote (u 3) a t w)) 0 0 := by
  have hR := hJ.1
  have hn := zR_n6 hR
  have hK := zR_K8 hR
  refine zC_ofA (lv := [some (.ref b), some (.int (nI a)), some (.int (nI t)), some (.int (nI w)), none]) (by decide) rfl (Nat.le_of_ble_eq_true rfl) ?_
  rcases (show w = 0 ∨ w = 1 ∨ w = 2 ∨ w = 3 by omega) with rfl | rfl | rfl | rfl
  · skip
    have e := zR_n hR ha ht
    refine z_aload_n (q := 1) dX7_note_0 rfl rfl ?_
    refine z_get (q := 4) dX7_note_1 zfX7_19 (by first | exact zT_0 | exact zT_o zWo_3 | exact zT_w zWo_3 rfl | exact zT_o zWo_18 | exact zT_X | exact zT_H | exact zT_S | exact zT_C | exact zT_G | exact zT_N (zNo_w zWo_3) | exact zT_n (zNo_w zWo_3) (by decide) | exact zpT_a (c := 284) rfl | exact zT_L) rfl rfl ?_
    refine z_iload_n (q := 5) dX7_note_4 rfl rfl ?_
    refine z_v1 (q := 8) dX7_note_5 zkX7_119 zt_mX6_hasAgent rfl (by first | exact zT_0 | exact zT_o zWo_3 | exact zT_w zWo_3 rfl | exact zT_o zWo_18 | exact zT_X | exact zT_H | exact zT_S | exact zT_C | exact zT_G | exact zT_N (zNo_w zWo_3) | exact zT_n (zNo_w zWo_3) (by decide) | exact zpT_a (c := 284) rfl | exact zT_L) rfl (Nat.le_of_ble_eq_true rfl) (ct_X6_hasAgent zWo_3 (zR_0 hR)) rfl ?_
    refine z_eqi ((congrArg zbi ((qHas_i ha (by omega)))).trans zbi_t) ?_
    refine z_if_eq (tg := 26) (q := 11) dX7_note_8 rfl rfl ?_ ?_
    · intro hc8
      exact absurd hc8 (by decide)
    · intro hc8
      refine z_aload_n (q := 12) dX7_note_11 rfl rfl ?_
      refine z_get (q := 15) dX7_note_12 zfX7_19 (by first | exact zT_0 | exact zT_o zWo_3 | exact zT_w zWo_3 rfl | exact zT_o zWo_18 | exact zT_X | exact zT_H | exact zT_S | exact zT_C | exact zT_G | exact zT_N (zNo_w zWo_3) | exact zT_n (zNo_w zWo_3) (by decide) | exact zpT_a (c := 284) rfl | exact zT_L) rfl rfl ?_
      refine z_iload_n (q := 16) dX7_note_15 rfl rfl ?_
      refine z_v1 (q := 19) dX7_note_16 zkX7_152 zt_mX6_hasTask rfl (by first | exact zT_0 | exact zT_o zWo_3 | exact zT_w zWo_3 rfl | exact zT_o zWo_18 | exact zT_X | exact zT_H | exact zT_S | exact zT_C | exact zT_G | exact zT_N (zNo_w zWo_3) | exact zT_n (zNo_w zWo_3) (by decide) | exact zpT_a (c := 284) rfl | exact zT_L) rfl (Nat.le_of_ble_eq_true rfl) (ct_X6_hasTask zWo_3 (zR_1 hR)) rfl ?_
      refine z_eqi ((congrArg zbi ((qHas_i ht (by omega)))).trans zbi_t) ?_
      refine z_if_eq (tg := 26) (q := 22) dX7_note_19 rfl rfl ?_ ?_
      · intro hc19
        exact absurd hc19 (by decide)
      · intro hc19
        refine z_iconst (q := 23) dX7_note_22 zci_1 rfl ?_
        refine z_goto (q := 0) (tg := 27) dX7_note_23 rfl ?_
        refine z_u1 (q := 30) dX7_note_27 zkX7_123 zt_mX7_requireIndex rfl (Nat.le_of_ble_eq_true rfl) (ct_X7_requireIndex) rfl ?_
        refine z_iload_n (q := 31) dX7_note_30 rfl rfl ?_
        refine z_iconst (q := 32) dX7_note_31 zci_0 rfl ?_
        refine z_iconst (q := 33) dX7_note_32 zci_3 rfl ?_
        refine z_u3 (q := 36) dX7_note_33 zkX7_64 zt_mX7_requireBetween rfl (Nat.le_of_ble_eq_true rfl) (ct_X7_requireBetween (qBt_i (by decide) (by decide) (by decide))) rfl ?_
        refine z_iload_n (q := 37) dX7_note_36 rfl rfl ?_
        refine z_iload_n (q := 38) dX7_note_37 rfl rfl ?_
        refine z_s2 (q := 41) dX7_note_38 zkX7_176 zt_mX7_noteIndex rfl (Nat.le_of_ble_eq_true rfl) (ct_X7_noteIndex) rfl ?_
        refine z_istore (q := 43) dX7_note_41 (Nat.le_of_ble_eq_true rfl) rfl rfl ?_
        refine z_iload_n (q := 44) dX7_note_43 rfl rfl ?_
        refine z_if_ne (tg := 61) (q := 47) dX7_note_44 rfl rfl ?_ ?_
        · intro hc44
          exact absurd hc44 (by decide)
        · intro hc44
          refine z_aload_n (q := 48) dX7_note_47 rfl rfl ?_
          refine z_get (q := 51) dX7_note_48 zfX7_19 (by first | exact zT_0 | exact zT_o zWo_3 | exact zT_w zWo_3 rfl | exact zT_o zWo_18 | exact zT_X | exact zT_H | exact zT_S | exact zT_C | exact zT_G | exact zT_N (zNo_w zWo_3) | exact zT_n (zNo_w zWo_3) (by decide) | exact zpT_a (c := 284) rfl | exact zT_L) rfl rfl ?_
          refine z_get (q := 54) dX7_note_51 zfX7_180 (by first | exact zT_0 | exact zT_o zWo_3 | exact zT_w zWo_3 rfl | exact zT_o zWo_18 | exact zT_X | exact zT_H | exact zT_S | exact zT_C | exact zT_G | exact zT_N (zNo_w zWo_3) | exact zT_n (zNo_w zWo_3) (by decide) | exact zpT_a (c := 284) rfl | exact zT_L) rfl rfl ?_
          refine z_get (q := 57) dX7_note_54 zfX7_184 (by first | exact zT_0 | exact zT_o zWo_3 | exact zT_w zWo_3 rfl | exact zT_o zWo_18 | exact zT_X | exact zT_H | exact zT_S | exact zT_C | exact zT_G | exact zT_N (zNo_w zWo_3) | exact zT_n (zNo_w zWo_3) (by decide) | exact zpT_a (c := 284) rfl | exact zT_L) rfl rfl ?_
          refine z_iload (q := 59) dX7_note_57 rfl rfl ?_
          refine z_iald (q := 60) dX7_note_59 (by first | exact zT_0 | exact zT_o zWo_3 | exact zT_w zWo_3 rfl | exact zT_o zWo_18 | exact zT_X | exact zT_H | exact zT_S | exact zT_C | exact zT_G | exact zT_N (zNo_w zWo_3) | exact zT_n (zNo_w zWo_3) (by decide) | exact zpT_a (c := 284) rfl | exact zT_L) (by omega) (by omega) rfl ?_
          refine z_eqi e.1 ?_
          exact z_reti dX7_note_60 rfl (zRJ_v hJ rfl)
  · skip
    have e := zR_n hR ha ht
    refine z_aload_n (q := 1) dX7_note_0 rfl rfl ?_
    refine z_get (q := 4) dX7_note_1 zfX7_19 (by first | exact zT_0 | exact zT_o zWo_3 | exact zT_w zWo_3 rfl | exact zT_o zWo_18 | exact zT_X | exact zT_H | exact zT_S | exact zT_C | exact zT_G | exact zT_N (zNo_w zWo_3) | exact zT_n (zNo_w zWo_3) (by decide) | exact zpT_a (c := 284) rfl | exact zT_L) rfl rfl ?_
    refine z_iload_n (q := 5) dX7_note_4 rfl rfl ?_
    refine z_v1 (q := 8) dX7_note_5 zkX7_119 zt_mX6_hasAgent rfl (by first | exact zT_0 | exact zT_o zWo_3 | exact zT_w zWo_3 rfl | exact zT_o zWo_18 | exact zT_X | exact zT_H | exact zT_S | exact zT_C | exact zT_G | exact zT_N (zNo_w zWo_3) | exact zT_n (zNo_w zWo_3) (by decide) | exact zpT_a (c := 284) rfl | exact zT_L) rfl (Nat.le_of_ble_eq_true rfl) (ct_X6_hasAgent zWo_3 (zR_0 hR)) rfl ?_
    refine z_eqi ((congrArg zbi ((qHas_i ha (by omega)))).trans zbi_t) ?_
    refine z_if_eq (tg := 26) (q := 11) dX7_note_8 rfl rfl ?_ ?_
    · intro hc8
      exact absurd hc8 (by decide)
    · intro hc8
      refine z_aload_n (q := 12) dX7_note_11 rfl rfl ?_
      refine z_get (q := 15) dX7_note_12 zfX7_19 (by first | exact zT_0 | exact zT_o zWo_3 | exact zT_w zWo_3 rfl | exact zT_o zWo_18 | exact zT_X | exact zT_H | exact zT_S | exact zT_C | exact zT_G | exact zT_N (zNo_w zWo_3) | exact zT_n (zNo_w zWo_3) (by decide) | exact zpT_a (c := 284) rfl | exact zT_L) rfl rfl ?_
      refine z_iload_n (q := 16) dX7_note_15 rfl rfl ?_
      refine z_v1 (q := 19) dX7_note_16 zkX7_152 zt_mX6_hasTask rfl (by first | exact zT_0 | exact zT_o zWo_3 | exact zT_w zWo_3 rfl | exact zT_o zWo_18 | exact zT_X | exact zT_H | exact zT_S | exact zT_C | exact zT_G | exact zT_N (zNo_w zWo_3) | exact zT_n (zNo_w zWo_3) (by decide) | exact zpT_a (c := 284) rfl | exact zT_L) rfl (Nat.le_of_ble_eq_true rfl) (ct_X6_hasTask zWo_3 (zR_1 hR)) rfl ?_
      refine z_eqi ((congrArg zbi ((qHas_i ht (by omega)))).trans zbi_t) ?_
      refine z_if_eq (tg := 26) (q := 22) dX7_note_19 rfl rfl ?_ ?_
      · intro hc19
        exact absurd hc19 (by decide)
      · intro hc19
        refine z_iconst (q := 23) dX7_note_22 zci_1 rfl ?_
        refine z_goto (q := 0) (tg := 27) dX7_note_23 rfl ?_
        refine z_u1 (q := 30) dX7_note_27 zkX7_123 zt_mX7_requireIndex rfl (Nat.le_of_ble_eq_true rfl) (ct_X7_requireIndex) rfl ?_
        refine z_iload_n (q := 31) dX7_note_30 rfl rfl ?_
        refine z_iconst (q := 32) dX7_note_31 zci_0 rfl ?_
        refine z_iconst (q := 33) dX7_note_32 zci_3 rfl ?_
        refine z_u3 (q := 36) dX7_note_33 zkX7_64 zt_mX7_requireBetween rfl (Nat.le_of_ble_eq_true rfl) (ct_X7_requireBetween (qBt_i (by decide) (by decide) (by decide))) rfl ?_
        refine z_iload_n (q := 37) dX7_note_36 rfl rfl ?_
        refine z_iload_n (q := 38) dX7_note_37 rfl rfl ?_
        refine z_s2 (q := 41) dX7_note_38 zkX7_176 zt_mX7_noteIndex rfl (Nat.le_of_ble_eq_true rfl) (ct_X7_noteIndex) rfl ?_
        refine z_istore (q := 43) dX7_note_41 (Nat.le_of_ble_eq_true rfl) rfl rfl ?_
        refine z_iload_n (q := 44) dX7_note_43 rfl rfl ?_
        refine z_if_ne (tg := 61) (q := 47) dX7_note_44 rfl rfl ?_ ?_
        · intro hc44
          refine z_aload_n (q := 62) dX7_note_61 rfl rfl ?_
          refine z_get (q := 65) dX7_note_62 zfX7_19 (by first | exact zT_0 | exact zT_o zWo_3 | exact zT_w zWo_3 rfl | exact zT_o zWo_18 | exact zT_X | exact zT_H | exact zT_S | exact zT_C | exact zT_G | exact zT_N (zNo_w zWo_3) | exact zT_n (zNo_w zWo_3) (by decide) | exact zpT_a (c := 284) rfl | exact zT_L) rfl rfl ?_
          refine z_get (q := 68) dX7_note_65 zfX7_180 (by first | exact zT_0 | exact zT_o zWo_3 | exact zT_w zWo_3 rfl | exact zT_o zWo_18 | exact zT_X | exact zT_H | exact zT_S | exact zT_C | exact zT_G | exact zT_N (zNo_w zWo_3) | exact zT_n (zNo_w zWo_3) (by decide) | exact zpT_a (c := 284) rfl | exact zT_L) rfl rfl ?_
          refine z_get (q := 71) dX7_note_68 zfX7_184 (by first | exact zT_0 | exact zT_o zWo_3 | exact zT_w zWo_3 rfl | exact zT_o zWo_18 | exact zT_X | exact zT_H | exact zT_S | exact zT_C | exact zT_G | exact zT_N (zNo_w zWo_3) | exact zT_n (zNo_w zWo_3) (by decide) | exact zpT_a (c := 284) rfl | exact zT_L) rfl rfl ?_
          refine z_iload (q := 73) dX7_note_71 rfl rfl ?_
          refine z_iald (q := 74) dX7_note_73 (by first | exact zT_0 | exact zT_o zWo_3 | exact zT_w zWo_3 rfl | exact zT_o zWo_18 | exact zT_X | exact zT_H | exact zT_S | exact zT_C | exact zT_G | exact zT_N (zNo_w zWo_3) | exact zT_n (zNo_w zWo_3) (by decide) | exact zpT_a (c := 284) rfl | exact zT_L) (by omega) (by omega) rfl ?_
          refine z_iconst (q := 75) dX7_note_74 zci_1 rfl ?_
          refine z_icmp_eq (tg := 81) (q := 78) dX7_note_75 rfl rfl ?_ ?_
          · intro hc75
            refine z_iload_n (q := 82) dX7_note_81 rfl rfl ?_
            refine z_lookup (q := 0) (tg := 108) dX7_note_82 (by decide) rfl rfl ?_
            refine z_aload_n (q := 109) dX7_note_108 rfl rfl ?_
            refine z_get (q := 112) dX7_note_109 zfX7_19 (by first | exact zT_0 | exact zT_o zWo_3 | exact zT_w zWo_3 rfl | exact zT_o zWo_18 | exact zT_X | exact zT_H | exact zT_S | exact zT_C | exact zT_G | exact zT_N (zNo_w zWo_3) | exact zT_n (zNo_w zWo_3) (by decide) | exact zpT_a (c := 284) rfl | exact zT_L) rfl rfl ?_
            refine z_get (q := 115) dX7_note_112 zfX7_180 (by first | exact zT_0 | exact zT_o zWo_3 | exact zT_w zWo_3 rfl | exact zT_o zWo_18 | exact zT_X | exact zT_H | exact zT_S | exact zT_C | exact zT_G | exact zT_N (zNo_w zWo_3) | exact zT_n (zNo_w zWo_3) (by decide) | exact zpT_a (c := 284) rfl | exact zT_L) rfl rfl ?_
            refine z_get (q := 118) dX7_note_115 zfX7_189 (by first | exact zT_0 | exact zT_o zWo_3 | exact zT_w zWo_3 rfl | exact zT_o zWo_18 | exact zT_X | exact zT_H | exact zT_S | exact zT_C | exact zT_G | exact zT_N (zNo_w zWo_3) | exact zT_n (zNo_w zWo_3) (by decide) | exact zpT_a (c := 284) rfl | exact zT_L) rfl rfl ?_
            refine z_iload (q := 120) dX7_note_118 rfl rfl ?_
            refine z_iald (q := 121) dX7_note_120 (by first | exact zT_0 | exact zT_o zWo_3 | exact zT_w zWo_3 rfl | exact zT_o zWo_18 | exact zT_X | exact zT_H | exact zT_S | exact zT_C | exact zT_G | exact zT_N (zNo_w zWo_3) | exact zT_n (zNo_w zWo_3) (by decide) | exact zpT_a (c := 284) rfl | exact zT_L) (by omega) (by omega) rfl ?_
            refine z_eqi (e.2 ((e.1.symm.trans hc75))).1 ?_
            exact z_reti dX7_note_121 rfl (zRJ_v hJ (by rw [qNote, if_pos (Or.inr (e.1.symm.trans hc75))]))
          · intro hc75
            refine z_bipush (q := 80) dX7_note_78 zcb_m9 rfl ?_
            exact z_reti dX7_note_80 rfl (zRJ_v hJ (by rw [qNote, if_neg (fun hh => hh.elim (by decide) (fun h2 => hc75 (e.1.trans h2)))]))
        · intro hc44
          exact absurd hc44 (by decide)
  · skip
    have e := zR_n hR ha ht
    refine z_aload_n (q := 1) dX7_note_0 rfl rfl ?_
    refine z_get (q := 4) dX7_note_1 zfX7_19 (by first | exact zT_0 | exact zT_o zWo_3 | exact zT_w zWo_3 rfl | exact zT_o zWo_18 | exact zT_X | exact zT_H | exact zT_S | exact zT_C | exact zT_G | exact zT_N (zNo_w zWo_3) | exact zT_n (zNo_w zWo_3) (by decide) | exact zpT_a (c := 284) rfl | exact zT_L) rfl rfl ?_
    refine z_iload_n (q := 5) dX7_note_4 rfl rfl ?_
    refine z_v1 (q := 8) dX7_note_5 zkX7_119 zt_mX6_hasAgent rfl (by first | exact zT_0 | exact zT_o zWo_3 | exact zT_w zWo_3 rfl | exact zT_o zWo_18 | exact zT_X | exact zT_H | exact zT_S | exact zT_C | exact zT_G | exact zT_N (zNo_w zWo_3) | exact zT_n (zNo_w zWo_3) (by decide) | exact zpT_a (c := 284) rfl | exact zT_L) rfl (Nat.le_of_ble_eq_true rfl) (ct_X6_hasAgent zWo_3 (zR_0 hR)) rfl ?_
    refine z_eqi ((congrArg zbi ((qHas_i ha (by omega)))).trans zbi_t) ?_
    refine z_if_eq (tg := 26) (q := 11) dX7_note_8 rfl rfl ?_ ?_
    · intro hc8
      exact absurd hc8 (by decide)
    · intro hc8
      refine z_aload_n (q := 12) dX7_note_11 rfl rfl ?_
      refine z_get (q := 15) dX7_note_12 zfX7_19 (by first | exact zT_0 | exact zT_o zWo_3 | exact zT_w zWo_3 rfl | exact zT_o zWo_18 | exact zT_X | exact zT_H | exact zT_S | exact zT_C | exact zT_G | exact zT_N (zNo_w zWo_3) | exact zT_n (zNo_w zWo_3) (by decide) | exact zpT_a (c := 284) rfl | exact zT_L) rfl rfl ?_
      refine z_iload_n (q := 16) dX7_note_15 rfl rfl ?_
      refine z_v1 (q := 19) dX7_note_16 zkX7_152 zt_mX6_hasTask rfl (by first | exact zT_0 | exact zT_o zWo_3 | exact zT_w zWo_3 rfl | exact zT_o zWo_18 | exact zT_X | exact zT_H | exact zT_S | exact zT_C | exact zT_G | exact zT_N (zNo_w zWo_3) | exact zT_n (zNo_w zWo_3) (by decide) | exact zpT_a (c := 284) rfl | exact zT_L) rfl (Nat.le_of_ble_eq_true rfl) (ct_X6_hasTask zWo_3 (zR_1 hR)) rfl ?_
      refine z_eqi ((congrArg zbi ((qHas_i ht (by omega)))).trans zbi_t) ?_
      refine z_if_eq (tg := 26) (q := 22) dX7_note_19 rfl rfl ?_ ?_
      · intro hc19
        exact absurd hc19 (by decide)
      · intro hc19
        refine z_iconst (q := 23) dX7_note_22 zci_1 rfl ?_
        refine z_goto (q := 0) (tg := 27) dX7_note_23 rfl ?_
        refine z_u1 (q := 30) dX7_note_27 zkX7_123 zt_mX7_requireIndex rfl (Nat.le_of_ble_eq_true rfl) (ct_X7_requireIndex) rfl ?_
        refine z_iload_n (q := 31) dX7_note_30 rfl rfl ?_
        refine z_iconst (q := 32) dX7_note_31 zci_0 rfl ?_
        refine z_iconst (q := 33) dX7_note_32 zci_3 rfl ?_
        refine z_u3 (q := 36) dX7_note_33 zkX7_64 zt_mX7_requireBetween rfl (Nat.le_of_ble_eq_true rfl) (ct_X7_requireBetween (qBt_i (by decide) (by decide) (by decide))) rfl ?_
        refine z_iload_n (q := 37) dX7_note_36 rfl rfl ?_
        refine z_iload_n (q := 38) dX7_note_37 rfl rfl ?_
        refine z_s2 (q := 41) dX7_note_38 zkX7_176 zt_mX7_noteIndex rfl (Nat.le_of_ble_eq_true rfl) (ct_X7_noteIndex) rfl ?_
        refine z_istore (q := 43) dX7_note_41 (Nat.le_of_ble_eq_true rfl) rfl rfl ?_
        refine z_iload_n (q := 44) dX7_note_43 rfl rfl ?_
        refine z_if_ne (tg := 61) (q := 47) dX7_note_44 rfl rfl ?_ ?_
        · intro hc44
          refine z_aload_n (q := 62) dX7_note_61 rfl rfl ?_
          refine z_get (q := 65) dX7_note_62 zfX7_19 (by first | exact zT_0 | exact zT_o zWo_3 | exact zT_w zWo_3 rfl | exact zT_o zWo_18 | exact zT_X | exact zT_H | exact zT_S | exact zT_C | exact zT_G | exact zT_N (zNo_w zWo_3) | exact zT_n (zNo_w zWo_3) (by decide) | exact zpT_a (c := 284) rfl | exact zT_L) rfl rfl ?_
          refine z_get (q := 68) dX7_note_65 zfX7_180 (by first | exact zT_0 | exact zT_o zWo_3 | exact zT_w zWo_3 rfl | exact zT_o zWo_18 | exact zT_X | exact zT_H | exact zT_S | exact zT_C | exact zT_G | exact zT_N (zNo_w zWo_3) | exact zT_n (zNo_w zWo_3) (by decide) | exact zpT_a (c := 284) rfl | exact zT_L) rfl rfl ?_
          refine z_get (q := 71) dX7_note_68 zfX7_184 (by first | exact zT_0 | exact zT_o zWo_3 | exact zT_w zWo_3 rfl | exact zT_o zWo_18 | exact zT_X | exact zT_H | exact zT_S | exact zT_C | exact zT_G | exact zT_N (zNo_w zWo_3) | exact zT_n (zNo_w zWo_3) (by decide) | exact zpT_a (c := 284) rfl | exact zT_L) rfl rfl ?_
          refine z_iload (q := 73) dX7_note_71 rfl rfl ?_
          refine z_iald (q := 74) dX7_note_73 (by first | exact zT_0 | exact zT_o zWo_3 | exact zT_w zWo_3 rfl | exact zT_o zWo_18 | exact zT_X | exact zT_H | exact zT_S | exact zT_C | exact zT_G | exact zT_N (zNo_w zWo_3) | exact zT_n (zNo_w zWo_3) (by decide) | exact zpT_a (c := 284) rfl | exact zT_L) (by omega) (by omega) rfl ?_
          refine z_iconst (q := 75) dX7_note_74 zci_1 rfl ?_
          refine z_icmp_eq (tg := 81) (q := 78) dX7_note_75 rfl rfl ?_ ?_
          · intro hc75
            refine z_iload_n (q := 82) dX7_note_81 rfl rfl ?_
            refine z_lookup (q := 0) (tg := 122) dX7_note_82 (by decide) rfl rfl ?_
            refine z_aload_n (q := 123) dX7_note_122 rfl rfl ?_
            refine z_get (q := 126) dX7_note_123 zfX7_19 (by first | exact zT_0 | exact zT_o zWo_3 | exact zT_w zWo_3 rfl | exact zT_o zWo_18 | exact zT_X | exact zT_H | exact zT_S | exact zT_C | exact zT_G | exact zT_N (zNo_w zWo_3) | exact zT_n (zNo_w zWo_3) (by decide) | exact zpT_a (c := 284) rfl | exact zT_L) rfl rfl ?_
            refine z_get (q := 129) dX7_note_126 zfX7_180 (by first | exact zT_0 | exact zT_o zWo_3 | exact zT_w zWo_3 rfl | exact zT_o zWo_18 | exact zT_X | exact zT_H | exact zT_S | exact zT_C | exact zT_G | exact zT_N (zNo_w zWo_3) | exact zT_n (zNo_w zWo_3) (by decide) | exact zpT_a (c := 284) rfl | exact zT_L) rfl rfl ?_
            refine z_get (q := 132) dX7_note_129 zfX7_192 (by first | exact zT_0 | exact zT_o zWo_3 | exact zT_w zWo_3 rfl | exact zT_o zWo_18 | exact zT_X | exact zT_H | exact zT_S | exact zT_C | exact zT_G | exact zT_N (zNo_w zWo_3) | exact zT_n (zNo_w zWo_3) (by decide) | exact zpT_a (c := 284) rfl | exact zT_L) rfl rfl ?_
            refine z_iload (q := 134) dX7_note_132 rfl rfl ?_
            refine z_iald (q := 135) dX7_note_134 (by first | exact zT_0 | exact zT_o zWo_3 | exact zT_w zWo_3 rfl | exact zT_o zWo_18 | exact zT_X | exact zT_H | exact zT_S | exact zT_C | exact zT_G | exact zT_N (zNo_w zWo_3) | exact zT_n (zNo_w zWo_3) (by decide) | exact zpT_a (c := 284) rfl | exact zT_L) (by omega) (by omega) rfl ?_
            refine z_eqi (e.2 ((e.1.symm.trans hc75))).2.1 ?_
            exact z_reti dX7_note_135 rfl (zRJ_v hJ (by rw [qNote, if_pos (Or.inr (e.1.symm.trans hc75))]))
          · intro hc75
            refine z_bipush (q := 80) dX7_note_78 zcb_m9 rfl ?_
            exact z_reti dX7_note_80 rfl (zRJ_v hJ (by rw [qNote, if_neg (fun hh => hh.elim (by decide) (fun h2 => hc75 (e.1.trans h2)))]))
        · intro hc44
          exact absurd hc44 (by decide)
  · skip
    have e := zR_n hR ha ht
    refine z_aload_n (q := 1) dX7_note_0 rfl rfl ?_
    refine z_get (q := 4) dX7_note_1 zfX7_19 (by first | exact zT_0 | exact zT_o zWo_3 | exact zT_w zWo_3 rfl | exact zT_o zWo_18 | exact zT_X | exact zT_H | exact zT_S | exact zT_C | exact zT_G | exact zT_N (zNo_w zWo_3) | exact zT_n (zNo_w zWo_3) (by decide) | exact zpT_a (c := 284) rfl | exact zT_L) rfl rfl ?_
    refine z_iload_n (q := 5) dX7_note_4 rfl rfl ?_
    refine z_v1 (q := 8) dX7_note_5 zkX7_119 zt_mX6_hasAgent rfl (by first | exact zT_0 | exact zT_o zWo_3 | exact zT_w zWo_3 rfl | exact zT_o zWo_18 | exact zT_X | exact zT_H | exact zT_S | exact zT_C | exact zT_G | exact zT_N (zNo_w zWo_3) | exact zT_n (zNo_w zWo_3) (by decide) | exact zpT_a (c := 284) rfl | exact zT_L) rfl (Nat.le_of_ble_eq_true rfl) (ct_X6_hasAgent zWo_3 (zR_0 hR)) rfl ?_
    refine z_eqi ((congrArg zbi ((qHas_i ha (by omega)))).trans zbi_t) ?_
    refine z_if_eq (tg := 26) (q := 11) dX7_note_8 rfl rfl ?_ ?_
    · intro hc8
      exact absurd hc8 (by decide)
    · intro hc8
      refine z_aload_n (q := 12) dX7_note_11 rfl rfl ?_
      refine z_get (q := 15) dX7_note_12 zfX7_19 (by first | exact zT_0 | exact zT_o zWo_3 | exact zT_w zWo_3 rfl | exact zT_o zWo_18 | exact zT_X | exact zT_H | exact zT_S | exact zT_C | exact zT_G | exact zT_N (zNo_w zWo_3) | exact zT_n (zNo_w zWo_3) (by decide) | exact zpT_a (c := 284) rfl | exact zT_L) rfl rfl ?_
      refine z_iload_n (q := 16) dX7_note_15 rfl rfl ?_
      refine z_v1 (q := 19) dX7_note_16 zkX7_152 zt_mX6_hasTask rfl (by first | exact zT_0 | exact zT_o zWo_3 | exact zT_w zWo_3 rfl | exact zT_o zWo_18 | exact zT_X | exact zT_H | exact zT_S | exact zT_C | exact zT_G | exact zT_N (zNo_w zWo_3) | exact zT_n (zNo_w zWo_3) (by decide) | exact zpT_a (c := 284) rfl | exact zT_L) rfl (Nat.le_of_ble_eq_true rfl) (ct_X6_hasTask zWo_3 (zR_1 hR)) rfl ?_
      refine z_eqi ((congrArg zbi ((qHas_i ht (by omega)))).trans zbi_t) ?_
      refine z_if_eq (tg := 26) (q := 22) dX7_note_19 rfl rfl ?_ ?_
      · intro hc19
        exact absurd hc19 (by decide)
      · intro hc19
        refine z_iconst (q := 23) dX7_note_22 zci_1 rfl ?_
        refine z_goto (q := 0) (tg := 27) dX7_note_23 rfl ?_
        refine z_u1 (q := 30) dX7_note_27 zkX7_123 zt_mX7_requireIndex rfl (Nat.le_of_ble_eq_true rfl) (ct_X7_requireIndex) rfl ?_
        refine z_iload_n (q := 31) dX7_note_30 rfl rfl ?_
        refine z_iconst (q := 32) dX7_note_31 zci_0 rfl ?_
        refine z_iconst (q := 33) dX7_note_32 zci_3 rfl ?_
        refine z_u3 (q := 36) dX7_note_33 zkX7_64 zt_mX7_requireBetween rfl (Nat.le_of_ble_eq_true rfl) (ct_X7_requireBetween (qBt_i (by decide) (by decide) (by decide))) rfl ?_
        refine z_iload_n (q := 37) dX7_note_36 rfl rfl ?_
        refine z_iload_n (q := 38) dX7_note_37 rfl rfl ?_
        refine z_s2 (q := 41) dX7_note_38 zkX7_176 zt_mX7_noteIndex rfl (Nat.le_of_ble_eq_true rfl) (ct_X7_noteIndex) rfl ?_
        refine z_istore (q := 43) dX7_note_41 (Nat.le_of_ble_eq_true rfl) rfl rfl ?_
        refine z_iload_n (q := 44) dX7_note_43 rfl rfl ?_
        refine z_if_ne (tg := 61) (q := 47) dX7_note_44 rfl rfl ?_ ?_
        · intro hc44
          refine z_aload_n (q := 62) dX7_note_61 rfl rfl ?_
          refine z_get (q := 65) dX7_note_62 zfX7_19 (by first | exact zT_0 | exact zT_o zWo_3 | exact zT_w zWo_3 rfl | exact zT_o zWo_18 | exact zT_X | exact zT_H | exact zT_S | exact zT_C | exact zT_G | exact zT_N (zNo_w zWo_3) | exact zT_n (zNo_w zWo_3) (by decide) | exact zpT_a (c := 284) rfl | exact zT_L) rfl rfl ?_
          refine z_get (q := 68) dX7_note_65 zfX7_180 (by first | exact zT_0 | exact zT_o zWo_3 | exact zT_w zWo_3 rfl | exact zT_o zWo_18 | exact zT_X | exact zT_H | exact zT_S | exact zT_C | exact zT_G | exact zT_N (zNo_w zWo_3) | exact zT_n (zNo_w zWo_3) (by decide) | exact zpT_a (c := 284) rfl | exact zT_L) rfl rfl ?_
          refine z_get (q := 71) dX7_note_68 zfX7_184 (by first | exact zT_0 | exact zT_o zWo_3 | exact zT_w zWo_3 rfl | exact zT_o zWo_18 | exact zT_X | exact zT_H | exact zT_S | exact zT_C | exact zT_G | exact zT_N (zNo_w zWo_3) | exact zT_n (zNo_w zWo_3) (by decide) | exact zpT_a (c := 284) rfl | exact zT_L) rfl rfl ?_
          refine z_iload (q := 73) dX7_note_71 rfl rfl ?_
          refine z_iald (q := 74) dX7_note_73 (by first | exact zT_0 | exact zT_o zWo_3 | exact zT_w zWo_3 rfl | exact zT_o zWo_18 | exact zT_X | exact zT_H | exact zT_S | exact zT_C | exact zT_G | exact zT_N (zNo_w zWo_3) | exact zT_n (zNo_w zWo_3) (by decide) | exact zpT_a (c := 284) rfl | exact zT_L) (by omega) (by omega) rfl ?_
          refine z_iconst (q := 75) dX7_note_74 zci_1 rfl ?_
          refine z_icmp_eq (tg := 81) (q := 78) dX7_note_75 rfl rfl ?_ ?_
          · intro hc75
            refine z_iload_n (q := 82) dX7_note_81 rfl rfl ?_
            refine z_lookup (q := 0) (tg := 136) dX7_note_82 (by decide) rfl rfl ?_
            refine z_aload_n (q := 137) dX7_note_136 rfl rfl ?_
            refine z_get (q := 140) dX7_note_137 zfX7_19 (by first | exact zT_0 | exact zT_o zWo_3 | exact zT_w zWo_3 rfl | exact zT_o zWo_18 | exact zT_X | exact zT_H | exact zT_S | exact zT_C | exact zT_G | exact zT_N (zNo_w zWo_3) | exact zT_n (zNo_w zWo_3) (by decide) | exact zpT_a (c := 284) rfl | exact zT_L) rfl rfl ?_
            refine z_get (q := 143) dX7_note_140 zfX7_180 (by first | exact zT_0 | exact zT_o zWo_3 | exact zT_w zWo_3 rfl | exact zT_o zWo_18 | exact zT_X | exact zT_H | exact zT_S | exact zT_C | exact zT_G | exact zT_N (zNo_w zWo_3) | exact zT_n (zNo_w zWo_3) (by decide) | exact zpT_a (c := 284) rfl | exact zT_L) rfl rfl ?_
            refine z_get (q := 146) dX7_note_143 zfX7_195 (by first | exact zT_0 | exact zT_o zWo_3 | exact zT_w zWo_3 rfl | exact zT_o zWo_18 | exact zT_X | exact zT_H | exact zT_S | exact zT_C | exact zT_G | exact zT_N (zNo_w zWo_3) | exact zT_n (zNo_w zWo_3) (by decide) | exact zpT_a (c := 284) rfl | exact zT_L) rfl rfl ?_
            refine z_iload (q := 148) dX7_note_146 rfl rfl ?_
            refine z_iald (q := 149) dX7_note_148 (by first | exact zT_0 | exact zT_o zWo_3 | exact zT_w zWo_3 rfl | exact zT_o zWo_18 | exact zT_X | exact zT_H | exact zT_S | exact zT_C | exact zT_G | exact zT_N (zNo_w zWo_3) | exact zT_n (zNo_w zWo_3) (by decide) | exact zpT_a (c := 284) rfl | exact zT_L) (by omega) (by omega) rfl ?_
            refine z_eqi (e.2 ((e.1.symm.trans hc75))).2.2 ?_
            exact z_reti dX7_note_149 rfl (zRJ_v hJ (by rw [qNote, if_pos (Or.inr (e.1.symm.trans hc75))]))
          · intro hc75
            refine z_bipush (q := 80) dX7_note_78 zcb_m9 rfl ?_
            exact z_reti dX7_note_80 rfl (zRJ_v hJ (by rw [qNote, if_neg (fun hh => hh.elim (by decide) (fun h2 => hc75 (e.1.trans h2)))]))
        · intro hc44
          exact absurd hc44 (by decide)
