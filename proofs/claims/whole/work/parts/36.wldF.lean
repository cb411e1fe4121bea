/-! ===== the component: handing over, notes held against each other ===== -/
theorem qFar_lay {f : Nat → Int32} {p a t : Nat} {x y z w : Int32} (hp : 72 ≤ p) (ha : a < 6) (ht : t < 8) : qFar (qLay f p x y z w) a t = qFar f a t := by
  rw [qFar, qFar, qLay_lt (by omega), qLay_lt (by omega), qLay_lt (by omega), qLay_lt (by omega)]
theorem zOut_cl {d D : Nat → Nat → Int32} {o i : Nat} {x y z w : Int32} (h : zOut d D o 15) : zOut d (va_up (va_up (va_up (va_up D (o + 10 + 1) (va_up (D (o + 10 + 1)) i x)) (o + 10 + 2) (va_up (D (o + 10 + 2)) i y)) (o + 10 + 3) (va_up (D (o + 10 + 3)) i z)) (o + 10 + 4) (va_up (D (o + 10 + 4)) i w)) o 15 :=
  zOut_w (zOut_w (zOut_w (zOut_w h (by omega)) (by omega)) (by omega)) (by omega)
set_option maxRecDepth 100000 in
set_option maxHeartbeats 4000000 in
theorem ct_X6_passClaim {g : zGl} {h : zHp} {b o n K a c t : Nat} {d : Nat → Nat → Int32} {f : Nat → Int32} (hw : zWo o) (hR : zR d o f n K) (ha : a < n) (hc : c < n) (hs : qOwnTask f K a = some t) : zC g mX6_passClaim [.ref (b + o), .int (nI a), .int (nI c)] (zpT g h b d) (zTU g h b (fun D => zR D o (qHand f a c t) n K ∧ zOut d D o 15) none) 0 0 := by
  have hn := zR_n6 hR
  have hK := zR_K8 hR
  have ht : t < K := (qFst_lt hs).1
  have hcn : zPl (nI c) n := ⟨c, hc, rfl⟩
  refine zC_ofA (lv := [some (.ref (b + o)), some (.int (nI a)), some (.int (nI c)), none, none]) (by decide) rfl (Nat.le_of_ble_eq_true rfl) ?_
  refine z_aload_n (q := 1) dX6_passClaim_0 rfl rfl ?_
  refine z_iload_n (q := 2) dX6_passClaim_1 rfl rfl ?_
  refine z_v1 (q := 5) dX6_passClaim_2 zkX6_118 zt_mX6_ownTask rfl (by first | exact zT_o hw | exact zT_w hw rfl | exact zT_N (zNo_w hw) | exact zT_n (zNo_w hw) (by decide) | exact zT_N hp | exact zT_n hp (by decide) | exact zT_N hv | exact zT_n hv (by decide)) rfl (Nat.le_of_ble_eq_true rfl) (ct_X6_ownTask hw hR ha) rfl ?_
  refine z_eqi (show qT (qOwnTask f K a) = nI t by rw [hs]; rfl) ?_
  refine z_istore_n (q := 6) dX6_passClaim_5 (Nat.le_of_ble_eq_true rfl) rfl rfl ?_
  refine z_iload_n (q := 7) dX6_passClaim_6 rfl rfl ?_
  refine z_bipush (q := 9) dX6_passClaim_7 zcb_m9 rfl ?_
  refine z_icmp_ne (tg := 13) (q := 12) dX6_passClaim_9 rfl rfl ?_ ?_
  · intro hc9
    refine z_aload_n (q := 14) dX6_passClaim_13 rfl rfl ?_
    refine z_iload_n (q := 15) dX6_passClaim_14 rfl rfl ?_
    refine z_iload_n (q := 16) dX6_passClaim_15 rfl rfl ?_
    refine z_v2 (q := 19) dX6_passClaim_16 zkX6_121 zt_mX6_wayToTask rfl (by first | exact zT_o hw | exact zT_w hw rfl | exact zT_N (zNo_w hw) | exact zT_n (zNo_w hw) (by decide) | exact zT_N hp | exact zT_n hp (by decide) | exact zT_N hv | exact zT_n hv (by decide)) rfl (Nat.le_of_ble_eq_true rfl) (ct_X6_wayToTask hw hR hc ht) rfl ?_
    refine z_istore (q := 21) dX6_passClaim_19 (Nat.le_of_ble_eq_true rfl) rfl rfl ?_
    refine z_aload_n (q := 22) dX6_passClaim_21 rfl rfl ?_
    refine z_get (q := 25) dX6_passClaim_22 zfX6_46 (by first | exact zT_o hw | exact zT_w hw rfl | exact zT_N (zNo_w hw) | exact zT_n (zNo_w hw) (by decide) | exact zT_N hp | exact zT_n hp (by decide) | exact zT_N hv | exact zT_n hv (by decide)) rfl rfl ?_
    refine z_iload_n (q := 26) dX6_passClaim_25 rfl rfl ?_
    refine z_iload_n (q := 27) dX6_passClaim_26 rfl rfl ?_
    refine z_s2 (q := 30) dX6_passClaim_27 zkX6_79 zt_mX7_noteIndex rfl (Nat.le_of_ble_eq_true rfl) (ct_X7_noteIndex) rfl ?_
    refine z_iload_n (q := 31) dX6_passClaim_30 rfl rfl ?_
    refine z_iload (q := 33) dX6_passClaim_31 rfl rfl ?_
    refine z_aload_n (q := 34) dX6_passClaim_33 rfl rfl ?_
    refine z_get (q := 37) dX6_passClaim_34 zfX6_56 (by first | exact zT_o hw | exact zT_w hw rfl | exact zT_N (zNo_w hw) | exact zT_n (zNo_w hw) (by decide) | exact zT_N hp | exact zT_n hp (by decide) | exact zT_N hv | exact zT_n hv (by decide)) rfl rfl ?_
    refine z_eqi (zR_3 hR) ?_
    refine z_aload_n (q := 38) dX6_passClaim_37 rfl rfl ?_
    refine z_get (q := 41) dX6_passClaim_38 zfX6_9 (by first | exact zT_o hw | exact zT_w hw rfl | exact zT_N (zNo_w hw) | exact zT_n (zNo_w hw) (by decide) | exact zT_N hp | exact zT_n hp (by decide) | exact zT_N hv | exact zT_n hv (by decide)) rfl rfl ?_
    refine z_eqi (zR_2 hR) ?_
    refine z_iadd (q := 42) dX6_passClaim_41 rfl ?_
    refine z_w4 (q := 45) dX6_passClaim_42 zkX6_124 zt_mX2_makeClaim rfl (by first | exact zT_o hw | exact zT_w hw rfl | exact zT_N (zNo_w hw) | exact zT_n (zNo_w hw) (by decide) | exact zT_N hp | exact zT_n hp (by decide) | exact zT_N hv | exact zT_n hv (by decide)) rfl (Nat.le_of_ble_eq_true rfl) (ct_X2_makeClaim (zNo_w hw) (by omega)) rfl ?_
    refine z_gen (P := fun D => zR D o (qLay f (72 + 4 * (8 * a + t)) (nI 1) (nI c) (qFar f c t) (f 2 + f 3)) n K ∧ zOut d D o 15) ⟨zR_cl ha ht hcn hR, zOut_cl zOut_r⟩ ?_
    rintro D ⟨hD, hO⟩
    refine z_aload_n (q := 46) dX6_passClaim_45 rfl rfl ?_
    refine z_get (q := 49) dX6_passClaim_46 zfX6_46 (by first | exact zT_o hw | exact zT_w hw rfl | exact zT_N (zNo_w hw) | exact zT_n (zNo_w hw) (by decide) | exact zT_N hp | exact zT_n hp (by decide) | exact zT_N hv | exact zT_n hv (by decide)) rfl rfl ?_
    refine z_iload_n (q := 50) dX6_passClaim_49 rfl rfl ?_
    refine z_iload_n (q := 51) dX6_passClaim_50 rfl rfl ?_
    refine z_s2 (q := 54) dX6_passClaim_51 zkX6_79 zt_mX7_noteIndex rfl (Nat.le_of_ble_eq_true rfl) (ct_X7_noteIndex) rfl ?_
    refine z_iload_n (q := 55) dX6_passClaim_54 rfl rfl ?_
    refine z_iload (q := 57) dX6_passClaim_55 rfl rfl ?_
    refine z_aload_n (q := 58) dX6_passClaim_57 rfl rfl ?_
    refine z_get (q := 61) dX6_passClaim_58 zfX6_56 (by first | exact zT_o hw | exact zT_w hw rfl | exact zT_N (zNo_w hw) | exact zT_n (zNo_w hw) (by decide) | exact zT_N hp | exact zT_n hp (by decide) | exact zT_N hv | exact zT_n hv (by decide)) rfl rfl ?_
    refine z_eqi ((zR_3 hD).trans (qLay_lt (by omega))) ?_
    refine z_aload_n (q := 62) dX6_passClaim_61 rfl rfl ?_
    refine z_get (q := 65) dX6_passClaim_62 zfX6_9 (by first | exact zT_o hw | exact zT_w hw rfl | exact zT_N (zNo_w hw) | exact zT_n (zNo_w hw) (by decide) | exact zT_N hp | exact zT_n hp (by decide) | exact zT_N hv | exact zT_n hv (by decide)) rfl rfl ?_
    refine z_eqi ((zR_2 hD).trans (qLay_lt (by omega))) ?_
    refine z_iadd (q := 66) dX6_passClaim_65 rfl ?_
    refine z_w4 (q := 69) dX6_passClaim_66 zkX6_124 zt_mX2_makeClaim rfl (by first | exact zT_o hw | exact zT_w hw rfl | exact zT_N (zNo_w hw) | exact zT_n (zNo_w hw) (by decide) | exact zT_N hp | exact zT_n hp (by decide) | exact zT_N hv | exact zT_n hv (by decide)) rfl (Nat.le_of_ble_eq_true rfl) (ct_X2_makeClaim (zNo_w hw) (by omega)) rfl ?_
    exact z_ret dX6_passClaim_69 rfl (⟨rfl, _, rfl, by rw [qHand, qFar_lay (by omega) (by omega) (by omega)]; exact zR_cl hc ht hcn hD, zOut_cl hO⟩)
  · intro hc9
    exact absurd hc9 (nI_nm9 (by omega))
set_option maxRecDepth 100000 in
set_option maxHeartbeats 4000000 in
theorem ct_X2_copyOne {g : zGl} {h : zHp} {b p q i j : Nat} {d : Nat → Nat → Int32} (hp : zNo p) (hv : zNo q) (hpq : p + 5 ≤ q ∨ q + 5 ≤ p) (hi : i < 48) (hj : j < 48) : zC g mX2_copyOne [.ref (b + p), .int (nI i), .ref (b + q), .int (nI j)] (zpT g h b d) (zU (zpT g h b (va_up (va_up (va_up (va_up d (p + 1) (va_up (d (p + 1)) i (d (q + 1) j))) (p + 2) (va_up (d (p + 2)) i (d (q + 2) j))) (p + 3) (va_up (d (p + 3)) i (d (q + 3) j))) (p + 4) (va_up (d (p + 4)) i (d (q + 4) j))))) 0 0 := by
  refine zC_ofA (lv := [some (.ref (b + p)), some (.int (nI i)), some (.ref (b + q)), some (.int (nI j))]) (by decide) rfl (Nat.le_of_ble_eq_true rfl) ?_
  have e1 : ∀ X, va_up d (p + 1) X (p + 2) = d (p + 2) := fun X => zu_ne (by omega)
  have e2 : ∀ X Y, va_up (va_up d (p + 1) X) (p + 2) Y (p + 3) = d (p + 3) := fun X Y => by rw [zu_ne (by omega), zu_ne (by omega)]
  have e3 : ∀ X Y W, va_up (va_up (va_up d (p + 1) X) (p + 2) Y) (p + 3) W (p + 4) = d (p + 4) := fun X Y W => by rw [zu_ne (by omega), zu_ne (by omega), zu_ne (by omega)]
  have e4 : ∀ X, va_up d (p + 1) X (q + 2) = d (q + 2) := fun X => zu_ne (by omega)
  have e5 : ∀ X Y, va_up (va_up d (p + 1) X) (p + 2) Y (q + 3) = d (q + 3) := fun X Y => by rw [zu_ne (by omega), zu_ne (by omega)]
  have e6 : ∀ X Y W, va_up (va_up (va_up d (p + 1) X) (p + 2) Y) (p + 3) W (q + 4) = d (q + 4) := fun X Y W => by rw [zu_ne (by omega), zu_ne (by omega), zu_ne (by omega)]
  refine z_aload_n (q := 1) dX2_copyOne_0 rfl rfl ?_
  refine z_get (q := 4) dX2_copyOne_1 zfX2_9 (by first | exact zT_o hw | exact zT_w hw rfl | exact zT_N (zNo_w hw) | exact zT_n (zNo_w hw) (by decide) | exact zT_N hp | exact zT_n hp (by decide) | exact zT_N hv | exact zT_n hv (by decide)) rfl rfl ?_
  refine z_iload_n (q := 5) dX2_copyOne_4 rfl rfl ?_
  refine z_aload_n (q := 6) dX2_copyOne_5 rfl rfl ?_
  refine z_get (q := 9) dX2_copyOne_6 zfX2_9 (by first | exact zT_o hw | exact zT_w hw rfl | exact zT_N (zNo_w hw) | exact zT_n (zNo_w hw) (by decide) | exact zT_N hp | exact zT_n hp (by decide) | exact zT_N hv | exact zT_n hv (by decide)) rfl rfl ?_
  refine z_iload_n (q := 10) dX2_copyOne_9 rfl rfl ?_
  refine z_iald (q := 11) dX2_copyOne_10 (by first | exact zT_o hw | exact zT_w hw rfl | exact zT_N (zNo_w hw) | exact zT_n (zNo_w hw) (by decide) | exact zT_N hp | exact zT_n hp (by decide) | exact zT_N hv | exact zT_n hv (by decide)) (by omega) (by omega) rfl ?_
  refine z_iastT (q := 12) dX2_copyOne_11 (zNo_T hp (by decide)) (by omega) rfl ?_
  refine z_aload_n (q := 13) dX2_copyOne_12 rfl rfl ?_
  refine z_get (q := 16) dX2_copyOne_13 zfX2_15 (by first | exact zT_o hw | exact zT_w hw rfl | exact zT_N (zNo_w hw) | exact zT_n (zNo_w hw) (by decide) | exact zT_N hp | exact zT_n hp (by decide) | exact zT_N hv | exact zT_n hv (by decide)) rfl rfl ?_
  refine z_iload_n (q := 17) dX2_copyOne_16 rfl rfl ?_
  refine z_aload_n (q := 18) dX2_copyOne_17 rfl rfl ?_
  refine z_get (q := 21) dX2_copyOne_18 zfX2_15 (by first | exact zT_o hw | exact zT_w hw rfl | exact zT_N (zNo_w hw) | exact zT_n (zNo_w hw) (by decide) | exact zT_N hp | exact zT_n hp (by decide) | exact zT_N hv | exact zT_n hv (by decide)) rfl rfl ?_
  refine z_iload_n (q := 22) dX2_copyOne_21 rfl rfl ?_
  refine z_iald (q := 23) dX2_copyOne_22 (by first | exact zT_o hw | exact zT_w hw rfl | exact zT_N (zNo_w hw) | exact zT_n (zNo_w hw) (by decide) | exact zT_N hp | exact zT_n hp (by decide) | exact zT_N hv | exact zT_n hv (by decide)) (by omega) (by omega) rfl ?_
  refine z_eqi (congrFun (e4 _) j) ?_
  refine z_iastT (q := 24) dX2_copyOne_23 (zNo_T hp (by decide)) (by omega) rfl ?_
  rw [e1]
  refine z_aload_n (q := 25) dX2_copyOne_24 rfl rfl ?_
  refine z_get (q := 28) dX2_copyOne_25 zfX2_18 (by first | exact zT_o hw | exact zT_w hw rfl | exact zT_N (zNo_w hw) | exact zT_n (zNo_w hw) (by decide) | exact zT_N hp | exact zT_n hp (by decide) | exact zT_N hv | exact zT_n hv (by decide)) rfl rfl ?_
  refine z_iload_n (q := 29) dX2_copyOne_28 rfl rfl ?_
  refine z_aload_n (q := 30) dX2_copyOne_29 rfl rfl ?_
  refine z_get (q := 33) dX2_copyOne_30 zfX2_18 (by first | exact zT_o hw | exact zT_w hw rfl | exact zT_N (zNo_w hw) | exact zT_n (zNo_w hw) (by decide) | exact zT_N hp | exact zT_n hp (by decide) | exact zT_N hv | exact zT_n hv (by decide)) rfl rfl ?_
  refine z_iload_n (q := 34) dX2_copyOne_33 rfl rfl ?_
  refine z_iald (q := 35) dX2_copyOne_34 (by first | exact zT_o hw | exact zT_w hw rfl | exact zT_N (zNo_w hw) | exact zT_n (zNo_w hw) (by decide) | exact zT_N hp | exact zT_n hp (by decide) | exact zT_N hv | exact zT_n hv (by decide)) (by omega) (by omega) rfl ?_
  refine z_eqi (congrFun (e5 _ _) j) ?_
  refine z_iastT (q := 36) dX2_copyOne_35 (zNo_T hp (by decide)) (by omega) rfl ?_
  rw [e2]
  refine z_aload_n (q := 37) dX2_copyOne_36 rfl rfl ?_
  refine z_get (q := 40) dX2_copyOne_37 zfX2_21 (by first | exact zT_o hw | exact zT_w hw rfl | exact zT_N (zNo_w hw) | exact zT_n (zNo_w hw) (by decide) | exact zT_N hp | exact zT_n hp (by decide) | exact zT_N hv | exact zT_n hv (by decide)) rfl rfl ?_
  refine z_iload_n (q := 41) dX2_copyOne_40 rfl rfl ?_
  refine z_aload_n (q := 42) dX2_copyOne_41 rfl rfl ?_
  refine z_get (q := 45) dX2_copyOne_42 zfX2_21 (by first | exact zT_o hw | exact zT_w hw rfl | exact zT_N (zNo_w hw) | exact zT_n (zNo_w hw) (by decide) | exact zT_N hp | exact zT_n hp (by decide) | exact zT_N hv | exact zT_n hv (by decide)) rfl rfl ?_
  refine z_iload_n (q := 46) dX2_copyOne_45 rfl rfl ?_
  refine z_iald (q := 47) dX2_copyOne_46 (by first | exact zT_o hw | exact zT_w hw rfl | exact zT_N (zNo_w hw) | exact zT_n (zNo_w hw) (by decide) | exact zT_N hp | exact zT_n hp (by decide) | exact zT_N hv | exact zT_n hv (by decide)) (by omega) (by omega) rfl ?_
  refine z_eqi (congrFun (e6 _ _ _) j) ?_
  refine z_iastT (q := 48) dX2_copyOne_47 (zNo_T hp (by decide)) (by omega) rfl ?_
  rw [e3]
  exact z_ret dX2_copyOne_48 rfl (⟨rfl, rfl⟩)
/-- what a note is worth: an expired claim is worth nothing -/
def qWo (f : Nat → Int32) (p : Nat) : Int32 := if f p = nI 1 ∧ f (p + 3) ≤ f 2 then nI 0 else f p
theorem qBetter_w {f : Nat → Int32} {p q : Nat} (hp : zPl (f p) 3) (hq : zPl (f q) 3) : qBetter f p q = if qWo f p = qWo f q then (if qWo f p = nI 1 then (if f (p + 2) = f (q + 2) then (if f (p + 1) = f (q + 1) then !decide (f (p + 3) ≤ f (q + 3)) else !decide (f (q + 1) ≤ f (p + 1))) else !decide (f (q + 2) ≤ f (p + 2))) else false) else !decide (qWo f p ≤ qWo f q) := by
  obtain ⟨x, hx, ex⟩ := hp
  obtain ⟨y, hy, ey⟩ := hq
  have d01 : ¬ nI 0 = nI 1 := by decide
  have d02 : ¬ nI 0 = nI 2 := by decide
  have d12 : ¬ nI 1 = nI 2 := by decide
  have d10 : ¬ nI 1 = nI 0 := by decide
  have d20 : ¬ nI 2 = nI 0 := by decide
  have d21 : ¬ nI 2 = nI 1 := by decide
  have l01 : nI 0 ≤ nI 1 := by decide
  have l02 : nI 0 ≤ nI 2 := by decide
  have l12 : nI 1 ≤ nI 2 := by decide
  have l10 : ¬ nI 1 ≤ nI 0 := by decide
  have l20 : ¬ nI 2 ≤ nI 0 := by decide
  have l21 : ¬ nI 2 ≤ nI 1 := by decide
  simp only [qBetter, qLive, qWo]
  rcases (show x = 0 ∨ x = 1 ∨ x = 2 by omega) with rfl | rfl | rfl <;> rcases (show y = 0 ∨ y = 1 ∨ y = 2 by omega) with rfl | rfl | rfl <;> by_cases hp3 : f (p + 3) ≤ f 2 <;> by_cases hq3 : f (q + 3) ≤ f 2 <;> simp [ex, ey, hp3, hq3, d01, d02, d12, d10, d20, d21, l01, l02, l12, l10, l20, l21]
