/-! ===== the component: an agent compares notes, whole ===== -/
theorem cpy4 {e F : Nat → Int32} {B P : Nat} : va_cpy e F B P 4 = qLay F P (e B) (e (B + 1)) (e (B + 2)) (e (B + 3)) := by
  funext j
  simp only [va_cpy, qLay, va_up]
  by_cases h3 : j = P + 3
  · subst h3
    rw [if_pos (by omega), if_pos rfl]
    congr 1
    omega
  · by_cases h2 : j = P + 2
    · subst h2
      rw [if_pos (by omega), if_neg h3, if_pos rfl]
      congr 1
      omega
    · by_cases h1 : j = P + 1
      · subst h1
        rw [if_pos (by omega), if_neg h3, if_neg h2, if_pos rfl]
        congr 1
        omega
      · by_cases h0 : j = P
        · subst h0
          rw [if_pos (by omega), if_neg h3, if_neg h2, if_neg h1, if_pos rfl]
          congr 1
          omega
        · rw [if_neg (by omega), if_neg h3, if_neg h2, if_neg h1, if_neg h0]
theorem qLay_0 {F : Nat → Int32} {P : Nat} {x y z w : Int32} : qLay F P x y z w P = x := by
  rw [qLay, zu_ne (by omega), zu_ne (by omega), zu_ne (by omega), zu_eq]
theorem qLay_3 {F : Nat → Int32} {P : Nat} {x y z w : Int32} : qLay F P x y z w (P + 3) = w := by
  rw [qLay, zu_eq]
theorem qL1_x {e F : Nat → Int32} {n a t : Nat} (h : e (qBst e n a t) = nI 1 ∧ e (qBst e n a t + 3) ≤ F 2) : qL1 e n a t F = qLay F (72 + 4 * (8 * a + t)) (nI 0) (nI 0) (nI 0) (nI 0) := by
  have hc : (decide (qLay F (72 + 4 * (8 * a + t)) (e (qBst e n a t)) (e (qBst e n a t + 1)) (e (qBst e n a t + 2)) (e (qBst e n a t + 3)) (72 + 4 * (8 * a + t)) = nI 1) && !qLive (qLay F (72 + 4 * (8 * a + t)) (e (qBst e n a t)) (e (qBst e n a t + 1)) (e (qBst e n a t + 2)) (e (qBst e n a t + 3))) (72 + 4 * (8 * a + t)) (qLay F (72 + 4 * (8 * a + t)) (e (qBst e n a t)) (e (qBst e n a t + 1)) (e (qBst e n a t + 2)) (e (qBst e n a t + 3)) 2)) = true := by
    rw [qLive, qLay_0, qLay_3, qLay_lt (by omega)]
    simp [h.1, h.2]
  rw [qL1, cpy4, if_pos hc]
  refine qLay_cg (fun j hj => ?_)
  rw [qLay, zu_ne (by omega), zu_ne (by omega), zu_ne (by omega), zu_ne (by omega)]
theorem qL1_n {e F : Nat → Int32} {n a t : Nat} (h : ¬ (e (qBst e n a t) = nI 1 ∧ e (qBst e n a t + 3) ≤ F 2)) : qL1 e n a t F = qLay F (72 + 4 * (8 * a + t)) (e (qBst e n a t)) (e (qBst e n a t + 1)) (e (qBst e n a t + 2)) (e (qBst e n a t + 3)) := by
  have hc : ¬ (decide (qLay F (72 + 4 * (8 * a + t)) (e (qBst e n a t)) (e (qBst e n a t + 1)) (e (qBst e n a t + 2)) (e (qBst e n a t + 3)) (72 + 4 * (8 * a + t)) = nI 1) && !qLive (qLay F (72 + 4 * (8 * a + t)) (e (qBst e n a t)) (e (qBst e n a t + 1)) (e (qBst e n a t + 2)) (e (qBst e n a t + 3))) (72 + 4 * (8 * a + t)) (qLay F (72 + 4 * (8 * a + t)) (e (qBst e n a t)) (e (qBst e n a t + 1)) (e (qBst e n a t + 2)) (e (qBst e n a t + 3)) 2)) = true := by
    rw [qLive, qLay_0, qLay_3, qLay_lt (by omega)]
    by_cases h1 : e (qBst e n a t) = nI 1
    · have h2 : ¬ e (qBst e n a t + 3) ≤ F 2 := fun h9 => h ⟨h1, h9⟩
      simp [h1, h2]
    · simp [h1]
  rw [qL1, cpy4, if_neg hc]
set_option maxRecDepth 100000 in
set_option maxHeartbeats 4000000 in
theorem ct_X4_compareNotes {g : zGl} {h : zHp} {b o n K a : Nat} {d : Nat → Nat → Int32} {e F : Nat → Int32} (hw : zWo o) (hp : zNo 277) (hR : zR d o F n K) (hE : zWF e n K) (hB : ∀ a, a < n → ∀ t, t < K → zRn d 277 e (8 * a + t)) (h72 : ∀ j, j < 72 → F j = e j) (ha : a < n) (hon : qOn F a = true) : zC g mX4_compareNotes [.ref (b + 276), .ref (b + o), .int (nI a)] (zpT g h b d) (zTU g h b (fun D => zR D o (qLt e n a F K) n K ∧ zOut d D o 15) none) 0 0 := by
  have hn := zR_n6 hR
  have hK := zR_K8 hR
  have ho := zWo_lt hw
  have hH : mk (qHears F a) n = mk (qHears e a) n := mk_congr (fun c hc => qHears_72 h72 (by omega) (by omega))
  refine zC_ofA (lv := [some (.ref (b + 276)), some (.ref (b + o)), some (.int (nI a)), none, none, none, none]) (by decide) rfl (Nat.le_of_ble_eq_true rfl) ?_
  have loop : ∀ r i D l5 l6, i + r = K → zR D o (qLt e n a F i) n K → zOut d D o 15 → zA g (zZc g mX4_compareNotes (zTU g h b (fun D => zR D o (qLt e n a F K) n K ∧ zOut d D o 15) none) 0 0) 0 0 9 [some (.ref (b + 276)), some (.ref (b + o)), some (.int (nI a)), some (.int (nI (mk (qHears e a) n))), some (.int (nI i)), l5, l6] [] (zpT g h b D) := by
    intro r
    induction r using Nat.strongRecOn with
    | ind r ih =>
      intro i D l5 l6 hi hD hO
      have hBD : ∀ a, a < n → ∀ t, t < K → zRn D 277 e (8 * a + t) := by
        intro a1 ha1 t1 ht1
        have h9 := hB a1 ha1 t1 ht1
        rw [zRn] at h9 ⊢
        rw [hO (277 + 1) (by omega), hO (277 + 2) (by omega), hO (277 + 3) (by omega), hO (277 + 4) (by omega)]
        exact h9
      have h72D : ∀ j, j < 72 → qLt e n a F i j = e j := fun j hj => (qLt_lt hj).trans (h72 j hj)
      obtain ⟨c, hc, hci⟩ := qBi_c (e := e) (t := i) (i := n) ha (Nat.le_refl n)
      have honD : qOn (qLt e n a F i) a = true := by rw [qOn, qLt_lt (by omega)]; exact hon
      have eS : qLt e n a F (i + 1) = qL1 e n a i (qLt e n a F i) := by rw [qLt_s, if_pos honD]
      have e2 : qLt e n a F i 2 = e 2 := h72D 2 (by decide)
      refine z_iload (q := 11) dX4_compareNotes_9 rfl rfl ?_
      refine z_aload_n (q := 12) dX4_compareNotes_11 rfl rfl ?_
      refine z_get (q := 15) dX4_compareNotes_12 zfX4_52 (by first | exact zT_o hw | exact zT_w hw rfl | exact zT_S | exact zT_N hp | exact zT_N (zNo_w hw) | exact zT_n (zNo_w hw) (by decide)) rfl rfl ?_
      refine z_eqi (zR_1 hD) ?_
      refine z_icmp_geN (tg := 89) (q := 18) dX4_compareNotes_15 rfl rfl (by omega) (by omega) ?_ ?_
      · intro hc15
        exact z_ret dX4_compareNotes_89 rfl (⟨rfl, D, rfl, by rw [show i = K by omega] at hD; exact hD, hO⟩)
      · intro hc15
        have hZ := hBD c hc i hc15
        have wZ := zWF_n hE hc hc15
        rw [← hci] at hZ wZ
        refine z_iload_n (q := 19) dX4_compareNotes_18 rfl rfl ?_
        refine z_iload (q := 21) dX4_compareNotes_19 rfl rfl ?_
        refine z_s2 (q := 24) dX4_compareNotes_21 zkX4_55 zt_mX7_noteIndex rfl (Nat.le_of_ble_eq_true rfl) (ct_X7_noteIndex) rfl ?_
        refine z_istore (q := 26) dX4_compareNotes_24 (Nat.le_of_ble_eq_true rfl) rfl rfl ?_
        refine z_aload_n (q := 27) dX4_compareNotes_26 rfl rfl ?_
        refine z_aload_n (q := 28) dX4_compareNotes_27 rfl rfl ?_
        refine z_iload (q := 30) dX4_compareNotes_28 rfl rfl ?_
        refine z_iload_n (q := 31) dX4_compareNotes_30 rfl rfl ?_
        refine z_iload (q := 33) dX4_compareNotes_31 rfl rfl ?_
        refine z_v4 (q := 36) dX4_compareNotes_33 zkX4_59 zt_mX4_bestNote rfl (by first | exact zT_o hw | exact zT_w hw rfl | exact zT_S | exact zT_N hp | exact zT_N (zNo_w hw) | exact zT_n (zNo_w hw) (by decide)) rfl (Nat.le_of_ble_eq_true rfl) (ct_X4_bestNote hw hp hD hE hBD h72D ha hc15) rfl ?_
        refine z_istore (q := 38) dX4_compareNotes_36 (Nat.le_of_ble_eq_true rfl) rfl rfl ?_
        refine z_aload_n (q := 39) dX4_compareNotes_38 rfl rfl ?_
        refine z_get (q := 42) dX4_compareNotes_39 zfX4_12 (by first | exact zT_o hw | exact zT_w hw rfl | exact zT_S | exact zT_N hp | exact zT_N (zNo_w hw) | exact zT_n (zNo_w hw) (by decide)) rfl rfl ?_
        refine z_iload (q := 44) dX4_compareNotes_42 rfl rfl ?_
        refine z_aload_n (q := 45) dX4_compareNotes_44 rfl rfl ?_
        refine z_get (q := 48) dX4_compareNotes_45 zfX4_45 (by first | exact zT_o hw | exact zT_w hw rfl | exact zT_S | exact zT_N hp | exact zT_N (zNo_w hw) | exact zT_n (zNo_w hw) (by decide)) rfl rfl ?_
        refine z_eqi ((zR_3 hD).trans e2) ?_
        refine z_v2 (q := 51) dX4_compareNotes_48 zkX4_63 zt_mX2_isExpiredClaim rfl (by first | exact zT_o hw | exact zT_w hw rfl | exact zT_S | exact zT_N hp | exact zT_N (zNo_w hw) | exact zT_n (zNo_w hw) (by decide)) rfl (Nat.le_of_ble_eq_true rfl) (ct_X2_isExpiredClaim hp (by omega)) rfl ?_
        refine z_ifb_eq (tg := 68) (q := 54) dX4_compareNotes_51 rfl rfl ?_ ?_
        · intro hc51
          rw [zRn_exp hZ, decide_eq_false_iff_not, ← e2, ← qBi_e] at hc51
          refine z_aload_n (q := 69) dX4_compareNotes_68 rfl rfl ?_
          refine z_get (q := 72) dX4_compareNotes_69 zfX4_18 (by first | exact zT_o hw | exact zT_w hw rfl | exact zT_S | exact zT_N hp | exact zT_N (zNo_w hw) | exact zT_n (zNo_w hw) (by decide)) rfl rfl ?_
          refine z_iload (q := 74) dX4_compareNotes_72 rfl rfl ?_
          refine z_aload_n (q := 75) dX4_compareNotes_74 rfl rfl ?_
          refine z_get (q := 78) dX4_compareNotes_75 zfX4_12 (by first | exact zT_o hw | exact zT_w hw rfl | exact zT_S | exact zT_N hp | exact zT_N (zNo_w hw) | exact zT_n (zNo_w hw) (by decide)) rfl rfl ?_
          refine z_iload (q := 80) dX4_compareNotes_78 rfl rfl ?_
          refine z_w3 (q := 83) dX4_compareNotes_80 zkX4_71 zt_mX2_copyOne rfl (by first | exact zT_o hw | exact zT_w hw rfl | exact zT_S | exact zT_N hp | exact zT_N (zNo_w hw) | exact zT_n (zNo_w hw) (by decide)) rfl (Nat.le_of_ble_eq_true rfl) (ct_X2_copyOne (zNo_w hw) hp (by omega) (by omega) (by omega)) rfl ?_
          refine z_iincN (q := 86) dX4_compareNotes_83 rfl rfl rfl ?_
          refine z_goto (q := 0) (tg := 9) dX4_compareNotes_86 rfl ?_
          first
            | exact ih (r - 1) (by omega) (i + 1) _ _ _ (by omega) (by rw [eS, qL1_x hc51]; exact zR_k0 ha hc15 hD) (zOut_w hO (by omega))
            | refine ih (r - 1) (by omega) (i + 1) _ _ _ (by omega) ?_ (zOut_cl hO)
              rw [eS, qL1_n hc51, qBi_e]
              obtain ⟨k, hk, ek⟩ := wZ.1
              rw [hZ.1, ek]
              by_cases h1 : nI k = nI 1
              · obtain ⟨y2, y3, y4⟩ := hZ.2 (ek.trans h1)
                obtain ⟨c2, hc2, ec2⟩ := wZ.2 (ek.trans h1)
                rw [y2, y3, y4, ec2, h1]
                exact zR_cl ha hc15 ⟨c2, hc2, rfl⟩ hD
              · exact zR_kg ha hc15 ⟨k, hk, rfl⟩ h1 hD
        · intro hc51
          rw [zRn_exp hZ, decide_eq_true_eq, ← e2, ← qBi_e] at hc51
          refine z_aload_n (q := 55) dX4_compareNotes_54 rfl rfl ?_
          refine z_get (q := 58) dX4_compareNotes_55 zfX4_18 (by first | exact zT_o hw | exact zT_w hw rfl | exact zT_S | exact zT_N hp | exact zT_N (zNo_w hw) | exact zT_n (zNo_w hw) (by decide)) rfl rfl ?_
          refine z_get (q := 61) dX4_compareNotes_58 zfX4_67 (by first | exact zT_o hw | exact zT_w hw rfl | exact zT_S | exact zT_N hp | exact zT_N (zNo_w hw) | exact zT_n (zNo_w hw) (by decide)) rfl rfl ?_
          refine z_iload (q := 63) dX4_compareNotes_61 rfl rfl ?_
          refine z_iconst (q := 64) dX4_compareNotes_63 zci_0 rfl ?_
          refine z_iastT (q := 65) dX4_compareNotes_64 (zNo_T (zNo_w hw) (by decide)) (by omega) rfl ?_
          refine z_goto (q := 0) (tg := 83) dX4_compareNotes_65 rfl ?_
          refine z_iincN (q := 86) dX4_compareNotes_83 rfl rfl rfl ?_
          refine z_goto (q := 0) (tg := 9) dX4_compareNotes_86 rfl ?_
          first
            | exact ih (r - 1) (by omega) (i + 1) _ _ _ (by omega) (by rw [eS, qL1_x hc51]; exact zR_k0 ha hc15 hD) (zOut_w hO (by omega))
            | refine ih (r - 1) (by omega) (i + 1) _ _ _ (by omega) ?_ (zOut_cl hO)
              rw [eS, qL1_n hc51, qBi_e]
              obtain ⟨k, hk, ek⟩ := wZ.1
              rw [hZ.1, ek]
              by_cases h1 : nI k = nI 1
              · obtain ⟨y2, y3, y4⟩ := hZ.2 (ek.trans h1)
                obtain ⟨c2, hc2, ec2⟩ := wZ.2 (ek.trans h1)
                rw [y2, y3, y4, ec2, h1]
                exact zR_cl ha hc15 ⟨c2, hc2, rfl⟩ hD
              · exact zR_kg ha hc15 ⟨k, hk, rfl⟩ h1 hD
  refine z_aload_n (q := 1) dX4_compareNotes_0 rfl rfl ?_
  refine z_iload_n (q := 2) dX4_compareNotes_1 rfl rfl ?_
  refine z_v1 (q := 5) dX4_compareNotes_2 zkX4_48 zt_mX6_heardBy rfl (by first | exact zT_o hw | exact zT_w hw rfl | exact zT_S | exact zT_N hp | exact zT_N (zNo_w hw) | exact zT_n (zNo_w hw) (by decide)) rfl (Nat.le_of_ble_eq_true rfl) (ct_X6_heardBy hw hR ha) rfl ?_
  refine z_eqi (congrArg nI hH) ?_
  refine z_istore_n (q := 6) dX4_compareNotes_5 (Nat.le_of_ble_eq_true rfl) rfl rfl ?_
  refine z_iconst (q := 7) dX4_compareNotes_6 zci_0 rfl ?_
  refine z_istore (q := 9) dX4_compareNotes_7 (Nat.le_of_ble_eq_true rfl) rfl rfl ?_
  exact loop K 0 d _ _ (by omega) hR zOut_r
