/-! ===== the component: the nearest task ===== -/
theorem qNear_s' {p : Nat → Bool} {D : Nat → Int32} {i : Nat} : qNear p D (i + 1) = if p i && (match qNear p D i with
  | none => true
  | some k => !decide (D k ≤ D i)) then some i else qNear p D i := rfl
theorem qNear_k {p : Nat → Bool} {D : Nat → Int32} {i k : Nat} (h : qNear p D i = some k) (hp : p i = true) (hd : ¬ D k ≤ D i) : qNear p D (i + 1) = some i := by
  rw [qNear_s', h, hp]
  simp [hd]
theorem qNear_0 {p : Nat → Bool} {D : Nat → Int32} {i : Nat} (h : qNear p D i = none) (hp : p i = true) : qNear p D (i + 1) = some i := by
  rw [qNear_s', h, hp]
  rfl
theorem qNear_f {p : Nat → Bool} {D : Nat → Int32} {i : Nat} (hp : p i = false) : qNear p D (i + 1) = qNear p D i := by
  rw [qNear_s', hp]
  rfl
theorem qNear_g {p : Nat → Bool} {D : Nat → Int32} {i k : Nat} (h : qNear p D i = some k) (hd : D k ≤ D i) : qNear p D (i + 1) = qNear p D i := by
  rw [qNear_s', h]
  simp [hd]
set_option maxRecDepth 100000 in
set_option maxHeartbeats 4000000 in
theorem ct_X4_nearest1 {g : zGl} {h : zHp} {b o n K a : Nat} {d : Nat → Nat → Int32} {f : Nat → Int32} (hw : zWo o) (hR : zR d o f n K) (ha : a < n) : zC g mX4_nearest [.ref (b + o), .int (nI a), .int (nI 1)] (zpT g h b d) (zV (zpT g h b d) (.int (qT (qNear (qOwn f a) (qFar f a) K)))) 0 0 := by
  have hn := zR_n6 hR
  have hK := zR_K8 hR
  refine zC_ofA (lv := [some (.ref (b + o)), some (.int (nI a)), some (.int (nI 1)), none, none, none, none, none]) (by decide) rfl (Nat.le_of_ble_eq_true rfl) ?_
  have loop : ∀ r i l4 l6 l7, i + r = K → (∀ k, qNear (qOwn f a) (qFar f a) i = some k → l4 = qFar f a k) → zA g (zZc g mX4_nearest (zV (zpT g h b d) (.int (qT (qNear (qOwn f a) (qFar f a) K)))) 0 0) 0 0 9 [some (.ref (b + o)), some (.int (nI a)), some (.int (nI 1)), some (.int (qT (qNear (qOwn f a) (qFar f a) i))), some (.int l4), some (.int (nI i)), l6, l7] [] (zpT g h b d) := by
    intro r
    induction r using Nat.strongRecOn with
    | ind r ih =>
      intro i l4 l6 l7 hi h4
      have up : ∀ x6 x7, i < K → qNear (qOwn f a) (qFar f a) (i + 1) = some i → zA g (zZc g mX4_nearest (zV (zpT g h b d) (.int (qT (qNear (qOwn f a) (qFar f a) K)))) 0 0) 0 0 9 [some (.ref (b + o)), some (.int (nI a)), some (.int (nI 1)), some (.int (nI i)), some (.int (qFar f a i)), some (.int (nI (i + 1))), x6, x7] [] (zpT g h b d) := by
        intro x6 x7 hiK hN
        have e9 := ih (r - 1) (by omega) (i + 1) (qFar f a i) x6 x7 (by omega) (fun k hk => by rw [hN] at hk; cases hk; rfl)
        rw [hN] at e9
        exact e9
      have no : ∀ x6 x7, i < K → qNear (qOwn f a) (qFar f a) (i + 1) = qNear (qOwn f a) (qFar f a) i → zA g (zZc g mX4_nearest (zV (zpT g h b d) (.int (qT (qNear (qOwn f a) (qFar f a) K)))) 0 0) 0 0 9 [some (.ref (b + o)), some (.int (nI a)), some (.int (nI 1)), some (.int (qT (qNear (qOwn f a) (qFar f a) i))), some (.int l4), some (.int (nI (i + 1))), x6, x7] [] (zpT g h b d) := by
        intro x6 x7 hiK hN
        have e9 := ih (r - 1) (by omega) (i + 1) l4 x6 x7 (by omega) (fun k hk => by rw [hN] at hk; exact h4 k hk)
        rw [hN] at e9
        exact e9
      cases hq : qNear (qOwn f a) (qFar f a) i with
      | none =>
        rw [hq] at no
        have eK : i = K → qNear (qOwn f a) (qFar f a) K = none := fun e => by rw [← e]; exact hq
        show zA g (zZc g mX4_nearest (zV (zpT g h b d) (.int (qT (qNear (qOwn f a) (qFar f a) K)))) 0 0) 0 0 9 [some (.ref (b + o)), some (.int (nI a)), some (.int (nI 1)), some (.int (-9)), some (.int l4), some (.int (nI i)), l6, l7] [] (zpT g h b d)
        refine z_iload (q := 11) dX4_nearest_9 rfl rfl ?_
        refine z_aload_n (q := 12) dX4_nearest_11 rfl rfl ?_
        refine z_get (q := 15) dX4_nearest_12 zfX4_52 (by first | exact zT_o hw | exact zT_w hw rfl | exact zT_N (zNo_w hw) | exact zT_n (zNo_w hw) (by decide)) rfl rfl ?_
        refine z_eqi (zR_1 hR) ?_
        refine z_icmp_geN (tg := 96) (q := 18) dX4_nearest_15 rfl rfl (by omega) (by omega) ?_ ?_
        · intro hc15
          refine z_iload_n (q := 97) dX4_nearest_96 rfl rfl ?_
          exact z_reti dX4_nearest_97 rfl (⟨by rw [eK (by omega)]; rfl, rfl⟩)
        · intro hc15
          refine z_iload_n (q := 19) dX4_nearest_18 rfl rfl ?_
          refine z_if_eq (tg := 32) (q := 22) dX4_nearest_19 rfl rfl ?_ ?_
          · intro hc19
            exact absurd hc19 (by decide)
          · intro hc19
            refine z_aload_n (q := 23) dX4_nearest_22 rfl rfl ?_
            refine z_iload_n (q := 24) dX4_nearest_23 rfl rfl ?_
            refine z_iload (q := 26) dX4_nearest_24 rfl rfl ?_
            refine z_v2 (q := 29) dX4_nearest_26 zkX4_99 zt_mX6_ownsLiveClaim rfl (by first | exact zT_o hw | exact zT_w hw rfl | exact zT_N (zNo_w hw) | exact zT_n (zNo_w hw) (by decide)) rfl (Nat.le_of_ble_eq_true rfl) (ct_X6_ownsLiveClaim hw hR ha (by omega)) rfl ?_
            refine z_goto (q := 0) (tg := 54) dX4_nearest_29 rfl ?_
            refine z_istore (q := 56) dX4_nearest_54 (Nat.le_of_ble_eq_true rfl) rfl rfl ?_
            refine z_aload_n (q := 57) dX4_nearest_56 rfl rfl ?_
            refine z_iload_n (q := 58) dX4_nearest_57 rfl rfl ?_
            refine z_iload (q := 60) dX4_nearest_58 rfl rfl ?_
            refine z_v2 (q := 63) dX4_nearest_60 zkX4_89 zt_mX6_wayToTask rfl (by first | exact zT_o hw | exact zT_w hw rfl | exact zT_N (zNo_w hw) | exact zT_n (zNo_w hw) (by decide)) rfl (Nat.le_of_ble_eq_true rfl) (ct_X6_wayToTask hw hR ha (by omega)) rfl ?_
            refine z_istore (q := 65) dX4_nearest_63 (Nat.le_of_ble_eq_true rfl) rfl rfl ?_
            refine z_iload (q := 67) dX4_nearest_65 rfl rfl ?_
            refine z_ifb_eq (tg := 90) (q := 70) dX4_nearest_67 rfl rfl ?_ ?_
            · intro hc67
              refine z_iincN (q := 93) dX4_nearest_90 rfl rfl rfl ?_
              refine z_goto (q := 0) (tg := 9) dX4_nearest_93 rfl ?_
              first
                | exact up _ _ (by omega) (qNear_0 hq hc67)
                | exact no _ _ (by omega) ((qNear_f hc67).trans hq)
            · intro hc67
              refine z_iload_n (q := 71) dX4_nearest_70 rfl rfl ?_
              refine z_bipush (q := 73) dX4_nearest_71 zcb_m9 rfl ?_
              refine z_icmp_eq (tg := 83) (q := 76) dX4_nearest_73 rfl rfl ?_ ?_
              · intro hc73
                refine z_iload (q := 85) dX4_nearest_83 rfl rfl ?_
                refine z_istore_n (q := 86) dX4_nearest_85 (Nat.le_of_ble_eq_true rfl) rfl rfl ?_
                refine z_iload (q := 88) dX4_nearest_86 rfl rfl ?_
                refine z_istore (q := 90) dX4_nearest_88 (Nat.le_of_ble_eq_true rfl) rfl rfl ?_
                refine z_iincN (q := 93) dX4_nearest_90 rfl rfl rfl ?_
                refine z_goto (q := 0) (tg := 9) dX4_nearest_93 rfl ?_
                first
                  | exact up _ _ (by omega) (qNear_0 hq hc67)
                  | exact no _ _ (by omega) ((qNear_f hc67).trans hq)
              · intro hc73
                exact absurd rfl hc73
      | some k =>
        rw [hq] at no
        have eK : i = K → qNear (qOwn f a) (qFar f a) K = some k := fun e => by rw [← e]; exact hq
        have hk := h4 k hq
        have hki : k < i := (qNear_lt hq).1
        show zA g (zZc g mX4_nearest (zV (zpT g h b d) (.int (qT (qNear (qOwn f a) (qFar f a) K)))) 0 0) 0 0 9 [some (.ref (b + o)), some (.int (nI a)), some (.int (nI 1)), some (.int (nI k)), some (.int l4), some (.int (nI i)), l6, l7] [] (zpT g h b d)
        refine z_iload (q := 11) dX4_nearest_9 rfl rfl ?_
        refine z_aload_n (q := 12) dX4_nearest_11 rfl rfl ?_
        refine z_get (q := 15) dX4_nearest_12 zfX4_52 (by first | exact zT_o hw | exact zT_w hw rfl | exact zT_N (zNo_w hw) | exact zT_n (zNo_w hw) (by decide)) rfl rfl ?_
        refine z_eqi (zR_1 hR) ?_
        refine z_icmp_geN (tg := 96) (q := 18) dX4_nearest_15 rfl rfl (by omega) (by omega) ?_ ?_
        · intro hc15
          refine z_iload_n (q := 97) dX4_nearest_96 rfl rfl ?_
          exact z_reti dX4_nearest_97 rfl (⟨by rw [eK (by omega)]; rfl, rfl⟩)
        · intro hc15
          refine z_iload_n (q := 19) dX4_nearest_18 rfl rfl ?_
          refine z_if_eq (tg := 32) (q := 22) dX4_nearest_19 rfl rfl ?_ ?_
          · intro hc19
            exact absurd hc19 (by decide)
          · intro hc19
            refine z_aload_n (q := 23) dX4_nearest_22 rfl rfl ?_
            refine z_iload_n (q := 24) dX4_nearest_23 rfl rfl ?_
            refine z_iload (q := 26) dX4_nearest_24 rfl rfl ?_
            refine z_v2 (q := 29) dX4_nearest_26 zkX4_99 zt_mX6_ownsLiveClaim rfl (by first | exact zT_o hw | exact zT_w hw rfl | exact zT_N (zNo_w hw) | exact zT_n (zNo_w hw) (by decide)) rfl (Nat.le_of_ble_eq_true rfl) (ct_X6_ownsLiveClaim hw hR ha (by omega)) rfl ?_
            refine z_goto (q := 0) (tg := 54) dX4_nearest_29 rfl ?_
            refine z_istore (q := 56) dX4_nearest_54 (Nat.le_of_ble_eq_true rfl) rfl rfl ?_
            refine z_aload_n (q := 57) dX4_nearest_56 rfl rfl ?_
            refine z_iload_n (q := 58) dX4_nearest_57 rfl rfl ?_
            refine z_iload (q := 60) dX4_nearest_58 rfl rfl ?_
            refine z_v2 (q := 63) dX4_nearest_60 zkX4_89 zt_mX6_wayToTask rfl (by first | exact zT_o hw | exact zT_w hw rfl | exact zT_N (zNo_w hw) | exact zT_n (zNo_w hw) (by decide)) rfl (Nat.le_of_ble_eq_true rfl) (ct_X6_wayToTask hw hR ha (by omega)) rfl ?_
            refine z_istore (q := 65) dX4_nearest_63 (Nat.le_of_ble_eq_true rfl) rfl rfl ?_
            refine z_iload (q := 67) dX4_nearest_65 rfl rfl ?_
            refine z_ifb_eq (tg := 90) (q := 70) dX4_nearest_67 rfl rfl ?_ ?_
            · intro hc67
              refine z_iincN (q := 93) dX4_nearest_90 rfl rfl rfl ?_
              refine z_goto (q := 0) (tg := 9) dX4_nearest_93 rfl ?_
              first
                | exact up _ _ (by omega) (qNear_k hq hc67 (by rw [← hk]; exact hc80))
                | exact no _ _ (by omega) ((qNear_g hq (by rw [← hk]; exact hc80)).trans hq)
                | exact no _ _ (by omega) ((qNear_f hc67).trans hq)
            · intro hc67
              refine z_iload_n (q := 71) dX4_nearest_70 rfl rfl ?_
              refine z_bipush (q := 73) dX4_nearest_71 zcb_m9 rfl ?_
              refine z_icmp_eq (tg := 83) (q := 76) dX4_nearest_73 rfl rfl ?_ ?_
              · intro hc73
                exact absurd hc73 (nI_nm9 (by omega))
              · intro hc73
                refine z_iload (q := 78) dX4_nearest_76 rfl rfl ?_
                refine z_iload (q := 80) dX4_nearest_78 rfl rfl ?_
                refine z_icmp_ge (tg := 90) (q := 83) dX4_nearest_80 rfl rfl ?_ ?_
                · intro hc80
                  refine z_iincN (q := 93) dX4_nearest_90 rfl rfl rfl ?_
                  refine z_goto (q := 0) (tg := 9) dX4_nearest_93 rfl ?_
                  first
                    | exact up _ _ (by omega) (qNear_k hq hc67 (by rw [← hk]; exact hc80))
                    | exact no _ _ (by omega) ((qNear_g hq (by rw [← hk]; exact hc80)).trans hq)
                    | exact no _ _ (by omega) ((qNear_f hc67).trans hq)
                · intro hc80
                  refine z_iload (q := 85) dX4_nearest_83 rfl rfl ?_
                  refine z_istore_n (q := 86) dX4_nearest_85 (Nat.le_of_ble_eq_true rfl) rfl rfl ?_
                  refine z_iload (q := 88) dX4_nearest_86 rfl rfl ?_
                  refine z_istore (q := 90) dX4_nearest_88 (Nat.le_of_ble_eq_true rfl) rfl rfl ?_
                  refine z_iincN (q := 93) dX4_nearest_90 rfl rfl rfl ?_
                  refine z_goto (q := 0) (tg := 9) dX4_nearest_93 rfl ?_
                  first
                    | exact up _ _ (by omega) (qNear_k hq hc67 (by rw [← hk]; exact hc80))
                    | exact no _ _ (by omega) ((qNear_g hq (by rw [← hk]; exact hc80)).trans hq)
                    | exact no _ _ (by omega) ((qNear_f hc67).trans hq)
  refine z_bipush (q := 2) dX4_nearest_0 zcb_m9 rfl ?_
  refine z_istore_n (q := 3) dX4_nearest_2 (Nat.le_of_ble_eq_true rfl) rfl rfl ?_
  refine z_iconst (q := 4) dX4_nearest_3 zci_0 rfl ?_
  refine z_istore (q := 6) dX4_nearest_4 (Nat.le_of_ble_eq_true rfl) rfl rfl ?_
  refine z_iconst (q := 7) dX4_nearest_6 zci_0 rfl ?_
  refine z_istore (q := 9) dX4_nearest_7 (Nat.le_of_ble_eq_true rfl) rfl rfl ?_
  exact loop K 0 (nI 0) _ _ (by omega) (fun k hk => by cases hk)
set_option maxRecDepth 100000 in
set_option maxHeartbeats 4000000 in
theorem ct_X4_nearest0 {g : zGl} {h : zHp} {b o n K a : Nat} {d : Nat → Nat → Int32} {f : Nat → Int32} (hw : zWo o) (hR : zR d o f n K) (ha : a < n) : zC g mX4_nearest [.ref (b + o), .int (nI a), .int (nI 0)] (zpT g h b d) (zV (zpT g h b d) (.int (qT (qNear (qFree f a) (qFar f a) K)))) 0 0 := by
  have hn := zR_n6 hR
  have hK := zR_K8 hR
  refine zC_ofA (lv := [some (.ref (b + o)), some (.int (nI a)), some (.int (nI 0)), none, none, none, none, none]) (by decide) rfl (Nat.le_of_ble_eq_true rfl) ?_
  have loop : ∀ r i l4 l6 l7, i + r = K → (∀ k, qNear (qFree f a) (qFar f a) i = some k → l4 = qFar f a k) → zA g (zZc g mX4_nearest (zV (zpT g h b d) (.int (qT (qNear (qFree f a) (qFar f a) K)))) 0 0) 0 0 9 [some (.ref (b + o)), some (.int (nI a)), some (.int (nI 0)), some (.int (qT (qNear (qFree f a) (qFar f a) i))), some (.int l4), some (.int (nI i)), l6, l7] [] (zpT g h b d) := by
    intro r
    induction r using Nat.strongRecOn with
    | ind r ih =>
      intro i l4 l6 l7 hi h4
      have up : ∀ x6 x7, i < K → qNear (qFree f a) (qFar f a) (i + 1) = some i → zA g (zZc g mX4_nearest (zV (zpT g h b d) (.int (qT (qNear (qFree f a) (qFar f a) K)))) 0 0) 0 0 9 [some (.ref (b + o)), some (.int (nI a)), some (.int (nI 0)), some (.int (nI i)), some (.int (qFar f a i)), some (.int (nI (i + 1))), x6, x7] [] (zpT g h b d) := by
        intro x6 x7 hiK hN
        have e9 := ih (r - 1) (by omega) (i + 1) (qFar f a i) x6 x7 (by omega) (fun k hk => by rw [hN] at hk; cases hk; rfl)
        rw [hN] at e9
        exact e9
      have no : ∀ x6 x7, i < K → qNear (qFree f a) (qFar f a) (i + 1) = qNear (qFree f a) (qFar f a) i → zA g (zZc g mX4_nearest (zV (zpT g h b d) (.int (qT (qNear (qFree f a) (qFar f a) K)))) 0 0) 0 0 9 [some (.ref (b + o)), some (.int (nI a)), some (.int (nI 0)), some (.int (qT (qNear (qFree f a) (qFar f a) i))), some (.int l4), some (.int (nI (i + 1))), x6, x7] [] (zpT g h b d) := by
        intro x6 x7 hiK hN
        have e9 := ih (r - 1) (by omega) (i + 1) l4 x6 x7 (by omega) (fun k hk => by rw [hN] at hk; exact h4 k hk)
        rw [hN] at e9
        exact e9
      cases hq : qNear (qFree f a) (qFar f a) i with
      | none =>
        rw [hq] at no
        have eK : i = K → qNear (qFree f a) (qFar f a) K = none := fun e => by rw [← e]; exact hq
        show zA g (zZc g mX4_nearest (zV (zpT g h b d) (.int (qT (qNear (qFree f a) (qFar f a) K)))) 0 0) 0 0 9 [some (.ref (b + o)), some (.int (nI a)), some (.int (nI 0)), some (.int (-9)), some (.int l4), some (.int (nI i)), l6, l7] [] (zpT g h b d)
        refine z_iload (q := 11) dX4_nearest_9 rfl rfl ?_
        refine z_aload_n (q := 12) dX4_nearest_11 rfl rfl ?_
        refine z_get (q := 15) dX4_nearest_12 zfX4_52 (by first | exact zT_o hw | exact zT_w hw rfl | exact zT_N (zNo_w hw) | exact zT_n (zNo_w hw) (by decide)) rfl rfl ?_
        refine z_eqi (zR_1 hR) ?_
        refine z_icmp_geN (tg := 96) (q := 18) dX4_nearest_15 rfl rfl (by omega) (by omega) ?_ ?_
        · intro hc15
          refine z_iload_n (q := 97) dX4_nearest_96 rfl rfl ?_
          exact z_reti dX4_nearest_97 rfl (⟨by rw [eK (by omega)]; rfl, rfl⟩)
        · intro hc15
          refine z_iload_n (q := 19) dX4_nearest_18 rfl rfl ?_
          refine z_if_eq (tg := 32) (q := 22) dX4_nearest_19 rfl rfl ?_ ?_
          · intro hc19
            refine z_aload_n (q := 33) dX4_nearest_32 rfl rfl ?_
            refine z_get (q := 36) dX4_nearest_33 zfX4_18 (by first | exact zT_o hw | exact zT_w hw rfl | exact zT_N (zNo_w hw) | exact zT_n (zNo_w hw) (by decide)) rfl rfl ?_
            refine z_get (q := 39) dX4_nearest_36 zfX4_67 (by first | exact zT_o hw | exact zT_w hw rfl | exact zT_N (zNo_w hw) | exact zT_n (zNo_w hw) (by decide)) rfl rfl ?_
            refine z_iload_n (q := 40) dX4_nearest_39 rfl rfl ?_
            refine z_iload (q := 42) dX4_nearest_40 rfl rfl ?_
            refine z_s2 (q := 45) dX4_nearest_42 zkX4_55 zt_mX7_noteIndex rfl (Nat.le_of_ble_eq_true rfl) (ct_X7_noteIndex) rfl ?_
            refine z_iald (q := 46) dX4_nearest_45 (by first | exact zT_o hw | exact zT_w hw rfl | exact zT_N (zNo_w hw) | exact zT_n (zNo_w hw) (by decide)) (by omega) (by omega) rfl ?_
            refine z_eqi (zR_n hR ha (by omega)).1 ?_
            refine z_if_ne (tg := 53) (q := 49) dX4_nearest_46 rfl rfl ?_ ?_
            · intro hc46
              refine z_iconst (q := 54) dX4_nearest_53 zci_0 rfl ?_
              refine z_istore (q := 56) dX4_nearest_54 (Nat.le_of_ble_eq_true rfl) rfl rfl ?_
              refine z_aload_n (q := 57) dX4_nearest_56 rfl rfl ?_
              refine z_iload_n (q := 58) dX4_nearest_57 rfl rfl ?_
              refine z_iload (q := 60) dX4_nearest_58 rfl rfl ?_
              refine z_v2 (q := 63) dX4_nearest_60 zkX4_89 zt_mX6_wayToTask rfl (by first | exact zT_o hw | exact zT_w hw rfl | exact zT_N (zNo_w hw) | exact zT_n (zNo_w hw) (by decide)) rfl (Nat.le_of_ble_eq_true rfl) (ct_X6_wayToTask hw hR ha (by omega)) rfl ?_
              refine z_istore (q := 65) dX4_nearest_63 (Nat.le_of_ble_eq_true rfl) rfl rfl ?_
              refine z_iload (q := 67) dX4_nearest_65 rfl rfl ?_
              refine z_if_eq (tg := 90) (q := 70) dX4_nearest_67 rfl rfl ?_ ?_
              · intro hc67
                refine z_iincN (q := 93) dX4_nearest_90 rfl rfl rfl ?_
                refine z_goto (q := 0) (tg := 9) dX4_nearest_93 rfl ?_
                first
                  | exact up _ _ (by omega) (qNear_0 hq (decide_eq_true hc46))
                  | exact no _ _ (by omega) ((qNear_f (decide_eq_false hc46)).trans hq)
              · intro hc67
                exact absurd hc67 (by decide)
            · intro hc46
              refine z_iconst (q := 50) dX4_nearest_49 zci_1 rfl ?_
              refine z_goto (q := 0) (tg := 54) dX4_nearest_50 rfl ?_
              refine z_istore (q := 56) dX4_nearest_54 (Nat.le_of_ble_eq_true rfl) rfl rfl ?_
              refine z_aload_n (q := 57) dX4_nearest_56 rfl rfl ?_
              refine z_iload_n (q := 58) dX4_nearest_57 rfl rfl ?_
              refine z_iload (q := 60) dX4_nearest_58 rfl rfl ?_
              refine z_v2 (q := 63) dX4_nearest_60 zkX4_89 zt_mX6_wayToTask rfl (by first | exact zT_o hw | exact zT_w hw rfl | exact zT_N (zNo_w hw) | exact zT_n (zNo_w hw) (by decide)) rfl (Nat.le_of_ble_eq_true rfl) (ct_X6_wayToTask hw hR ha (by omega)) rfl ?_
              refine z_istore (q := 65) dX4_nearest_63 (Nat.le_of_ble_eq_true rfl) rfl rfl ?_
              refine z_iload (q := 67) dX4_nearest_65 rfl rfl ?_
              refine z_if_eq (tg := 90) (q := 70) dX4_nearest_67 rfl rfl ?_ ?_
              · intro hc67
                exact absurd hc67 (by decide)
              · intro hc67
                refine z_iload_n (q := 71) dX4_nearest_70 rfl rfl ?_
                refine z_bipush (q := 73) dX4_nearest_71 zcb_m9 rfl ?_
                refine z_icmp_eq (tg := 83) (q := 76) dX4_nearest_73 rfl rfl ?_ ?_
                · intro hc73
                  refine z_iload (q := 85) dX4_nearest_83 rfl rfl ?_
                  refine z_istore_n (q := 86) dX4_nearest_85 (Nat.le_of_ble_eq_true rfl) rfl rfl ?_
                  refine z_iload (q := 88) dX4_nearest_86 rfl rfl ?_
                  refine z_istore (q := 90) dX4_nearest_88 (Nat.le_of_ble_eq_true rfl) rfl rfl ?_
                  refine z_iincN (q := 93) dX4_nearest_90 rfl rfl rfl ?_
                  refine z_goto (q := 0) (tg := 9) dX4_nearest_93 rfl ?_
                  first
                    | exact up _ _ (by omega) (qNear_0 hq (decide_eq_true hc46))
                    | exact no _ _ (by omega) ((qNear_f (decide_eq_false hc46)).trans hq)
                · intro hc73
                  exact absurd rfl hc73
          · intro hc19
            exact absurd hc19 (by decide)
      | some k =>
        rw [hq] at no
        have eK : i = K → qNear (qFree f a) (qFar f a) K = some k := fun e => by rw [← e]; exact hq
        have hk := h4 k hq
        have hki : k < i := (qNear_lt hq).1
        show zA g (zZc g mX4_nearest (zV (zpT g h b d) (.int (qT (qNear (qFree f a) (qFar f a) K)))) 0 0) 0 0 9 [some (.ref (b + o)), some (.int (nI a)), some (.int (nI 0)), some (.int (nI k)), some (.int l4), some (.int (nI i)), l6, l7] [] (zpT g h b d)
        refine z_iload (q := 11) dX4_nearest_9 rfl rfl ?_
        refine z_aload_n (q := 12) dX4_nearest_11 rfl rfl ?_
        refine z_get (q := 15) dX4_nearest_12 zfX4_52 (by first | exact zT_o hw | exact zT_w hw rfl | exact zT_N (zNo_w hw) | exact zT_n (zNo_w hw) (by decide)) rfl rfl ?_
        refine z_eqi (zR_1 hR) ?_
        refine z_icmp_geN (tg := 96) (q := 18) dX4_nearest_15 rfl rfl (by omega) (by omega) ?_ ?_
        · intro hc15
          refine z_iload_n (q := 97) dX4_nearest_96 rfl rfl ?_
          exact z_reti dX4_nearest_97 rfl (⟨by rw [eK (by omega)]; rfl, rfl⟩)
        · intro hc15
          refine z_iload_n (q := 19) dX4_nearest_18 rfl rfl ?_
          refine z_if_eq (tg := 32) (q := 22) dX4_nearest_19 rfl rfl ?_ ?_
          · intro hc19
            refine z_aload_n (q := 33) dX4_nearest_32 rfl rfl ?_
            refine z_get (q := 36) dX4_nearest_33 zfX4_18 (by first | exact zT_o hw | exact zT_w hw rfl | exact zT_N (zNo_w hw) | exact zT_n (zNo_w hw) (by decide)) rfl rfl ?_
            refine z_get (q := 39) dX4_nearest_36 zfX4_67 (by first | exact zT_o hw | exact zT_w hw rfl | exact zT_N (zNo_w hw) | exact zT_n (zNo_w hw) (by decide)) rfl rfl ?_
            refine z_iload_n (q := 40) dX4_nearest_39 rfl rfl ?_
            refine z_iload (q := 42) dX4_nearest_40 rfl rfl ?_
            refine z_s2 (q := 45) dX4_nearest_42 zkX4_55 zt_mX7_noteIndex rfl (Nat.le_of_ble_eq_true rfl) (ct_X7_noteIndex) rfl ?_
            refine z_iald (q := 46) dX4_nearest_45 (by first | exact zT_o hw | exact zT_w hw rfl | exact zT_N (zNo_w hw) | exact zT_n (zNo_w hw) (by decide)) (by omega) (by omega) rfl ?_
            refine z_eqi (zR_n hR ha (by omega)).1 ?_
            refine z_if_ne (tg := 53) (q := 49) dX4_nearest_46 rfl rfl ?_ ?_
            · intro hc46
              refine z_iconst (q := 54) dX4_nearest_53 zci_0 rfl ?_
              refine z_istore (q := 56) dX4_nearest_54 (Nat.le_of_ble_eq_true rfl) rfl rfl ?_
              refine z_aload_n (q := 57) dX4_nearest_56 rfl rfl ?_
              refine z_iload_n (q := 58) dX4_nearest_57 rfl rfl ?_
              refine z_iload (q := 60) dX4_nearest_58 rfl rfl ?_
              refine z_v2 (q := 63) dX4_nearest_60 zkX4_89 zt_mX6_wayToTask rfl (by first | exact zT_o hw | exact zT_w hw rfl | exact zT_N (zNo_w hw) | exact zT_n (zNo_w hw) (by decide)) rfl (Nat.le_of_ble_eq_true rfl) (ct_X6_wayToTask hw hR ha (by omega)) rfl ?_
              refine z_istore (q := 65) dX4_nearest_63 (Nat.le_of_ble_eq_true rfl) rfl rfl ?_
              refine z_iload (q := 67) dX4_nearest_65 rfl rfl ?_
              refine z_if_eq (tg := 90) (q := 70) dX4_nearest_67 rfl rfl ?_ ?_
              · intro hc67
                refine z_iincN (q := 93) dX4_nearest_90 rfl rfl rfl ?_
                refine z_goto (q := 0) (tg := 9) dX4_nearest_93 rfl ?_
                first
                  | exact up _ _ (by omega) (qNear_k hq (decide_eq_true hc46) (by rw [← hk]; exact hc80))
                  | exact no _ _ (by omega) ((qNear_g hq (by rw [← hk]; exact hc80)).trans hq)
                  | exact no _ _ (by omega) ((qNear_f (decide_eq_false hc46)).trans hq)
              · intro hc67
                exact absurd hc67 (by decide)
            · intro hc46
              refine z_iconst (q := 50) dX4_nearest_49 zci_1 rfl ?_
              refine z_goto (q := 0) (tg := 54) dX4_nearest_50 rfl ?_
              refine z_istore (q := 56) dX4_nearest_54 (Nat.le_of_ble_eq_true rfl) rfl rfl ?_
              refine z_aload_n (q := 57) dX4_nearest_56 rfl rfl ?_
              refine z_iload_n (q := 58) dX4_nearest_57 rfl rfl ?_
              refine z_iload (q := 60) dX4_nearest_58 rfl rfl ?_
              refine z_v2 (q := 63) dX4_nearest_60 zkX4_89 zt_mX6_wayToTask rfl (by first | exact zT_o hw | exact zT_w hw rfl | exact zT_N (zNo_w hw) | exact zT_n (zNo_w hw) (by decide)) rfl (Nat.le_of_ble_eq_true rfl) (ct_X6_wayToTask hw hR ha (by omega)) rfl ?_
              refine z_istore (q := 65) dX4_nearest_63 (Nat.le_of_ble_eq_true rfl) rfl rfl ?_
              refine z_iload (q := 67) dX4_nearest_65 rfl rfl ?_
              refine z_if_eq (tg := 90) (q := 70) dX4_nearest_67 rfl rfl ?_ ?_
              · intro hc67
                exact absurd hc67 (by decide)
              · intro hc67
                refine z_iload_n (q := 71) dX4_nearest_70 rfl rfl ?_
                refine z_bipush (q := 73) dX4_nearest_71 zcb_m9 rfl ?_
                refine z_icmp_eq (tg := 83) (q := 76) dX4_nearest_73 rfl rfl ?_ ?_
                · intro hc73
                  exact absurd hc73 (nI_nm9 (by omega))
                · intro hc73
                  refine z_iload (q := 78) dX4_nearest_76 rfl rfl ?_
                  refine z_iload (q := 80) dX4_nearest_78 rfl rfl ?_
                  refine z_icmp_ge (tg := 90) (q := 83) dX4_nearest_80 rfl rfl ?_ ?_
                  · intro hc80
                    refine z_iincN (q := 93) dX4_nearest_90 rfl rfl rfl ?_
                    refine z_goto (q := 0) (tg := 9) dX4_nearest_93 rfl ?_
                    first
                      | exact up _ _ (by omega) (qNear_k hq (decide_eq_true hc46) (by rw [← hk]; exact hc80))
                      | exact no _ _ (by omega) ((qNear_g hq (by rw [← hk]; exact hc80)).trans hq)
                      | exact no _ _ (by omega) ((qNear_f (decide_eq_false hc46)).trans hq)
                  · intro hc80
                    refine z_iload (q := 85) dX4_nearest_83 rfl rfl ?_
                    refine z_istore_n (q := 86) dX4_nearest_85 (Nat.le_of_ble_eq_true rfl) rfl rfl ?_
                    refine z_iload (q := 88) dX4_nearest_86 rfl rfl ?_
                    refine z_istore (q := 90) dX4_nearest_88 (Nat.le_of_ble_eq_true rfl) rfl rfl ?_
                    refine z_iincN (q := 93) dX4_nearest_90 rfl rfl rfl ?_
                    refine z_goto (q := 0) (tg := 9) dX4_nearest_93 rfl ?_
                    first
                      | exact up _ _ (by omega) (qNear_k hq (decide_eq_true hc46) (by rw [← hk]; exact hc80))
                      | exact no _ _ (by omega) ((qNear_g hq (by rw [← hk]; exact hc80)).trans hq)
                      | exact no _ _ (by omega) ((qNear_f (decide_eq_false hc46)).trans hq)
          · intro hc19
            exact absurd hc19 (by decide)
  refine z_bipush (q := 2) dX4_nearest_0 zcb_m9 rfl ?_
  refine z_istore_n (q := 3) dX4_nearest_2 (Nat.le_of_ble_eq_true rfl) rfl rfl ?_
  refine z_iconst (q := 4) dX4_nearest_3 zci_0 rfl ?_
  refine z_istore (q := 6) dX4_nearest_4 (Nat.le_of_ble_eq_true rfl) rfl rfl ?_
  refine z_iconst (q := 7) dX4_nearest_6 zci_0 rfl ?_
  refine z_istore (q := 9) dX4_nearest_7 (Nat.le_of_ble_eq_true rfl) rfl rfl ?_
  exact loop K 0 (nI 0) _ _ (by omega) (fun k hk => by cases hk)
