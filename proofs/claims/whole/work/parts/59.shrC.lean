/-! ===== the component: the best share ===== -/
/-- what is got: -9 for nothing -/
def qNo (x : Int32) : Int32 := if x = nI 8 then -9 else x
/-- followBest at agent a -/
def zFw (d D : Nat → Nat → Int32) (f : Nat → Int32) (n K a M S : Nat) (s : Nat → Int32) : Prop :=
  (∀ c, c ≠ 283 → c ≠ 284 → D c = d c) ∧ M < 2 ^ K ∧ D 283 1 = nI S ∧ S ≤ 22 * a ∧ (∀ x, x < a → D 284 x = qNo (s x)) ∧
  (qRs f K n 0 0 (fun _ => -1)).2.1 = S + (qRs f K (n - a) a M s).2.1 ∧ (qRs f K n 0 0 (fun _ => -1)).2.2 = (qRs f K (n - a) a M s).2.2
/-- what is owed of sharing -/
def zSh (D : Nat → Nat → Int32) (f : Nat → Int32) (n K : Nat) : Prop := D 283 1 = nI (qRs f K n 0 0 (fun _ => -1)).2.1 ∧ ∀ x, x < n → D 284 x = qNo ((qRs f K n 0 0 (fun _ => -1)).2.2 x)
theorem zFw_n {d D : Nat → Nat → Int32} {f s : Nat → Int32} {n K M S : Nat} (h : zFw d D f n K n M S s) : zSh D f n K := by
  obtain ⟨-, -, h1, -, h2, h3, h4⟩ := h
  rw [Nat.sub_self] at h3 h4
  refine ⟨by rw [h1, h3]; rfl, fun x hx => ?_⟩
  rw [h4, h2 x hx]
  rfl
theorem zFw_8 {d D : Nat → Nat → Int32} {f s : Nat → Int32} {n K a M S : Nat} (h : zFw d D f n K a M S s) (ha : a < n) (h8 : qJ f K (n - (a + 1)) a M = 8) : zFw d (va_up D 284 (va_up (D 284) a (-9))) f n K (a + 1) M S (va_up s a (nI 8)) := by
  obtain ⟨h0, h1, h2, h3, h4, h5, h6⟩ := h
  rw [show n - a = (n - (a + 1)) + 1 by omega, qRs_8 h8] at h5 h6
  refine ⟨fun c g1 g2 => by rw [zu_ne g2]; exact h0 c g1 g2, h1, by rw [zu_ne (by decide)]; exact h2, by omega, fun x hx => ?_, h5, h6⟩
  rw [zu_eq]
  by_cases hxa : x = a
  · subst hxa
    rw [zu_eq, zu_eq]
    rfl
  · rw [zu_ne hxa, zu_ne hxa]
    exact h4 x (by omega)
theorem zFw_j {d D : Nat → Nat → Int32} {f s : Nat → Int32} {n K a M S j : Nat} (h : zFw d D f n K a M S s) (ha : a < n) (h8 : ¬ j = 8) (hj : qJ f K (n - (a + 1)) a M = j) (hjK : j < K) (hj9 : j < 9) (hw : qWn f a j ≤ 22) : zFw d (va_up (va_up D 284 (va_up (D 284) a (nI j))) 283 (va_up (va_up D 284 (va_up (D 284) a (nI j)) 283) 1 (nI (S + qWn f a j)))) f n K (a + 1) (M ||| 2 ^ j) (S + qWn f a j) (va_up s a (nI j)) := by
  obtain ⟨h0, h1, h2, h3, h4, h5, h6⟩ := h
  rw [show n - a = (n - (a + 1)) + 1 by omega, qRs_j h8 hj] at h5 h6
  refine ⟨fun c g1 g2 => by rw [zu_ne g1, zu_ne g2]; exact h0 c g1 g2, sh_or h1 hjK, by rw [zu_eq, zu_eq], by omega, fun x hx => ?_, ?_, h6⟩
  · rw [zu_ne (by decide), zu_eq]
    by_cases hxa : x = a
    · subst hxa
      rw [zu_eq, zu_eq, qNo, if_neg (fun e => h8 ((nI_eq (by omega) (by decide)).mp e))]
    · rw [zu_ne hxa, zu_ne hxa]
      exact h4 x (by omega)
  · rw [h5]
    show S + (_ + qWn f a j) = _
    omega
theorem zTa_same {d D : Nat → Nat → Int32} {f : Nat → Int32} {n K a : Nat} (h : D 285 = d 285) (hT : zTa d f n K a) : zTa D f n K a := fun c M h1 h2 h3 => by rw [h]; exact hT c M h1 h2 h3
set_option maxRecDepth 100000 in
set_option maxHeartbeats 4000000 in
theorem ct_X3_followBest {g : zGl} {h : zHp} {b n K : Nat} {d : Nat → Nat → Int32} {f : Nat → Int32} (hR : zR d 3 f n K) (hT : zTa d f n K 0) : zC g mX3_followBest [.ref (b + 283), .ref (b + 3)] (zpT g h b d) (zTU g h b (fun D => (∀ c, c ≠ 283 → c ≠ 284 → D c = d c) ∧ zSh D f n K) none) 0 0 := by
  have hK := zR_K8 hR
  have hn := zR_n6 hR
  refine zC_ofA (lv := [some (.ref (b + 283)), some (.ref (b + 3)), none, none, none]) (by decide) rfl (Nat.le_of_ble_eq_true rfl) ?_
  have loop : ∀ r a M S s D l4, a + r = n → zFw d D f n K a M S s → zA g (zZc g mX3_followBest (zTU g h b (fun D => (∀ c, c ≠ 283 → c ≠ 284 → D c = d c) ∧ zSh D f n K) none) 0 0) 0 0 9 [some (.ref (b + 283)), some (.ref (b + 3)), some (.int (nI M)), some (.int (nI a)), l4] [] (zpT g h b D) := by
    intro r
    induction r using Nat.strongRecOn with
    | ind r ih =>
      intro a M S s D l4 hi hF
      have hD : zR D 3 f n K := zR_same (fun c h1 h2 => hF.1 c (by omega) (by omega)) hR
      have hTD : zTa D f n K a := fun c M h1 h2 h3 => zTa_same (hF.1 285 (by decide) (by decide)) hT c M (Nat.zero_le c) h2 h3
      by_cases han : a < n
      · by_cases h8 : qJ f K (n - (a + 1)) a M = 8
        · skip
          refine z_iload_n (q := 10) dX3_followBest_9 rfl rfl ?_
          refine z_aload_n (q := 11) dX3_followBest_10 rfl rfl ?_
          refine z_get (q := 14) dX3_followBest_11 zfX3_18 (by first | exact zT_G | exact zpT_a (c := 284) rfl | exact zpT_a (c := 285) rfl | exact zT_o zWo_3) rfl rfl ?_
          refine z_eqi (zR_0 hD) ?_
          refine z_icmp_geN (tg := 70) (q := 17) dX3_followBest_14 rfl rfl (by omega) (by omega) ?_ ?_
          · intro hc14
            omega
          · intro hc14
            refine z_aload_n (q := 18) dX3_followBest_17 rfl rfl ?_
            refine z_aload_n (q := 19) dX3_followBest_18 rfl rfl ?_
            refine z_iload_n (q := 20) dX3_followBest_19 rfl rfl ?_
            refine z_iload_n (q := 21) dX3_followBest_20 rfl rfl ?_
            refine z_v3 (q := 24) dX3_followBest_21 zkX3_66 zt_mX3_smallestBest rfl (by first | exact zT_G | exact zpT_a (c := 284) rfl | exact zpT_a (c := 285) rfl | exact zT_o zWo_3) rfl (Nat.le_of_ble_eq_true rfl) (ct_X3_smallestBest hD han hF.2.1 hTD) rfl ?_
            refine z_eqi (if_pos h8) ?_
            refine z_istore (q := 26) dX3_followBest_24 (Nat.le_of_ble_eq_true rfl) rfl rfl ?_
            refine z_aload_n (q := 27) dX3_followBest_26 rfl rfl ?_
            refine z_get (q := 30) dX3_followBest_27 zfX3_9 (by first | exact zT_G | exact zpT_a (c := 284) rfl | exact zpT_a (c := 285) rfl | exact zT_o zWo_3) rfl rfl ?_
            refine z_iload_n (q := 31) dX3_followBest_30 rfl rfl ?_
            refine z_iload (q := 33) dX3_followBest_31 rfl rfl ?_
            refine z_iastT (q := 34) dX3_followBest_33 (show zTl 284 = some 6 from rfl) (by omega) rfl ?_
            refine z_iload (q := 36) dX3_followBest_34 rfl rfl ?_
            refine z_bipush (q := 38) dX3_followBest_36 zcb_m9 rfl ?_
            refine z_icmp_eq (tg := 64) (q := 41) dX3_followBest_38 rfl rfl ?_ ?_
            · intro hc38
              refine z_iincN (q := 67) dX3_followBest_64 rfl rfl rfl ?_
              refine z_goto (q := 0) (tg := 9) dX3_followBest_67 rfl ?_
              exact ih (r - 1) (by omega) (a + 1) _ _ _ _ _ (by omega) (zFw_8 hF han h8)
            · intro hc38
              exact absurd rfl hc38
        · obtain ⟨j, hj⟩ : ∃ j, qJ f K (n - (a + 1)) a M = j := ⟨_, rfl⟩
          have hjK : j < K := by
            rw [← hj]
            exact (qJ_lt hR.1).resolve_left h8
          obtain ⟨w1, w2⟩ := qWn_v hR.1 han hjK
          have h8' : ¬ j = 8 := by rw [← hj]; exact h8
          refine z_iload_n (q := 10) dX3_followBest_9 rfl rfl ?_
          refine z_aload_n (q := 11) dX3_followBest_10 rfl rfl ?_
          refine z_get (q := 14) dX3_followBest_11 zfX3_18 (by first | exact zT_G | exact zpT_a (c := 284) rfl | exact zpT_a (c := 285) rfl | exact zT_o zWo_3) rfl rfl ?_
          refine z_eqi (zR_0 hD) ?_
          refine z_icmp_geN (tg := 70) (q := 17) dX3_followBest_14 rfl rfl (by omega) (by omega) ?_ ?_
          · intro hc14
            omega
          · intro hc14
            refine z_aload_n (q := 18) dX3_followBest_17 rfl rfl ?_
            refine z_aload_n (q := 19) dX3_followBest_18 rfl rfl ?_
            refine z_iload_n (q := 20) dX3_followBest_19 rfl rfl ?_
            refine z_iload_n (q := 21) dX3_followBest_20 rfl rfl ?_
            refine z_v3 (q := 24) dX3_followBest_21 zkX3_66 zt_mX3_smallestBest rfl (by first | exact zT_G | exact zpT_a (c := 284) rfl | exact zpT_a (c := 285) rfl | exact zT_o zWo_3) rfl (Nat.le_of_ble_eq_true rfl) (ct_X3_smallestBest hD han hF.2.1 hTD) rfl ?_
            refine z_eqi (show _ = nI j by rw [if_neg h8, hj]) ?_
            refine z_istore (q := 26) dX3_followBest_24 (Nat.le_of_ble_eq_true rfl) rfl rfl ?_
            refine z_aload_n (q := 27) dX3_followBest_26 rfl rfl ?_
            refine z_get (q := 30) dX3_followBest_27 zfX3_9 (by first | exact zT_G | exact zpT_a (c := 284) rfl | exact zpT_a (c := 285) rfl | exact zT_o zWo_3) rfl rfl ?_
            refine z_iload_n (q := 31) dX3_followBest_30 rfl rfl ?_
            refine z_iload (q := 33) dX3_followBest_31 rfl rfl ?_
            refine z_iastT (q := 34) dX3_followBest_33 (show zTl 284 = some 6 from rfl) (by omega) rfl ?_
            refine z_iload (q := 36) dX3_followBest_34 rfl rfl ?_
            refine z_bipush (q := 38) dX3_followBest_36 zcb_m9 rfl ?_
            refine z_icmp_eq (tg := 64) (q := 41) dX3_followBest_38 rfl rfl ?_ ?_
            · intro hc38
              exact absurd hc38 (nI_nm9 (by omega))
            · intro hc38
              refine z_iload_n (q := 42) dX3_followBest_41 rfl rfl ?_
              refine z_iconst (q := 43) dX3_followBest_42 zci_1 rfl ?_
              refine z_iload (q := 45) dX3_followBest_43 rfl rfl ?_
              refine z_ishl (q := 46) dX3_followBest_45 rfl ?_
              refine z_eqi (nI_shl (by omega)) ?_
              refine z_ior (q := 47) dX3_followBest_46 rfl ?_
              refine z_eqi (nI_or _ _) ?_
              refine z_istore_n (q := 48) dX3_followBest_47 (Nat.le_of_ble_eq_true rfl) rfl rfl ?_
              refine z_aload_n (q := 49) dX3_followBest_48 rfl rfl ?_
              refine z_dup (q := 50) dX3_followBest_49 rfl rfl ?_
              refine z_get (q := 53) dX3_followBest_50 zfX3_63 (by first | exact zT_G | exact zpT_a (c := 284) rfl | exact zpT_a (c := 285) rfl | exact zT_o zWo_3) rfl rfl ?_
              refine z_eqi (show _ = nI S by rw [zu_ne (by decide)]; exact hF.2.2.1) ?_
              refine z_aload_n (q := 54) dX3_followBest_53 rfl rfl ?_
              refine z_iload_n (q := 55) dX3_followBest_54 rfl rfl ?_
              refine z_iload (q := 57) dX3_followBest_55 rfl rfl ?_
              refine z_v2 (q := 60) dX3_followBest_57 zkX3_60 zt_mX6_wayToTask rfl (by first | exact zT_G | exact zpT_a (c := 284) rfl | exact zpT_a (c := 285) rfl | exact zT_o zWo_3) rfl (Nat.le_of_ble_eq_true rfl) (ct_X6_wayToTask zWo_3 (zR_same (fun c h1 h2 => zu_ne (by omega)) hD) han hjK) rfl ?_
              refine z_eqi w1 ?_
              refine z_iaddN (q := 61) dX3_followBest_60 rfl ?_
              refine z_putG (q := 64) dX3_followBest_61 zfX3_63 rfl ?_
              refine z_iincN (q := 67) dX3_followBest_64 rfl rfl rfl ?_
              refine z_goto (q := 0) (tg := 9) dX3_followBest_67 rfl ?_
              exact ih (r - 1) (by omega) (a + 1) _ _ _ _ _ (by omega) (zFw_j hF han h8' hj hjK (by omega) w2)
      · obtain rfl : a = n := by omega
        refine z_iload_n (q := 10) dX3_followBest_9 rfl rfl ?_
        refine z_aload_n (q := 11) dX3_followBest_10 rfl rfl ?_
        refine z_get (q := 14) dX3_followBest_11 zfX3_18 (by first | exact zT_G | exact zpT_a (c := 284) rfl | exact zpT_a (c := 285) rfl | exact zT_o zWo_3) rfl rfl ?_
        refine z_eqi (zR_0 hD) ?_
        refine z_icmp_geN (tg := 70) (q := 17) dX3_followBest_14 rfl rfl (by omega) (by omega) ?_ ?_
        · intro hc14
          exact z_ret dX3_followBest_70 rfl (⟨rfl, D, rfl, hF.1, zFw_n hF⟩)
        · intro hc14
          omega
  refine z_iconst (q := 1) dX3_followBest_0 zci_0 rfl ?_
  refine z_istore_n (q := 2) dX3_followBest_1 (Nat.le_of_ble_eq_true rfl) rfl rfl ?_
  refine z_aload_n (q := 3) dX3_followBest_2 rfl rfl ?_
  refine z_iconst (q := 4) dX3_followBest_3 zci_0 rfl ?_
  refine z_putG (q := 7) dX3_followBest_4 zfX3_63 rfl ?_
  refine z_iconst (q := 8) dX3_followBest_7 zci_0 rfl ?_
  refine z_istore_n (q := 9) dX3_followBest_8 (Nat.le_of_ble_eq_true rfl) rfl rfl ?_
  refine loop n 0 0 0 (fun _ => -1) _ _ (by omega) ⟨fun c g1 g2 => zu_ne g1, Nat.two_pow_pos K, by rw [zu_eq, zu_eq], by omega, fun x hx => absurd hx (Nat.not_lt_zero x), ?_, ?_⟩
  · rw [Nat.zero_add, Nat.sub_zero]
  · rw [Nat.sub_zero]
theorem dec_1 {a : Nat} : nI a + Int32.ofInt (-1) = nI a - nI 1 := by
  rw [Int32.sub_eq_add_neg]
  congr 1
set_option maxRecDepth 100000 in
set_option maxHeartbeats 4000000 in
theorem ct_X3_findBest {g : zGl} {h : zHp} {b n K : Nat} {d : Nat → Nat → Int32} {f : Nat → Int32} (hR : zR d 3 f n K) : zC g mX3_findBest [.ref (b + 283), .ref (b + 3)] (zpT g h b d) (zTU g h b (fun D => (∀ c, c < 283 → D c = d c) ∧ zSh D f n K) none) 0 0 := by
  have hK := zR_K8 hR
  have hn := zR_n6 hR
  obtain ⟨P, hP⟩ : ∃ P, P = 2 ^ K := ⟨_, rfl⟩
  have hP8 : P ≤ 256 := by rw [hP]; exact (Nat.pow_le_pow_right (by decide) hK : 2 ^ K ≤ 2 ^ 8)
  refine zC_ofA (lv := [some (.ref (b + 283)), some (.ref (b + 3)), none, none]) (by decide) rfl (Nat.le_of_ble_eq_true rfl) ?_
  have outer : ∀ r x D l3, x = nI r - nI 1 → r ≤ n → (∀ c, c ≠ 285 → D c = d c) → zTa D f n K r → zA g (zZc g mX3_findBest (zTU g h b (fun D => (∀ c, c < 283 → D c = d c) ∧ zSh D f n K) none) 0 0) 0 0 38 [some (.ref (b + 283)), some (.ref (b + 3)), some (.int x), l3] [] (zpT g h b D) := by
    intro r
    induction r with
    | zero =>
      intro x D l3 hx hr hO hT
      have hx1 : x = -1 := by rw [hx]; decide
      subst hx1
      have hD : zR D 3 f n K := zR_same (fun c h1 h2 => hO c (by omega)) hR
      refine z_iload_n (q := 39) dX3_findBest_38 rfl rfl ?_
      refine z_if_lt (tg := 85) (q := 42) dX3_findBest_39 rfl rfl ?_ ?_
      · intro hc39
        refine z_aload_n (q := 86) dX3_findBest_85 rfl rfl ?_
        refine z_aload_n (q := 87) dX3_findBest_86 rfl rfl ?_
        refine z_V1 (q := 90) dX3_findBest_87 zkX3_31 zt_mX3_followBest rfl (by first | exact zT_G | exact zpT_a (c := 284) rfl | exact zpT_a (c := 285) rfl | exact zT_o zWo_3) rfl (Nat.le_of_ble_eq_true rfl) (ct_X3_followBest hD hT) (Nat.zero_le _) (Nat.zero_le _) rfl ?_
        rintro _ _ ⟨rfl, D', rfl, hD', hS⟩
        exact z_ret dX3_findBest_90 rfl (⟨rfl, D', rfl, fun c hc => by rw [hD' c (by omega) (by omega)]; exact hO c (by omega), hS⟩)
      · intro hc39
        exact absurd (by decide) hc39
    | succ a ih =>
      intro x D l3 hx hr hO hT
      have hx1 : x = nI a := by rw [hx, nI_sub (by omega)]; rfl
      clear hx
      subst hx1
      have inner : ∀ q i D, i + q = P → (∀ c, c ≠ 285 → D c = d c) → zTa D f n K (a + 1) → (∀ j, j < i → D 285 (a * 256 + j) = nI (qV f K (n - a) a j)) → zA g (zZc g mX3_findBest (zTU g h b (fun D => (∀ c, c < 283 → D c = d c) ∧ zSh D f n K) none) 0 0) 0 0 44 [some (.ref (b + 283)), some (.ref (b + 3)), some (.int (nI a)), some (.int (nI i))] [] (zpT g h b D) := by
        intro q
        induction q using Nat.strongRecOn with
        | ind q ih2 =>
          intro i D hi hO hT hJ
          have hD : zR D 3 f n K := zR_same (fun c h1 h2 => hO c (by omega)) hR
          refine z_iload_n (q := 45) dX3_findBest_44 rfl rfl ?_
          refine z_iconst (q := 46) dX3_findBest_45 zci_1 rfl ?_
          refine z_aload_n (q := 47) dX3_findBest_46 rfl rfl ?_
          refine z_get (q := 50) dX3_findBest_47 zfX3_24 (by first | exact zT_G | exact zpT_a (c := 284) rfl | exact zpT_a (c := 285) rfl | exact zT_o zWo_3) rfl rfl ?_
          refine z_eqi (zR_1 hD) ?_
          refine z_ishl (q := 51) dX3_findBest_50 rfl ?_
          refine z_eqi (nI_shl (by omega)) ?_
          refine z_eqi (congrArg nI hP.symm) ?_
          refine z_icmp_geN (tg := 79) (q := 54) dX3_findBest_51 rfl rfl (by omega) (by omega) ?_ ?_
          · intro hc51
            refine z_iinc (q := 82) dX3_findBest_79 rfl rfl rfl rfl ?_
            refine z_goto (q := 0) (tg := 38) dX3_findBest_82 rfl ?_
            refine ih _ _ _ dec_1 (by omega) hO (fun c M h1 h2 h3 => ?_)
            by_cases hca : c = a
            · subst hca
              exact hJ M (by omega)
            · exact hT c M (by omega) h2 h3
          · intro hc51
            refine z_aload_n (q := 55) dX3_findBest_54 rfl rfl ?_
            refine z_get (q := 58) dX3_findBest_55 zfX3_15 (by first | exact zT_G | exact zpT_a (c := 284) rfl | exact zpT_a (c := 285) rfl | exact zT_o zWo_3) rfl rfl ?_
            refine z_iload_n (q := 59) dX3_findBest_58 rfl rfl ?_
            refine z_sipush (q := 62) dX3_findBest_59 zcs_256 rfl ?_
            refine z_imulN (q := 63) dX3_findBest_62 rfl ?_
            refine z_iload_n (q := 64) dX3_findBest_63 rfl rfl ?_
            refine z_iaddN (q := 65) dX3_findBest_64 rfl ?_
            refine z_aload_n (q := 66) dX3_findBest_65 rfl rfl ?_
            refine z_aload_n (q := 67) dX3_findBest_66 rfl rfl ?_
            refine z_iload_n (q := 68) dX3_findBest_67 rfl rfl ?_
            refine z_iload_n (q := 69) dX3_findBest_68 rfl rfl ?_
            refine z_v3 (q := 72) dX3_findBest_69 zkX3_27 zt_mX3_mostFor rfl (by first | exact zT_G | exact zpT_a (c := 284) rfl | exact zpT_a (c := 285) rfl | exact zT_o zWo_3) rfl (Nat.le_of_ble_eq_true rfl) (ct_X3_mostFor hD (by omega) (by omega) hT) rfl ?_
            refine z_iastT (q := 73) dX3_findBest_72 (show zTl 285 = some 1792 from rfl) (by omega) rfl ?_
            refine z_iincN (q := 76) dX3_findBest_73 rfl rfl rfl ?_
            refine z_goto (q := 0) (tg := 44) dX3_findBest_76 rfl ?_
            refine ih2 (q - 1) (by omega) (i + 1) _ (by omega) (fun c hc => by rw [zu_ne hc]; exact hO c hc) (fun c M h1 h2 h3 => ?_) (fun j hj => ?_)
            · rw [zu_eq, zu_ne (by omega)]
              exact hT c M h1 h2 h3
            · rw [zu_eq]
              by_cases hji : j = i
              · subst hji
                rw [zu_eq]
              · rw [zu_ne (by omega)]
                exact hJ j (by omega)
      refine z_iload_n (q := 39) dX3_findBest_38 rfl rfl ?_
      refine z_if_lt (tg := 85) (q := 42) dX3_findBest_39 rfl rfl ?_ ?_
      · intro hc39
        exact absurd hc39 (nI_pos (by omega))
      · intro hc39
        refine z_iconst (q := 43) dX3_findBest_42 zci_0 rfl ?_
        refine z_istore_n (q := 44) dX3_findBest_43 (Nat.le_of_ble_eq_true rfl) rfl rfl ?_
        exact inner P 0 D (by omega) hO hT (fun j hj => absurd hj (Nat.not_lt_zero j))
  have first : ∀ r i D, i + r = 256 → (∀ c, c ≠ 285 → D c = d c) → (∀ j, j < i → D 285 (n * 256 + j) = nI 0) → zA g (zZc g mX3_findBest (zTU g h b (fun D => (∀ c, c < 283 → D c = d c) ∧ zSh D f n K) none) 0 0) 0 0 2 [some (.ref (b + 283)), some (.ref (b + 3)), some (.int (nI i)), none] [] (zpT g h b D) := by
    intro r
    induction r using Nat.strongRecOn with
    | ind r ih =>
      intro i D hi hO hJ
      have hD : zR D 3 f n K := zR_same (fun c h1 h2 => hO c (by omega)) hR
      refine z_iload_n (q := 3) dX3_findBest_2 rfl rfl ?_
      refine z_sipush (q := 6) dX3_findBest_3 zcs_256 rfl ?_
      refine z_icmp_geN (tg := 31) (q := 9) dX3_findBest_6 rfl rfl (by omega) (by omega) ?_ ?_
      · intro hc6
        refine z_aload_n (q := 32) dX3_findBest_31 rfl rfl ?_
        refine z_get (q := 35) dX3_findBest_32 zfX3_18 (by first | exact zT_G | exact zpT_a (c := 284) rfl | exact zpT_a (c := 285) rfl | exact zT_o zWo_3) rfl rfl ?_
        refine z_eqi (zR_0 hD) ?_
        refine z_iconst (q := 36) dX3_findBest_35 zci_1 rfl ?_
        refine z_isub (q := 37) dX3_findBest_36 rfl ?_
        refine z_istore_n (q := 38) dX3_findBest_37 (Nat.le_of_ble_eq_true rfl) rfl rfl ?_
        refine outer n _ D _ rfl (Nat.le_refl n) hO (fun c M h1 h2 h3 => ?_)
        obtain rfl : c = n := by omega
        rw [hJ M (by omega), Nat.sub_self]
        rfl
      · intro hc6
        refine z_aload_n (q := 10) dX3_findBest_9 rfl rfl ?_
        refine z_get (q := 13) dX3_findBest_10 zfX3_15 (by first | exact zT_G | exact zpT_a (c := 284) rfl | exact zpT_a (c := 285) rfl | exact zT_o zWo_3) rfl rfl ?_
        refine z_aload_n (q := 14) dX3_findBest_13 rfl rfl ?_
        refine z_get (q := 17) dX3_findBest_14 zfX3_18 (by first | exact zT_G | exact zpT_a (c := 284) rfl | exact zpT_a (c := 285) rfl | exact zT_o zWo_3) rfl rfl ?_
        refine z_eqi (zR_0 hD) ?_
        refine z_sipush (q := 20) dX3_findBest_17 zcs_256 rfl ?_
        refine z_imulN (q := 21) dX3_findBest_20 rfl ?_
        refine z_iload_n (q := 22) dX3_findBest_21 rfl rfl ?_
        refine z_iaddN (q := 23) dX3_findBest_22 rfl ?_
        refine z_iconst (q := 24) dX3_findBest_23 zci_0 rfl ?_
        refine z_iastT (q := 25) dX3_findBest_24 (show zTl 285 = some 1792 from rfl) (by omega) rfl ?_
        refine z_iincN (q := 28) dX3_findBest_25 rfl rfl rfl ?_
        refine z_goto (q := 0) (tg := 2) dX3_findBest_28 rfl ?_
        refine ih (r - 1) (by omega) (i + 1) _ (by omega) (fun c hc => by rw [zu_ne hc]; exact hO c hc) (fun j hj => ?_)
        rw [zu_eq]
        by_cases hji : j = i
        · subst hji
          rw [zu_eq]
        · rw [zu_ne (by omega)]
          exact hJ j (by omega)
  refine z_iconst (q := 1) dX3_findBest_0 zci_0 rfl ?_
  refine z_istore_n (q := 2) dX3_findBest_1 (Nat.le_of_ble_eq_true rfl) rfl rfl ?_
  exact first 256 0 d (by omega) (fun c _ => rfl) (fun j hj => absurd hj (Nat.not_lt_zero j))
