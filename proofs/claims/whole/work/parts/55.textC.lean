/-! ===== the component: numbers of the text ===== -/
theorem m1_lt {k : Nat} (hk : k < 2 ^ 31) : (-1 : Int32) < nI k := by
  rw [Int32.lt_iff_toInt_lt, nI_toInt hk]
  have : (-1 : Int32).toInt = -1 := by decide
  rw [this]
  omega
theorem qBt_m1 {a b : Nat} (ha : a < 2 ^ 31) : qBt (-1) a b = false := by
  simp only [qBt, Bool.and_eq_false_iff, decide_eq_false_iff_not]
  left
  exact Int32.not_le.mpr (m1_lt ha)
theorem qBt_nI {t a b : Nat} (ht : t < 2 ^ 31) (ha : a < 2 ^ 31) (hb : b < 2 ^ 31) : qBt (nI t) a b = decide (a ≤ t ∧ t ≤ b) := by
  have h1 : nI a ≤ nI t ↔ a ≤ t := by
    rw [Int32.le_iff_toInt_le, nI_toInt ha, nI_toInt ht]
    omega
  have h2 : nI t ≤ nI b ↔ t ≤ b := by
    rw [Int32.le_iff_toInt_le, nI_toInt ht, nI_toInt hb]
    omega
  rw [qBt, Bool.decide_and]
  congr 1
  · exact decide_eq_decide.mpr h1
  · exact decide_eq_decide.mpr h2
theorem qDa_c (c : Int32) : qDa c = -1 ∨ ∃ t, t ≤ 9 ∧ qDa c = nI t ∧ c - nI 48 = nI t := by
  by_cases h : nI 48 ≤ c ∧ c ≤ nI 57
  · right
    have h3 : qBt c 48 57 = true := by
      rw [qBt, decide_eq_true h.1, decide_eq_true h.2]
      rfl
    obtain ⟨j, h4, h5, rfl⟩ := qBt_t h3 (by decide) (by decide)
    have e : nI j - nI 48 = nI (j - 48) := nI_sub h4
    exact ⟨j - 48, by omega, by rw [qDa_y h.1 h.2, e], e⟩
  · left
    exact if_neg h
theorem qDa_m {c : Int32} {t : Nat} (ht : t ≤ 9) (h : c - nI 48 = nI t) : qDa c = nI t := by
  have e : c = nI (t + 48) := by
    rw [← nI_add, ← h, Int32.sub_add_cancel]
  subst e
  have h3 : qBt (nI (t + 48)) 48 57 = true := by
    rw [qBt_nI (by omega) (by decide) (by decide)]
    exact decide_eq_true (by omega)
  rw [qBt, Bool.and_eq_true, decide_eq_true_eq, decide_eq_true_eq] at h3
  rw [qDa_y h3.1 h3.2]
  exact h
theorem qDig_y {s : Nat → Int32} {L p a b t : Nat} (h : qDa (qCo s L p) = nI t) (h9 : t ≤ 9) (h1 : a ≤ t) (h2 : t ≤ b) (hb : b ≤ 9) : qDig s L p a b = some t := by
  have hp : p < L := by
    by_cases hp : p < L
    · exact hp
    · rw [qCo, if_neg hp] at h
      exact absurd h (by
        intro e
        have e2 := congrArg Int32.toInt e
        rw [nI_toInt (by omega), show qDa (-1) = -1 by decide, show (-1 : Int32).toInt = -1 by decide] at e2
        omega)
  rw [qCo, if_pos hp] at h
  have e : s p - nI 48 = nI t := by
    rcases qDa_c (s p) with g | ⟨t', g1, g2, g3⟩
    · rw [g] at h
      exact absurd h (by
        intro e
        have e2 := congrArg Int32.toInt e
        rw [nI_toInt (by omega), show (-1 : Int32).toInt = -1 by decide] at e2
        omega)
    · rw [g3, ← g2, h]
  rw [qDig, e, if_pos ⟨hp, by rw [qBt_nI (by omega) (by omega) (by omega)]; exact decide_eq_true ⟨h1, h2⟩⟩, nI_clamp (by omega)]
theorem qDig_1 {s : Nat → Int32} {L p a b : Nat} (h : qDa (qCo s L p) = -1) (hab : a ≤ b) (hb : b ≤ 9) : qDig s L p a b = none := by
  rcases h1 : qDig s L p a b with _ | t
  · rfl
  · obtain ⟨g1, g2, g3, g4, -⟩ := qDig_i h1 (by omega) hab
    rw [qCo, if_pos g1, qDa_m (by omega) g4] at h
    have e2 := congrArg Int32.toInt h
    rw [nI_toInt (by omega), show (-1 : Int32).toInt = -1 by decide] at e2
    omega
theorem qDig_2 {s : Nat → Int32} {L p a b t : Nat} (h : qDa (qCo s L p) = nI t) (h9 : t ≤ 9) (hab : a ≤ b) (hb : b ≤ 9) (ht : t < a ∨ b < t) : qDig s L p a b = none := by
  rcases h1 : qDig s L p a b with _ | u
  · rfl
  · obtain ⟨g1, g2, g3, g4, -⟩ := qDig_i h1 (by omega) hab
    rw [qCo, if_pos g1, qDa_m (by omega) g4] at h
    have e2 := congrArg Int32.toInt h
    rw [nI_toInt (by omega), nI_toInt (by omega)] at e2
    omega
theorem qTwo_1 {s : Nat → Int32} {L p lo hi : Nat} (hd : qDig s L p (lo / 10) (hi / 10) = none) : qTwo s L p lo hi = (none, p) := by
  simp only [qTwo, hd]
theorem qTwo_2 {s : Nat → Int32} {L p lo hi t : Nat} (hd : qDig s L p (lo / 10) (hi / 10) = some t) (h2 : qDig s L (p + 1) (if t = lo / 10 then lo % 10 else 0) (if t = hi / 10 then hi % 10 else 9) = none) : qTwo s L p lo hi = (none, p + 1) := by
  simp only [qTwo, hd, h2]
theorem qTwo_3 {s : Nat → Int32} {L p lo hi t u : Nat} (hd : qDig s L p (lo / 10) (hi / 10) = some t) (h2 : qDig s L (p + 1) (if t = lo / 10 then lo % 10 else 0) (if t = hi / 10 then hi % 10 else 9) = some u) : qTwo s L p lo hi = (some (10 * t + u), p + 2) := by
  simp only [qTwo, hd, h2]
/-- where a number is bad -/
def qBad (a : Option Nat × Nat) : Int32 := match a.1 with
  | none => nI a.2
  | some _ => -9
set_option maxRecDepth 100000 in
set_option maxHeartbeats 4000000 in
theorem ct_X5_badInNumber {g : zGl} {h : zHp} {b L p lo hi : Nat} {d : Nat → Nat → Int32} (hL : d 1 1 = nI L) (hL2 : L ≤ 120) (hi2 : p < 900) (hl : lo ≤ hi) (hh : hi < 100) : zC g mX5_badInNumber [.ref (b + 1), .int (nI p), .int (nI lo), .int (nI hi)] (zpT g h b d) (zV (zpT g h b d) (.int (qBad (qTwo (d 2) L p lo hi)))) 0 0 := by
  refine zC_ofA (lv := [some (.ref (b + 1)), some (.int (nI p)), some (.int (nI lo)), some (.int (nI hi)), none, none, none]) (by decide) rfl (Nat.le_of_ble_eq_true rfl) ?_
  rcases qDa_c (qCo (d 2) L p) with e1 | ⟨t, ht, e1, -⟩
  · have q1 := qTwo_1 (qDig_1 e1 (show lo / 10 ≤ hi / 10 by omega) (by omega))
    refine z_aload_n (q := 1) dX5_badInNumber_0 rfl rfl ?_
    refine z_iload_n (q := 2) dX5_badInNumber_1 rfl rfl ?_
    refine z_v1 (q := 5) dX5_badInNumber_2 zkX5_60 zt_mX5_digitAt rfl (by first | exact zT_X | exact zpT_a (c := 2) rfl) rfl (Nat.le_of_ble_eq_true rfl) (ct_X5_digitAt hL hL2 (by omega)) rfl ?_
    refine z_eqi e1 ?_
    refine z_istore (q := 7) dX5_badInNumber_5 (Nat.le_of_ble_eq_true rfl) rfl rfl ?_
    refine z_iload (q := 9) dX5_badInNumber_7 rfl rfl ?_
    refine z_iload_n (q := 10) dX5_badInNumber_9 rfl rfl ?_
    refine z_bipush (q := 12) dX5_badInNumber_10 zcb_10 rfl ?_
    refine z_idivN (q := 13) dX5_badInNumber_12 (by omega) (by omega) (by omega) rfl ?_
    refine z_icmp_lt (tg := 25) (q := 16) dX5_badInNumber_13 rfl rfl ?_ ?_
    · intro hc13
      refine z_iload_n (q := 26) dX5_badInNumber_25 rfl rfl ?_
      exact z_reti dX5_badInNumber_26 rfl (⟨by rw [q1]; rfl, rfl⟩)
    · intro hc13
      exact absurd (m1_lt (by omega)) hc13
  · by_cases ho : lo / 10 ≤ t ∧ t ≤ hi / 10
    · have d1 := qDig_y e1 ht ho.1 ho.2 (by omega)
      rcases qDa_c (qCo (d 2) L (p + 1)) with e2 | ⟨u, hu, e2, -⟩
      · have q1 := qTwo_2 d1 (qDig_1 e2 (by split <;> split <;> omega) (by split <;> omega))
        refine z_aload_n (q := 1) dX5_badInNumber_0 rfl rfl ?_
        refine z_iload_n (q := 2) dX5_badInNumber_1 rfl rfl ?_
        refine z_v1 (q := 5) dX5_badInNumber_2 zkX5_60 zt_mX5_digitAt rfl (by first | exact zT_X | exact zpT_a (c := 2) rfl) rfl (Nat.le_of_ble_eq_true rfl) (ct_X5_digitAt hL hL2 (by omega)) rfl ?_
        refine z_eqi e1 ?_
        refine z_istore (q := 7) dX5_badInNumber_5 (Nat.le_of_ble_eq_true rfl) rfl rfl ?_
        refine z_iload (q := 9) dX5_badInNumber_7 rfl rfl ?_
        refine z_iload_n (q := 10) dX5_badInNumber_9 rfl rfl ?_
        refine z_bipush (q := 12) dX5_badInNumber_10 zcb_10 rfl ?_
        refine z_idivN (q := 13) dX5_badInNumber_12 (by omega) (by omega) (by omega) rfl ?_
        refine z_icmp_ltN (tg := 25) (q := 16) dX5_badInNumber_13 rfl rfl (by omega) (by omega) ?_ ?_
        · intro hc13
          omega
        · intro hc13
          refine z_iload (q := 18) dX5_badInNumber_16 rfl rfl ?_
          refine z_iload_n (q := 19) dX5_badInNumber_18 rfl rfl ?_
          refine z_bipush (q := 21) dX5_badInNumber_19 zcb_10 rfl ?_
          refine z_idivN (q := 22) dX5_badInNumber_21 (by omega) (by omega) (by omega) rfl ?_
          refine z_icmp_leN (tg := 27) (q := 25) dX5_badInNumber_22 rfl rfl (by omega) (by omega) ?_ ?_
          · intro hc22
            refine z_aload_n (q := 28) dX5_badInNumber_27 rfl rfl ?_
            refine z_iload_n (q := 29) dX5_badInNumber_28 rfl rfl ?_
            refine z_iconst (q := 30) dX5_badInNumber_29 zci_1 rfl ?_
            refine z_iaddN (q := 31) dX5_badInNumber_30 rfl ?_
            refine z_v1 (q := 34) dX5_badInNumber_31 zkX5_60 zt_mX5_digitAt rfl (by first | exact zT_X | exact zpT_a (c := 2) rfl) rfl (Nat.le_of_ble_eq_true rfl) (ct_X5_digitAt hL hL2 (by omega)) rfl ?_
            refine z_eqi e2 ?_
            refine z_istore (q := 36) dX5_badInNumber_34 (Nat.le_of_ble_eq_true rfl) rfl rfl ?_
            refine z_bipush (q := 38) dX5_badInNumber_36 zcb_10 rfl ?_
            refine z_iload (q := 40) dX5_badInNumber_38 rfl rfl ?_
            refine z_imulN (q := 41) dX5_badInNumber_40 rfl ?_
            refine z_iload (q := 43) dX5_badInNumber_41 rfl rfl ?_
            refine z_iadd (q := 44) dX5_badInNumber_43 rfl ?_
            refine z_istore (q := 46) dX5_badInNumber_44 (Nat.le_of_ble_eq_true rfl) rfl rfl ?_
            refine z_iload (q := 48) dX5_badInNumber_46 rfl rfl ?_
            refine z_if_lt (tg := 63) (q := 51) dX5_badInNumber_48 rfl rfl ?_ ?_
            · intro hc48
              refine z_iload_n (q := 64) dX5_badInNumber_63 rfl rfl ?_
              refine z_iconst (q := 65) dX5_badInNumber_64 zci_1 rfl ?_
              refine z_iaddN (q := 66) dX5_badInNumber_65 rfl ?_
              refine z_goto (q := 0) (tg := 71) dX5_badInNumber_66 rfl ?_
              exact z_reti dX5_badInNumber_71 rfl (⟨by rw [q1]; rfl, rfl⟩)
            · intro hc48
              exact absurd (by decide) hc48
          · intro hc22
            omega
      · by_cases hn : lo ≤ 10 * t + u ∧ 10 * t + u ≤ hi
        · have q1 := qTwo_3 d1 (qDig_y (a := if t = lo / 10 then lo % 10 else 0) (b := if t = hi / 10 then hi % 10 else 9) e2 hu (by split <;> omega) (by split <;> omega) (by split <;> omega))
          refine z_aload_n (q := 1) dX5_badInNumber_0 rfl rfl ?_
          refine z_iload_n (q := 2) dX5_badInNumber_1 rfl rfl ?_
          refine z_v1 (q := 5) dX5_badInNumber_2 zkX5_60 zt_mX5_digitAt rfl (by first | exact zT_X | exact zpT_a (c := 2) rfl) rfl (Nat.le_of_ble_eq_true rfl) (ct_X5_digitAt hL hL2 (by omega)) rfl ?_
          refine z_eqi e1 ?_
          refine z_istore (q := 7) dX5_badInNumber_5 (Nat.le_of_ble_eq_true rfl) rfl rfl ?_
          refine z_iload (q := 9) dX5_badInNumber_7 rfl rfl ?_
          refine z_iload_n (q := 10) dX5_badInNumber_9 rfl rfl ?_
          refine z_bipush (q := 12) dX5_badInNumber_10 zcb_10 rfl ?_
          refine z_idivN (q := 13) dX5_badInNumber_12 (by omega) (by omega) (by omega) rfl ?_
          refine z_icmp_ltN (tg := 25) (q := 16) dX5_badInNumber_13 rfl rfl (by omega) (by omega) ?_ ?_
          · intro hc13
            omega
          · intro hc13
            refine z_iload (q := 18) dX5_badInNumber_16 rfl rfl ?_
            refine z_iload_n (q := 19) dX5_badInNumber_18 rfl rfl ?_
            refine z_bipush (q := 21) dX5_badInNumber_19 zcb_10 rfl ?_
            refine z_idivN (q := 22) dX5_badInNumber_21 (by omega) (by omega) (by omega) rfl ?_
            refine z_icmp_leN (tg := 27) (q := 25) dX5_badInNumber_22 rfl rfl (by omega) (by omega) ?_ ?_
            · intro hc22
              refine z_aload_n (q := 28) dX5_badInNumber_27 rfl rfl ?_
              refine z_iload_n (q := 29) dX5_badInNumber_28 rfl rfl ?_
              refine z_iconst (q := 30) dX5_badInNumber_29 zci_1 rfl ?_
              refine z_iaddN (q := 31) dX5_badInNumber_30 rfl ?_
              refine z_v1 (q := 34) dX5_badInNumber_31 zkX5_60 zt_mX5_digitAt rfl (by first | exact zT_X | exact zpT_a (c := 2) rfl) rfl (Nat.le_of_ble_eq_true rfl) (ct_X5_digitAt hL hL2 (by omega)) rfl ?_
              refine z_eqi e2 ?_
              refine z_istore (q := 36) dX5_badInNumber_34 (Nat.le_of_ble_eq_true rfl) rfl rfl ?_
              refine z_bipush (q := 38) dX5_badInNumber_36 zcb_10 rfl ?_
              refine z_iload (q := 40) dX5_badInNumber_38 rfl rfl ?_
              refine z_imulN (q := 41) dX5_badInNumber_40 rfl ?_
              refine z_iload (q := 43) dX5_badInNumber_41 rfl rfl ?_
              refine z_iaddN (q := 44) dX5_badInNumber_43 rfl ?_
              refine z_istore (q := 46) dX5_badInNumber_44 (Nat.le_of_ble_eq_true rfl) rfl rfl ?_
              refine z_iload (q := 48) dX5_badInNumber_46 rfl rfl ?_
              refine z_if_lt (tg := 63) (q := 51) dX5_badInNumber_48 rfl rfl ?_ ?_
              · intro hc48
                exact absurd hc48 (nI_pos (by omega))
              · intro hc48
                refine z_iload (q := 53) dX5_badInNumber_51 rfl rfl ?_
                refine z_iload_n (q := 54) dX5_badInNumber_53 rfl rfl ?_
                refine z_icmp_ltN (tg := 63) (q := 57) dX5_badInNumber_54 rfl rfl (by omega) (by omega) ?_ ?_
                · intro hc54
                  omega
                · intro hc54
                  refine z_iload (q := 59) dX5_badInNumber_57 rfl rfl ?_
                  refine z_iload_n (q := 60) dX5_badInNumber_59 rfl rfl ?_
                  refine z_icmp_leN (tg := 69) (q := 63) dX5_badInNumber_60 rfl rfl (by omega) (by omega) ?_ ?_
                  · intro hc60
                    refine z_bipush (q := 71) dX5_badInNumber_69 zcb_m9 rfl ?_
                    exact z_reti dX5_badInNumber_71 rfl (⟨by rw [q1]; rfl, rfl⟩)
                  · intro hc60
                    omega
            · intro hc22
              omega
        · have q1 := qTwo_2 d1 (qDig_2 (a := if t = lo / 10 then lo % 10 else 0) (b := if t = hi / 10 then hi % 10 else 9) e2 hu (by split <;> split <;> omega) (by split <;> omega) (by split <;> split <;> omega))
          refine z_aload_n (q := 1) dX5_badInNumber_0 rfl rfl ?_
          refine z_iload_n (q := 2) dX5_badInNumber_1 rfl rfl ?_
          refine z_v1 (q := 5) dX5_badInNumber_2 zkX5_60 zt_mX5_digitAt rfl (by first | exact zT_X | exact zpT_a (c := 2) rfl) rfl (Nat.le_of_ble_eq_true rfl) (ct_X5_digitAt hL hL2 (by omega)) rfl ?_
          refine z_eqi e1 ?_
          refine z_istore (q := 7) dX5_badInNumber_5 (Nat.le_of_ble_eq_true rfl) rfl rfl ?_
          refine z_iload (q := 9) dX5_badInNumber_7 rfl rfl ?_
          refine z_iload_n (q := 10) dX5_badInNumber_9 rfl rfl ?_
          refine z_bipush (q := 12) dX5_badInNumber_10 zcb_10 rfl ?_
          refine z_idivN (q := 13) dX5_badInNumber_12 (by omega) (by omega) (by omega) rfl ?_
          refine z_icmp_ltN (tg := 25) (q := 16) dX5_badInNumber_13 rfl rfl (by omega) (by omega) ?_ ?_
          · intro hc13
            omega
          · intro hc13
            refine z_iload (q := 18) dX5_badInNumber_16 rfl rfl ?_
            refine z_iload_n (q := 19) dX5_badInNumber_18 rfl rfl ?_
            refine z_bipush (q := 21) dX5_badInNumber_19 zcb_10 rfl ?_
            refine z_idivN (q := 22) dX5_badInNumber_21 (by omega) (by omega) (by omega) rfl ?_
            refine z_icmp_leN (tg := 27) (q := 25) dX5_badInNumber_22 rfl rfl (by omega) (by omega) ?_ ?_
            · intro hc22
              refine z_aload_n (q := 28) dX5_badInNumber_27 rfl rfl ?_
              refine z_iload_n (q := 29) dX5_badInNumber_28 rfl rfl ?_
              refine z_iconst (q := 30) dX5_badInNumber_29 zci_1 rfl ?_
              refine z_iaddN (q := 31) dX5_badInNumber_30 rfl ?_
              refine z_v1 (q := 34) dX5_badInNumber_31 zkX5_60 zt_mX5_digitAt rfl (by first | exact zT_X | exact zpT_a (c := 2) rfl) rfl (Nat.le_of_ble_eq_true rfl) (ct_X5_digitAt hL hL2 (by omega)) rfl ?_
              refine z_eqi e2 ?_
              refine z_istore (q := 36) dX5_badInNumber_34 (Nat.le_of_ble_eq_true rfl) rfl rfl ?_
              refine z_bipush (q := 38) dX5_badInNumber_36 zcb_10 rfl ?_
              refine z_iload (q := 40) dX5_badInNumber_38 rfl rfl ?_
              refine z_imulN (q := 41) dX5_badInNumber_40 rfl ?_
              refine z_iload (q := 43) dX5_badInNumber_41 rfl rfl ?_
              refine z_iaddN (q := 44) dX5_badInNumber_43 rfl ?_
              refine z_istore (q := 46) dX5_badInNumber_44 (Nat.le_of_ble_eq_true rfl) rfl rfl ?_
              refine z_iload (q := 48) dX5_badInNumber_46 rfl rfl ?_
              refine z_if_lt (tg := 63) (q := 51) dX5_badInNumber_48 rfl rfl ?_ ?_
              · intro hc48
                exact absurd hc48 (nI_pos (by omega))
              · intro hc48
                refine z_iload (q := 53) dX5_badInNumber_51 rfl rfl ?_
                refine z_iload_n (q := 54) dX5_badInNumber_53 rfl rfl ?_
                refine z_icmp_ltN (tg := 63) (q := 57) dX5_badInNumber_54 rfl rfl (by omega) (by omega) ?_ ?_
                · intro hc54
                  refine z_iload_n (q := 64) dX5_badInNumber_63 rfl rfl ?_
                  refine z_iconst (q := 65) dX5_badInNumber_64 zci_1 rfl ?_
                  refine z_iaddN (q := 66) dX5_badInNumber_65 rfl ?_
                  refine z_goto (q := 0) (tg := 71) dX5_badInNumber_66 rfl ?_
                  exact z_reti dX5_badInNumber_71 rfl (⟨by rw [q1]; rfl, rfl⟩)
                · intro hc54
                  refine z_iload (q := 59) dX5_badInNumber_57 rfl rfl ?_
                  refine z_iload_n (q := 60) dX5_badInNumber_59 rfl rfl ?_
                  refine z_icmp_leN (tg := 69) (q := 63) dX5_badInNumber_60 rfl rfl (by omega) (by omega) ?_ ?_
                  · intro hc60
                    omega
                  · intro hc60
                    refine z_iload_n (q := 64) dX5_badInNumber_63 rfl rfl ?_
                    refine z_iconst (q := 65) dX5_badInNumber_64 zci_1 rfl ?_
                    refine z_iaddN (q := 66) dX5_badInNumber_65 rfl ?_
                    refine z_goto (q := 0) (tg := 71) dX5_badInNumber_66 rfl ?_
                    exact z_reti dX5_badInNumber_71 rfl (⟨by rw [q1]; rfl, rfl⟩)
            · intro hc22
              omega
    · have q1 := qTwo_1 (qDig_2 e1 ht (show lo / 10 ≤ hi / 10 by omega) (by omega) (by omega))
      refine z_aload_n (q := 1) dX5_badInNumber_0 rfl rfl ?_
      refine z_iload_n (q := 2) dX5_badInNumber_1 rfl rfl ?_
      refine z_v1 (q := 5) dX5_badInNumber_2 zkX5_60 zt_mX5_digitAt rfl (by first | exact zT_X | exact zpT_a (c := 2) rfl) rfl (Nat.le_of_ble_eq_true rfl) (ct_X5_digitAt hL hL2 (by omega)) rfl ?_
      refine z_eqi e1 ?_
      refine z_istore (q := 7) dX5_badInNumber_5 (Nat.le_of_ble_eq_true rfl) rfl rfl ?_
      refine z_iload (q := 9) dX5_badInNumber_7 rfl rfl ?_
      refine z_iload_n (q := 10) dX5_badInNumber_9 rfl rfl ?_
      refine z_bipush (q := 12) dX5_badInNumber_10 zcb_10 rfl ?_
      refine z_idivN (q := 13) dX5_badInNumber_12 (by omega) (by omega) (by omega) rfl ?_
      refine z_icmp_ltN (tg := 25) (q := 16) dX5_badInNumber_13 rfl rfl (by omega) (by omega) ?_ ?_
      · intro hc13
        refine z_iload_n (q := 26) dX5_badInNumber_25 rfl rfl ?_
        exact z_reti dX5_badInNumber_26 rfl (⟨by rw [q1]; rfl, rfl⟩)
      · intro hc13
        refine z_iload (q := 18) dX5_badInNumber_16 rfl rfl ?_
        refine z_iload_n (q := 19) dX5_badInNumber_18 rfl rfl ?_
        refine z_bipush (q := 21) dX5_badInNumber_19 zcb_10 rfl ?_
        refine z_idivN (q := 22) dX5_badInNumber_21 (by omega) (by omega) (by omega) rfl ?_
        refine z_icmp_leN (tg := 27) (q := 25) dX5_badInNumber_22 rfl rfl (by omega) (by omega) ?_ ?_
        · intro hc22
          omega
        · intro hc22
          refine z_iload_n (q := 26) dX5_badInNumber_25 rfl rfl ?_
          exact z_reti dX5_badInNumber_26 rfl (⟨by rw [q1]; rfl, rfl⟩)
/-- the number that is read where it isn't bad -/
theorem qTwo_num {s : Nat → Int32} {L p lo hi v q : Nat} (hl : lo ≤ hi) (hh : hi < 100) (h : qTwo s L p lo hi = (some v, q)) : nI 10 * qDa (qCo s L p) + qDa (qCo s L (p + 1)) = nI v ∧ q = p + 2 ∧ lo ≤ v ∧ v ≤ hi := by
  have g := qTwo_v hl hh (v := v) (by rw [h])
  rw [h] at g
  rcases h1 : qDig s L p (lo / 10) (hi / 10) with _ | t
  · rw [qTwo_1 h1] at h
    cases h
  · rcases h2 : qDig s L (p + 1) (if t = lo / 10 then lo % 10 else 0) (if t = hi / 10 then hi % 10 else 9) with _ | u
    · rw [qTwo_2 h1 h2] at h
      cases h
    · rw [qTwo_3 h1 h2] at h
      cases h
      obtain ⟨a1, a2, a3, a4, -⟩ := qDig_i h1 (by omega) (by omega)
      obtain ⟨b1, b2, b3, b4, -⟩ := qDig_i h2 (by split <;> omega) (by split <;> split <;> omega)
      have hu : u ≤ 9 := by
        split at b3 <;> omega
      rw [qCo, qCo, if_pos a1, if_pos b1, qDa_m (by omega) a4, qDa_m hu b4, nI_mul, nI_add]
      exact ⟨rfl, rfl, g.1, g.2.1⟩
theorem qDig_num {s : Nat → Int32} {L p w : Nat} (h : qDig s L p 1 9 = some w) : qDa (qCo s L p) = nI w ∧ 1 ≤ w ∧ w ≤ 9 := by
  obtain ⟨a1, a2, a3, a4, -⟩ := qDig_i h (by decide) (by decide)
  rw [qCo, if_pos a1, qDa_m (by omega) a4]
  exact ⟨rfl, a2, a3⟩
