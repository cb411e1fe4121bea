/-! ===== the component: items of the text ===== -/
theorem qBad_s {v q : Nat} : qBad (some v, q) = -9 := rfl
theorem qBad_n {q : Nat} : qBad (none, q) = nI q := rfl
set_option maxRecDepth 100000 in
set_option maxHeartbeats 4000000 in
theorem ct_X5_badInPlace {g : zGl} {h : zHp} {b L p : Nat} {d : Nat → Nat → Int32} (hL : d 1 1 = nI L) (hL2 : L ≤ 120) (hp : p < 800) : zC g mX5_badInPlace [.ref (b + 1), .int (nI p)] (zpT g h b d) (zV (zpT g h b d) (.int (if qBad (qTwo (d 2) L p 0 11) = -9 then qBad (qTwo (d 2) L (p + 2) 0 11) else qBad (qTwo (d 2) L p 0 11)))) 0 0 := by
  refine zC_ofA (lv := [some (.ref (b + 1)), some (.int (nI p)), none]) (by decide) rfl (Nat.le_of_ble_eq_true rfl) ?_
  refine z_aload_n (q := 1) dX5_badInPlace_0 rfl rfl ?_
  refine z_iload_n (q := 2) dX5_badInPlace_1 rfl rfl ?_
  refine z_iconst (q := 3) dX5_badInPlace_2 zci_0 rfl ?_
  refine z_bipush (q := 5) dX5_badInPlace_3 zcb_11 rfl ?_
  refine z_v3 (q := 8) dX5_badInPlace_5 zkX5_27 zt_mX5_badInNumber rfl (by first | exact zT_X | exact zpT_a (c := 2) rfl | exact zT_o hw) rfl (Nat.le_of_ble_eq_true rfl) (ct_X5_badInNumber hL hL2 (by omega) (by decide) (by decide)) rfl ?_
  refine z_istore_n (q := 9) dX5_badInPlace_8 (Nat.le_of_ble_eq_true rfl) rfl rfl ?_
  refine z_iload_n (q := 10) dX5_badInPlace_9 rfl rfl ?_
  refine z_bipush (q := 12) dX5_badInPlace_10 zcb_m9 rfl ?_
  refine z_icmp_eq (tg := 19) (q := 15) dX5_badInPlace_12 rfl rfl ?_ ?_
  · intro hc12
    refine z_aload_n (q := 20) dX5_badInPlace_19 rfl rfl ?_
    refine z_iload_n (q := 21) dX5_badInPlace_20 rfl rfl ?_
    refine z_iconst (q := 22) dX5_badInPlace_21 zci_2 rfl ?_
    refine z_iaddN (q := 23) dX5_badInPlace_22 rfl ?_
    refine z_iconst (q := 24) dX5_badInPlace_23 zci_0 rfl ?_
    refine z_bipush (q := 26) dX5_badInPlace_24 zcb_11 rfl ?_
    refine z_v3 (q := 29) dX5_badInPlace_26 zkX5_27 zt_mX5_badInNumber rfl (by first | exact zT_X | exact zpT_a (c := 2) rfl | exact zT_o hw) rfl (Nat.le_of_ble_eq_true rfl) (ct_X5_badInNumber hL hL2 (by omega) (by decide) (by decide)) rfl ?_
    exact z_reti dX5_badInPlace_29 rfl (by first | exact ⟨by rw [if_pos hc12], rfl⟩ | exact ⟨by rw [if_neg hc12], rfl⟩)
  · intro hc12
    refine z_iload_n (q := 16) dX5_badInPlace_15 rfl rfl ?_
    refine z_goto (q := 0) (tg := 29) dX5_badInPlace_16 rfl ?_
    exact z_reti dX5_badInPlace_29 rfl (by first | exact ⟨by rw [if_pos hc12], rfl⟩ | exact ⟨by rw [if_neg hc12], rfl⟩)
/-- what an item's places say -/
theorem qTwo_c (s : Nat → Int32) (L p : Nat) (lo hi : Nat) : (∃ q, qTwo s L p lo hi = (none, q)) ∨ ∃ v q, qTwo s L p lo hi = (some v, q) := by
  rcases h : qTwo s L p lo hi with ⟨_ | v, q⟩
  · exact Or.inl ⟨q, rfl⟩
  · exact Or.inr ⟨v, q, rfl⟩
theorem qTwo_q {s : Nat → Int32} {L p lo hi q : Nat} (hl : lo ≤ hi) (hh : hi < 100) (h : qTwo s L p lo hi = (none, q)) : p ≤ q ∧ q ≤ p + 1 := by
  rcases h1 : qDig s L p (lo / 10) (hi / 10) with _ | t
  · rw [qTwo_1 h1] at h
    cases h
    omega
  · rcases h2 : qDig s L (p + 1) (if t = lo / 10 then lo % 10 else 0) (if t = hi / 10 then hi % 10 else 9) with _ | u
    · rw [qTwo_2 h1 h2] at h
      cases h
      omega
    · rw [qTwo_3 h1 h2] at h
      cases h
set_option maxRecDepth 100000 in
set_option maxHeartbeats 4000000 in
theorem ct_X5_readAgent6 {g : zGl} {h : zHp} {b o n K L p : Nat} {d : Nat → Nat → Int32} {R : Nat → Int32} (hw : zWo o) (hR : zRb d o R n K) (hn : ¬ n < 6) : zC g mX5_readAgent [.ref (b + 1), .int (nI p), .ref (b + o)] (zpT g h b d) (zV (zpT g h b d) (.int (nI p))) 0 0 := by
  have hn6 := zR_n6 hR.1
  refine zC_ofA (lv := [some (.ref (b + 1)), some (.int (nI p)), some (.ref (b + o)), none]) (by decide) rfl (Nat.le_of_ble_eq_true rfl) ?_
  refine z_aload_n (q := 1) dX5_readAgent_0 rfl rfl ?_
  refine z_get (q := 4) dX5_readAgent_1 zfX5_47 (by first | exact zT_X | exact zpT_a (c := 2) rfl | exact zT_o hw) rfl rfl ?_
  refine z_eqi (zR_0 hR.1) ?_
  refine z_bipush (q := 6) dX5_readAgent_4 zcb_6 rfl ?_
  refine z_icmp_ltN (tg := 11) (q := 9) dX5_readAgent_6 rfl rfl (by omega) (by omega) ?_ ?_
  · intro hc6
    omega
  · intro hc6
    refine z_iload_n (q := 10) dX5_readAgent_9 rfl rfl ?_
    exact z_reti dX5_readAgent_10 rfl (⟨rfl, rfl⟩)
set_option maxRecDepth 100000 in
set_option maxHeartbeats 4000000 in
theorem ct_X5_readAgent_n {g : zGl} {h : zHp} {b o n K L p q : Nat} {d : Nat → Nat → Int32} {R : Nat → Int32} (hw : zWo o) (hR : zRb d o R n K) (hn : n < 6) (hL : d 1 1 = nI L) (hL2 : L ≤ 120) (hp : p < 700) (hq : qRA (d 2) L (p + 1) = (none, q)) : zC g mX5_readAgent [.ref (b + 1), .int (nI p), .ref (b + o)] (zpT g h b d) (zV (zpT g h b d) (.int (nI q))) 0 0 ∧ q < 800 := by
  rcases qTwo_c (d 2) L (p + 1) 0 11 with ⟨q1, e1⟩ | ⟨x, q1, e1⟩
  · have b1 := qTwo_q (by decide) (by decide) e1
    have e9 : q1 = q := by
      simp only [qRA, e1, Prod.mk.injEq] at hq
      exact hq.2
    subst e9
    refine ⟨?_, by omega⟩
    refine zC_ofA (lv := [some (.ref (b + 1)), some (.int (nI p)), some (.ref (b + o)), none]) (by decide) rfl (Nat.le_of_ble_eq_true rfl) ?_
    refine z_aload_n (q := 1) dX5_readAgent_0 rfl rfl ?_
    refine z_get (q := 4) dX5_readAgent_1 zfX5_47 (by first | exact zT_X | exact zpT_a (c := 2) rfl | exact zT_o hw) rfl rfl ?_
    refine z_eqi (zR_0 hR.1) ?_
    refine z_bipush (q := 6) dX5_readAgent_4 zcb_6 rfl ?_
    refine z_icmp_ltN (tg := 11) (q := 9) dX5_readAgent_6 rfl rfl (by omega) (by omega) ?_ ?_
    · intro hc6
      refine z_aload_n (q := 12) dX5_readAgent_11 rfl rfl ?_
      refine z_iload_n (q := 13) dX5_readAgent_12 rfl rfl ?_
      refine z_iconst (q := 14) dX5_readAgent_13 zci_1 rfl ?_
      refine z_iaddN (q := 15) dX5_readAgent_14 rfl ?_
      refine z_v1 (q := 18) dX5_readAgent_15 zkX5_50 zt_mX5_badInPlace rfl (by first | exact zT_X | exact zpT_a (c := 2) rfl | exact zT_o hw) rfl (Nat.le_of_ble_eq_true rfl) (ct_X5_badInPlace hL hL2 (by omega)) rfl ?_
      refine z_eqi (show _ = nI q1 by rw [e1, qBad_n, if_neg (nI_nm9 (by omega))]) ?_
      refine z_istore_n (q := 19) dX5_readAgent_18 (Nat.le_of_ble_eq_true rfl) rfl rfl ?_
      refine z_iload_n (q := 20) dX5_readAgent_19 rfl rfl ?_
      refine z_bipush (q := 22) dX5_readAgent_20 zcb_m9 rfl ?_
      refine z_icmp_ne (tg := 36) (q := 25) dX5_readAgent_22 rfl rfl ?_ ?_
      · intro hc22
        refine z_iload_n (q := 37) dX5_readAgent_36 rfl rfl ?_
        refine z_bipush (q := 39) dX5_readAgent_37 zcb_m9 rfl ?_
        refine z_icmp_ne (tg := 67) (q := 42) dX5_readAgent_39 rfl rfl ?_ ?_
        · intro hc39
          refine z_iload_n (q := 68) dX5_readAgent_67 rfl rfl ?_
          exact z_reti dX5_readAgent_68 rfl (⟨rfl, rfl⟩)
        · intro hc39
          exact absurd hc39 (nI_nm9 (by omega))
      · intro hc22
        exact absurd hc22 (nI_nm9 (by omega))
    · intro hc6
      omega
  · obtain ⟨-, rfl, -⟩ := qTwo_num (by decide) (by decide) e1
    rcases qTwo_c (d 2) L (p + 1 + 2) 0 11 with ⟨q2, e2⟩ | ⟨y, q2, e2⟩
    · have b1 := qTwo_q (by decide) (by decide) e2
      have e9 : q2 = q := by
        simp only [qRA, e1, e2, Prod.mk.injEq] at hq
        exact hq.2
      subst e9
      refine ⟨?_, by omega⟩
      refine zC_ofA (lv := [some (.ref (b + 1)), some (.int (nI p)), some (.ref (b + o)), none]) (by decide) rfl (Nat.le_of_ble_eq_true rfl) ?_
      refine z_aload_n (q := 1) dX5_readAgent_0 rfl rfl ?_
      refine z_get (q := 4) dX5_readAgent_1 zfX5_47 (by first | exact zT_X | exact zpT_a (c := 2) rfl | exact zT_o hw) rfl rfl ?_
      refine z_eqi (zR_0 hR.1) ?_
      refine z_bipush (q := 6) dX5_readAgent_4 zcb_6 rfl ?_
      refine z_icmp_ltN (tg := 11) (q := 9) dX5_readAgent_6 rfl rfl (by omega) (by omega) ?_ ?_
      · intro hc6
        refine z_aload_n (q := 12) dX5_readAgent_11 rfl rfl ?_
        refine z_iload_n (q := 13) dX5_readAgent_12 rfl rfl ?_
        refine z_iconst (q := 14) dX5_readAgent_13 zci_1 rfl ?_
        refine z_iaddN (q := 15) dX5_readAgent_14 rfl ?_
        refine z_v1 (q := 18) dX5_readAgent_15 zkX5_50 zt_mX5_badInPlace rfl (by first | exact zT_X | exact zpT_a (c := 2) rfl | exact zT_o hw) rfl (Nat.le_of_ble_eq_true rfl) (ct_X5_badInPlace hL hL2 (by omega)) rfl ?_
        refine z_eqi (show _ = nI q2 by rw [e1, qBad_s, if_pos rfl, e2, qBad_n]) ?_
        refine z_istore_n (q := 19) dX5_readAgent_18 (Nat.le_of_ble_eq_true rfl) rfl rfl ?_
        refine z_iload_n (q := 20) dX5_readAgent_19 rfl rfl ?_
        refine z_bipush (q := 22) dX5_readAgent_20 zcb_m9 rfl ?_
        refine z_icmp_ne (tg := 36) (q := 25) dX5_readAgent_22 rfl rfl ?_ ?_
        · intro hc22
          refine z_iload_n (q := 37) dX5_readAgent_36 rfl rfl ?_
          refine z_bipush (q := 39) dX5_readAgent_37 zcb_m9 rfl ?_
          refine z_icmp_ne (tg := 67) (q := 42) dX5_readAgent_39 rfl rfl ?_ ?_
          · intro hc39
            refine z_iload_n (q := 68) dX5_readAgent_67 rfl rfl ?_
            exact z_reti dX5_readAgent_68 rfl (⟨rfl, rfl⟩)
          · intro hc39
            exact absurd hc39 (nI_nm9 (by omega))
        · intro hc22
          exact absurd hc22 (nI_nm9 (by omega))
      · intro hc6
        omega
    · obtain ⟨-, rfl, -⟩ := qTwo_num (by decide) (by decide) e2
      rcases qTwo_c (d 2) L (p + 1 + 2 + 2) 0 22 with ⟨q3, e3⟩ | ⟨r, q3, e3⟩
      · have b1 := qTwo_q (by decide) (by decide) e3
        have e9 : q3 = q := by
          simp only [qRA, e1, e2, e3, Prod.mk.injEq] at hq
          exact hq.2
        subst e9
        refine ⟨?_, by omega⟩
        refine zC_ofA (lv := [some (.ref (b + 1)), some (.int (nI p)), some (.ref (b + o)), none]) (by decide) rfl (Nat.le_of_ble_eq_true rfl) ?_
        refine z_aload_n (q := 1) dX5_readAgent_0 rfl rfl ?_
        refine z_get (q := 4) dX5_readAgent_1 zfX5_47 (by first | exact zT_X | exact zpT_a (c := 2) rfl | exact zT_o hw) rfl rfl ?_
        refine z_eqi (zR_0 hR.1) ?_
        refine z_bipush (q := 6) dX5_readAgent_4 zcb_6 rfl ?_
        refine z_icmp_ltN (tg := 11) (q := 9) dX5_readAgent_6 rfl rfl (by omega) (by omega) ?_ ?_
        · intro hc6
          refine z_aload_n (q := 12) dX5_readAgent_11 rfl rfl ?_
          refine z_iload_n (q := 13) dX5_readAgent_12 rfl rfl ?_
          refine z_iconst (q := 14) dX5_readAgent_13 zci_1 rfl ?_
          refine z_iaddN (q := 15) dX5_readAgent_14 rfl ?_
          refine z_v1 (q := 18) dX5_readAgent_15 zkX5_50 zt_mX5_badInPlace rfl (by first | exact zT_X | exact zpT_a (c := 2) rfl | exact zT_o hw) rfl (Nat.le_of_ble_eq_true rfl) (ct_X5_badInPlace hL hL2 (by omega)) rfl ?_
          refine z_eqi (show _ = -9 by rw [e1, qBad_s, if_pos rfl, e2, qBad_s]) ?_
          refine z_istore_n (q := 19) dX5_readAgent_18 (Nat.le_of_ble_eq_true rfl) rfl rfl ?_
          refine z_iload_n (q := 20) dX5_readAgent_19 rfl rfl ?_
          refine z_bipush (q := 22) dX5_readAgent_20 zcb_m9 rfl ?_
          refine z_icmp_ne (tg := 36) (q := 25) dX5_readAgent_22 rfl rfl ?_ ?_
          · intro hc22
            exact absurd rfl hc22
          · intro hc22
            refine z_aload_n (q := 26) dX5_readAgent_25 rfl rfl ?_
            refine z_iload_n (q := 27) dX5_readAgent_26 rfl rfl ?_
            refine z_iconst (q := 28) dX5_readAgent_27 zci_5 rfl ?_
            refine z_iaddN (q := 29) dX5_readAgent_28 rfl ?_
            refine z_iconst (q := 30) dX5_readAgent_29 zci_0 rfl ?_
            refine z_bipush (q := 32) dX5_readAgent_30 zcb_22 rfl ?_
            refine z_v3 (q := 35) dX5_readAgent_32 zkX5_27 zt_mX5_badInNumber rfl (by first | exact zT_X | exact zpT_a (c := 2) rfl | exact zT_o hw) rfl (Nat.le_of_ble_eq_true rfl) (ct_X5_badInNumber hL hL2 (by omega) (by decide) (by decide)) rfl ?_
            refine z_eqi (show _ = nI q3 by rw [show p + 5 = p + 1 + 2 + 2 from rfl, e3, qBad_n]) ?_
            refine z_istore_n (q := 36) dX5_readAgent_35 (Nat.le_of_ble_eq_true rfl) rfl rfl ?_
            refine z_iload_n (q := 37) dX5_readAgent_36 rfl rfl ?_
            refine z_bipush (q := 39) dX5_readAgent_37 zcb_m9 rfl ?_
            refine z_icmp_ne (tg := 67) (q := 42) dX5_readAgent_39 rfl rfl ?_ ?_
            · intro hc39
              refine z_iload_n (q := 68) dX5_readAgent_67 rfl rfl ?_
              exact z_reti dX5_readAgent_68 rfl (⟨rfl, rfl⟩)
            · intro hc39
              exact absurd hc39 (nI_nm9 (by omega))
        · intro hc6
          omega
      · simp only [qRA, e1, e2, e3, Prod.mk.injEq] at hq
        cases hq.1
set_option maxRecDepth 100000 in
set_option maxHeartbeats 4000000 in
theorem ct_X5_readAgent_s {g : zGl} {h : zHp} {b o n K L p q x y r : Nat} {d : Nat → Nat → Int32} {R : Nat → Int32} (hw : zWo o) (hR : zRb d o R n K) (hn : n < 6) (hL : d 1 1 = nI L) (hL2 : L ≤ 120) (hp : p < 700) (hq : qRA (d 2) L (p + 1) = (some (x, y, r), q)) : zC g mX5_readAgent [.ref (b + 1), .int (nI p), .ref (b + o)] (zpT g h b d) (zTU g h b (fun D => zRb D o (qAddA R n x y r) (n + 1) K ∧ zOut d D o 15) (some (.int (-9)))) 0 0 ∧ q = p + 7 := by
  rcases qTwo_c (d 2) L (p + 1) 0 11 with ⟨q1, e1⟩ | ⟨x', q1, e1⟩
  · simp only [qRA, e1, Prod.mk.injEq] at hq
    cases hq.1
  · obtain ⟨n1, rfl, -, m1⟩ := qTwo_num (by decide) (by decide) e1
    rcases qTwo_c (d 2) L (p + 1 + 2) 0 11 with ⟨q2, e2⟩ | ⟨y', q2, e2⟩
    · simp only [qRA, e1, e2, Prod.mk.injEq] at hq
      cases hq.1
    · obtain ⟨n2, rfl, -, m2⟩ := qTwo_num (by decide) (by decide) e2
      rcases qTwo_c (d 2) L (p + 1 + 2 + 2) 0 22 with ⟨q3, e3⟩ | ⟨r', q3, e3⟩
      · simp only [qRA, e1, e2, e3, Prod.mk.injEq] at hq
        cases hq.1
      · obtain ⟨n3, rfl, -, m3⟩ := qTwo_num (by decide) (by decide) e3
        simp only [qRA, e1, e2, e3, Prod.mk.injEq, Option.some.injEq] at hq
        obtain ⟨⟨rfl, rfl, rfl⟩, rfl⟩ := hq
        refine ⟨?_, by omega⟩
        refine zC_ofA (lv := [some (.ref (b + 1)), some (.int (nI p)), some (.ref (b + o)), none]) (by decide) rfl (Nat.le_of_ble_eq_true rfl) ?_
        refine z_aload_n (q := 1) dX5_readAgent_0 rfl rfl ?_
        refine z_get (q := 4) dX5_readAgent_1 zfX5_47 (by first | exact zT_X | exact zpT_a (c := 2) rfl | exact zT_o hw) rfl rfl ?_
        refine z_eqi (zR_0 hR.1) ?_
        refine z_bipush (q := 6) dX5_readAgent_4 zcb_6 rfl ?_
        refine z_icmp_ltN (tg := 11) (q := 9) dX5_readAgent_6 rfl rfl (by omega) (by omega) ?_ ?_
        · intro hc6
          refine z_aload_n (q := 12) dX5_readAgent_11 rfl rfl ?_
          refine z_iload_n (q := 13) dX5_readAgent_12 rfl rfl ?_
          refine z_iconst (q := 14) dX5_readAgent_13 zci_1 rfl ?_
          refine z_iaddN (q := 15) dX5_readAgent_14 rfl ?_
          refine z_v1 (q := 18) dX5_readAgent_15 zkX5_50 zt_mX5_badInPlace rfl (by first | exact zT_X | exact zpT_a (c := 2) rfl | exact zT_o hw) rfl (Nat.le_of_ble_eq_true rfl) (ct_X5_badInPlace hL hL2 (by omega)) rfl ?_
          refine z_eqi (show _ = -9 by rw [e1, qBad_s, if_pos rfl, e2, qBad_s]) ?_
          refine z_istore_n (q := 19) dX5_readAgent_18 (Nat.le_of_ble_eq_true rfl) rfl rfl ?_
          refine z_iload_n (q := 20) dX5_readAgent_19 rfl rfl ?_
          refine z_bipush (q := 22) dX5_readAgent_20 zcb_m9 rfl ?_
          refine z_icmp_ne (tg := 36) (q := 25) dX5_readAgent_22 rfl rfl ?_ ?_
          · intro hc22
            exact absurd rfl hc22
          · intro hc22
            refine z_aload_n (q := 26) dX5_readAgent_25 rfl rfl ?_
            refine z_iload_n (q := 27) dX5_readAgent_26 rfl rfl ?_
            refine z_iconst (q := 28) dX5_readAgent_27 zci_5 rfl ?_
            refine z_iaddN (q := 29) dX5_readAgent_28 rfl ?_
            refine z_iconst (q := 30) dX5_readAgent_29 zci_0 rfl ?_
            refine z_bipush (q := 32) dX5_readAgent_30 zcb_22 rfl ?_
            refine z_v3 (q := 35) dX5_readAgent_32 zkX5_27 zt_mX5_badInNumber rfl (by first | exact zT_X | exact zpT_a (c := 2) rfl | exact zT_o hw) rfl (Nat.le_of_ble_eq_true rfl) (ct_X5_badInNumber hL hL2 (by omega) (by decide) (by decide)) rfl ?_
            refine z_eqi (show _ = -9 by rw [show p + 5 = p + 1 + 2 + 2 from rfl, e3, qBad_s]) ?_
            refine z_istore_n (q := 36) dX5_readAgent_35 (Nat.le_of_ble_eq_true rfl) rfl rfl ?_
            refine z_iload_n (q := 37) dX5_readAgent_36 rfl rfl ?_
            refine z_bipush (q := 39) dX5_readAgent_37 zcb_m9 rfl ?_
            refine z_icmp_ne (tg := 67) (q := 42) dX5_readAgent_39 rfl rfl ?_ ?_
            · intro hc39
              exact absurd rfl hc39
            · intro hc39
              refine z_aload_n (q := 43) dX5_readAgent_42 rfl rfl ?_
              refine z_aload_n (q := 44) dX5_readAgent_43 rfl rfl ?_
              refine z_iload_n (q := 45) dX5_readAgent_44 rfl rfl ?_
              refine z_iconst (q := 46) dX5_readAgent_45 zci_1 rfl ?_
              refine z_iaddN (q := 47) dX5_readAgent_46 rfl ?_
              refine z_v1 (q := 50) dX5_readAgent_47 zkX5_31 zt_mX5_numberAt rfl (by first | exact zT_X | exact zpT_a (c := 2) rfl | exact zT_o hw) rfl (Nat.le_of_ble_eq_true rfl) (ct_X5_numberAt hL hL2 (by omega)) rfl ?_
              refine z_eqi n1 ?_
              refine z_aload_n (q := 51) dX5_readAgent_50 rfl rfl ?_
              refine z_iload_n (q := 52) dX5_readAgent_51 rfl rfl ?_
              refine z_iconst (q := 53) dX5_readAgent_52 zci_3 rfl ?_
              refine z_iaddN (q := 54) dX5_readAgent_53 rfl ?_
              refine z_v1 (q := 57) dX5_readAgent_54 zkX5_31 zt_mX5_numberAt rfl (by first | exact zT_X | exact zpT_a (c := 2) rfl | exact zT_o hw) rfl (Nat.le_of_ble_eq_true rfl) (ct_X5_numberAt hL hL2 (by omega)) rfl ?_
              refine z_eqi n2 ?_
              refine z_aload_n (q := 58) dX5_readAgent_57 rfl rfl ?_
              refine z_iload_n (q := 59) dX5_readAgent_58 rfl rfl ?_
              refine z_iconst (q := 60) dX5_readAgent_59 zci_5 rfl ?_
              refine z_iaddN (q := 61) dX5_readAgent_60 rfl ?_
              refine z_v1 (q := 64) dX5_readAgent_61 zkX5_31 zt_mX5_numberAt rfl (by first | exact zT_X | exact zpT_a (c := 2) rfl | exact zT_o hw) rfl (Nat.le_of_ble_eq_true rfl) (ct_X5_numberAt hL hL2 (by omega)) rfl ?_
              refine z_eqi n3 ?_
              refine z_V3 (q := 67) dX5_readAgent_64 zkX5_53 zt_mX6_addAgent rfl (by first | exact zT_X | exact zpT_a (c := 2) rfl | exact zT_o hw) rfl (Nat.le_of_ble_eq_true rfl) (ct_X6_addAgent hw hR hn (by omega) (by omega) (by omega)) (Nat.zero_le _) (Nat.zero_le _) rfl ?_
              rintro _ _ ⟨rfl, D, rfl, hD⟩
              refine z_iload_n (q := 68) dX5_readAgent_67 rfl rfl ?_
              exact z_reti dX5_readAgent_68 rfl (⟨rfl, D, rfl, hD⟩)
        · intro hc6
          omega
set_option maxRecDepth 100000 in
set_option maxHeartbeats 4000000 in
theorem ct_X5_readTask0 {g : zGl} {h : zHp} {b o n K L p : Nat} {d : Nat → Nat → Int32} {R : Nat → Int32} (hw : zWo o) (hR : zRb d o R n K) (hL : d 1 1 = nI L) (hL2 : L ≤ 120) (hp : p < L) (hn : ¬ (d 2 p = nI 116 ∧ K < 8)) : zC g mX5_readTask [.ref (b + 1), .int (nI p), .ref (b + o)] (zpT g h b d) (zV (zpT g h b d) (.int (nI p))) 0 0 := by
  have hK8 := zR_K8 hR.1
  refine zC_ofA (lv := [some (.ref (b + 1)), some (.int (nI p)), some (.ref (b + o)), none, none]) (by decide) rfl (Nat.le_of_ble_eq_true rfl) ?_
  refine z_aload_n (q := 1) dX5_readTask_0 rfl rfl ?_
  refine z_iload_n (q := 2) dX5_readTask_1 rfl rfl ?_
  refine z_v1 (q := 5) dX5_readTask_2 zkX5_23 zt_mX5_codeAt rfl (by first | exact zT_X | exact zpT_a (c := 2) rfl | exact zT_o hw) rfl (Nat.le_of_ble_eq_true rfl) (ct_X5_codeAt hL hL2 (by omega)) rfl ?_
  refine z_eqi (show _ = d 2 p by rw [qCo, if_pos hp]) ?_
  refine z_bipush (q := 7) dX5_readTask_5 zcb_116 rfl ?_
  refine z_icmp_ne (tg := 19) (q := 10) dX5_readTask_7 rfl rfl ?_ ?_
  · intro hc7
    refine z_iload_n (q := 20) dX5_readTask_19 rfl rfl ?_
    exact z_reti dX5_readTask_20 rfl (⟨rfl, rfl⟩)
  · intro hc7
    refine z_aload_n (q := 11) dX5_readTask_10 rfl rfl ?_
    refine z_get (q := 14) dX5_readTask_11 zfX5_57 (by first | exact zT_X | exact zpT_a (c := 2) rfl | exact zT_o hw) rfl rfl ?_
    refine z_eqi (zR_1 hR.1) ?_
    refine z_bipush (q := 16) dX5_readTask_14 zcb_8 rfl ?_
    refine z_icmp_ltN (tg := 21) (q := 19) dX5_readTask_16 rfl rfl (by omega) (by omega) ?_ ?_
    · intro hc16
      exact absurd ⟨hc7, hc16⟩ hn
    · intro hc16
      refine z_iload_n (q := 20) dX5_readTask_19 rfl rfl ?_
      exact z_reti dX5_readTask_20 rfl (⟨rfl, rfl⟩)
set_option maxRecDepth 100000 in
set_option maxHeartbeats 4000000 in
theorem ct_X5_readTask_n {g : zGl} {h : zHp} {b o n K L p q : Nat} {d : Nat → Nat → Int32} {R : Nat → Int32} (hw : zWo o) (hR : zRb d o R n K) (hn : K < 8) (hL : d 1 1 = nI L) (hL2 : L ≤ 120) (hp : p < L) (hc : d 2 p = nI 116) (hq : qRT (d 2) L (p + 1) = (none, q)) : zC g mX5_readTask [.ref (b + 1), .int (nI p), .ref (b + o)] (zpT g h b d) (zV (zpT g h b d) (.int (nI q))) 0 0 ∧ q < 800 := by
  rcases qTwo_c (d 2) L (p + 1) 0 11 with ⟨q1, e1⟩ | ⟨x, q1, e1⟩
  · have b1 := qTwo_q (by decide) (by decide) e1
    have e9 : q1 = q := by
      simp only [qRT, e1, Prod.mk.injEq] at hq
      exact hq.2
    subst e9
    refine ⟨?_, by omega⟩
    refine zC_ofA (lv := [some (.ref (b + 1)), some (.int (nI p)), some (.ref (b + o)), none, none]) (by decide) rfl (Nat.le_of_ble_eq_true rfl) ?_
    refine z_aload_n (q := 1) dX5_readTask_0 rfl rfl ?_
    refine z_iload_n (q := 2) dX5_readTask_1 rfl rfl ?_
    refine z_v1 (q := 5) dX5_readTask_2 zkX5_23 zt_mX5_codeAt rfl (by first | exact zT_X | exact zpT_a (c := 2) rfl | exact zT_o hw) rfl (Nat.le_of_ble_eq_true rfl) (ct_X5_codeAt hL hL2 (by omega)) rfl ?_
    refine z_eqi (show _ = nI 116 by rw [qCo, if_pos hp, hc]) ?_
    refine z_bipush (q := 7) dX5_readTask_5 zcb_116 rfl ?_
    refine z_icmp_neN (tg := 19) (q := 10) dX5_readTask_7 rfl rfl (by omega) (by omega) ?_ ?_
    · intro hc7
      exact absurd hc7 (by decide)
    · intro hc7
      refine z_aload_n (q := 11) dX5_readTask_10 rfl rfl ?_
      refine z_get (q := 14) dX5_readTask_11 zfX5_57 (by first | exact zT_X | exact zpT_a (c := 2) rfl | exact zT_o hw) rfl rfl ?_
      refine z_eqi (zR_1 hR.1) ?_
      refine z_bipush (q := 16) dX5_readTask_14 zcb_8 rfl ?_
      refine z_icmp_ltN (tg := 21) (q := 19) dX5_readTask_16 rfl rfl (by omega) (by omega) ?_ ?_
      · intro hc16
        refine z_aload_n (q := 22) dX5_readTask_21 rfl rfl ?_
        refine z_iload_n (q := 23) dX5_readTask_22 rfl rfl ?_
        refine z_iconst (q := 24) dX5_readTask_23 zci_1 rfl ?_
        refine z_iaddN (q := 25) dX5_readTask_24 rfl ?_
        refine z_v1 (q := 28) dX5_readTask_25 zkX5_50 zt_mX5_badInPlace rfl (by first | exact zT_X | exact zpT_a (c := 2) rfl | exact zT_o hw) rfl (Nat.le_of_ble_eq_true rfl) (ct_X5_badInPlace hL hL2 (by omega)) rfl ?_
        refine z_eqi (show _ = nI q1 by rw [e1, qBad_n, if_neg (nI_nm9 (by omega))]) ?_
        refine z_istore_n (q := 29) dX5_readTask_28 (Nat.le_of_ble_eq_true rfl) rfl rfl ?_
        refine z_iload_n (q := 30) dX5_readTask_29 rfl rfl ?_
        refine z_bipush (q := 32) dX5_readTask_30 zcb_m9 rfl ?_
        refine z_icmp_eq (tg := 37) (q := 35) dX5_readTask_32 rfl rfl ?_ ?_
        · intro hc32
          exact absurd hc32 (nI_nm9 (by omega))
        · intro hc32
          refine z_iload_n (q := 36) dX5_readTask_35 rfl rfl ?_
          exact z_reti dX5_readTask_36 rfl (⟨rfl, rfl⟩)
      · intro hc16
        omega
  · obtain ⟨-, rfl, -⟩ := qTwo_num (by decide) (by decide) e1
    rcases qTwo_c (d 2) L (p + 1 + 2) 0 11 with ⟨q2, e2⟩ | ⟨y, q2, e2⟩
    · have b1 := qTwo_q (by decide) (by decide) e2
      have e9 : q2 = q := by
        simp only [qRT, e1, e2, Prod.mk.injEq] at hq
        exact hq.2
      subst e9
      refine ⟨?_, by omega⟩
      refine zC_ofA (lv := [some (.ref (b + 1)), some (.int (nI p)), some (.ref (b + o)), none, none]) (by decide) rfl (Nat.le_of_ble_eq_true rfl) ?_
      refine z_aload_n (q := 1) dX5_readTask_0 rfl rfl ?_
      refine z_iload_n (q := 2) dX5_readTask_1 rfl rfl ?_
      refine z_v1 (q := 5) dX5_readTask_2 zkX5_23 zt_mX5_codeAt rfl (by first | exact zT_X | exact zpT_a (c := 2) rfl | exact zT_o hw) rfl (Nat.le_of_ble_eq_true rfl) (ct_X5_codeAt hL hL2 (by omega)) rfl ?_
      refine z_eqi (show _ = nI 116 by rw [qCo, if_pos hp, hc]) ?_
      refine z_bipush (q := 7) dX5_readTask_5 zcb_116 rfl ?_
      refine z_icmp_neN (tg := 19) (q := 10) dX5_readTask_7 rfl rfl (by omega) (by omega) ?_ ?_
      · intro hc7
        exact absurd hc7 (by decide)
      · intro hc7
        refine z_aload_n (q := 11) dX5_readTask_10 rfl rfl ?_
        refine z_get (q := 14) dX5_readTask_11 zfX5_57 (by first | exact zT_X | exact zpT_a (c := 2) rfl | exact zT_o hw) rfl rfl ?_
        refine z_eqi (zR_1 hR.1) ?_
        refine z_bipush (q := 16) dX5_readTask_14 zcb_8 rfl ?_
        refine z_icmp_ltN (tg := 21) (q := 19) dX5_readTask_16 rfl rfl (by omega) (by omega) ?_ ?_
        · intro hc16
          refine z_aload_n (q := 22) dX5_readTask_21 rfl rfl ?_
          refine z_iload_n (q := 23) dX5_readTask_22 rfl rfl ?_
          refine z_iconst (q := 24) dX5_readTask_23 zci_1 rfl ?_
          refine z_iaddN (q := 25) dX5_readTask_24 rfl ?_
          refine z_v1 (q := 28) dX5_readTask_25 zkX5_50 zt_mX5_badInPlace rfl (by first | exact zT_X | exact zpT_a (c := 2) rfl | exact zT_o hw) rfl (Nat.le_of_ble_eq_true rfl) (ct_X5_badInPlace hL hL2 (by omega)) rfl ?_
          refine z_eqi (show _ = nI q2 by rw [e1, qBad_s, if_pos rfl, e2, qBad_n]) ?_
          refine z_istore_n (q := 29) dX5_readTask_28 (Nat.le_of_ble_eq_true rfl) rfl rfl ?_
          refine z_iload_n (q := 30) dX5_readTask_29 rfl rfl ?_
          refine z_bipush (q := 32) dX5_readTask_30 zcb_m9 rfl ?_
          refine z_icmp_eq (tg := 37) (q := 35) dX5_readTask_32 rfl rfl ?_ ?_
          · intro hc32
            exact absurd hc32 (nI_nm9 (by omega))
          · intro hc32
            refine z_iload_n (q := 36) dX5_readTask_35 rfl rfl ?_
            exact z_reti dX5_readTask_36 rfl (⟨rfl, rfl⟩)
        · intro hc16
          omega
    · obtain ⟨-, rfl, -⟩ := qTwo_num (by decide) (by decide) e2
      rcases e3 : qDig (d 2) L (p + 1 + 2 + 2) 1 9 with _ | w
      · have e9 : p + 1 + 2 + 2 = q := by
          simp only [qRT, e1, e2, e3, Prod.mk.injEq] at hq
          exact hq.2
        subst e9
        refine ⟨?_, by omega⟩
        have hd : qDa (qCo (d 2) L (p + 5)) < nI 1 := by
          rcases qDa_c (qCo (d 2) L (p + 5)) with g | ⟨t, g1, g2, -⟩
          · rw [g]
            decide
          · rw [g2]
            by_cases ht : 1 ≤ t
            · have g5 := qDig_y (a := 1) (b := 9) g2 g1 ht g1 (by decide)
              rw [e3] at g5
              cases g5
            · exact nI_lt (by omega) (by decide)
        refine zC_ofA (lv := [some (.ref (b + 1)), some (.int (nI p)), some (.ref (b + o)), none, none]) (by decide) rfl (Nat.le_of_ble_eq_true rfl) ?_
        refine z_aload_n (q := 1) dX5_readTask_0 rfl rfl ?_
        refine z_iload_n (q := 2) dX5_readTask_1 rfl rfl ?_
        refine z_v1 (q := 5) dX5_readTask_2 zkX5_23 zt_mX5_codeAt rfl (by first | exact zT_X | exact zpT_a (c := 2) rfl | exact zT_o hw) rfl (Nat.le_of_ble_eq_true rfl) (ct_X5_codeAt hL hL2 (by omega)) rfl ?_
        refine z_eqi (show _ = nI 116 by rw [qCo, if_pos hp, hc]) ?_
        refine z_bipush (q := 7) dX5_readTask_5 zcb_116 rfl ?_
        refine z_icmp_neN (tg := 19) (q := 10) dX5_readTask_7 rfl rfl (by omega) (by omega) ?_ ?_
        · intro hc7
          exact absurd hc7 (by decide)
        · intro hc7
          refine z_aload_n (q := 11) dX5_readTask_10 rfl rfl ?_
          refine z_get (q := 14) dX5_readTask_11 zfX5_57 (by first | exact zT_X | exact zpT_a (c := 2) rfl | exact zT_o hw) rfl rfl ?_
          refine z_eqi (zR_1 hR.1) ?_
          refine z_bipush (q := 16) dX5_readTask_14 zcb_8 rfl ?_
          refine z_icmp_ltN (tg := 21) (q := 19) dX5_readTask_16 rfl rfl (by omega) (by omega) ?_ ?_
          · intro hc16
            refine z_aload_n (q := 22) dX5_readTask_21 rfl rfl ?_
            refine z_iload_n (q := 23) dX5_readTask_22 rfl rfl ?_
            refine z_iconst (q := 24) dX5_readTask_23 zci_1 rfl ?_
            refine z_iaddN (q := 25) dX5_readTask_24 rfl ?_
            refine z_v1 (q := 28) dX5_readTask_25 zkX5_50 zt_mX5_badInPlace rfl (by first | exact zT_X | exact zpT_a (c := 2) rfl | exact zT_o hw) rfl (Nat.le_of_ble_eq_true rfl) (ct_X5_badInPlace hL hL2 (by omega)) rfl ?_
            refine z_eqi (show _ = -9 by rw [e1, qBad_s, if_pos rfl, e2, qBad_s]) ?_
            refine z_istore_n (q := 29) dX5_readTask_28 (Nat.le_of_ble_eq_true rfl) rfl rfl ?_
            refine z_iload_n (q := 30) dX5_readTask_29 rfl rfl ?_
            refine z_bipush (q := 32) dX5_readTask_30 zcb_m9 rfl ?_
            refine z_icmp_eq (tg := 37) (q := 35) dX5_readTask_32 rfl rfl ?_ ?_
            · intro hc32
              refine z_aload_n (q := 38) dX5_readTask_37 rfl rfl ?_
              refine z_iload_n (q := 39) dX5_readTask_38 rfl rfl ?_
              refine z_iconst (q := 40) dX5_readTask_39 zci_5 rfl ?_
              refine z_iaddN (q := 41) dX5_readTask_40 rfl ?_
              refine z_v1 (q := 44) dX5_readTask_41 zkX5_60 zt_mX5_digitAt rfl (by first | exact zT_X | exact zpT_a (c := 2) rfl | exact zT_o hw) rfl (Nat.le_of_ble_eq_true rfl) (ct_X5_digitAt hL hL2 (by omega)) rfl ?_
              refine z_istore (q := 46) dX5_readTask_44 (Nat.le_of_ble_eq_true rfl) rfl rfl ?_
              refine z_iload (q := 48) dX5_readTask_46 rfl rfl ?_
              refine z_iconst (q := 49) dX5_readTask_48 zci_1 rfl ?_
              refine z_icmp_ge (tg := 56) (q := 52) dX5_readTask_49 rfl rfl ?_ ?_
              · intro hc49
                exact absurd hd (Int32.not_lt.mpr hc49)
              · intro hc49
                refine z_iload_n (q := 53) dX5_readTask_52 rfl rfl ?_
                refine z_iconst (q := 54) dX5_readTask_53 zci_5 rfl ?_
                refine z_iaddN (q := 55) dX5_readTask_54 rfl ?_
                exact z_reti dX5_readTask_55 rfl (⟨rfl, rfl⟩)
            · intro hc32
              exact absurd rfl hc32
          · intro hc16
            omega
      · simp only [qRT, e1, e2, e3, Prod.mk.injEq] at hq
        cases hq.1
set_option maxRecDepth 100000 in
set_option maxHeartbeats 4000000 in
theorem ct_X5_readTask_s {g : zGl} {h : zHp} {b o n K L p q x y r : Nat} {d : Nat → Nat → Int32} {R : Nat → Int32} (hw : zWo o) (hR : zRb d o R n K) (hn : K < 8) (hL : d 1 1 = nI L) (hL2 : L ≤ 120) (hp : p < L) (hc : d 2 p = nI 116) (hq : qRT (d 2) L (p + 1) = (some (x, y, r), q)) : zC g mX5_readTask [.ref (b + 1), .int (nI p), .ref (b + o)] (zpT g h b d) (zTU g h b (fun D => zRb D o (qAddT R K x y r) n (K + 1) ∧ zOut d D o 15) (some (.int (-9)))) 0 0 ∧ q = p + 6 := by
  rcases qTwo_c (d 2) L (p + 1) 0 11 with ⟨q1, e1⟩ | ⟨x', q1, e1⟩
  · simp only [qRT, e1, Prod.mk.injEq] at hq
    cases hq.1
  · obtain ⟨n1, rfl, -, m1⟩ := qTwo_num (by decide) (by decide) e1
    rcases qTwo_c (d 2) L (p + 1 + 2) 0 11 with ⟨q2, e2⟩ | ⟨y', q2, e2⟩
    · simp only [qRT, e1, e2, Prod.mk.injEq] at hq
      cases hq.1
    · obtain ⟨n2, rfl, -, m2⟩ := qTwo_num (by decide) (by decide) e2
      rcases e3 : qDig (d 2) L (p + 1 + 2 + 2) 1 9 with _ | w
      · simp only [qRT, e1, e2, e3, Prod.mk.injEq] at hq
        cases hq.1
      · obtain ⟨n3, m3, m4⟩ := qDig_num e3
        simp only [qRT, e1, e2, e3, Prod.mk.injEq, Option.some.injEq] at hq
        obtain ⟨⟨rfl, rfl, rfl⟩, rfl⟩ := hq
        refine ⟨?_, by omega⟩
        refine zC_ofA (lv := [some (.ref (b + 1)), some (.int (nI p)), some (.ref (b + o)), none, none]) (by decide) rfl (Nat.le_of_ble_eq_true rfl) ?_
        refine z_aload_n (q := 1) dX5_readTask_0 rfl rfl ?_
        refine z_iload_n (q := 2) dX5_readTask_1 rfl rfl ?_
        refine z_v1 (q := 5) dX5_readTask_2 zkX5_23 zt_mX5_codeAt rfl (by first | exact zT_X | exact zpT_a (c := 2) rfl | exact zT_o hw) rfl (Nat.le_of_ble_eq_true rfl) (ct_X5_codeAt hL hL2 (by omega)) rfl ?_
        refine z_eqi (show _ = nI 116 by rw [qCo, if_pos hp, hc]) ?_
        refine z_bipush (q := 7) dX5_readTask_5 zcb_116 rfl ?_
        refine z_icmp_neN (tg := 19) (q := 10) dX5_readTask_7 rfl rfl (by omega) (by omega) ?_ ?_
        · intro hc7
          exact absurd hc7 (by decide)
        · intro hc7
          refine z_aload_n (q := 11) dX5_readTask_10 rfl rfl ?_
          refine z_get (q := 14) dX5_readTask_11 zfX5_57 (by first | exact zT_X | exact zpT_a (c := 2) rfl | exact zT_o hw) rfl rfl ?_
          refine z_eqi (zR_1 hR.1) ?_
          refine z_bipush (q := 16) dX5_readTask_14 zcb_8 rfl ?_
          refine z_icmp_ltN (tg := 21) (q := 19) dX5_readTask_16 rfl rfl (by omega) (by omega) ?_ ?_
          · intro hc16
            refine z_aload_n (q := 22) dX5_readTask_21 rfl rfl ?_
            refine z_iload_n (q := 23) dX5_readTask_22 rfl rfl ?_
            refine z_iconst (q := 24) dX5_readTask_23 zci_1 rfl ?_
            refine z_iaddN (q := 25) dX5_readTask_24 rfl ?_
            refine z_v1 (q := 28) dX5_readTask_25 zkX5_50 zt_mX5_badInPlace rfl (by first | exact zT_X | exact zpT_a (c := 2) rfl | exact zT_o hw) rfl (Nat.le_of_ble_eq_true rfl) (ct_X5_badInPlace hL hL2 (by omega)) rfl ?_
            refine z_eqi (show _ = -9 by rw [e1, qBad_s, if_pos rfl, e2, qBad_s]) ?_
            refine z_istore_n (q := 29) dX5_readTask_28 (Nat.le_of_ble_eq_true rfl) rfl rfl ?_
            refine z_iload_n (q := 30) dX5_readTask_29 rfl rfl ?_
            refine z_bipush (q := 32) dX5_readTask_30 zcb_m9 rfl ?_
            refine z_icmp_eq (tg := 37) (q := 35) dX5_readTask_32 rfl rfl ?_ ?_
            · intro hc32
              refine z_aload_n (q := 38) dX5_readTask_37 rfl rfl ?_
              refine z_iload_n (q := 39) dX5_readTask_38 rfl rfl ?_
              refine z_iconst (q := 40) dX5_readTask_39 zci_5 rfl ?_
              refine z_iaddN (q := 41) dX5_readTask_40 rfl ?_
              refine z_v1 (q := 44) dX5_readTask_41 zkX5_60 zt_mX5_digitAt rfl (by first | exact zT_X | exact zpT_a (c := 2) rfl | exact zT_o hw) rfl (Nat.le_of_ble_eq_true rfl) (ct_X5_digitAt hL hL2 (by omega)) rfl ?_
              refine z_eqi n3 ?_
              refine z_istore (q := 46) dX5_readTask_44 (Nat.le_of_ble_eq_true rfl) rfl rfl ?_
              refine z_iload (q := 48) dX5_readTask_46 rfl rfl ?_
              refine z_iconst (q := 49) dX5_readTask_48 zci_1 rfl ?_
              refine z_icmp_geN (tg := 56) (q := 52) dX5_readTask_49 rfl rfl (by omega) (by omega) ?_ ?_
              · intro hc49
                refine z_aload_n (q := 57) dX5_readTask_56 rfl rfl ?_
                refine z_aload_n (q := 58) dX5_readTask_57 rfl rfl ?_
                refine z_iload_n (q := 59) dX5_readTask_58 rfl rfl ?_
                refine z_iconst (q := 60) dX5_readTask_59 zci_1 rfl ?_
                refine z_iaddN (q := 61) dX5_readTask_60 rfl ?_
                refine z_v1 (q := 64) dX5_readTask_61 zkX5_31 zt_mX5_numberAt rfl (by first | exact zT_X | exact zpT_a (c := 2) rfl | exact zT_o hw) rfl (Nat.le_of_ble_eq_true rfl) (ct_X5_numberAt hL hL2 (by omega)) rfl ?_
                refine z_eqi n1 ?_
                refine z_aload_n (q := 65) dX5_readTask_64 rfl rfl ?_
                refine z_iload_n (q := 66) dX5_readTask_65 rfl rfl ?_
                refine z_iconst (q := 67) dX5_readTask_66 zci_3 rfl ?_
                refine z_iaddN (q := 68) dX5_readTask_67 rfl ?_
                refine z_v1 (q := 71) dX5_readTask_68 zkX5_31 zt_mX5_numberAt rfl (by first | exact zT_X | exact zpT_a (c := 2) rfl | exact zT_o hw) rfl (Nat.le_of_ble_eq_true rfl) (ct_X5_numberAt hL hL2 (by omega)) rfl ?_
                refine z_eqi n2 ?_
                refine z_iload (q := 73) dX5_readTask_71 rfl rfl ?_
                refine z_V3 (q := 76) dX5_readTask_73 zkX5_63 zt_mX6_addTask rfl (by first | exact zT_X | exact zpT_a (c := 2) rfl | exact zT_o hw) rfl (Nat.le_of_ble_eq_true rfl) (ct_X6_addTask hw hR hn (by omega) (by omega)) (Nat.zero_le _) (Nat.zero_le _) rfl ?_
                rintro _ _ ⟨rfl, D, rfl, hD⟩
                refine z_bipush (q := 78) dX5_readTask_76 zcb_m9 rfl ?_
                exact z_reti dX5_readTask_78 rfl (⟨rfl, D, rfl, hD⟩)
              · intro hc49
                omega
            · intro hc32
              exact absurd rfl hc32
          · intro hc16
            omega
/-- what is owed of reading -/
def zRd (g : zGl) (h : zHp) (b : Nat) (d : Nat → Nat → Int32) (o : Nat) (a : Int32 × (Nat → Int32)) : Option Value → zHp → Prop := zTU g h b (fun D => (a.1 = -9 → ∃ n K, zR D o a.2 n K) ∧ zOut d D o 15) (some (.int a.1))
set_option maxRecDepth 100000 in
set_option maxHeartbeats 4000000 in
theorem ct_X5_readInto {g : zGl} {h : zHp} {b o L : Nat} {d : Nat → Nat → Int32} (hw : zWo o) (hL : d 1 1 = nI L) (hL2 : L ≤ 120) : zC g mX5_readInto [.ref (b + 1), .ref (b + o)] (zpT g h b d) (zRd g h b d o (qRead (d 2) L)) 0 0 := by
  have ho := zWo_lt hw
  have loop : ∀ fuel p k t R D l2 l4, L ≤ p + fuel → p ≤ 130 → zRb D o R k t → zOut d D o 15 → qRead (d 2) L = qRd (d 2) L fuel p k t R → zA g (zZc g mX5_readInto (zRd g h b d o (qRead (d 2) L)) 0 0) 0 0 40 [some (.ref (b + 1)), some (.ref (b + o)), l2, some (.int (nI p)), l4] [] (zpT g h b D) := by
    intro fuel
    induction fuel with
    | zero =>
      intro p k t R D l2 l4 hf hp hD hO hQ
      have hL' : D 1 1 = nI L := by rw [hO 1 (by omega)]; exact hL
      refine z_iload_n (q := 41) dX5_readInto_40 rfl rfl ?_
      refine z_aload_n (q := 42) dX5_readInto_41 rfl rfl ?_
      refine z_get (q := 45) dX5_readInto_42 zfX5_15 (by first | exact zT_X | exact zpT_a (c := 2) rfl | exact zT_o hw) rfl rfl ?_
      refine z_eqi hL' ?_
      refine z_icmp_geN (tg := 113) (q := 48) dX5_readInto_45 rfl rfl (by omega) (by omega) ?_ ?_
      · intro hc45
        refine z_bipush (q := 115) dX5_readInto_113 zcb_m9 rfl ?_
        exact z_reti dX5_readInto_115 rfl (⟨by rw [hQ]; rfl, D, rfl, fun _ => by rw [hQ]; exact ⟨k, t, hD.1⟩, hO⟩)
      · intro hc45
        omega
    | succ fuel ih =>
      intro p k t R D l2 l4 hf hp hD hO hQ
      have hL' : D 1 1 = nI L := by rw [hO 1 (by omega)]; exact hL
      have h2' : D 2 = d 2 := hO 2 (by omega)
      by_cases hpL : p < L
      · rw [qRd, if_pos hpL] at hQ
        by_cases ha : d 2 p = nI 97
        · by_cases hk : k < 6
          · rw [if_pos ⟨ha, hk⟩] at hQ
            rcases hq : qRA (d 2) L (p + 1) with ⟨_ | ⟨x, y, r⟩, q⟩
            · simp only [hq] at hQ
              obtain ⟨c1, c2⟩ := ct_X5_readAgent_n (g := g) (h := h) (b := b) (p := p) (q := q) hw hD hk hL' hL2 (by omega) (by rw [h2']; exact hq)
              refine z_iload_n (q := 41) dX5_readInto_40 rfl rfl ?_
              refine z_aload_n (q := 42) dX5_readInto_41 rfl rfl ?_
              refine z_get (q := 45) dX5_readInto_42 zfX5_15 (by first | exact zT_X | exact zpT_a (c := 2) rfl | exact zT_o hw) rfl rfl ?_
              refine z_eqi hL' ?_
              refine z_icmp_geN (tg := 113) (q := 48) dX5_readInto_45 rfl rfl (by omega) (by omega) ?_ ?_
              · intro hc45
                omega
              · intro hc45
                refine z_aload_n (q := 49) dX5_readInto_48 rfl rfl ?_
                refine z_get (q := 52) dX5_readInto_49 zfX5_9 (by first | exact zT_X | exact zpT_a (c := 2) rfl | exact zT_o hw) rfl rfl ?_
                refine z_iload_n (q := 53) dX5_readInto_52 rfl rfl ?_
                refine z_iald (q := 54) dX5_readInto_53 (by first | exact zT_X | exact zpT_a (c := 2) rfl | exact zT_o hw) (by omega) (by omega) rfl ?_
                refine z_eqi (show _ = nI 97 by rw [h2']; exact ha) ?_
                refine z_bipush (q := 56) dX5_readInto_54 zcb_97 rfl ?_
                refine z_icmp_neN (tg := 63) (q := 59) dX5_readInto_56 rfl rfl (by omega) (by omega) ?_ ?_
                · intro hc56
                  exact absurd hc56 (by decide)
                · intro hc56
                  refine z_iconst (q := 60) dX5_readInto_59 zci_1 rfl ?_
                  refine z_goto (q := 0) (tg := 64) dX5_readInto_60 rfl ?_
                  refine z_istore (q := 66) dX5_readInto_64 (Nat.le_of_ble_eq_true rfl) rfl rfl ?_
                  refine z_iload (q := 68) dX5_readInto_66 rfl rfl ?_
                  refine z_if_eq (tg := 80) (q := 71) dX5_readInto_68 rfl rfl ?_ ?_
                  · intro hc68
                    exact absurd hc68 (by decide)
                  · intro hc68
                    refine z_aload_n (q := 72) dX5_readInto_71 rfl rfl ?_
                    refine z_iload_n (q := 73) dX5_readInto_72 rfl rfl ?_
                    refine z_aload_n (q := 74) dX5_readInto_73 rfl rfl ?_
                    refine z_v2 (q := 77) dX5_readInto_74 zkX5_40 zt_mX5_readAgent rfl (by first | exact zT_X | exact zpT_a (c := 2) rfl | exact zT_o hw) rfl (Nat.le_of_ble_eq_true rfl) (c1) rfl ?_
                    refine z_goto (q := 0) (tg := 86) dX5_readInto_77 rfl ?_
                    refine z_istore_n (q := 87) dX5_readInto_86 (Nat.le_of_ble_eq_true rfl) rfl rfl ?_
                    refine z_iload_n (q := 88) dX5_readInto_87 rfl rfl ?_
                    refine z_bipush (q := 90) dX5_readInto_88 zcb_m9 rfl ?_
                    refine z_icmp_eq (tg := 95) (q := 93) dX5_readInto_90 rfl rfl ?_ ?_
                    · intro hc90
                      exact absurd hc90 (nI_nm9 (by omega))
                    · intro hc90
                      refine z_iload_n (q := 94) dX5_readInto_93 rfl rfl ?_
                      exact z_reti dX5_readInto_94 rfl (⟨by rw [hQ], D, rfl, fun hh => absurd hh (by rw [hQ]; exact nI_nm9 (by omega)), hO⟩)
            · simp only [hq] at hQ
              obtain ⟨c1, c2⟩ := ct_X5_readAgent_s (g := g) (h := h) (b := b) (p := p) (q := q) hw hD hk hL' hL2 (by omega) (by rw [h2']; exact hq)
              subst c2
              refine z_iload_n (q := 41) dX5_readInto_40 rfl rfl ?_
              refine z_aload_n (q := 42) dX5_readInto_41 rfl rfl ?_
              refine z_get (q := 45) dX5_readInto_42 zfX5_15 (by first | exact zT_X | exact zpT_a (c := 2) rfl | exact zT_o hw) rfl rfl ?_
              refine z_eqi hL' ?_
              refine z_icmp_geN (tg := 113) (q := 48) dX5_readInto_45 rfl rfl (by omega) (by omega) ?_ ?_
              · intro hc45
                omega
              · intro hc45
                refine z_aload_n (q := 49) dX5_readInto_48 rfl rfl ?_
                refine z_get (q := 52) dX5_readInto_49 zfX5_9 (by first | exact zT_X | exact zpT_a (c := 2) rfl | exact zT_o hw) rfl rfl ?_
                refine z_iload_n (q := 53) dX5_readInto_52 rfl rfl ?_
                refine z_iald (q := 54) dX5_readInto_53 (by first | exact zT_X | exact zpT_a (c := 2) rfl | exact zT_o hw) (by omega) (by omega) rfl ?_
                refine z_eqi (show _ = nI 97 by rw [h2']; exact ha) ?_
                refine z_bipush (q := 56) dX5_readInto_54 zcb_97 rfl ?_
                refine z_icmp_neN (tg := 63) (q := 59) dX5_readInto_56 rfl rfl (by omega) (by omega) ?_ ?_
                · intro hc56
                  exact absurd hc56 (by decide)
                · intro hc56
                  refine z_iconst (q := 60) dX5_readInto_59 zci_1 rfl ?_
                  refine z_goto (q := 0) (tg := 64) dX5_readInto_60 rfl ?_
                  refine z_istore (q := 66) dX5_readInto_64 (Nat.le_of_ble_eq_true rfl) rfl rfl ?_
                  refine z_iload (q := 68) dX5_readInto_66 rfl rfl ?_
                  refine z_if_eq (tg := 80) (q := 71) dX5_readInto_68 rfl rfl ?_ ?_
                  · intro hc68
                    exact absurd hc68 (by decide)
                  · intro hc68
                    refine z_aload_n (q := 72) dX5_readInto_71 rfl rfl ?_
                    refine z_iload_n (q := 73) dX5_readInto_72 rfl rfl ?_
                    refine z_aload_n (q := 74) dX5_readInto_73 rfl rfl ?_
                    refine z_V2 (q := 77) dX5_readInto_74 zkX5_40 zt_mX5_readAgent rfl (by first | exact zT_X | exact zpT_a (c := 2) rfl | exact zT_o hw) rfl (Nat.le_of_ble_eq_true rfl) (c1) (Nat.zero_le _) (Nat.zero_le _) rfl ?_
                    rintro _ _ ⟨rfl, D', rfl, hD', hO'⟩
                    refine z_goto (q := 0) (tg := 86) dX5_readInto_77 rfl ?_
                    refine z_istore_n (q := 87) dX5_readInto_86 (Nat.le_of_ble_eq_true rfl) rfl rfl ?_
                    refine z_iload_n (q := 88) dX5_readInto_87 rfl rfl ?_
                    refine z_bipush (q := 90) dX5_readInto_88 zcb_m9 rfl ?_
                    refine z_icmp_eq (tg := 95) (q := 93) dX5_readInto_90 rfl rfl ?_ ?_
                    · intro hc90
                      refine z_iload_n (q := 96) dX5_readInto_95 rfl rfl ?_
                      refine z_iload (q := 98) dX5_readInto_96 rfl rfl ?_
                      refine z_if_eq (tg := 106) (q := 101) dX5_readInto_98 rfl rfl ?_ ?_
                      · intro hc98
                        exact absurd hc98 (by decide)
                      · intro hc98
                        refine z_bipush (q := 103) dX5_readInto_101 zcb_7 rfl ?_
                        refine z_goto (q := 0) (tg := 108) dX5_readInto_103 rfl ?_
                        refine z_iaddN (q := 109) dX5_readInto_108 rfl ?_
                        refine z_istore_n (q := 110) dX5_readInto_109 (Nat.le_of_ble_eq_true rfl) rfl rfl ?_
                        refine z_goto (q := 0) (tg := 40) dX5_readInto_110 rfl ?_
                        exact ih _ _ _ _ D' _ _ (by omega) (by omega) hD' (zOut_t hO hO') hQ
                    · intro hc90
                      exact absurd rfl hc90
          · rw [if_neg (fun hh => hk hh.2), if_neg (fun hh => absurd (ha.symm.trans hh.1) (by decide))] at hQ
            refine z_iload_n (q := 41) dX5_readInto_40 rfl rfl ?_
            refine z_aload_n (q := 42) dX5_readInto_41 rfl rfl ?_
            refine z_get (q := 45) dX5_readInto_42 zfX5_15 (by first | exact zT_X | exact zpT_a (c := 2) rfl | exact zT_o hw) rfl rfl ?_
            refine z_eqi hL' ?_
            refine z_icmp_geN (tg := 113) (q := 48) dX5_readInto_45 rfl rfl (by omega) (by omega) ?_ ?_
            · intro hc45
              omega
            · intro hc45
              refine z_aload_n (q := 49) dX5_readInto_48 rfl rfl ?_
              refine z_get (q := 52) dX5_readInto_49 zfX5_9 (by first | exact zT_X | exact zpT_a (c := 2) rfl | exact zT_o hw) rfl rfl ?_
              refine z_iload_n (q := 53) dX5_readInto_52 rfl rfl ?_
              refine z_iald (q := 54) dX5_readInto_53 (by first | exact zT_X | exact zpT_a (c := 2) rfl | exact zT_o hw) (by omega) (by omega) rfl ?_
              refine z_eqi (show _ = nI 97 by rw [h2']; exact ha) ?_
              refine z_bipush (q := 56) dX5_readInto_54 zcb_97 rfl ?_
              refine z_icmp_neN (tg := 63) (q := 59) dX5_readInto_56 rfl rfl (by omega) (by omega) ?_ ?_
              · intro hc56
                exact absurd hc56 (by decide)
              · intro hc56
                refine z_iconst (q := 60) dX5_readInto_59 zci_1 rfl ?_
                refine z_goto (q := 0) (tg := 64) dX5_readInto_60 rfl ?_
                refine z_istore (q := 66) dX5_readInto_64 (Nat.le_of_ble_eq_true rfl) rfl rfl ?_
                refine z_iload (q := 68) dX5_readInto_66 rfl rfl ?_
                refine z_if_eq (tg := 80) (q := 71) dX5_readInto_68 rfl rfl ?_ ?_
                · intro hc68
                  exact absurd hc68 (by decide)
                · intro hc68
                  refine z_aload_n (q := 72) dX5_readInto_71 rfl rfl ?_
                  refine z_iload_n (q := 73) dX5_readInto_72 rfl rfl ?_
                  refine z_aload_n (q := 74) dX5_readInto_73 rfl rfl ?_
                  refine z_v2 (q := 77) dX5_readInto_74 zkX5_40 zt_mX5_readAgent rfl (by first | exact zT_X | exact zpT_a (c := 2) rfl | exact zT_o hw) rfl (Nat.le_of_ble_eq_true rfl) (ct_X5_readAgent6 (L := L) hw hD hk) rfl ?_
                  refine z_goto (q := 0) (tg := 86) dX5_readInto_77 rfl ?_
                  refine z_istore_n (q := 87) dX5_readInto_86 (Nat.le_of_ble_eq_true rfl) rfl rfl ?_
                  refine z_iload_n (q := 88) dX5_readInto_87 rfl rfl ?_
                  refine z_bipush (q := 90) dX5_readInto_88 zcb_m9 rfl ?_
                  refine z_icmp_eq (tg := 95) (q := 93) dX5_readInto_90 rfl rfl ?_ ?_
                  · intro hc90
                    exact absurd hc90 (nI_nm9 (by omega))
                  · intro hc90
                    refine z_iload_n (q := 94) dX5_readInto_93 rfl rfl ?_
                    exact z_reti dX5_readInto_94 rfl (⟨by rw [hQ], D, rfl, fun hh => absurd hh (by rw [hQ]; exact nI_nm9 (by omega)), hO⟩)
        · rw [if_neg (fun hh => ha hh.1)] at hQ
          by_cases ht : d 2 p = nI 116 ∧ t < 8
          · rw [if_pos ht] at hQ
            rcases hq : qRT (d 2) L (p + 1) with ⟨_ | ⟨x, y, r⟩, q⟩
            · simp only [hq] at hQ
              obtain ⟨c1, c2⟩ := ct_X5_readTask_n (g := g) (h := h) (b := b) (p := p) (q := q) hw hD ht.2 hL' hL2 hpL (by rw [h2']; exact ht.1) (by rw [h2']; exact hq)
              refine z_iload_n (q := 41) dX5_readInto_40 rfl rfl ?_
              refine z_aload_n (q := 42) dX5_readInto_41 rfl rfl ?_
              refine z_get (q := 45) dX5_readInto_42 zfX5_15 (by first | exact zT_X | exact zpT_a (c := 2) rfl | exact zT_o hw) rfl rfl ?_
              refine z_eqi hL' ?_
              refine z_icmp_geN (tg := 113) (q := 48) dX5_readInto_45 rfl rfl (by omega) (by omega) ?_ ?_
              · intro hc45
                omega
              · intro hc45
                refine z_aload_n (q := 49) dX5_readInto_48 rfl rfl ?_
                refine z_get (q := 52) dX5_readInto_49 zfX5_9 (by first | exact zT_X | exact zpT_a (c := 2) rfl | exact zT_o hw) rfl rfl ?_
                refine z_iload_n (q := 53) dX5_readInto_52 rfl rfl ?_
                refine z_iald (q := 54) dX5_readInto_53 (by first | exact zT_X | exact zpT_a (c := 2) rfl | exact zT_o hw) (by omega) (by omega) rfl ?_
                refine z_bipush (q := 56) dX5_readInto_54 zcb_97 rfl ?_
                refine z_icmp_ne (tg := 63) (q := 59) dX5_readInto_56 rfl rfl ?_ ?_
                · intro hc56
                  refine z_iconst (q := 64) dX5_readInto_63 zci_0 rfl ?_
                  refine z_istore (q := 66) dX5_readInto_64 (Nat.le_of_ble_eq_true rfl) rfl rfl ?_
                  refine z_iload (q := 68) dX5_readInto_66 rfl rfl ?_
                  refine z_if_eq (tg := 80) (q := 71) dX5_readInto_68 rfl rfl ?_ ?_
                  · intro hc68
                    refine z_aload_n (q := 81) dX5_readInto_80 rfl rfl ?_
                    refine z_iload_n (q := 82) dX5_readInto_81 rfl rfl ?_
                    refine z_aload_n (q := 83) dX5_readInto_82 rfl rfl ?_
                    refine z_v2 (q := 86) dX5_readInto_83 zkX5_44 zt_mX5_readTask rfl (by first | exact zT_X | exact zpT_a (c := 2) rfl | exact zT_o hw) rfl (Nat.le_of_ble_eq_true rfl) (c1) rfl ?_
                    refine z_istore_n (q := 87) dX5_readInto_86 (Nat.le_of_ble_eq_true rfl) rfl rfl ?_
                    refine z_iload_n (q := 88) dX5_readInto_87 rfl rfl ?_
                    refine z_bipush (q := 90) dX5_readInto_88 zcb_m9 rfl ?_
                    refine z_icmp_eq (tg := 95) (q := 93) dX5_readInto_90 rfl rfl ?_ ?_
                    · intro hc90
                      exact absurd hc90 (nI_nm9 (by omega))
                    · intro hc90
                      refine z_iload_n (q := 94) dX5_readInto_93 rfl rfl ?_
                      exact z_reti dX5_readInto_94 rfl (⟨by rw [hQ], D, rfl, fun hh => absurd hh (by rw [hQ]; exact nI_nm9 (by omega)), hO⟩)
                  · intro hc68
                    exact absurd hc68 (by decide)
                · intro hc56
                  exact absurd (by rw [← h2']; exact hc56) ha
            · simp only [hq] at hQ
              obtain ⟨c1, c2⟩ := ct_X5_readTask_s (g := g) (h := h) (b := b) (p := p) (q := q) hw hD ht.2 hL' hL2 hpL (by rw [h2']; exact ht.1) (by rw [h2']; exact hq)
              subst c2
              refine z_iload_n (q := 41) dX5_readInto_40 rfl rfl ?_
              refine z_aload_n (q := 42) dX5_readInto_41 rfl rfl ?_
              refine z_get (q := 45) dX5_readInto_42 zfX5_15 (by first | exact zT_X | exact zpT_a (c := 2) rfl | exact zT_o hw) rfl rfl ?_
              refine z_eqi hL' ?_
              refine z_icmp_geN (tg := 113) (q := 48) dX5_readInto_45 rfl rfl (by omega) (by omega) ?_ ?_
              · intro hc45
                omega
              · intro hc45
                refine z_aload_n (q := 49) dX5_readInto_48 rfl rfl ?_
                refine z_get (q := 52) dX5_readInto_49 zfX5_9 (by first | exact zT_X | exact zpT_a (c := 2) rfl | exact zT_o hw) rfl rfl ?_
                refine z_iload_n (q := 53) dX5_readInto_52 rfl rfl ?_
                refine z_iald (q := 54) dX5_readInto_53 (by first | exact zT_X | exact zpT_a (c := 2) rfl | exact zT_o hw) (by omega) (by omega) rfl ?_
                refine z_bipush (q := 56) dX5_readInto_54 zcb_97 rfl ?_
                refine z_icmp_ne (tg := 63) (q := 59) dX5_readInto_56 rfl rfl ?_ ?_
                · intro hc56
                  refine z_iconst (q := 64) dX5_readInto_63 zci_0 rfl ?_
                  refine z_istore (q := 66) dX5_readInto_64 (Nat.le_of_ble_eq_true rfl) rfl rfl ?_
                  refine z_iload (q := 68) dX5_readInto_66 rfl rfl ?_
                  refine z_if_eq (tg := 80) (q := 71) dX5_readInto_68 rfl rfl ?_ ?_
                  · intro hc68
                    refine z_aload_n (q := 81) dX5_readInto_80 rfl rfl ?_
                    refine z_iload_n (q := 82) dX5_readInto_81 rfl rfl ?_
                    refine z_aload_n (q := 83) dX5_readInto_82 rfl rfl ?_
                    refine z_V2 (q := 86) dX5_readInto_83 zkX5_44 zt_mX5_readTask rfl (by first | exact zT_X | exact zpT_a (c := 2) rfl | exact zT_o hw) rfl (Nat.le_of_ble_eq_true rfl) (c1) (Nat.zero_le _) (Nat.zero_le _) rfl ?_
                    rintro _ _ ⟨rfl, D', rfl, hD', hO'⟩
                    refine z_istore_n (q := 87) dX5_readInto_86 (Nat.le_of_ble_eq_true rfl) rfl rfl ?_
                    refine z_iload_n (q := 88) dX5_readInto_87 rfl rfl ?_
                    refine z_bipush (q := 90) dX5_readInto_88 zcb_m9 rfl ?_
                    refine z_icmp_eq (tg := 95) (q := 93) dX5_readInto_90 rfl rfl ?_ ?_
                    · intro hc90
                      refine z_iload_n (q := 96) dX5_readInto_95 rfl rfl ?_
                      refine z_iload (q := 98) dX5_readInto_96 rfl rfl ?_
                      refine z_if_eq (tg := 106) (q := 101) dX5_readInto_98 rfl rfl ?_ ?_
                      · intro hc98
                        refine z_bipush (q := 108) dX5_readInto_106 zcb_6 rfl ?_
                        refine z_iaddN (q := 109) dX5_readInto_108 rfl ?_
                        refine z_istore_n (q := 110) dX5_readInto_109 (Nat.le_of_ble_eq_true rfl) rfl rfl ?_
                        refine z_goto (q := 0) (tg := 40) dX5_readInto_110 rfl ?_
                        exact ih _ _ _ _ D' _ _ (by omega) (by omega) hD' (zOut_t hO hO') hQ
                      · intro hc98
                        exact absurd hc98 (by decide)
                    · intro hc90
                      exact absurd rfl hc90
                  · intro hc68
                    exact absurd hc68 (by decide)
                · intro hc56
                  exact absurd (by rw [← h2']; exact hc56) ha
          · rw [if_neg ht] at hQ
            refine z_iload_n (q := 41) dX5_readInto_40 rfl rfl ?_
            refine z_aload_n (q := 42) dX5_readInto_41 rfl rfl ?_
            refine z_get (q := 45) dX5_readInto_42 zfX5_15 (by first | exact zT_X | exact zpT_a (c := 2) rfl | exact zT_o hw) rfl rfl ?_
            refine z_eqi hL' ?_
            refine z_icmp_geN (tg := 113) (q := 48) dX5_readInto_45 rfl rfl (by omega) (by omega) ?_ ?_
            · intro hc45
              omega
            · intro hc45
              refine z_aload_n (q := 49) dX5_readInto_48 rfl rfl ?_
              refine z_get (q := 52) dX5_readInto_49 zfX5_9 (by first | exact zT_X | exact zpT_a (c := 2) rfl | exact zT_o hw) rfl rfl ?_
              refine z_iload_n (q := 53) dX5_readInto_52 rfl rfl ?_
              refine z_iald (q := 54) dX5_readInto_53 (by first | exact zT_X | exact zpT_a (c := 2) rfl | exact zT_o hw) (by omega) (by omega) rfl ?_
              refine z_bipush (q := 56) dX5_readInto_54 zcb_97 rfl ?_
              refine z_icmp_ne (tg := 63) (q := 59) dX5_readInto_56 rfl rfl ?_ ?_
              · intro hc56
                refine z_iconst (q := 64) dX5_readInto_63 zci_0 rfl ?_
                refine z_istore (q := 66) dX5_readInto_64 (Nat.le_of_ble_eq_true rfl) rfl rfl ?_
                refine z_iload (q := 68) dX5_readInto_66 rfl rfl ?_
                refine z_if_eq (tg := 80) (q := 71) dX5_readInto_68 rfl rfl ?_ ?_
                · intro hc68
                  refine z_aload_n (q := 81) dX5_readInto_80 rfl rfl ?_
                  refine z_iload_n (q := 82) dX5_readInto_81 rfl rfl ?_
                  refine z_aload_n (q := 83) dX5_readInto_82 rfl rfl ?_
                  refine z_v2 (q := 86) dX5_readInto_83 zkX5_44 zt_mX5_readTask rfl (by first | exact zT_X | exact zpT_a (c := 2) rfl | exact zT_o hw) rfl (Nat.le_of_ble_eq_true rfl) (ct_X5_readTask0 hw hD hL' hL2 hpL (by rw [h2']; exact ht)) rfl ?_
                  refine z_istore_n (q := 87) dX5_readInto_86 (Nat.le_of_ble_eq_true rfl) rfl rfl ?_
                  refine z_iload_n (q := 88) dX5_readInto_87 rfl rfl ?_
                  refine z_bipush (q := 90) dX5_readInto_88 zcb_m9 rfl ?_
                  refine z_icmp_eq (tg := 95) (q := 93) dX5_readInto_90 rfl rfl ?_ ?_
                  · intro hc90
                    exact absurd hc90 (nI_nm9 (by omega))
                  · intro hc90
                    refine z_iload_n (q := 94) dX5_readInto_93 rfl rfl ?_
                    exact z_reti dX5_readInto_94 rfl (⟨by rw [hQ], D, rfl, fun hh => absurd hh (by rw [hQ]; exact nI_nm9 (by omega)), hO⟩)
                · intro hc68
                  exact absurd hc68 (by decide)
              · intro hc56
                exact absurd (by rw [← h2']; exact hc56) ha
      · rw [qRd, if_neg hpL] at hQ
        refine z_iload_n (q := 41) dX5_readInto_40 rfl rfl ?_
        refine z_aload_n (q := 42) dX5_readInto_41 rfl rfl ?_
        refine z_get (q := 45) dX5_readInto_42 zfX5_15 (by first | exact zT_X | exact zpT_a (c := 2) rfl | exact zT_o hw) rfl rfl ?_
        refine z_eqi hL' ?_
        refine z_icmp_geN (tg := 113) (q := 48) dX5_readInto_45 rfl rfl (by omega) (by omega) ?_ ?_
        · intro hc45
          refine z_bipush (q := 115) dX5_readInto_113 zcb_m9 rfl ?_
          exact z_reti dX5_readInto_115 rfl (⟨by rw [hQ], D, rfl, fun _ => by rw [hQ]; exact ⟨k, t, hD.1⟩, hO⟩)
        · intro hc45
          omega
  refine zC_ofA (lv := [some (.ref (b + 1)), some (.ref (b + o)), none, none, none]) (by decide) rfl (Nat.le_of_ble_eq_true rfl) ?_
  by_cases hC : L = 0 ∨ ¬ d 2 0 = nI 67
  · have hQ : qRead (d 2) L = (nI 0, qZero) := by rw [qRead, if_pos hC]
    have h67 : ¬ qCo (d 2) L 0 = nI 67 := by
      rw [qCo]
      by_cases h0 : 0 < L
      · rw [if_pos h0]
        exact hC.resolve_left (by omega)
      · rw [if_neg h0]
        decide
    refine z_aload_n (q := 1) dX5_readInto_0 rfl rfl ?_
    refine z_iconst (q := 2) dX5_readInto_1 zci_0 rfl ?_
    refine z_v1 (q := 5) dX5_readInto_2 zkX5_23 zt_mX5_codeAt rfl (by first | exact zT_X | exact zpT_a (c := 2) rfl | exact zT_o hw) rfl (Nat.le_of_ble_eq_true rfl) (ct_X5_codeAt hL hL2 (by decide)) rfl ?_
    refine z_bipush (q := 7) dX5_readInto_5 zcb_67 rfl ?_
    refine z_icmp_eq (tg := 12) (q := 10) dX5_readInto_7 rfl rfl ?_ ?_
    · intro hc7
      exact absurd hc7 h67
    · intro hc7
      refine z_iconst (q := 11) dX5_readInto_10 zci_0 rfl ?_
      exact z_reti dX5_readInto_11 rfl (⟨by rw [hQ], d, rfl, fun hh => absurd hh (by rw [hQ]; decide), zOut_r⟩)
  · have hQ : qRead (d 2) L = match qTwo (d 2) L 1 1 20 with
      | (none, q) => (nI q, qZero)
      | (some v, q) => qRd (d 2) L 120 q 0 0 (va_up qZero 3 (nI v)) := by rw [qRead, if_neg hC]; rfl
    have h67 : qCo (d 2) L 0 = nI 67 := by
      rw [qCo, if_pos (by omega)]
      exact Classical.byContradiction (fun h => hC (Or.inr h))
    rcases qTwo_c (d 2) L 1 1 20 with ⟨q, e⟩ | ⟨v, q, e⟩
    · have b1 := qTwo_q (by decide) (by decide) e
      simp only [e] at hQ
      refine z_aload_n (q := 1) dX5_readInto_0 rfl rfl ?_
      refine z_iconst (q := 2) dX5_readInto_1 zci_0 rfl ?_
      refine z_v1 (q := 5) dX5_readInto_2 zkX5_23 zt_mX5_codeAt rfl (by first | exact zT_X | exact zpT_a (c := 2) rfl | exact zT_o hw) rfl (Nat.le_of_ble_eq_true rfl) (ct_X5_codeAt hL hL2 (by decide)) rfl ?_
      refine z_eqi h67 ?_
      refine z_bipush (q := 7) dX5_readInto_5 zcb_67 rfl ?_
      refine z_icmp_eqN (tg := 12) (q := 10) dX5_readInto_7 rfl rfl (by omega) (by omega) ?_ ?_
      · intro hc7
        refine z_aload_n (q := 13) dX5_readInto_12 rfl rfl ?_
        refine z_iconst (q := 14) dX5_readInto_13 zci_1 rfl ?_
        refine z_iconst (q := 15) dX5_readInto_14 zci_1 rfl ?_
        refine z_bipush (q := 17) dX5_readInto_15 zcb_20 rfl ?_
        refine z_v3 (q := 20) dX5_readInto_17 zkX5_27 zt_mX5_badInNumber rfl (by first | exact zT_X | exact zpT_a (c := 2) rfl | exact zT_o hw) rfl (Nat.le_of_ble_eq_true rfl) (ct_X5_badInNumber hL hL2 (by decide) (by decide) (by decide)) rfl ?_
        refine z_eqi (show _ = nI q by rw [e, qBad_n]) ?_
        refine z_istore_n (q := 21) dX5_readInto_20 (Nat.le_of_ble_eq_true rfl) rfl rfl ?_
        refine z_iload_n (q := 22) dX5_readInto_21 rfl rfl ?_
        refine z_bipush (q := 24) dX5_readInto_22 zcb_m9 rfl ?_
        refine z_icmp_eq (tg := 29) (q := 27) dX5_readInto_24 rfl rfl ?_ ?_
        · intro hc24
          exact absurd hc24 (nI_nm9 (by omega))
        · intro hc24
          refine z_iload_n (q := 28) dX5_readInto_27 rfl rfl ?_
          exact z_reti dX5_readInto_28 rfl (⟨by rw [hQ], d, rfl, fun hh => absurd hh (by rw [hQ]; exact nI_nm9 (by omega)), zOut_r⟩)
      · intro hc7
        exact absurd hc7 (by decide)
    · obtain ⟨n1, rfl, -⟩ := qTwo_num (by decide) (by decide) e
      simp only [e] at hQ
      refine z_aload_n (q := 1) dX5_readInto_0 rfl rfl ?_
      refine z_iconst (q := 2) dX5_readInto_1 zci_0 rfl ?_
      refine z_v1 (q := 5) dX5_readInto_2 zkX5_23 zt_mX5_codeAt rfl (by first | exact zT_X | exact zpT_a (c := 2) rfl | exact zT_o hw) rfl (Nat.le_of_ble_eq_true rfl) (ct_X5_codeAt hL hL2 (by decide)) rfl ?_
      refine z_eqi h67 ?_
      refine z_bipush (q := 7) dX5_readInto_5 zcb_67 rfl ?_
      refine z_icmp_eqN (tg := 12) (q := 10) dX5_readInto_7 rfl rfl (by omega) (by omega) ?_ ?_
      · intro hc7
        refine z_aload_n (q := 13) dX5_readInto_12 rfl rfl ?_
        refine z_iconst (q := 14) dX5_readInto_13 zci_1 rfl ?_
        refine z_iconst (q := 15) dX5_readInto_14 zci_1 rfl ?_
        refine z_bipush (q := 17) dX5_readInto_15 zcb_20 rfl ?_
        refine z_v3 (q := 20) dX5_readInto_17 zkX5_27 zt_mX5_badInNumber rfl (by first | exact zT_X | exact zpT_a (c := 2) rfl | exact zT_o hw) rfl (Nat.le_of_ble_eq_true rfl) (ct_X5_badInNumber hL hL2 (by decide) (by decide) (by decide)) rfl ?_
        refine z_eqi (show _ = -9 by rw [e, qBad_s]) ?_
        refine z_istore_n (q := 21) dX5_readInto_20 (Nat.le_of_ble_eq_true rfl) rfl rfl ?_
        refine z_iload_n (q := 22) dX5_readInto_21 rfl rfl ?_
        refine z_bipush (q := 24) dX5_readInto_22 zcb_m9 rfl ?_
        refine z_icmp_eq (tg := 29) (q := 27) dX5_readInto_24 rfl rfl ?_ ?_
        · intro hc24
          refine z_aload_n (q := 30) dX5_readInto_29 rfl rfl ?_
          refine z_aload_n (q := 31) dX5_readInto_30 rfl rfl ?_
          refine z_iconst (q := 32) dX5_readInto_31 zci_1 rfl ?_
          refine z_v1 (q := 35) dX5_readInto_32 zkX5_31 zt_mX5_numberAt rfl (by first | exact zT_X | exact zpT_a (c := 2) rfl | exact zT_o hw) rfl (Nat.le_of_ble_eq_true rfl) (ct_X5_numberAt hL hL2 (by decide)) rfl ?_
          refine z_eqi n1 ?_
          refine z_V1 (q := 38) dX5_readInto_35 zkX5_34 zt_mX6_makeBare rfl (by first | exact zT_X | exact zpT_a (c := 2) rfl | exact zT_o hw) rfl (Nat.le_of_ble_eq_true rfl) (ct_X6_makeBare hw) (Nat.zero_le _) (Nat.zero_le _) rfl ?_
          rintro _ _ ⟨rfl, D, rfl, hD, hO⟩
          refine z_iconst (q := 39) dX5_readInto_38 zci_3 rfl ?_
          refine z_istore_n (q := 40) dX5_readInto_39 (Nat.le_of_ble_eq_true rfl) rfl rfl ?_
          exact loop 120 3 0 0 _ D _ _ (by omega) (by decide) hD hO hQ
        · intro hc24
          exact absurd rfl hc24
      · intro hc7
        exact absurd hc7 (by decide)
