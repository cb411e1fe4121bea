/-! ===== the reference: the text, whole ===== -/
theorem qRA_le {s : Nat → Int32} {L p : Nat} (hp : p ≤ L) : p ≤ (qRA s L p).2 ∧ (qRA s L p).2 ≤ L := by
  have l1 := qTwo_le (s := s) (lo := 0) (hi := 11) hp (by omega) (by omega)
  rcases e1 : qTwo s L p 0 11 with ⟨_ | x, p1⟩
  · rw [e1] at l1
    simp only [qRA, e1]
    exact l1
  · rw [e1] at l1
    have l2 := qTwo_le (s := s) (lo := 0) (hi := 11) l1.2 (by omega) (by omega)
    rcases e2 : qTwo s L p1 0 11 with ⟨_ | y, p2⟩
    · rw [e2] at l2
      simp only [qRA, e1, e2]
      exact ⟨Nat.le_trans l1.1 l2.1, l2.2⟩
    · rw [e2] at l2
      have l3 := qTwo_le (s := s) (lo := 0) (hi := 22) l2.2 (by omega) (by omega)
      rcases e3 : qTwo s L p2 0 22 with ⟨_ | r, p3⟩ <;> rw [e3] at l3 <;> simp only [qRA, e1, e2, e3] <;> exact ⟨Nat.le_trans l1.1 (Nat.le_trans l2.1 l3.1), l3.2⟩
theorem qRT_le {s : Nat → Int32} {L p : Nat} (hp : p ≤ L) : p ≤ (qRT s L p).2 ∧ (qRT s L p).2 ≤ L := by
  have l1 := qTwo_le (s := s) (lo := 0) (hi := 11) hp (by omega) (by omega)
  rcases e1 : qTwo s L p 0 11 with ⟨_ | x, p1⟩
  · rw [e1] at l1
    simp only [qRT, e1]
    exact l1
  · rw [e1] at l1
    have l2 := qTwo_le (s := s) (lo := 0) (hi := 11) l1.2 (by omega) (by omega)
    rcases e2 : qTwo s L p1 0 11 with ⟨_ | y, p2⟩
    · rw [e2] at l2
      simp only [qRT, e1, e2]
      exact ⟨Nat.le_trans l1.1 l2.1, l2.2⟩
    · rw [e2] at l2
      rcases e3 : qDig s L p2 1 9 with _ | r
      · simp only [qRT, e1, e2, e3]
        exact ⟨Nat.le_trans l1.1 l2.1, l2.2⟩
      · have l3 := qDig_i e3 (by omega) (by omega)
        simp only [qRT, e1, e2, e3]
        have := l1.1
        have := l2.1
        simp only at *
        omega
theorem qRA_v {s : Nat → Int32} {L p x y r q : Nat} (h : qRA s L p = (some (x, y, r), q)) : x ≤ 11 ∧ y ≤ 11 ∧ r ≤ 22 ∧ ∃ p1 p2, qTwo s L p 0 11 = (some x, p1) ∧ qTwo s L p1 0 11 = (some y, p2) ∧ qTwo s L p2 0 22 = (some r, q) := by
  rcases e1 : qTwo s L p 0 11 with ⟨_ | x1, p1⟩
  · simp [qRA, e1] at h
  · rcases e2 : qTwo s L p1 0 11 with ⟨_ | y1, p2⟩
    · simp [qRA, e1, e2] at h
    · rcases e3 : qTwo s L p2 0 22 with ⟨_ | r1, p3⟩
      · simp [qRA, e1, e2, e3] at h
      · simp only [qRA, e1, e2, e3, Prod.mk.injEq, Option.some.injEq] at h
        obtain ⟨⟨rfl, rfl, rfl⟩, rfl⟩ := h
        have v1 := (qTwo_v (s := s) (L := L) (p := p) (lo := 0) (hi := 11) (v := x1) (by omega) (by omega) (by rw [e1]))
        have v2 := (qTwo_v (s := s) (L := L) (p := p1) (lo := 0) (hi := 11) (v := y1) (by omega) (by omega) (by rw [e2]))
        have v3 := (qTwo_v (s := s) (L := L) (p := p2) (lo := 0) (hi := 22) (v := r1) (by omega) (by omega) (by rw [e3]))
        exact ⟨v1.2.1, v2.2.1, v3.2.1, p1, p2, rfl, e2, e3⟩
theorem qRT_v {s : Nat → Int32} {L p x y w q : Nat} (h : qRT s L p = (some (x, y, w), q)) : x ≤ 11 ∧ y ≤ 11 ∧ 1 ≤ w ∧ w ≤ 9 ∧ ∃ p1 p2, qTwo s L p 0 11 = (some x, p1) ∧ qTwo s L p1 0 11 = (some y, p2) ∧ qDig s L p2 1 9 = some w ∧ q = p2 + 1 := by
  rcases e1 : qTwo s L p 0 11 with ⟨_ | x1, p1⟩
  · simp [qRT, e1] at h
  · rcases e2 : qTwo s L p1 0 11 with ⟨_ | y1, p2⟩
    · simp [qRT, e1, e2] at h
    · rcases e3 : qDig s L p2 1 9 with _ | r1
      · simp [qRT, e1, e2, e3] at h
      · simp only [qRT, e1, e2, e3, Prod.mk.injEq, Option.some.injEq] at h
        obtain ⟨⟨rfl, rfl, rfl⟩, rfl⟩ := h
        have v1 := (qTwo_v (s := s) (L := L) (p := p) (lo := 0) (hi := 11) (v := x1) (by omega) (by omega) (by rw [e1]))
        have v2 := (qTwo_v (s := s) (L := L) (p := p1) (lo := 0) (hi := 11) (v := y1) (by omega) (by omega) (by rw [e2]))
        have v3 := qDig_i e3 (by omega) (by omega)
        exact ⟨v1.2.1, v2.2.1, v3.2.1, v3.2.2.1, p1, p2, rfl, e2, e3, rfl⟩
set_option maxRecDepth 100000 in
set_option maxHeartbeats 4000000 in
theorem ct_X8_readAgent_s {g : zGl} {h : zHp} {m L p q x y r k : Nat} {s : Nat → Int32} {U : Nat → Nat → Int32} (h1 : U 1 = s) (hL : U 0 2 = nI L) (hL2 : L ≤ 120) (hp : U 0 3 = nI p) (hp2 : p ≤ L) (hk : U 2 0 = nI k) (hk6 : k < 6) (hq : qRA s L p = (some (x, y, r), q)) : zC g mX8_readAgent [.ref m] (zpM g h m U) (zVU (zpM g h m (va_up (va_up U 0 (va_up (U 0) 3 (nI q))) 2 (qAddA (U 2) k x y r))) (.int (nI 1))) 0 0 := by
  refine zC_ofA (lv := [some (.ref m), none, none, none, none]) (by decide) rfl (Nat.le_of_ble_eq_true rfl) ?_
  obtain ⟨b1, b2, b3, p1, p2, e1, e2, e3⟩ := qRA_v hq
  have l1 := qTwo_le (s := s) (lo := 0) (hi := 11) hp2 (by omega) (by omega)
  rw [e1] at l1
  have l2 := qTwo_le (s := s) (lo := 0) (hi := 11) l1.2 (by omega) (by omega)
  rw [e2] at l2
  refine z_aload_n (q := 1) dX8_readAgent_0 rfl rfl ?_
  refine z_iconst (q := 2) dX8_readAgent_1 zci_0 rfl ?_
  refine z_bipush (q := 4) dX8_readAgent_2 zcb_11 rfl ?_
  refine z_x2 (q := 7) dX8_readAgent_4 zkX8_136 zt_mX8_two rfl (by first | exact zpM_0 | exact zpM_a rfl | exact zpM_8) rfl (Nat.le_of_ble_eq_true rfl) (ct_X8_two h1 hL hL2 hp hp2 (by omega) (by omega)) rfl ?_
  rw [e1]
  refine z_eqi (show qT (some x) = nI x from rfl) ?_
  refine z_istore_n (q := 8) dX8_readAgent_7 (Nat.le_of_ble_eq_true rfl) rfl rfl ?_
  refine z_iload_n (q := 9) dX8_readAgent_8 rfl rfl ?_
  refine z_bipush (q := 11) dX8_readAgent_9 zcb_m9 rfl ?_
  refine z_icmp_ne (tg := 19) (q := 14) dX8_readAgent_11 rfl rfl ?_ ?_
  · intro hc11
    refine z_aload_n (q := 20) dX8_readAgent_19 rfl rfl ?_
    refine z_iconst (q := 21) dX8_readAgent_20 zci_0 rfl ?_
    refine z_bipush (q := 23) dX8_readAgent_21 zcb_11 rfl ?_
    refine z_x2 (q := 26) dX8_readAgent_23 zkX8_136 zt_mX8_two rfl (by first | exact zpM_0 | exact zpM_a rfl | exact zpM_8) rfl (Nat.le_of_ble_eq_true rfl) (ct_X8_two (p := p1) h1 hL hL2 rfl l1.2 (by omega) (by omega)) rfl ?_
    rw [e2, zpM_s3]
    refine z_eqi (show qT (some y) = nI y from rfl) ?_
    refine z_istore_n (q := 27) dX8_readAgent_26 (Nat.le_of_ble_eq_true rfl) rfl rfl ?_
    refine z_iload_n (q := 28) dX8_readAgent_27 rfl rfl ?_
    refine z_bipush (q := 30) dX8_readAgent_28 zcb_m9 rfl ?_
    refine z_icmp_ne (tg := 38) (q := 33) dX8_readAgent_30 rfl rfl ?_ ?_
    · intro hc30
      refine z_aload_n (q := 39) dX8_readAgent_38 rfl rfl ?_
      refine z_iconst (q := 40) dX8_readAgent_39 zci_0 rfl ?_
      refine z_bipush (q := 42) dX8_readAgent_40 zcb_22 rfl ?_
      refine z_x2 (q := 45) dX8_readAgent_42 zkX8_136 zt_mX8_two rfl (by first | exact zpM_0 | exact zpM_a rfl | exact zpM_8) rfl (Nat.le_of_ble_eq_true rfl) (ct_X8_two (p := p2) h1 hL hL2 rfl l2.2 (by omega) (by omega)) rfl ?_
      rw [e3, zpM_s3]
      refine z_eqi (show qT (some r) = nI r from rfl) ?_
      refine z_istore_n (q := 46) dX8_readAgent_45 (Nat.le_of_ble_eq_true rfl) rfl rfl ?_
      refine z_iload_n (q := 47) dX8_readAgent_46 rfl rfl ?_
      refine z_bipush (q := 49) dX8_readAgent_47 zcb_m9 rfl ?_
      refine z_icmp_ne (tg := 54) (q := 52) dX8_readAgent_49 rfl rfl ?_ ?_
      · intro hc49
        refine z_aload_n (q := 55) dX8_readAgent_54 rfl rfl ?_
        refine z_get (q := 58) dX8_readAgent_55 zfX8_13 (by first | exact zpM_0 | exact zpM_a rfl | exact zpM_8) rfl rfl ?_
        refine z_iconst (q := 59) dX8_readAgent_58 zci_0 rfl ?_
        refine z_iald (q := 60) dX8_readAgent_59 (by first | exact zpM_0 | exact zpM_a rfl | exact zpM_8) (by omega) (by omega) rfl ?_
        refine z_eqi (show _ = nI k from hk) ?_
        refine z_s1 (q := 63) dX8_readAgent_60 zkX8_61 zt_mX8_agentAt rfl (Nat.le_of_ble_eq_true rfl) (ct_X8_agentAt) rfl ?_
        refine z_istore (q := 65) dX8_readAgent_63 (Nat.le_of_ble_eq_true rfl) rfl rfl ?_
        refine z_aload_n (q := 66) dX8_readAgent_65 rfl rfl ?_
        refine z_get (q := 69) dX8_readAgent_66 zfX8_13 (by first | exact zpM_0 | exact zpM_a rfl | exact zpM_8) rfl rfl ?_
        refine z_iload (q := 71) dX8_readAgent_69 rfl rfl ?_
        refine z_iconst (q := 72) dX8_readAgent_71 zci_0 rfl ?_
        refine z_iadd0 (q := 73) dX8_readAgent_72 rfl ?_
        refine z_iload_n (q := 74) dX8_readAgent_73 rfl rfl ?_
        refine z_iastM (q := 75) dX8_readAgent_74 rfl (by omega) rfl ?_
        refine z_aload_n (q := 76) dX8_readAgent_75 rfl rfl ?_
        refine z_get (q := 79) dX8_readAgent_76 zfX8_13 (by first | exact zpM_0 | exact zpM_a rfl | exact zpM_8) rfl rfl ?_
        refine z_iload (q := 81) dX8_readAgent_79 rfl rfl ?_
        refine z_iconst (q := 82) dX8_readAgent_81 zci_1 rfl ?_
        refine z_iaddN (q := 83) dX8_readAgent_82 rfl ?_
        refine z_iload_n (q := 84) dX8_readAgent_83 rfl rfl ?_
        refine z_iastM (q := 85) dX8_readAgent_84 rfl (by omega) rfl ?_
        rw [zu_eq, zu_up]
        refine z_aload_n (q := 86) dX8_readAgent_85 rfl rfl ?_
        refine z_get (q := 89) dX8_readAgent_86 zfX8_13 (by first | exact zpM_0 | exact zpM_a rfl | exact zpM_8) rfl rfl ?_
        refine z_iload (q := 91) dX8_readAgent_89 rfl rfl ?_
        refine z_iconst (q := 92) dX8_readAgent_91 zci_2 rfl ?_
        refine z_iaddN (q := 93) dX8_readAgent_92 rfl ?_
        refine z_iload_n (q := 94) dX8_readAgent_93 rfl rfl ?_
        refine z_iastM (q := 95) dX8_readAgent_94 rfl (by omega) rfl ?_
        rw [zu_eq, zu_up]
        refine z_aload_n (q := 96) dX8_readAgent_95 rfl rfl ?_
        refine z_get (q := 99) dX8_readAgent_96 zfX8_13 (by first | exact zpM_0 | exact zpM_a rfl | exact zpM_8) rfl rfl ?_
        refine z_iload (q := 101) dX8_readAgent_99 rfl rfl ?_
        refine z_iconst (q := 102) dX8_readAgent_101 zci_3 rfl ?_
        refine z_iaddN (q := 103) dX8_readAgent_102 rfl ?_
        refine z_iconst (q := 104) dX8_readAgent_103 zci_1 rfl ?_
        refine z_iastM (q := 105) dX8_readAgent_104 rfl (by omega) rfl ?_
        rw [zu_eq, zu_up]
        refine z_aload_n (q := 106) dX8_readAgent_105 rfl rfl ?_
        refine z_get (q := 109) dX8_readAgent_106 zfX8_13 (by first | exact zpM_0 | exact zpM_a rfl | exact zpM_8) rfl rfl ?_
        refine z_iconst (q := 110) dX8_readAgent_109 zci_0 rfl ?_
        refine z_dup2 (q := 111) dX8_readAgent_110 rfl rfl rfl ?_
        refine z_iald (q := 112) dX8_readAgent_111 (by first | exact zpM_0 | exact zpM_a rfl | exact zpM_8) (by omega) (by omega) rfl ?_
        refine z_eqi (show _ = nI k by rw [zu_eq, zu_ne (by omega), zu_ne (by omega), zu_ne (by omega), zu_ne (by omega)]; exact hk) ?_
        refine z_iconst (q := 113) dX8_readAgent_112 zci_1 rfl ?_
        refine z_iaddN (q := 114) dX8_readAgent_113 rfl ?_
        refine z_iastM (q := 115) dX8_readAgent_114 rfl (by omega) rfl ?_
        rw [zu_eq, zu_up]
        refine z_iconst (q := 116) dX8_readAgent_115 zci_1 rfl ?_
        exact z_retz dX8_readAgent_116 rfl (by first | exact Or.inl rfl | exact Or.inr rfl) (⟨rfl, rfl⟩)
      · intro hc49
        exact absurd hc49 (nI_nm9 (by omega))
    · intro hc30
      exact absurd hc30 (nI_nm9 (by omega))
  · intro hc11
    exact absurd hc11 (nI_nm9 (by omega))
set_option maxRecDepth 100000 in
set_option maxHeartbeats 4000000 in
theorem ct_X8_readTask_s {g : zGl} {h : zHp} {m L p q x y r k : Nat} {s : Nat → Int32} {U : Nat → Nat → Int32} (h1 : U 1 = s) (hL : U 0 2 = nI L) (hL2 : L ≤ 120) (hp : U 0 3 = nI p) (hp2 : p ≤ L) (hk : U 2 1 = nI k) (hk6 : k < 8) (hq : qRT s L p = (some (x, y, r), q)) : zC g mX8_readTask [.ref m] (zpM g h m U) (zVU (zpM g h m (va_up (va_up U 0 (va_up (U 0) 3 (nI q))) 2 (qAddT (U 2) k x y r))) (.int (nI 1))) 0 0 := by
  refine zC_ofA (lv := [some (.ref m), none, none, none, none]) (by decide) rfl (Nat.le_of_ble_eq_true rfl) ?_
  obtain ⟨b1, b2, b3, b4, p1, p2, e1, e2, e3, rfl⟩ := qRT_v hq
  have l1 := qTwo_le (s := s) (lo := 0) (hi := 11) hp2 (by omega) (by omega)
  rw [e1] at l1
  have l2 := qTwo_le (s := s) (lo := 0) (hi := 11) l1.2 (by omega) (by omega)
  rw [e2] at l2
  refine z_aload_n (q := 1) dX8_readTask_0 rfl rfl ?_
  refine z_iconst (q := 2) dX8_readTask_1 zci_0 rfl ?_
  refine z_bipush (q := 4) dX8_readTask_2 zcb_11 rfl ?_
  refine z_x2 (q := 7) dX8_readTask_4 zkX8_136 zt_mX8_two rfl (by first | exact zpM_0 | exact zpM_a rfl | exact zpM_8) rfl (Nat.le_of_ble_eq_true rfl) (ct_X8_two h1 hL hL2 hp hp2 (by omega) (by omega)) rfl ?_
  rw [e1]
  refine z_eqi (show qT (some x) = nI x from rfl) ?_
  refine z_istore_n (q := 8) dX8_readTask_7 (Nat.le_of_ble_eq_true rfl) rfl rfl ?_
  refine z_iload_n (q := 9) dX8_readTask_8 rfl rfl ?_
  refine z_bipush (q := 11) dX8_readTask_9 zcb_m9 rfl ?_
  refine z_icmp_ne (tg := 19) (q := 14) dX8_readTask_11 rfl rfl ?_ ?_
  · intro hc11
    refine z_aload_n (q := 20) dX8_readTask_19 rfl rfl ?_
    refine z_iconst (q := 21) dX8_readTask_20 zci_0 rfl ?_
    refine z_bipush (q := 23) dX8_readTask_21 zcb_11 rfl ?_
    refine z_x2 (q := 26) dX8_readTask_23 zkX8_136 zt_mX8_two rfl (by first | exact zpM_0 | exact zpM_a rfl | exact zpM_8) rfl (Nat.le_of_ble_eq_true rfl) (ct_X8_two (p := p1) h1 hL hL2 rfl l1.2 (by omega) (by omega)) rfl ?_
    rw [e2, zpM_s3]
    refine z_eqi (show qT (some y) = nI y from rfl) ?_
    refine z_istore_n (q := 27) dX8_readTask_26 (Nat.le_of_ble_eq_true rfl) rfl rfl ?_
    refine z_iload_n (q := 28) dX8_readTask_27 rfl rfl ?_
    refine z_bipush (q := 30) dX8_readTask_28 zcb_m9 rfl ?_
    refine z_icmp_ne (tg := 38) (q := 33) dX8_readTask_30 rfl rfl ?_ ?_
    · intro hc30
      refine z_aload_n (q := 39) dX8_readTask_38 rfl rfl ?_
      refine z_iconst (q := 40) dX8_readTask_39 zci_1 rfl ?_
      refine z_bipush (q := 42) dX8_readTask_40 zcb_9 rfl ?_
      refine z_x2 (q := 45) dX8_readTask_42 zkX8_133 zt_mX8_digit rfl (by first | exact zpM_0 | exact zpM_a rfl | exact zpM_8) rfl (Nat.le_of_ble_eq_true rfl) (ct_X8_digit_s (p := p2) h1 hL hL2 rfl l2.2 (by omega) (by omega) e3) rfl ?_
      rw [zpM_s3]
      refine z_istore_n (q := 46) dX8_readTask_45 (Nat.le_of_ble_eq_true rfl) rfl rfl ?_
      refine z_iload_n (q := 47) dX8_readTask_46 rfl rfl ?_
      refine z_bipush (q := 49) dX8_readTask_47 zcb_m9 rfl ?_
      refine z_icmp_ne (tg := 54) (q := 52) dX8_readTask_49 rfl rfl ?_ ?_
      · intro hc49
        refine z_aload_n (q := 55) dX8_readTask_54 rfl rfl ?_
        refine z_get (q := 58) dX8_readTask_55 zfX8_13 (by first | exact zpM_0 | exact zpM_a rfl | exact zpM_8) rfl rfl ?_
        refine z_iconst (q := 59) dX8_readTask_58 zci_1 rfl ?_
        refine z_iald (q := 60) dX8_readTask_59 (by first | exact zpM_0 | exact zpM_a rfl | exact zpM_8) (by omega) (by omega) rfl ?_
        refine z_eqi (show _ = nI k from hk) ?_
        refine z_s1 (q := 63) dX8_readTask_60 zkX8_65 zt_mX8_taskAt rfl (Nat.le_of_ble_eq_true rfl) (ct_X8_taskAt) rfl ?_
        refine z_istore (q := 65) dX8_readTask_63 (Nat.le_of_ble_eq_true rfl) rfl rfl ?_
        refine z_aload_n (q := 66) dX8_readTask_65 rfl rfl ?_
        refine z_get (q := 69) dX8_readTask_66 zfX8_13 (by first | exact zpM_0 | exact zpM_a rfl | exact zpM_8) rfl rfl ?_
        refine z_iload (q := 71) dX8_readTask_69 rfl rfl ?_
        refine z_iconst (q := 72) dX8_readTask_71 zci_0 rfl ?_
        refine z_iadd0 (q := 73) dX8_readTask_72 rfl ?_
        refine z_iload_n (q := 74) dX8_readTask_73 rfl rfl ?_
        refine z_iastM (q := 75) dX8_readTask_74 rfl (by omega) rfl ?_
        refine z_aload_n (q := 76) dX8_readTask_75 rfl rfl ?_
        refine z_get (q := 79) dX8_readTask_76 zfX8_13 (by first | exact zpM_0 | exact zpM_a rfl | exact zpM_8) rfl rfl ?_
        refine z_iload (q := 81) dX8_readTask_79 rfl rfl ?_
        refine z_iconst (q := 82) dX8_readTask_81 zci_1 rfl ?_
        refine z_iaddN (q := 83) dX8_readTask_82 rfl ?_
        refine z_iload_n (q := 84) dX8_readTask_83 rfl rfl ?_
        refine z_iastM (q := 85) dX8_readTask_84 rfl (by omega) rfl ?_
        rw [zu_eq, zu_up]
        refine z_aload_n (q := 86) dX8_readTask_85 rfl rfl ?_
        refine z_get (q := 89) dX8_readTask_86 zfX8_13 (by first | exact zpM_0 | exact zpM_a rfl | exact zpM_8) rfl rfl ?_
        refine z_iload (q := 91) dX8_readTask_89 rfl rfl ?_
        refine z_iconst (q := 92) dX8_readTask_91 zci_2 rfl ?_
        refine z_iaddN (q := 93) dX8_readTask_92 rfl ?_
        refine z_iload_n (q := 94) dX8_readTask_93 rfl rfl ?_
        refine z_iastM (q := 95) dX8_readTask_94 rfl (by omega) rfl ?_
        rw [zu_eq, zu_up]
        refine z_aload_n (q := 96) dX8_readTask_95 rfl rfl ?_
        refine z_get (q := 99) dX8_readTask_96 zfX8_13 (by first | exact zpM_0 | exact zpM_a rfl | exact zpM_8) rfl rfl ?_
        refine z_iconst (q := 100) dX8_readTask_99 zci_1 rfl ?_
        refine z_dup2 (q := 101) dX8_readTask_100 rfl rfl rfl ?_
        refine z_iald (q := 102) dX8_readTask_101 (by first | exact zpM_0 | exact zpM_a rfl | exact zpM_8) (by omega) (by omega) rfl ?_
        refine z_eqi (show _ = nI k by rw [zu_eq, zu_ne (by omega), zu_ne (by omega), zu_ne (by omega)]; exact hk) ?_
        refine z_iconst (q := 103) dX8_readTask_102 zci_1 rfl ?_
        refine z_iaddN (q := 104) dX8_readTask_103 rfl ?_
        refine z_iastM (q := 105) dX8_readTask_104 rfl (by omega) rfl ?_
        rw [zu_eq, zu_up]
        refine z_iconst (q := 106) dX8_readTask_105 zci_1 rfl ?_
        exact z_retz dX8_readTask_106 rfl (by first | exact Or.inl rfl | exact Or.inr rfl) (⟨rfl, rfl⟩)
      · intro hc49
        exact absurd hc49 (nI_nm9 (by omega))
    · intro hc30
      exact absurd hc30 (nI_nm9 (by omega))
  · intro hc11
    exact absurd hc11 (nI_nm9 (by omega))
set_option maxRecDepth 100000 in
set_option maxHeartbeats 4000000 in
theorem ct_X8_readTask_n {g : zGl} {h : zHp} {m L p q : Nat} {s : Nat → Int32} {U : Nat → Nat → Int32} (h1 : U 1 = s) (hL : U 0 2 = nI L) (hL2 : L ≤ 120) (hp : U 0 3 = nI p) (hp2 : p ≤ L) (hq : qRT s L p = (none, q)) : zC g mX8_readTask [.ref m] (zpM g h m U) (zVU (zpM g h m (va_up U 0 (va_up (U 0) 3 (nI q)))) (.int (nI 0))) 0 0 := by
  refine zC_ofA (lv := [some (.ref m), none, none, none, none]) (by decide) rfl (Nat.le_of_ble_eq_true rfl) ?_
  have l1 := qTwo_le (s := s) (lo := 0) (hi := 11) hp2 (by omega) (by omega)
  rcases e1 : qTwo s L p 0 11 with ⟨_ | x, p1⟩
  · have eq : q = p1 := by simp only [qRT, e1, Prod.mk.injEq] at hq; exact hq.2.symm
    rw [eq]
    refine z_aload_n (q := 1) dX8_readTask_0 rfl rfl ?_
    refine z_iconst (q := 2) dX8_readTask_1 zci_0 rfl ?_
    refine z_bipush (q := 4) dX8_readTask_2 zcb_11 rfl ?_
    refine z_x2 (q := 7) dX8_readTask_4 zkX8_136 zt_mX8_two rfl (by first | exact zpM_0 | exact zpM_a rfl | exact zpM_8) rfl (Nat.le_of_ble_eq_true rfl) (ct_X8_two h1 hL hL2 hp hp2 (by omega) (by omega)) rfl ?_
    rw [e1]
    refine z_eqi (show qT none = -9 from rfl) ?_
    refine z_istore_n (q := 8) dX8_readTask_7 (Nat.le_of_ble_eq_true rfl) rfl rfl ?_
    refine z_iload_n (q := 9) dX8_readTask_8 rfl rfl ?_
    refine z_bipush (q := 11) dX8_readTask_9 zcb_m9 rfl ?_
    refine z_icmp_ne (tg := 19) (q := 14) dX8_readTask_11 rfl rfl ?_ ?_
    · intro hc11
      exact absurd rfl hc11
    · intro hc11
      refine z_bipush (q := 16) dX8_readTask_14 zcb_m9 rfl ?_
      refine z_goto (q := 0) (tg := 26) dX8_readTask_16 rfl ?_
      refine z_istore_n (q := 27) dX8_readTask_26 (Nat.le_of_ble_eq_true rfl) rfl rfl ?_
      refine z_iload_n (q := 28) dX8_readTask_27 rfl rfl ?_
      refine z_bipush (q := 30) dX8_readTask_28 zcb_m9 rfl ?_
      refine z_icmp_ne (tg := 38) (q := 33) dX8_readTask_30 rfl rfl ?_ ?_
      · intro hc30
        exact absurd rfl hc30
      · intro hc30
        refine z_bipush (q := 35) dX8_readTask_33 zcb_m9 rfl ?_
        refine z_goto (q := 0) (tg := 45) dX8_readTask_35 rfl ?_
        refine z_istore_n (q := 46) dX8_readTask_45 (Nat.le_of_ble_eq_true rfl) rfl rfl ?_
        refine z_iload_n (q := 47) dX8_readTask_46 rfl rfl ?_
        refine z_bipush (q := 49) dX8_readTask_47 zcb_m9 rfl ?_
        refine z_icmp_ne (tg := 54) (q := 52) dX8_readTask_49 rfl rfl ?_ ?_
        · intro hc49
          exact absurd rfl hc49
        · intro hc49
          refine z_iconst (q := 53) dX8_readTask_52 zci_0 rfl ?_
          exact z_retz dX8_readTask_53 rfl (by first | exact Or.inl rfl | exact Or.inr rfl) (⟨rfl, rfl⟩)
  · rw [e1] at l1
    have l2 := qTwo_le (s := s) (lo := 0) (hi := 11) l1.2 (by omega) (by omega)
    have v1 := (qTwo_v (s := s) (L := L) (p := p) (lo := 0) (hi := 11) (v := x) (by omega) (by omega) (by rw [e1]))
    rcases e2 : qTwo s L p1 0 11 with ⟨_ | y, p2⟩
    · have eq : q = p2 := by simp only [qRT, e1, e2, Prod.mk.injEq] at hq; exact hq.2.symm
      rw [eq]
      refine z_aload_n (q := 1) dX8_readTask_0 rfl rfl ?_
      refine z_iconst (q := 2) dX8_readTask_1 zci_0 rfl ?_
      refine z_bipush (q := 4) dX8_readTask_2 zcb_11 rfl ?_
      refine z_x2 (q := 7) dX8_readTask_4 zkX8_136 zt_mX8_two rfl (by first | exact zpM_0 | exact zpM_a rfl | exact zpM_8) rfl (Nat.le_of_ble_eq_true rfl) (ct_X8_two h1 hL hL2 hp hp2 (by omega) (by omega)) rfl ?_
      rw [e1]
      refine z_eqi (show qT (some x) = nI x from rfl) ?_
      refine z_istore_n (q := 8) dX8_readTask_7 (Nat.le_of_ble_eq_true rfl) rfl rfl ?_
      refine z_iload_n (q := 9) dX8_readTask_8 rfl rfl ?_
      refine z_bipush (q := 11) dX8_readTask_9 zcb_m9 rfl ?_
      refine z_icmp_ne (tg := 19) (q := 14) dX8_readTask_11 rfl rfl ?_ ?_
      · intro hc11
        refine z_aload_n (q := 20) dX8_readTask_19 rfl rfl ?_
        refine z_iconst (q := 21) dX8_readTask_20 zci_0 rfl ?_
        refine z_bipush (q := 23) dX8_readTask_21 zcb_11 rfl ?_
        refine z_x2 (q := 26) dX8_readTask_23 zkX8_136 zt_mX8_two rfl (by first | exact zpM_0 | exact zpM_a rfl | exact zpM_8) rfl (Nat.le_of_ble_eq_true rfl) (ct_X8_two (p := p1) h1 hL hL2 rfl l1.2 (by omega) (by omega)) rfl ?_
        rw [e2, zpM_s3]
        refine z_eqi (show qT none = -9 from rfl) ?_
        refine z_istore_n (q := 27) dX8_readTask_26 (Nat.le_of_ble_eq_true rfl) rfl rfl ?_
        refine z_iload_n (q := 28) dX8_readTask_27 rfl rfl ?_
        refine z_bipush (q := 30) dX8_readTask_28 zcb_m9 rfl ?_
        refine z_icmp_ne (tg := 38) (q := 33) dX8_readTask_30 rfl rfl ?_ ?_
        · intro hc30
          exact absurd rfl hc30
        · intro hc30
          refine z_bipush (q := 35) dX8_readTask_33 zcb_m9 rfl ?_
          refine z_goto (q := 0) (tg := 45) dX8_readTask_35 rfl ?_
          refine z_istore_n (q := 46) dX8_readTask_45 (Nat.le_of_ble_eq_true rfl) rfl rfl ?_
          refine z_iload_n (q := 47) dX8_readTask_46 rfl rfl ?_
          refine z_bipush (q := 49) dX8_readTask_47 zcb_m9 rfl ?_
          refine z_icmp_ne (tg := 54) (q := 52) dX8_readTask_49 rfl rfl ?_ ?_
          · intro hc49
            exact absurd rfl hc49
          · intro hc49
            refine z_iconst (q := 53) dX8_readTask_52 zci_0 rfl ?_
            exact z_retz dX8_readTask_53 rfl (by first | exact Or.inl rfl | exact Or.inr rfl) (⟨rfl, rfl⟩)
      · intro hc11
        exact absurd hc11 (nI_nm9 (by omega))
    · rw [e2] at l2
      have v2 := (qTwo_v (s := s) (L := L) (p := p1) (lo := 0) (hi := 11) (v := y) (by omega) (by omega) (by rw [e2]))
      rcases e3 : qDig s L p2 1 9 with _ | r
      · have eq : q = p2 := by simp only [qRT, e1, e2, e3, Prod.mk.injEq] at hq; exact hq.2.symm
        rw [eq]
        refine z_aload_n (q := 1) dX8_readTask_0 rfl rfl ?_
        refine z_iconst (q := 2) dX8_readTask_1 zci_0 rfl ?_
        refine z_bipush (q := 4) dX8_readTask_2 zcb_11 rfl ?_
        refine z_x2 (q := 7) dX8_readTask_4 zkX8_136 zt_mX8_two rfl (by first | exact zpM_0 | exact zpM_a rfl | exact zpM_8) rfl (Nat.le_of_ble_eq_true rfl) (ct_X8_two h1 hL hL2 hp hp2 (by omega) (by omega)) rfl ?_
        rw [e1]
        refine z_eqi (show qT (some x) = nI x from rfl) ?_
        refine z_istore_n (q := 8) dX8_readTask_7 (Nat.le_of_ble_eq_true rfl) rfl rfl ?_
        refine z_iload_n (q := 9) dX8_readTask_8 rfl rfl ?_
        refine z_bipush (q := 11) dX8_readTask_9 zcb_m9 rfl ?_
        refine z_icmp_ne (tg := 19) (q := 14) dX8_readTask_11 rfl rfl ?_ ?_
        · intro hc11
          refine z_aload_n (q := 20) dX8_readTask_19 rfl rfl ?_
          refine z_iconst (q := 21) dX8_readTask_20 zci_0 rfl ?_
          refine z_bipush (q := 23) dX8_readTask_21 zcb_11 rfl ?_
          refine z_x2 (q := 26) dX8_readTask_23 zkX8_136 zt_mX8_two rfl (by first | exact zpM_0 | exact zpM_a rfl | exact zpM_8) rfl (Nat.le_of_ble_eq_true rfl) (ct_X8_two (p := p1) h1 hL hL2 rfl l1.2 (by omega) (by omega)) rfl ?_
          rw [e2, zpM_s3]
          refine z_eqi (show qT (some y) = nI y from rfl) ?_
          refine z_istore_n (q := 27) dX8_readTask_26 (Nat.le_of_ble_eq_true rfl) rfl rfl ?_
          refine z_iload_n (q := 28) dX8_readTask_27 rfl rfl ?_
          refine z_bipush (q := 30) dX8_readTask_28 zcb_m9 rfl ?_
          refine z_icmp_ne (tg := 38) (q := 33) dX8_readTask_30 rfl rfl ?_ ?_
          · intro hc30
            refine z_aload_n (q := 39) dX8_readTask_38 rfl rfl ?_
            refine z_iconst (q := 40) dX8_readTask_39 zci_1 rfl ?_
            refine z_bipush (q := 42) dX8_readTask_40 zcb_9 rfl ?_
            refine z_x2 (q := 45) dX8_readTask_42 zkX8_133 zt_mX8_digit rfl (by first | exact zpM_0 | exact zpM_a rfl | exact zpM_8) rfl (Nat.le_of_ble_eq_true rfl) (ct_X8_digit_n (p := p2) h1 hL hL2 rfl l2.2 (by omega) (by omega) e3) rfl ?_
            refine z_istore_n (q := 46) dX8_readTask_45 (Nat.le_of_ble_eq_true rfl) rfl rfl ?_
            refine z_iload_n (q := 47) dX8_readTask_46 rfl rfl ?_
            refine z_bipush (q := 49) dX8_readTask_47 zcb_m9 rfl ?_
            refine z_icmp_ne (tg := 54) (q := 52) dX8_readTask_49 rfl rfl ?_ ?_
            · intro hc49
              exact absurd rfl hc49
            · intro hc49
              refine z_iconst (q := 53) dX8_readTask_52 zci_0 rfl ?_
              exact z_retz dX8_readTask_53 rfl (by first | exact Or.inl rfl | exact Or.inr rfl) (⟨rfl, rfl⟩)
          · intro hc30
            exact absurd hc30 (nI_nm9 (by omega))
        · intro hc11
          exact absurd hc11 (nI_nm9 (by omega))
      · simp only [qRT, e1, e2, e3, Prod.mk.injEq] at hq
        cases hq.1
/-- reading on from p: the answer, the row, where it stands; k agents and t tasks so far -/
def qRd (s : Nat → Int32) (L : Nat) : Nat → Nat → Nat → Nat → (Nat → Int32) → Int32 × (Nat → Int32)
  | 0, _, _, _, R => (-9, R)
  | fuel + 1, p, k, t, R => if p < L then
      (if s p = nI 97 ∧ k < 6 then (match qRA s L (p + 1) with
        | (some (x, y, r), q) => qRd s L fuel q (k + 1) t (qAddA R k x y r)
        | (none, q) => (nI q, R))
      else if s p = nI 116 ∧ t < 8 then (match qRT s L (p + 1) with
        | (some (x, y, w), q) => qRd s L fuel q k (t + 1) (qAddT R t x y w)
        | (none, q) => (nI q, R))
      else (nI p, R)) else (-9, R)
def qZero : Nat → Int32 := fun _ => nI 0
/-- the whole text: the answer, and the row where the answer is -9 -/
def qRead (s : Nat → Int32) (L : Nat) : Int32 × (Nat → Int32) :=
  if L = 0 ∨ ¬ s 0 = nI 67 then (nI 0, qZero) else match qTwo s L 1 1 20 with
  | (none, q) => (nI q, qZero)
  | (some v, q) => qRd s L 120 q 0 0 (va_up qZero 3 (nI v))
/-- what is owed of readText: the answer; nothing that counts has changed; where the answer is -9 the row -/
def zRT (g : zGl) (h : zHp) (m : Nat) (u : Nat → Nat → Int32) (a : Int32 × (Nat → Int32)) : Option Value → zHp → Prop := fun v h' => v = some (.int a.1) ∧ ∃ U, h' = zpM g h m U ∧ zSc u U ∧ U 0 0 = u 0 0 ∧ (a.1 = -9 → U 2 = a.2)
theorem zRT_i {g : zGl} {h : zHp} {m : Nat} {u U : Nat → Nat → Int32} {a : Int32 × (Nat → Int32)} {v : Int32} (hv : v = a.1) (hS : zSc u U) (h0 : U 0 0 = u 0 0) (h2 : a.1 = -9 → U 2 = a.2) : zRT g h m u a (some (.int v)) (zpM g h m U) := ⟨by rw [hv], U, rfl, hS, h0, h2⟩
theorem zSc_sp {u U : Nat → Nat → Int32} {x : Int32} (hS : zSc u U) : zSc u (va_up U 0 (va_up (U 0) 3 x)) := by
  obtain ⟨a1, a2, a3, a4, a5, a6, a7⟩ := hS
  exact ⟨a1, a2, a3, a4, a5, a6, a7⟩
theorem zSc_2 {u U : Nat → Nat → Int32} {f : Nat → Int32} (hS : zSc u U) : zSc u (va_up U 2 f) := zSc_t hS (zSc_w (by decide)).1
theorem qAddA_1 {R : Nat → Int32} {k x y r : Nat} (hk : k < 6) : qAddA R k x y r 1 = R 1 := by
  unfold qAddA
  rw [zu_ne (by omega), zu_ne (by omega), zu_ne (by omega), zu_ne (by omega), zu_ne (by omega)]
theorem qAddT_0 {R : Nat → Int32} {k x y r : Nat} (hk : k < 8) : qAddT R k x y r 0 = R 0 := by
  unfold qAddT
  rw [zu_ne (by omega), zu_ne (by omega), zu_ne (by omega), zu_ne (by omega)]
set_option maxRecDepth 100000 in
set_option maxHeartbeats 4000000 in
theorem ct_X8_readText {g : zGl} {h : zHp} {m L : Nat} {u : Nat → Nat → Int32} (hL : u 0 2 = nI L) (hL2 : L ≤ 120) : zC g mX8_readText [.ref m] (zpM g h m u) (zRT g h m u (qRead (u 1) L)) 0 0 := by
  refine zC_ofA (lv := [some (.ref m), none, none, none]) (by decide) rfl (Nat.le_of_ble_eq_true rfl) ?_
  have loop : ∀ fuel p k t U (x1 : Int32) x2 x3, L - p < fuel → p ≤ L → zSc u U → U 0 0 = u 0 0 → U 0 3 = nI p → U 2 0 = nI k → k ≤ 6 → U 2 1 = nI t → t ≤ 8 → qRd (u 1) L fuel p k t (U 2) = qRead (u 1) L → zA g (zZc g mX8_readText (zRT g h m u (qRead (u 1) L)) 0 0) 0 0 78 [some (.ref m), some (.int x1), x2, x3] [] (zpM g h m U) := by
    intro fuel
    induction fuel with
    | zero => intro p k t U x1 x2 x3 hf; omega
    | succ fuel ih =>
      intro p k t U x1 x2 x3 hf hpL hS h00 hp hk hk6 ht ht8 hq
      have hs1 : U 1 = u 1 := hS.1
      have hsL : U 0 2 = nI L := hS.2.2.2.2.2.1.trans hL
      by_cases hpl : p < L
      · by_cases hA : u 1 p = nI 97 ∧ k < 6
        · rcases e1 : qRA (u 1) L (p + 1) with ⟨_ | ⟨x, y, r⟩, q⟩
          · have e2 : qRead (u 1) L = (nI q, U 2) := by rw [← hq, qRd, if_pos hpl, if_pos hA]; simp only [e1]
            have l1 := qRA_le (s := u 1) (L := L) (p := p + 1) (by omega)
            rw [e1] at l1
            rw [e2]
            refine z_aload_n (q := 79) dX8_readText_78 rfl rfl ?_
            refine z_get (q := 82) dX8_readText_79 zfX8_130 (by first | exact zpM_0 | exact zpM_a rfl | exact zpM_8) rfl rfl ?_
            refine z_eqi hp ?_
            refine z_aload_n (q := 83) dX8_readText_82 rfl rfl ?_
            refine z_get (q := 86) dX8_readText_83 zfX8_123 (by first | exact zpM_0 | exact zpM_a rfl | exact zpM_8) rfl rfl ?_
            refine z_eqi hsL ?_
            refine z_icmp_geN (tg := 189) (q := 89) dX8_readText_86 rfl rfl (by omega) (by omega) ?_ ?_
            · intro hc86
              omega
            · intro hc86
              refine z_aload_n (q := 90) dX8_readText_89 rfl rfl ?_
              refine z_get (q := 93) dX8_readText_90 zfX8_7 (by first | exact zpM_0 | exact zpM_a rfl | exact zpM_8) rfl rfl ?_
              refine z_aload_n (q := 94) dX8_readText_93 rfl rfl ?_
              refine z_get (q := 97) dX8_readText_94 zfX8_130 (by first | exact zpM_0 | exact zpM_a rfl | exact zpM_8) rfl rfl ?_
              refine z_eqi hp ?_
              refine z_iald (q := 98) dX8_readText_97 (by first | exact zpM_0 | exact zpM_a rfl | exact zpM_8) (by omega) (by omega) rfl ?_
              rw [hs1]
              refine z_eqi hA.1 ?_
              refine z_istore_n (q := 99) dX8_readText_98 (Nat.le_of_ble_eq_true rfl) rfl rfl ?_
              refine z_iload_n (q := 100) dX8_readText_99 rfl rfl ?_
              refine z_bipush (q := 102) dX8_readText_100 zcb_97 rfl ?_
              refine z_icmp_neN (tg := 116) (q := 105) dX8_readText_102 rfl rfl (by omega) (by omega) ?_ ?_
              · intro hc102
                exact absurd hc102 (by decide)
              · intro hc102
                refine z_aload_n (q := 106) dX8_readText_105 rfl rfl ?_
                refine z_get (q := 109) dX8_readText_106 zfX8_13 (by first | exact zpM_0 | exact zpM_a rfl | exact zpM_8) rfl rfl ?_
                refine z_iconst (q := 110) dX8_readText_109 zci_0 rfl ?_
                refine z_iald (q := 111) dX8_readText_110 (by first | exact zpM_0 | exact zpM_a rfl | exact zpM_8) (by omega) (by omega) rfl ?_
                refine z_eqi hk ?_
                refine z_bipush (q := 113) dX8_readText_111 zcb_6 rfl ?_
                refine z_icmp_ltN (tg := 133) (q := 116) dX8_readText_113 rfl rfl (by omega) (by omega) ?_ ?_
                · intro hc113
                  skip
                  refine z_iconst (q := 134) dX8_readText_133 zci_1 rfl ?_
                  refine z_goto (q := 0) (tg := 138) dX8_readText_134 rfl ?_
                  refine z_istore_n (q := 139) dX8_readText_138 (Nat.le_of_ble_eq_true rfl) rfl rfl ?_
                  refine z_iload_n (q := 140) dX8_readText_139 rfl rfl ?_
                  refine z_if_ne (tg := 148) (q := 143) dX8_readText_140 rfl rfl ?_ ?_
                  · intro hc140
                    refine z_aload_n (q := 149) dX8_readText_148 rfl rfl ?_
                    refine z_dup (q := 150) dX8_readText_149 rfl rfl ?_
                    refine z_get (q := 153) dX8_readText_150 zfX8_130 (by first | exact zpM_0 | exact zpM_a rfl | exact zpM_8) rfl rfl ?_
                    refine z_eqi hp ?_
                    refine z_iconst (q := 154) dX8_readText_153 zci_1 rfl ?_
                    refine z_iaddN (q := 155) dX8_readText_154 rfl ?_
                    refine z_putM (q := 158) dX8_readText_155 zfX8_130 (by decide) rfl ?_
                    refine z_iload_n (q := 159) dX8_readText_158 rfl rfl ?_
                    refine z_bipush (q := 161) dX8_readText_159 zcb_97 rfl ?_
                    refine z_icmp_neN (tg := 174) (q := 164) dX8_readText_161 rfl rfl (by omega) (by omega) ?_ ?_
                    · intro hc161
                      exact absurd hc161 (by decide)
                    · intro hc161
                      refine z_aload_n (q := 165) dX8_readText_164 rfl rfl ?_
                      refine z_x0 (q := 168) dX8_readText_165 zkX8_139 zt_mX8_readAgent rfl (by first | exact zpM_0 | exact zpM_a rfl | exact zpM_8) rfl (Nat.le_of_ble_eq_true rfl) (ct_X8_readAgent_n (p := p + 1) hs1 hsL hL2 rfl (by omega) e1) rfl ?_
                      rw [zpM_s3]
                      refine z_if_ne (tg := 186) (q := 171) dX8_readText_168 rfl rfl ?_ ?_
                      · intro hc168
                        exact absurd hc168 (by decide)
                      · intro hc168
                        refine z_goto (q := 0) (tg := 181) dX8_readText_171 rfl ?_
                        refine z_aload_n (q := 182) dX8_readText_181 rfl rfl ?_
                        refine z_get (q := 185) dX8_readText_182 zfX8_130 (by first | exact zpM_0 | exact zpM_a rfl | exact zpM_8) rfl rfl ?_
                        exact z_reti dX8_readText_185 rfl (zRT_i rfl (zSc_sp hS) h00 (fun z => absurd z (nI_nm9 (by have := l1.2; simp only at this; omega))))
                  · intro hc140
                    exact absurd hc140 (by decide)
                · intro hc113
                  omega
          · have e2 : qRd (u 1) L fuel q (k + 1) t (qAddA (U 2) k x y r) = qRead (u 1) L := by rw [← hq, qRd, if_pos hpl, if_pos hA]; simp only [e1]
            have l1 := qRA_le (s := u 1) (L := L) (p := p + 1) (by omega)
            rw [e1] at l1
            simp only at l1
            refine z_aload_n (q := 79) dX8_readText_78 rfl rfl ?_
            refine z_get (q := 82) dX8_readText_79 zfX8_130 (by first | exact zpM_0 | exact zpM_a rfl | exact zpM_8) rfl rfl ?_
            refine z_eqi hp ?_
            refine z_aload_n (q := 83) dX8_readText_82 rfl rfl ?_
            refine z_get (q := 86) dX8_readText_83 zfX8_123 (by first | exact zpM_0 | exact zpM_a rfl | exact zpM_8) rfl rfl ?_
            refine z_eqi hsL ?_
            refine z_icmp_geN (tg := 189) (q := 89) dX8_readText_86 rfl rfl (by omega) (by omega) ?_ ?_
            · intro hc86
              omega
            · intro hc86
              refine z_aload_n (q := 90) dX8_readText_89 rfl rfl ?_
              refine z_get (q := 93) dX8_readText_90 zfX8_7 (by first | exact zpM_0 | exact zpM_a rfl | exact zpM_8) rfl rfl ?_
              refine z_aload_n (q := 94) dX8_readText_93 rfl rfl ?_
              refine z_get (q := 97) dX8_readText_94 zfX8_130 (by first | exact zpM_0 | exact zpM_a rfl | exact zpM_8) rfl rfl ?_
              refine z_eqi hp ?_
              refine z_iald (q := 98) dX8_readText_97 (by first | exact zpM_0 | exact zpM_a rfl | exact zpM_8) (by omega) (by omega) rfl ?_
              rw [hs1]
              refine z_eqi hA.1 ?_
              refine z_istore_n (q := 99) dX8_readText_98 (Nat.le_of_ble_eq_true rfl) rfl rfl ?_
              refine z_iload_n (q := 100) dX8_readText_99 rfl rfl ?_
              refine z_bipush (q := 102) dX8_readText_100 zcb_97 rfl ?_
              refine z_icmp_neN (tg := 116) (q := 105) dX8_readText_102 rfl rfl (by omega) (by omega) ?_ ?_
              · intro hc102
                exact absurd hc102 (by decide)
              · intro hc102
                refine z_aload_n (q := 106) dX8_readText_105 rfl rfl ?_
                refine z_get (q := 109) dX8_readText_106 zfX8_13 (by first | exact zpM_0 | exact zpM_a rfl | exact zpM_8) rfl rfl ?_
                refine z_iconst (q := 110) dX8_readText_109 zci_0 rfl ?_
                refine z_iald (q := 111) dX8_readText_110 (by first | exact zpM_0 | exact zpM_a rfl | exact zpM_8) (by omega) (by omega) rfl ?_
                refine z_eqi hk ?_
                refine z_bipush (q := 113) dX8_readText_111 zcb_6 rfl ?_
                refine z_icmp_ltN (tg := 133) (q := 116) dX8_readText_113 rfl rfl (by omega) (by omega) ?_ ?_
                · intro hc113
                  skip
                  refine z_iconst (q := 134) dX8_readText_133 zci_1 rfl ?_
                  refine z_goto (q := 0) (tg := 138) dX8_readText_134 rfl ?_
                  refine z_istore_n (q := 139) dX8_readText_138 (Nat.le_of_ble_eq_true rfl) rfl rfl ?_
                  refine z_iload_n (q := 140) dX8_readText_139 rfl rfl ?_
                  refine z_if_ne (tg := 148) (q := 143) dX8_readText_140 rfl rfl ?_ ?_
                  · intro hc140
                    refine z_aload_n (q := 149) dX8_readText_148 rfl rfl ?_
                    refine z_dup (q := 150) dX8_readText_149 rfl rfl ?_
                    refine z_get (q := 153) dX8_readText_150 zfX8_130 (by first | exact zpM_0 | exact zpM_a rfl | exact zpM_8) rfl rfl ?_
                    refine z_eqi hp ?_
                    refine z_iconst (q := 154) dX8_readText_153 zci_1 rfl ?_
                    refine z_iaddN (q := 155) dX8_readText_154 rfl ?_
                    refine z_putM (q := 158) dX8_readText_155 zfX8_130 (by decide) rfl ?_
                    refine z_iload_n (q := 159) dX8_readText_158 rfl rfl ?_
                    refine z_bipush (q := 161) dX8_readText_159 zcb_97 rfl ?_
                    refine z_icmp_neN (tg := 174) (q := 164) dX8_readText_161 rfl rfl (by omega) (by omega) ?_ ?_
                    · intro hc161
                      exact absurd hc161 (by decide)
                    · intro hc161
                      refine z_aload_n (q := 165) dX8_readText_164 rfl rfl ?_
                      refine z_x0 (q := 168) dX8_readText_165 zkX8_139 zt_mX8_readAgent rfl (by first | exact zpM_0 | exact zpM_a rfl | exact zpM_8) rfl (Nat.le_of_ble_eq_true rfl) (ct_X8_readAgent_s (p := p + 1) hs1 hsL hL2 rfl (by omega) hk hA.2 e1) rfl ?_
                      refine z_if_ne (tg := 186) (q := 171) dX8_readText_168 rfl rfl ?_ ?_
                      · intro hc168
                        refine z_goto (q := 0) (tg := 78) dX8_readText_186 rfl ?_
                        refine ih q (k + 1) t _ _ _ _ (by omega) l1.2 (zSc_2 (zSc_sp (zSc_sp hS))) h00 rfl (by rw [zu_eq]; exact zu_eq _ _ _) (by omega) (by rw [zu_eq, qAddA_1 hA.2]; exact ht) ht8 ?_
                        rw [zu_eq]
                        exact e2
                      · intro hc168
                        exact absurd hc168 (by decide)
                  · intro hc140
                    exact absurd hc140 (by decide)
                · intro hc113
                  omega
        · by_cases hT : u 1 p = nI 116 ∧ t < 8
          · rcases e1 : qRT (u 1) L (p + 1) with ⟨_ | ⟨x, y, r⟩, q⟩
            · have e2 : qRead (u 1) L = (nI q, U 2) := by rw [← hq, qRd, if_pos hpl, if_neg hA, if_pos hT]; simp only [e1]
              have l1 := qRT_le (s := u 1) (L := L) (p := p + 1) (by omega)
              rw [e1] at l1
              rw [e2]
              refine z_aload_n (q := 79) dX8_readText_78 rfl rfl ?_
              refine z_get (q := 82) dX8_readText_79 zfX8_130 (by first | exact zpM_0 | exact zpM_a rfl | exact zpM_8) rfl rfl ?_
              refine z_eqi hp ?_
              refine z_aload_n (q := 83) dX8_readText_82 rfl rfl ?_
              refine z_get (q := 86) dX8_readText_83 zfX8_123 (by first | exact zpM_0 | exact zpM_a rfl | exact zpM_8) rfl rfl ?_
              refine z_eqi hsL ?_
              refine z_icmp_geN (tg := 189) (q := 89) dX8_readText_86 rfl rfl (by omega) (by omega) ?_ ?_
              · intro hc86
                omega
              · intro hc86
                refine z_aload_n (q := 90) dX8_readText_89 rfl rfl ?_
                refine z_get (q := 93) dX8_readText_90 zfX8_7 (by first | exact zpM_0 | exact zpM_a rfl | exact zpM_8) rfl rfl ?_
                refine z_aload_n (q := 94) dX8_readText_93 rfl rfl ?_
                refine z_get (q := 97) dX8_readText_94 zfX8_130 (by first | exact zpM_0 | exact zpM_a rfl | exact zpM_8) rfl rfl ?_
                refine z_eqi hp ?_
                refine z_iald (q := 98) dX8_readText_97 (by first | exact zpM_0 | exact zpM_a rfl | exact zpM_8) (by omega) (by omega) rfl ?_
                rw [hs1]
                refine z_eqi hT.1 ?_
                refine z_istore_n (q := 99) dX8_readText_98 (Nat.le_of_ble_eq_true rfl) rfl rfl ?_
                refine z_iload_n (q := 100) dX8_readText_99 rfl rfl ?_
                refine z_bipush (q := 102) dX8_readText_100 zcb_97 rfl ?_
                refine z_icmp_neN (tg := 116) (q := 105) dX8_readText_102 rfl rfl (by omega) (by omega) ?_ ?_
                · intro hc102
                  refine z_iload_n (q := 117) dX8_readText_116 rfl rfl ?_
                  refine z_bipush (q := 119) dX8_readText_117 zcb_116 rfl ?_
                  refine z_icmp_neN (tg := 137) (q := 122) dX8_readText_119 rfl rfl (by omega) (by omega) ?_ ?_
                  · intro hc119
                    exact absurd hc119 (by decide)
                  · intro hc119
                    refine z_aload_n (q := 123) dX8_readText_122 rfl rfl ?_
                    refine z_get (q := 126) dX8_readText_123 zfX8_13 (by first | exact zpM_0 | exact zpM_a rfl | exact zpM_8) rfl rfl ?_
                    refine z_iconst (q := 127) dX8_readText_126 zci_1 rfl ?_
                    refine z_iald (q := 128) dX8_readText_127 (by first | exact zpM_0 | exact zpM_a rfl | exact zpM_8) (by omega) (by omega) rfl ?_
                    refine z_eqi ht ?_
                    refine z_bipush (q := 130) dX8_readText_128 zcb_8 rfl ?_
                    refine z_icmp_geN (tg := 137) (q := 133) dX8_readText_130 rfl rfl (by omega) (by omega) ?_ ?_
                    · intro hc130
                      omega
                    · intro hc130
                      refine z_iconst (q := 134) dX8_readText_133 zci_1 rfl ?_
                      refine z_goto (q := 0) (tg := 138) dX8_readText_134 rfl ?_
                      refine z_istore_n (q := 139) dX8_readText_138 (Nat.le_of_ble_eq_true rfl) rfl rfl ?_
                      refine z_iload_n (q := 140) dX8_readText_139 rfl rfl ?_
                      refine z_if_ne (tg := 148) (q := 143) dX8_readText_140 rfl rfl ?_ ?_
                      · intro hc140
                        refine z_aload_n (q := 149) dX8_readText_148 rfl rfl ?_
                        refine z_dup (q := 150) dX8_readText_149 rfl rfl ?_
                        refine z_get (q := 153) dX8_readText_150 zfX8_130 (by first | exact zpM_0 | exact zpM_a rfl | exact zpM_8) rfl rfl ?_
                        refine z_eqi hp ?_
                        refine z_iconst (q := 154) dX8_readText_153 zci_1 rfl ?_
                        refine z_iaddN (q := 155) dX8_readText_154 rfl ?_
                        refine z_putM (q := 158) dX8_readText_155 zfX8_130 (by decide) rfl ?_
                        refine z_iload_n (q := 159) dX8_readText_158 rfl rfl ?_
                        refine z_bipush (q := 161) dX8_readText_159 zcb_97 rfl ?_
                        refine z_icmp_neN (tg := 174) (q := 164) dX8_readText_161 rfl rfl (by omega) (by omega) ?_ ?_
                        · intro hc161
                          refine z_aload_n (q := 175) dX8_readText_174 rfl rfl ?_
                          refine z_x0 (q := 178) dX8_readText_175 zkX8_143 zt_mX8_readTask rfl (by first | exact zpM_0 | exact zpM_a rfl | exact zpM_8) rfl (Nat.le_of_ble_eq_true rfl) (ct_X8_readTask_n (p := p + 1) hs1 hsL hL2 rfl (by omega) e1) rfl ?_
                          rw [zpM_s3]
                          refine z_if_ne (tg := 186) (q := 181) dX8_readText_178 rfl rfl ?_ ?_
                          · intro hc178
                            exact absurd hc178 (by decide)
                          · intro hc178
                            refine z_aload_n (q := 182) dX8_readText_181 rfl rfl ?_
                            refine z_get (q := 185) dX8_readText_182 zfX8_130 (by first | exact zpM_0 | exact zpM_a rfl | exact zpM_8) rfl rfl ?_
                            exact z_reti dX8_readText_185 rfl (zRT_i rfl (zSc_sp hS) h00 (fun z => absurd z (nI_nm9 (by have := l1.2; simp only at this; omega))))
                        · intro hc161
                          exact absurd hc161 (by decide)
                      · intro hc140
                        exact absurd hc140 (by decide)
                · intro hc102
                  exact absurd hc102 (by decide)
            · have e2 : qRd (u 1) L fuel q k (t + 1) (qAddT (U 2) t x y r) = qRead (u 1) L := by rw [← hq, qRd, if_pos hpl, if_neg hA, if_pos hT]; simp only [e1]
              have l1 := qRT_le (s := u 1) (L := L) (p := p + 1) (by omega)
              rw [e1] at l1
              simp only at l1
              refine z_aload_n (q := 79) dX8_readText_78 rfl rfl ?_
              refine z_get (q := 82) dX8_readText_79 zfX8_130 (by first | exact zpM_0 | exact zpM_a rfl | exact zpM_8) rfl rfl ?_
              refine z_eqi hp ?_
              refine z_aload_n (q := 83) dX8_readText_82 rfl rfl ?_
              refine z_get (q := 86) dX8_readText_83 zfX8_123 (by first | exact zpM_0 | exact zpM_a rfl | exact zpM_8) rfl rfl ?_
              refine z_eqi hsL ?_
              refine z_icmp_geN (tg := 189) (q := 89) dX8_readText_86 rfl rfl (by omega) (by omega) ?_ ?_
              · intro hc86
                omega
              · intro hc86
                refine z_aload_n (q := 90) dX8_readText_89 rfl rfl ?_
                refine z_get (q := 93) dX8_readText_90 zfX8_7 (by first | exact zpM_0 | exact zpM_a rfl | exact zpM_8) rfl rfl ?_
                refine z_aload_n (q := 94) dX8_readText_93 rfl rfl ?_
                refine z_get (q := 97) dX8_readText_94 zfX8_130 (by first | exact zpM_0 | exact zpM_a rfl | exact zpM_8) rfl rfl ?_
                refine z_eqi hp ?_
                refine z_iald (q := 98) dX8_readText_97 (by first | exact zpM_0 | exact zpM_a rfl | exact zpM_8) (by omega) (by omega) rfl ?_
                rw [hs1]
                refine z_eqi hT.1 ?_
                refine z_istore_n (q := 99) dX8_readText_98 (Nat.le_of_ble_eq_true rfl) rfl rfl ?_
                refine z_iload_n (q := 100) dX8_readText_99 rfl rfl ?_
                refine z_bipush (q := 102) dX8_readText_100 zcb_97 rfl ?_
                refine z_icmp_neN (tg := 116) (q := 105) dX8_readText_102 rfl rfl (by omega) (by omega) ?_ ?_
                · intro hc102
                  refine z_iload_n (q := 117) dX8_readText_116 rfl rfl ?_
                  refine z_bipush (q := 119) dX8_readText_117 zcb_116 rfl ?_
                  refine z_icmp_neN (tg := 137) (q := 122) dX8_readText_119 rfl rfl (by omega) (by omega) ?_ ?_
                  · intro hc119
                    exact absurd hc119 (by decide)
                  · intro hc119
                    refine z_aload_n (q := 123) dX8_readText_122 rfl rfl ?_
                    refine z_get (q := 126) dX8_readText_123 zfX8_13 (by first | exact zpM_0 | exact zpM_a rfl | exact zpM_8) rfl rfl ?_
                    refine z_iconst (q := 127) dX8_readText_126 zci_1 rfl ?_
                    refine z_iald (q := 128) dX8_readText_127 (by first | exact zpM_0 | exact zpM_a rfl | exact zpM_8) (by omega) (by omega) rfl ?_
                    refine z_eqi ht ?_
                    refine z_bipush (q := 130) dX8_readText_128 zcb_8 rfl ?_
                    refine z_icmp_geN (tg := 137) (q := 133) dX8_readText_130 rfl rfl (by omega) (by omega) ?_ ?_
                    · intro hc130
                      omega
                    · intro hc130
                      refine z_iconst (q := 134) dX8_readText_133 zci_1 rfl ?_
                      refine z_goto (q := 0) (tg := 138) dX8_readText_134 rfl ?_
                      refine z_istore_n (q := 139) dX8_readText_138 (Nat.le_of_ble_eq_true rfl) rfl rfl ?_
                      refine z_iload_n (q := 140) dX8_readText_139 rfl rfl ?_
                      refine z_if_ne (tg := 148) (q := 143) dX8_readText_140 rfl rfl ?_ ?_
                      · intro hc140
                        refine z_aload_n (q := 149) dX8_readText_148 rfl rfl ?_
                        refine z_dup (q := 150) dX8_readText_149 rfl rfl ?_
                        refine z_get (q := 153) dX8_readText_150 zfX8_130 (by first | exact zpM_0 | exact zpM_a rfl | exact zpM_8) rfl rfl ?_
                        refine z_eqi hp ?_
                        refine z_iconst (q := 154) dX8_readText_153 zci_1 rfl ?_
                        refine z_iaddN (q := 155) dX8_readText_154 rfl ?_
                        refine z_putM (q := 158) dX8_readText_155 zfX8_130 (by decide) rfl ?_
                        refine z_iload_n (q := 159) dX8_readText_158 rfl rfl ?_
                        refine z_bipush (q := 161) dX8_readText_159 zcb_97 rfl ?_
                        refine z_icmp_neN (tg := 174) (q := 164) dX8_readText_161 rfl rfl (by omega) (by omega) ?_ ?_
                        · intro hc161
                          refine z_aload_n (q := 175) dX8_readText_174 rfl rfl ?_
                          refine z_x0 (q := 178) dX8_readText_175 zkX8_143 zt_mX8_readTask rfl (by first | exact zpM_0 | exact zpM_a rfl | exact zpM_8) rfl (Nat.le_of_ble_eq_true rfl) (ct_X8_readTask_s (p := p + 1) hs1 hsL hL2 rfl (by omega) ht hT.2 e1) rfl ?_
                          refine z_if_ne (tg := 186) (q := 181) dX8_readText_178 rfl rfl ?_ ?_
                          · intro hc178
                            refine z_goto (q := 0) (tg := 78) dX8_readText_186 rfl ?_
                            refine ih q k (t + 1) _ _ _ _ (by omega) l1.2 (zSc_2 (zSc_sp (zSc_sp hS))) h00 rfl (by rw [zu_eq, qAddT_0 hT.2]; exact hk) hk6 (by rw [zu_eq]; exact zu_eq _ _ _) (by omega) ?_
                            rw [zu_eq]
                            exact e2
                          · intro hc178
                            exact absurd hc178 (by decide)
                        · intro hc161
                          exact absurd hc161 (by decide)
                      · intro hc140
                        exact absurd hc140 (by decide)
                · intro hc102
                  exact absurd hc102 (by decide)
          · have e2 : qRead (u 1) L = (nI p, U 2) := by rw [← hq, qRd, if_pos hpl, if_neg hA, if_neg hT]
            rw [e2]
            refine z_aload_n (q := 79) dX8_readText_78 rfl rfl ?_
            refine z_get (q := 82) dX8_readText_79 zfX8_130 (by first | exact zpM_0 | exact zpM_a rfl | exact zpM_8) rfl rfl ?_
            refine z_eqi hp ?_
            refine z_aload_n (q := 83) dX8_readText_82 rfl rfl ?_
            refine z_get (q := 86) dX8_readText_83 zfX8_123 (by first | exact zpM_0 | exact zpM_a rfl | exact zpM_8) rfl rfl ?_
            refine z_eqi hsL ?_
            refine z_icmp_geN (tg := 189) (q := 89) dX8_readText_86 rfl rfl (by omega) (by omega) ?_ ?_
            · intro hc86
              omega
            · intro hc86
              refine z_aload_n (q := 90) dX8_readText_89 rfl rfl ?_
              refine z_get (q := 93) dX8_readText_90 zfX8_7 (by first | exact zpM_0 | exact zpM_a rfl | exact zpM_8) rfl rfl ?_
              refine z_aload_n (q := 94) dX8_readText_93 rfl rfl ?_
              refine z_get (q := 97) dX8_readText_94 zfX8_130 (by first | exact zpM_0 | exact zpM_a rfl | exact zpM_8) rfl rfl ?_
              refine z_eqi hp ?_
              refine z_iald (q := 98) dX8_readText_97 (by first | exact zpM_0 | exact zpM_a rfl | exact zpM_8) (by omega) (by omega) rfl ?_
              rw [hs1]
              refine z_istore_n (q := 99) dX8_readText_98 (Nat.le_of_ble_eq_true rfl) rfl rfl ?_
              refine z_iload_n (q := 100) dX8_readText_99 rfl rfl ?_
              refine z_bipush (q := 102) dX8_readText_100 zcb_97 rfl ?_
              refine z_icmp_ne (tg := 116) (q := 105) dX8_readText_102 rfl rfl ?_ ?_
              · intro hc102
                refine z_iload_n (q := 117) dX8_readText_116 rfl rfl ?_
                refine z_bipush (q := 119) dX8_readText_117 zcb_116 rfl ?_
                refine z_icmp_ne (tg := 137) (q := 122) dX8_readText_119 rfl rfl ?_ ?_
                · intro hc119
                  refine z_iconst (q := 138) dX8_readText_137 zci_0 rfl ?_
                  refine z_istore_n (q := 139) dX8_readText_138 (Nat.le_of_ble_eq_true rfl) rfl rfl ?_
                  refine z_iload_n (q := 140) dX8_readText_139 rfl rfl ?_
                  refine z_if_ne (tg := 148) (q := 143) dX8_readText_140 rfl rfl ?_ ?_
                  · intro hc140
                    exact absurd hc140 (by decide)
                  · intro hc140
                    refine z_aload_n (q := 144) dX8_readText_143 rfl rfl ?_
                    refine z_get (q := 147) dX8_readText_144 zfX8_130 (by first | exact zpM_0 | exact zpM_a rfl | exact zpM_8) rfl rfl ?_
                    exact z_reti dX8_readText_147 rfl (zRT_i hp hS h00 (fun z => absurd z (nI_nm9 (by omega))))
                · intro hc119
                  refine z_aload_n (q := 123) dX8_readText_122 rfl rfl ?_
                  refine z_get (q := 126) dX8_readText_123 zfX8_13 (by first | exact zpM_0 | exact zpM_a rfl | exact zpM_8) rfl rfl ?_
                  refine z_iconst (q := 127) dX8_readText_126 zci_1 rfl ?_
                  refine z_iald (q := 128) dX8_readText_127 (by first | exact zpM_0 | exact zpM_a rfl | exact zpM_8) (by omega) (by omega) rfl ?_
                  refine z_eqi ht ?_
                  refine z_bipush (q := 130) dX8_readText_128 zcb_8 rfl ?_
                  refine z_icmp_geN (tg := 137) (q := 133) dX8_readText_130 rfl rfl (by omega) (by omega) ?_ ?_
                  · intro hc130
                    refine z_iconst (q := 138) dX8_readText_137 zci_0 rfl ?_
                    refine z_istore_n (q := 139) dX8_readText_138 (Nat.le_of_ble_eq_true rfl) rfl rfl ?_
                    refine z_iload_n (q := 140) dX8_readText_139 rfl rfl ?_
                    refine z_if_ne (tg := 148) (q := 143) dX8_readText_140 rfl rfl ?_ ?_
                    · intro hc140
                      exact absurd hc140 (by decide)
                    · intro hc140
                      refine z_aload_n (q := 144) dX8_readText_143 rfl rfl ?_
                      refine z_get (q := 147) dX8_readText_144 zfX8_130 (by first | exact zpM_0 | exact zpM_a rfl | exact zpM_8) rfl rfl ?_
                      exact z_reti dX8_readText_147 rfl (zRT_i hp hS h00 (fun z => absurd z (nI_nm9 (by omega))))
                  · intro hc130
                    exact absurd ⟨hc119, hc130⟩ hT
              · intro hc102
                refine z_aload_n (q := 106) dX8_readText_105 rfl rfl ?_
                refine z_get (q := 109) dX8_readText_106 zfX8_13 (by first | exact zpM_0 | exact zpM_a rfl | exact zpM_8) rfl rfl ?_
                refine z_iconst (q := 110) dX8_readText_109 zci_0 rfl ?_
                refine z_iald (q := 111) dX8_readText_110 (by first | exact zpM_0 | exact zpM_a rfl | exact zpM_8) (by omega) (by omega) rfl ?_
                refine z_eqi hk ?_
                refine z_bipush (q := 113) dX8_readText_111 zcb_6 rfl ?_
                refine z_icmp_ltN (tg := 133) (q := 116) dX8_readText_113 rfl rfl (by omega) (by omega) ?_ ?_
                · intro hc113
                  exact absurd ⟨hc102, hc113⟩ hA
                · intro hc113
                  refine z_iload_n (q := 117) dX8_readText_116 rfl rfl ?_
                  refine z_bipush (q := 119) dX8_readText_117 zcb_116 rfl ?_
                  refine z_icmp_ne (tg := 137) (q := 122) dX8_readText_119 rfl rfl ?_ ?_
                  · intro hc119
                    refine z_iconst (q := 138) dX8_readText_137 zci_0 rfl ?_
                    refine z_istore_n (q := 139) dX8_readText_138 (Nat.le_of_ble_eq_true rfl) rfl rfl ?_
                    refine z_iload_n (q := 140) dX8_readText_139 rfl rfl ?_
                    refine z_if_ne (tg := 148) (q := 143) dX8_readText_140 rfl rfl ?_ ?_
                    · intro hc140
                      exact absurd hc140 (by decide)
                    · intro hc140
                      refine z_aload_n (q := 144) dX8_readText_143 rfl rfl ?_
                      refine z_get (q := 147) dX8_readText_144 zfX8_130 (by first | exact zpM_0 | exact zpM_a rfl | exact zpM_8) rfl rfl ?_
                      exact z_reti dX8_readText_147 rfl (zRT_i hp hS h00 (fun z => absurd z (nI_nm9 (by omega))))
                  · intro hc119
                    refine z_aload_n (q := 123) dX8_readText_122 rfl rfl ?_
                    refine z_get (q := 126) dX8_readText_123 zfX8_13 (by first | exact zpM_0 | exact zpM_a rfl | exact zpM_8) rfl rfl ?_
                    refine z_iconst (q := 127) dX8_readText_126 zci_1 rfl ?_
                    refine z_iald (q := 128) dX8_readText_127 (by first | exact zpM_0 | exact zpM_a rfl | exact zpM_8) (by omega) (by omega) rfl ?_
                    refine z_eqi ht ?_
                    refine z_bipush (q := 130) dX8_readText_128 zcb_8 rfl ?_
                    refine z_icmp_geN (tg := 137) (q := 133) dX8_readText_130 rfl rfl (by omega) (by omega) ?_ ?_
                    · intro hc130
                      refine z_iconst (q := 138) dX8_readText_137 zci_0 rfl ?_
                      refine z_istore_n (q := 139) dX8_readText_138 (Nat.le_of_ble_eq_true rfl) rfl rfl ?_
                      refine z_iload_n (q := 140) dX8_readText_139 rfl rfl ?_
                      refine z_if_ne (tg := 148) (q := 143) dX8_readText_140 rfl rfl ?_ ?_
                      · intro hc140
                        exact absurd hc140 (by decide)
                      · intro hc140
                        refine z_aload_n (q := 144) dX8_readText_143 rfl rfl ?_
                        refine z_get (q := 147) dX8_readText_144 zfX8_130 (by first | exact zpM_0 | exact zpM_a rfl | exact zpM_8) rfl rfl ?_
                        exact z_reti dX8_readText_147 rfl (zRT_i hp hS h00 (fun z => absurd z (nI_nm9 (by omega))))
                    · intro hc130
                      exact absurd ⟨hc119, hc130⟩ hT
      · have e2 : qRead (u 1) L = (-9, U 2) := by rw [← hq, qRd, if_neg hpl]
        rw [e2]
        refine z_aload_n (q := 79) dX8_readText_78 rfl rfl ?_
        refine z_get (q := 82) dX8_readText_79 zfX8_130 (by first | exact zpM_0 | exact zpM_a rfl | exact zpM_8) rfl rfl ?_
        refine z_eqi hp ?_
        refine z_aload_n (q := 83) dX8_readText_82 rfl rfl ?_
        refine z_get (q := 86) dX8_readText_83 zfX8_123 (by first | exact zpM_0 | exact zpM_a rfl | exact zpM_8) rfl rfl ?_
        refine z_eqi hsL ?_
        refine z_icmp_geN (tg := 189) (q := 89) dX8_readText_86 rfl rfl (by omega) (by omega) ?_ ?_
        · intro hc86
          refine z_bipush (q := 191) dX8_readText_189 zcb_m9 rfl ?_
          exact z_reti dX8_readText_191 rfl (zRT_i rfl hS h00 (fun _ => rfl))
        · intro hc86
          omega
  have after : ∀ x1 x2 x3, zA g (zZc g mX8_readText (zRT g h m u (qRead (u 1) L)) 0 0) 0 0 22 [some (.ref m), x1, x2, x3] [] (zpM g h m (va_up u 2 qZero)) := by
    intro x1 x2 x3
    have hS0 : zSc u (va_up u 2 qZero) := zSc_2 zSc_r
    by_cases h0 : L = 0
    · have e2 : qRead (u 1) L = (nI 0, qZero) := by rw [qRead, if_pos (Or.inl h0)]
      rw [e2]
      refine z_aload_n (q := 23) dX8_readText_22 rfl rfl ?_
      refine z_iconst (q := 24) dX8_readText_23 zci_0 rfl ?_
      refine z_putM (q := 27) dX8_readText_24 zfX8_130 (by decide) rfl ?_
      refine z_aload_n (q := 28) dX8_readText_27 rfl rfl ?_
      refine z_get (q := 31) dX8_readText_28 zfX8_123 (by first | exact zpM_0 | exact zpM_a rfl | exact zpM_8) rfl rfl ?_
      refine z_eqi (show _ = nI 0 from (hL.trans (by rw [h0]))) ?_
      refine z_if_eq (tg := 45) (q := 34) dX8_readText_31 rfl rfl ?_ ?_
      · intro hc31
        refine z_iconst (q := 46) dX8_readText_45 zci_0 rfl ?_
        exact z_reti dX8_readText_46 rfl (zRT_i rfl (zSc_sp hS0) rfl (fun z => absurd z (by decide)))
      · intro hc31
        exact absurd hc31 (by decide)
    · by_cases hC : u 1 0 = nI 67
      · rcases e1 : qTwo (u 1) L 1 1 20 with ⟨_ | v, q⟩
        · have e2 : qRead (u 1) L = (nI q, qZero) := by rw [qRead, if_neg (by simp [h0, hC])]; simp only [e1]
          have l1 := qTwo_le (s := u 1) (L := L) (p := 1) (lo := 1) (hi := 20) (by omega) (by omega) (by omega)
          rw [e1] at l1
          rw [e2]
          refine z_aload_n (q := 23) dX8_readText_22 rfl rfl ?_
          refine z_iconst (q := 24) dX8_readText_23 zci_0 rfl ?_
          refine z_putM (q := 27) dX8_readText_24 zfX8_130 (by decide) rfl ?_
          refine z_aload_n (q := 28) dX8_readText_27 rfl rfl ?_
          refine z_get (q := 31) dX8_readText_28 zfX8_123 (by first | exact zpM_0 | exact zpM_a rfl | exact zpM_8) rfl rfl ?_
          refine z_eqi (show _ = nI L from hL) ?_
          refine z_if_eq (tg := 45) (q := 34) dX8_readText_31 rfl rfl ?_ ?_
          · intro hc31
            exact absurd hc31 (nI_ne0 (by omega) (by omega))
          · intro hc31
            refine z_aload_n (q := 35) dX8_readText_34 rfl rfl ?_
            refine z_get (q := 38) dX8_readText_35 zfX8_7 (by first | exact zpM_0 | exact zpM_a rfl | exact zpM_8) rfl rfl ?_
            refine z_iconst (q := 39) dX8_readText_38 zci_0 rfl ?_
            refine z_iald (q := 40) dX8_readText_39 (by first | exact zpM_0 | exact zpM_a rfl | exact zpM_8) (by omega) (by omega) rfl ?_
            refine z_eqi (show _ = nI 67 from hC) ?_
            refine z_bipush (q := 42) dX8_readText_40 zcb_67 rfl ?_
            refine z_icmp_eqN (tg := 47) (q := 45) dX8_readText_42 rfl rfl (by omega) (by omega) ?_ ?_
            · intro hc42
              refine z_aload_n (q := 48) dX8_readText_47 rfl rfl ?_
              refine z_iconst (q := 49) dX8_readText_48 zci_1 rfl ?_
              refine z_putM (q := 52) dX8_readText_49 zfX8_130 (by decide) rfl ?_
              refine z_aload_n (q := 53) dX8_readText_52 rfl rfl ?_
              refine z_iconst (q := 54) dX8_readText_53 zci_1 rfl ?_
              refine z_bipush (q := 56) dX8_readText_54 zcb_20 rfl ?_
              refine z_x2 (q := 59) dX8_readText_56 zkX8_136 zt_mX8_two rfl (by first | exact zpM_0 | exact zpM_a rfl | exact zpM_8) rfl (Nat.le_of_ble_eq_true rfl) (ct_X8_two (p := 1) (s := u 1) rfl hL hL2 rfl (by omega) (by omega) (by omega)) rfl ?_
              rw [e1, zpM_s3, zpM_s3]
              refine z_eqi (show qT none = -9 from rfl) ?_
              refine z_istore_n (q := 60) dX8_readText_59 (Nat.le_of_ble_eq_true rfl) rfl rfl ?_
              refine z_iload_n (q := 61) dX8_readText_60 rfl rfl ?_
              refine z_bipush (q := 63) dX8_readText_61 zcb_m9 rfl ?_
              refine z_icmp_ne (tg := 71) (q := 66) dX8_readText_63 rfl rfl ?_ ?_
              · intro hc63
                exact absurd rfl hc63
              · intro hc63
                refine z_aload_n (q := 67) dX8_readText_66 rfl rfl ?_
                refine z_get (q := 70) dX8_readText_67 zfX8_130 (by first | exact zpM_0 | exact zpM_a rfl | exact zpM_8) rfl rfl ?_
                exact z_reti dX8_readText_70 rfl (zRT_i rfl (zSc_sp hS0) rfl (fun z => absurd z (nI_nm9 (by have := l1.2; simp only at this; omega))))
            · intro hc42
              exact absurd hc42 (by decide)
        · have e2 : qRd (u 1) L 120 q 0 0 (va_up qZero 3 (nI v)) = qRead (u 1) L := by rw [qRead, if_neg (by simp [h0, hC])]; simp only [e1]
          have l1 := qTwo_le (s := u 1) (L := L) (p := 1) (lo := 1) (hi := 20) (by omega) (by omega) (by omega)
          have v1 := (qTwo_v (s := u 1) (L := L) (p := 1) (lo := 1) (hi := 20) (v := v) (by omega) (by omega) (by rw [e1]))
          rw [e1] at l1
          simp only at l1
          refine z_aload_n (q := 23) dX8_readText_22 rfl rfl ?_
          refine z_iconst (q := 24) dX8_readText_23 zci_0 rfl ?_
          refine z_putM (q := 27) dX8_readText_24 zfX8_130 (by decide) rfl ?_
          refine z_aload_n (q := 28) dX8_readText_27 rfl rfl ?_
          refine z_get (q := 31) dX8_readText_28 zfX8_123 (by first | exact zpM_0 | exact zpM_a rfl | exact zpM_8) rfl rfl ?_
          refine z_eqi (show _ = nI L from hL) ?_
          refine z_if_eq (tg := 45) (q := 34) dX8_readText_31 rfl rfl ?_ ?_
          · intro hc31
            exact absurd hc31 (nI_ne0 (by omega) (by omega))
          · intro hc31
            refine z_aload_n (q := 35) dX8_readText_34 rfl rfl ?_
            refine z_get (q := 38) dX8_readText_35 zfX8_7 (by first | exact zpM_0 | exact zpM_a rfl | exact zpM_8) rfl rfl ?_
            refine z_iconst (q := 39) dX8_readText_38 zci_0 rfl ?_
            refine z_iald (q := 40) dX8_readText_39 (by first | exact zpM_0 | exact zpM_a rfl | exact zpM_8) (by omega) (by omega) rfl ?_
            refine z_eqi (show _ = nI 67 from hC) ?_
            refine z_bipush (q := 42) dX8_readText_40 zcb_67 rfl ?_
            refine z_icmp_eqN (tg := 47) (q := 45) dX8_readText_42 rfl rfl (by omega) (by omega) ?_ ?_
            · intro hc42
              refine z_aload_n (q := 48) dX8_readText_47 rfl rfl ?_
              refine z_iconst (q := 49) dX8_readText_48 zci_1 rfl ?_
              refine z_putM (q := 52) dX8_readText_49 zfX8_130 (by decide) rfl ?_
              refine z_aload_n (q := 53) dX8_readText_52 rfl rfl ?_
              refine z_iconst (q := 54) dX8_readText_53 zci_1 rfl ?_
              refine z_bipush (q := 56) dX8_readText_54 zcb_20 rfl ?_
              refine z_x2 (q := 59) dX8_readText_56 zkX8_136 zt_mX8_two rfl (by first | exact zpM_0 | exact zpM_a rfl | exact zpM_8) rfl (Nat.le_of_ble_eq_true rfl) (ct_X8_two (p := 1) (s := u 1) rfl hL hL2 rfl (by omega) (by omega) (by omega)) rfl ?_
              rw [e1, zpM_s3, zpM_s3]
              refine z_eqi (show qT (some v) = nI v from rfl) ?_
              refine z_istore_n (q := 60) dX8_readText_59 (Nat.le_of_ble_eq_true rfl) rfl rfl ?_
              refine z_iload_n (q := 61) dX8_readText_60 rfl rfl ?_
              refine z_bipush (q := 63) dX8_readText_61 zcb_m9 rfl ?_
              refine z_icmp_ne (tg := 71) (q := 66) dX8_readText_63 rfl rfl ?_ ?_
              · intro hc63
                refine z_aload_n (q := 72) dX8_readText_71 rfl rfl ?_
                refine z_get (q := 75) dX8_readText_72 zfX8_13 (by first | exact zpM_0 | exact zpM_a rfl | exact zpM_8) rfl rfl ?_
                refine z_iconst (q := 76) dX8_readText_75 zci_3 rfl ?_
                refine z_iload_n (q := 77) dX8_readText_76 rfl rfl ?_
                refine z_iastM (q := 78) dX8_readText_77 rfl (by omega) rfl ?_
                refine loop 120 q 0 0 _ _ _ _ (by omega) l1.2 (zSc_2 (zSc_sp hS0)) rfl rfl rfl (by omega) rfl (by omega) ?_
                rw [zu_eq]
                exact e2
              · intro hc63
                exact absurd hc63 (nI_nm9 (by omega))
            · intro hc42
              exact absurd hc42 (by decide)
      · have e2 : qRead (u 1) L = (nI 0, qZero) := by rw [qRead, if_pos (Or.inr hC)]
        rw [e2]
        refine z_aload_n (q := 23) dX8_readText_22 rfl rfl ?_
        refine z_iconst (q := 24) dX8_readText_23 zci_0 rfl ?_
        refine z_putM (q := 27) dX8_readText_24 zfX8_130 (by decide) rfl ?_
        refine z_aload_n (q := 28) dX8_readText_27 rfl rfl ?_
        refine z_get (q := 31) dX8_readText_28 zfX8_123 (by first | exact zpM_0 | exact zpM_a rfl | exact zpM_8) rfl rfl ?_
        refine z_eqi (show _ = nI L from hL) ?_
        refine z_if_eq (tg := 45) (q := 34) dX8_readText_31 rfl rfl ?_ ?_
        · intro hc31
          exact absurd hc31 (nI_ne0 (by omega) (by omega))
        · intro hc31
          refine z_aload_n (q := 35) dX8_readText_34 rfl rfl ?_
          refine z_get (q := 38) dX8_readText_35 zfX8_7 (by first | exact zpM_0 | exact zpM_a rfl | exact zpM_8) rfl rfl ?_
          refine z_iconst (q := 39) dX8_readText_38 zci_0 rfl ?_
          refine z_iald (q := 40) dX8_readText_39 (by first | exact zpM_0 | exact zpM_a rfl | exact zpM_8) (by omega) (by omega) rfl ?_
          refine z_bipush (q := 42) dX8_readText_40 zcb_67 rfl ?_
          refine z_icmp_eq (tg := 47) (q := 45) dX8_readText_42 rfl rfl ?_ ?_
          · intro hc42
            exact absurd hc42 hC
          · intro hc42
            refine z_iconst (q := 46) dX8_readText_45 zci_0 rfl ?_
            exact z_reti dX8_readText_46 rfl (zRT_i rfl (zSc_sp hS0) rfl (fun z => absurd z (by decide)))
  have loop0 : ∀ d i (R : Nat → Int32), i + d = 264 → (∀ j, j < i → R j = nI 0) → zA g (zZc g mX8_readText (zRT g h m u (qRead (u 1) L)) 0 0) 0 0 2 [some (.ref m), some (.int (nI i)), none, none] [] (zpM g h m (va_up u 2 R)) := by
    intro d
    induction d using Nat.strongRecOn with
    | ind d ih =>
      intro i R hi hR
      refine z_iload_n (q := 3) dX8_readText_2 rfl rfl ?_
      refine z_sipush (q := 6) dX8_readText_3 zcs_264 rfl ?_
      refine z_icmp_geN (tg := 22) (q := 9) dX8_readText_6 rfl rfl (by omega) (by omega) ?_ ?_
      · intro hc6
        have hi2 : i = 264 := by omega
        refine z_cgM (c := 2) (N := 264) (f := qZero) rfl (fun j hj => by rw [zu_eq]; exact hR j (by omega)) ?_
        rw [zu_up]
        exact after _ _ _
      · intro hc6
        refine z_aload_n (q := 10) dX8_readText_9 rfl rfl ?_
        refine z_get (q := 13) dX8_readText_10 zfX8_13 (by first | exact zpM_0 | exact zpM_a rfl | exact zpM_8) rfl rfl ?_
        refine z_iload_n (q := 14) dX8_readText_13 rfl rfl ?_
        refine z_iconst (q := 15) dX8_readText_14 zci_0 rfl ?_
        refine z_iastM (q := 16) dX8_readText_15 rfl (by omega) rfl ?_
        rw [zu_eq, zu_up]
        refine z_iincN (q := 19) dX8_readText_16 rfl rfl rfl ?_
        refine z_goto (q := 0) (tg := 2) dX8_readText_19 rfl ?_
        refine ih (d - 1) (by omega) (i + 1) _ (by omega) (fun j hj => ?_)
        by_cases hji : j = i
        · rw [hji, zu_eq]
        · rw [zu_ne hji]
          exact hR j (by omega)
  refine z_iconst (q := 1) dX8_readText_0 zci_0 rfl ?_
  refine z_istore_n (q := 2) dX8_readText_1 (Nat.le_of_ble_eq_true rfl) rfl rfl ?_
  have hl := loop0 264 0 (u 2) (by omega) (fun j hj => absurd hj (Nat.not_lt_zero j))
  rw [zu_self] at hl
  exact hl
set_option maxRecDepth 100000 in
set_option maxHeartbeats 4000000 in
theorem ct_X8_errorPosition {g : zGl} {h : zHp} {m L : Nat} {u : Nat → Nat → Int32} (hL : u 0 2 = nI L) (hL2 : L ≤ 120) : zC g mX8_errorPosition [.ref m] (zpM g h m u) (zMP g h m u (nI 0) (qRead (u 1) L).1) 0 0 := by
  refine zC_ofA (lv := [some (.ref m)]) (by decide) rfl (Nat.le_of_ble_eq_true rfl) ?_
  refine z_aload_n (q := 1) dX8_errorPosition_0 rfl rfl ?_
  refine z_iconst (q := 2) dX8_errorPosition_1 zci_0 rfl ?_
  refine z_putM (q := 5) dX8_errorPosition_2 zfX8_44 (by decide) rfl ?_
  refine z_aload_n (q := 6) dX8_errorPosition_5 rfl rfl ?_
  refine z_V0 (q := 9) dX8_errorPosition_6 zkX8_146 zt_mX8_readText rfl (by first | exact zpM_0 | exact zpM_a rfl | exact zpM_8) rfl (Nat.le_of_ble_eq_true rfl) (ct_X8_readText (L := L) hL hL2) (Nat.zero_le _) (Nat.zero_le _) rfl ?_
  rintro _ _ ⟨rfl, U, rfl, hS, h00, -⟩
  exact z_reti dX8_errorPosition_9 rfl (zMP_i rfl (zSc_t zSc_rf hS) h00)
set_option maxRecDepth 100000 in
set_option maxHeartbeats 4000000 in
theorem ct_X8_load1 {g : zGl} {h : zHp} {m L : Nat} {u : Nat → Nat → Int32} (hL : u 0 2 = nI L) (hL2 : L ≤ 120) (hv : ¬ (qRead (u 1) L).1 = -9) : zC g mX8_load [.ref m] (zpM g h m u) (zMP g h m u (nI 1) (nI 0)) 0 0 := by
  refine zC_ofA (lv := [some (.ref m)]) (by decide) rfl (Nat.le_of_ble_eq_true rfl) ?_
  refine z_aload_n (q := 1) dX8_load_0 rfl rfl ?_
  refine z_aload_n (q := 2) dX8_load_1 rfl rfl ?_
  refine z_V0 (q := 5) dX8_load_2 zkX8_146 zt_mX8_readText rfl (by first | exact zpM_0 | exact zpM_a rfl | exact zpM_8) rfl (Nat.le_of_ble_eq_true rfl) (ct_X8_readText hL hL2) (Nat.zero_le _) (Nat.zero_le _) rfl ?_
  rintro _ _ ⟨rfl, U, rfl, hS, h00, -⟩
  refine z_bipush (q := 7) dX8_load_5 zcb_m9 rfl ?_
  refine z_icmp_ne (tg := 14) (q := 10) dX8_load_7 rfl rfl ?_ ?_
  · intro hc7
    skip
    refine z_iconst (q := 15) dX8_load_14 zci_1 rfl ?_
    refine z_x1 (q := 18) dX8_load_15 zkX8_126 zt_mX8_refused rfl (by first | exact zpM_0 | exact zpM_a rfl | exact zpM_8) rfl (Nat.le_of_ble_eq_true rfl) (ct_X8_refused) rfl ?_
    refine z_eqi (show zbi (!decide (nI 1 ≤ 0)) = nI 1 by decide) ?_
    refine z_if_eq (tg := 23) (q := 21) dX8_load_18 rfl rfl ?_ ?_
    · intro hc18
      exact absurd hc18 (by decide)
    · intro hc18
      refine z_iconst (q := 22) dX8_load_21 zci_0 rfl ?_
      exact z_reti dX8_load_22 rfl (zMP_i rfl (zSc_t hS zSc_rf) rfl)
  · intro hc7
    exact absurd hc7 hv
set_option maxRecDepth 100000 in
set_option maxHeartbeats 4000000 in
theorem ct_X8_load0 {g : zGl} {h : zHp} {m L : Nat} {u : Nat → Nat → Int32} (hL : u 0 2 = nI L) (hL2 : L ≤ 120) (hv : (qRead (u 1) L).1 = -9) : zC g mX8_load [.ref m] (zpM g h m u) (zMP g h m (va_up (va_up (va_up u 3 (qRead (u 1) L).2) 8 (va_up (va_up (u 8) 0 (nI 0)) 1 (nI 0))) 0 (va_up (u 0) 9 (nI 0))) (nI 0) ((qRead (u 1) L).2 0)) 0 0 := by
  refine zC_ofA (lv := [some (.ref m)]) (by decide) rfl (Nat.le_of_ble_eq_true rfl) ?_
  refine z_aload_n (q := 1) dX8_load_0 rfl rfl ?_
  refine z_aload_n (q := 2) dX8_load_1 rfl rfl ?_
  refine z_V0 (q := 5) dX8_load_2 zkX8_146 zt_mX8_readText rfl (by first | exact zpM_0 | exact zpM_a rfl | exact zpM_8) rfl (Nat.le_of_ble_eq_true rfl) (ct_X8_readText hL hL2) (Nat.zero_le _) (Nat.zero_le _) rfl ?_
  rintro _ _ ⟨rfl, U, rfl, hS, h00, h2⟩
  refine z_bipush (q := 7) dX8_load_5 zcb_m9 rfl ?_
  refine z_icmp_ne (tg := 14) (q := 10) dX8_load_7 rfl rfl ?_ ?_
  · intro hc7
    exact absurd hv hc7
  · intro hc7
    refine z_iconst (q := 11) dX8_load_10 zci_0 rfl ?_
    refine z_goto (q := 0) (tg := 15) dX8_load_11 rfl ?_
    refine z_x1 (q := 18) dX8_load_15 zkX8_126 zt_mX8_refused rfl (by first | exact zpM_0 | exact zpM_a rfl | exact zpM_8) rfl (Nat.le_of_ble_eq_true rfl) (ct_X8_refused) rfl ?_
    refine z_eqi (show zbi (!decide (nI 0 ≤ 0)) = nI 0 by decide) ?_
    refine z_if_eq (tg := 23) (q := 21) dX8_load_18 rfl rfl ?_ ?_
    · intro hc18
      refine z_aload_n (q := 24) dX8_load_23 rfl rfl ?_
      refine z_get (q := 27) dX8_load_24 zfX8_13 (by first | exact zpM_0 | exact zpM_a rfl | exact zpM_8) rfl rfl ?_
      refine z_iconst (q := 28) dX8_load_27 zci_0 rfl ?_
      refine z_aload_n (q := 29) dX8_load_28 rfl rfl ?_
      refine z_get (q := 32) dX8_load_29 zfX8_16 (by first | exact zpM_0 | exact zpM_a rfl | exact zpM_8) rfl rfl ?_
      refine z_iconst (q := 33) dX8_load_32 zci_0 rfl ?_
      refine z_sipush (q := 36) dX8_load_33 zcs_264 rfl ?_
      refine z_u5 (q := 39) dX8_load_36 zkX8_53 zt_mX8_copy rfl (Nat.le_of_ble_eq_true rfl) (ct_M_copy (c := 2) (d := 3) rfl rfl (by decide) (by omega) (by omega)) rfl ?_
      refine z_cgM (c := 3) (N := 264) (f := (qRead (u 1) L).2) rfl (fun j hj => by rw [zu_eq]; exact (cpy_all j hj).trans (by rw [show va_up U 0 (va_up (U 0) 0 (nI 0)) 2 = U 2 from rfl, h2 hv])) ?_
      rw [zu_up]
      refine z_aload_n (q := 40) dX8_load_39 rfl rfl ?_
      refine z_iconst (q := 41) dX8_load_40 zci_0 rfl ?_
      refine z_putM (q := 44) dX8_load_41 zfX8_50 (by decide) rfl ?_
      refine z_aload_n (q := 45) dX8_load_44 rfl rfl ?_
      refine z_get (q := 48) dX8_load_45 zfX8_31 (by first | exact zpM_0 | exact zpM_a rfl | exact zpM_8) rfl rfl ?_
      refine z_iconst (q := 49) dX8_load_48 zci_0 rfl ?_
      refine z_iconst (q := 50) dX8_load_49 zci_0 rfl ?_
      refine z_zastM (q := 51) dX8_load_50 (by omega) (Or.inl rfl) rfl ?_
      refine z_aload_n (q := 52) dX8_load_51 rfl rfl ?_
      refine z_get (q := 55) dX8_load_52 zfX8_31 (by first | exact zpM_0 | exact zpM_a rfl | exact zpM_8) rfl rfl ?_
      refine z_iconst (q := 56) dX8_load_55 zci_1 rfl ?_
      refine z_iconst (q := 57) dX8_load_56 zci_0 rfl ?_
      refine z_zastM (q := 58) dX8_load_57 (by omega) (Or.inl rfl) rfl ?_
      refine z_aload_n (q := 59) dX8_load_58 rfl rfl ?_
      refine z_get (q := 62) dX8_load_59 zfX8_16 (by first | exact zpM_0 | exact zpM_a rfl | exact zpM_8) rfl rfl ?_
      refine z_iconst (q := 63) dX8_load_62 zci_0 rfl ?_
      refine z_iald (q := 64) dX8_load_63 (by first | exact zpM_0 | exact zpM_a rfl | exact zpM_8) (by omega) (by omega) rfl ?_
      exact z_reti dX8_load_64 rfl (zMP_i rfl ⟨hS.1, rfl, hS.2.2.1, hS.2.2.2.1, by show va_up (va_up (U 8) 0 (nI 0)) 1 (nI 0) = va_up (va_up (u 8) 0 (nI 0)) 1 (nI 0); rw [hS.2.2.2.2.1], hS.2.2.2.2.2.1, rfl⟩ rfl)
    · intro hc18
      exact absurd hc18 (by decide)
