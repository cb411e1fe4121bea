/-! ===== the component: an agent works or moves ===== -/
theorem go_b : ∀ p q : Fin 12, p ≠ q → ∃ r : Fin 12, nI p + (if nI q ≤ nI p then -1 else nI 1) = nI r := by decide +kernel
theorem go_p {x y : Int32} (hx : zPl x 12) (hy : zPl y 12) (h : ¬ x = y) : zPl (x + (if y ≤ x then -1 else nI 1)) 12 := by
  obtain ⟨p, hp, rfl⟩ := hx
  obtain ⟨q, hq, rfl⟩ := hy
  obtain ⟨r, hr⟩ := go_b ⟨p, hp⟩ ⟨q, hq⟩ (fun e => h (by rw [show p = q from congrArg Fin.val e]))
  exact ⟨r.1, r.2, hr⟩
theorem far_0 {f : Nat → Int32} {a t : Nat} (h : ¬ qFar f a t ≤ 0) (hx : f (4 + 6 * a) = f (40 + 4 * t)) : ¬ f (4 + 6 * a + 1) = f (40 + 4 * t + 1) := by
  intro hy
  apply h
  rw [qFar, hx, hy, Int32.sub_self, Int32.sub_self]
  decide
set_option maxRecDepth 100000 in
set_option maxHeartbeats 4000000 in
theorem ct_X4_moveTowards {g : zGl} {h : zHp} {b o n K a t : Nat} {d : Nat → Nat → Int32} {f : Nat → Int32} (hw : zWo o) (hR : zR d o f n K) (ha : a < n) (ht : t < K) (hfar : ¬ qFar f a t ≤ 0) : zC g mX4_moveTowards [.ref (b + o), .int (nI a), .int (f (40 + 4 * t)), .int (f (40 + 4 * t + 1))] (zpT g h b d) (zTU g h b (fun D => zR D o (qGo f a t) n K ∧ zOut d D o 15) none) 0 0 := by
  have hn := zR_n6 hR
  obtain ⟨e1, e2, -⟩ := zR_a hR ha
  have w1 := zWF_a hR.1 ha
  have w2 := zWF_t hR.1 ht
  refine zC_ofA (lv := [some (.ref (b + o)), some (.int (nI a)), some (.int (f (40 + 4 * t))), some (.int (f (40 + 4 * t + 1)))]) (by decide) rfl (Nat.le_of_ble_eq_true rfl) ?_
  have fin : ∀ D f1, zR D o f1 n K → zOut d D o 15 → qGo f a t = va_up f1 (4 + 6 * a + 4) (f1 (4 + 6 * a + 4) + nI 1) → zA g (zZc g mX4_moveTowards (zTU g h b (fun D => zR D o (qGo f a t) n K ∧ zOut d D o 15) none) 0 0) 0 0 61 [some (.ref (b + o)), some (.int (nI a)), some (.int (f (40 + 4 * t))), some (.int (f (40 + 4 * t + 1)))] [] (zpT g h b D) := by
    intro D f1 hD hO hq
    refine z_aload_n (q := 62) dX4_moveTowards_61 rfl rfl ?_
    refine z_get (q := 65) dX4_moveTowards_62 zfX4_130 (by first | exact zT_o hw | exact zT_w hw rfl | exact zT_N (zNo_w hw) | exact zT_n (zNo_w hw) (by decide)) rfl rfl ?_
    refine z_iload_n (q := 66) dX4_moveTowards_65 rfl rfl ?_
    refine z_dup2 (q := 67) dX4_moveTowards_66 rfl rfl rfl ?_
    refine z_iald (q := 68) dX4_moveTowards_67 (by first | exact zT_o hw | exact zT_w hw rfl | exact zT_N (zNo_w hw) | exact zT_n (zNo_w hw) (by decide)) (by omega) (by omega) rfl ?_
    refine z_eqi (zR_a hD ha).2.2.2.1 ?_
    refine z_iconst (q := 69) dX4_moveTowards_68 zci_1 rfl ?_
    refine z_iadd (q := 70) dX4_moveTowards_69 rfl ?_
    refine z_iastT (q := 71) dX4_moveTowards_70 (zWl_T hw rfl) (by omega) rfl ?_
    exact z_ret dX4_moveTowards_71 rfl (⟨rfl, _, rfl, by rw [hq]; exact zR_m ha hD, zOut_w hO (by omega)⟩)
  refine z_aload_n (q := 1) dX4_moveTowards_0 rfl rfl ?_
  refine z_get (q := 4) dX4_moveTowards_1 zfX4_124 (by first | exact zT_o hw | exact zT_w hw rfl | exact zT_N (zNo_w hw) | exact zT_n (zNo_w hw) (by decide)) rfl rfl ?_
  refine z_iload_n (q := 5) dX4_moveTowards_4 rfl rfl ?_
  refine z_iald (q := 6) dX4_moveTowards_5 (by first | exact zT_o hw | exact zT_w hw rfl | exact zT_N (zNo_w hw) | exact zT_n (zNo_w hw) (by decide)) (by omega) (by omega) rfl ?_
  refine z_eqi e1 ?_
  refine z_iload_n (q := 7) dX4_moveTowards_6 rfl rfl ?_
  refine z_icmp_eq (tg := 37) (q := 10) dX4_moveTowards_7 rfl rfl ?_ ?_
  · intro hc7
    refine z_aload_n (q := 38) dX4_moveTowards_37 rfl rfl ?_
    refine z_get (q := 41) dX4_moveTowards_38 zfX4_127 (by first | exact zT_o hw | exact zT_w hw rfl | exact zT_N (zNo_w hw) | exact zT_n (zNo_w hw) (by decide)) rfl rfl ?_
    refine z_iload_n (q := 42) dX4_moveTowards_41 rfl rfl ?_
    refine z_dup2 (q := 43) dX4_moveTowards_42 rfl rfl rfl ?_
    refine z_iald (q := 44) dX4_moveTowards_43 (by first | exact zT_o hw | exact zT_w hw rfl | exact zT_N (zNo_w hw) | exact zT_n (zNo_w hw) (by decide)) (by omega) (by omega) rfl ?_
    refine z_eqi e2 ?_
    refine z_aload_n (q := 45) dX4_moveTowards_44 rfl rfl ?_
    refine z_get (q := 48) dX4_moveTowards_45 zfX4_127 (by first | exact zT_o hw | exact zT_w hw rfl | exact zT_N (zNo_w hw) | exact zT_n (zNo_w hw) (by decide)) rfl rfl ?_
    refine z_iload_n (q := 49) dX4_moveTowards_48 rfl rfl ?_
    refine z_iald (q := 50) dX4_moveTowards_49 (by first | exact zT_o hw | exact zT_w hw rfl | exact zT_N (zNo_w hw) | exact zT_n (zNo_w hw) (by decide)) (by omega) (by omega) rfl ?_
    refine z_eqi e2 ?_
    refine z_iload_n (q := 51) dX4_moveTowards_50 rfl rfl ?_
    refine z_icmp_ge (tg := 58) (q := 54) dX4_moveTowards_51 rfl rfl ?_ ?_
    · intro hc51
      refine z_iconst (q := 59) dX4_moveTowards_58 zci_m1 rfl ?_
      refine z_eqi (show (-1 : Int32) = (if f (40 + 4 * t + 1) ≤ f (4 + 6 * a + 1) then -1 else nI 1) by rw [if_pos hc51]) ?_
      refine z_iadd (q := 60) dX4_moveTowards_59 rfl ?_
      refine z_iastT (q := 61) dX4_moveTowards_60 (zWl_T hw rfl) (by omega) rfl ?_
      first
        | exact fin _ _ (zR_x (go_p w1.1 w2.1 hc7) ha hR) (zOut_w zOut_r (by omega)) (by rw [qGo, if_neg hc7])
        | exact fin _ _ (zR_y (go_p w1.2.1 w2.2 (far_0 hfar hc7)) ha hR) (zOut_w zOut_r (by omega)) (by rw [qGo, if_pos hc7])
    · intro hc51
      refine z_iconst (q := 55) dX4_moveTowards_54 zci_1 rfl ?_
      refine z_eqi (show nI 1 = (if f (40 + 4 * t + 1) ≤ f (4 + 6 * a + 1) then -1 else nI 1) by rw [if_neg hc51]) ?_
      refine z_goto (q := 0) (tg := 59) dX4_moveTowards_55 rfl ?_
      refine z_iadd (q := 60) dX4_moveTowards_59 rfl ?_
      refine z_iastT (q := 61) dX4_moveTowards_60 (zWl_T hw rfl) (by omega) rfl ?_
      first
        | exact fin _ _ (zR_x (go_p w1.1 w2.1 hc7) ha hR) (zOut_w zOut_r (by omega)) (by rw [qGo, if_neg hc7])
        | exact fin _ _ (zR_y (go_p w1.2.1 w2.2 (far_0 hfar hc7)) ha hR) (zOut_w zOut_r (by omega)) (by rw [qGo, if_pos hc7])
  · intro hc7
    refine z_aload_n (q := 11) dX4_moveTowards_10 rfl rfl ?_
    refine z_get (q := 14) dX4_moveTowards_11 zfX4_124 (by first | exact zT_o hw | exact zT_w hw rfl | exact zT_N (zNo_w hw) | exact zT_n (zNo_w hw) (by decide)) rfl rfl ?_
    refine z_iload_n (q := 15) dX4_moveTowards_14 rfl rfl ?_
    refine z_dup2 (q := 16) dX4_moveTowards_15 rfl rfl rfl ?_
    refine z_iald (q := 17) dX4_moveTowards_16 (by first | exact zT_o hw | exact zT_w hw rfl | exact zT_N (zNo_w hw) | exact zT_n (zNo_w hw) (by decide)) (by omega) (by omega) rfl ?_
    refine z_eqi e1 ?_
    refine z_aload_n (q := 18) dX4_moveTowards_17 rfl rfl ?_
    refine z_get (q := 21) dX4_moveTowards_18 zfX4_124 (by first | exact zT_o hw | exact zT_w hw rfl | exact zT_N (zNo_w hw) | exact zT_n (zNo_w hw) (by decide)) rfl rfl ?_
    refine z_iload_n (q := 22) dX4_moveTowards_21 rfl rfl ?_
    refine z_iald (q := 23) dX4_moveTowards_22 (by first | exact zT_o hw | exact zT_w hw rfl | exact zT_N (zNo_w hw) | exact zT_n (zNo_w hw) (by decide)) (by omega) (by omega) rfl ?_
    refine z_eqi e1 ?_
    refine z_iload_n (q := 24) dX4_moveTowards_23 rfl rfl ?_
    refine z_icmp_ge (tg := 31) (q := 27) dX4_moveTowards_24 rfl rfl ?_ ?_
    · intro hc24
      refine z_iconst (q := 32) dX4_moveTowards_31 zci_m1 rfl ?_
      refine z_eqi (show (-1 : Int32) = (if f (40 + 4 * t) ≤ f (4 + 6 * a) then -1 else nI 1) by rw [if_pos hc24]) ?_
      refine z_iadd (q := 33) dX4_moveTowards_32 rfl ?_
      refine z_iastT (q := 34) dX4_moveTowards_33 (zWl_T hw rfl) (by omega) rfl ?_
      refine z_goto (q := 0) (tg := 61) dX4_moveTowards_34 rfl ?_
      first
        | exact fin _ _ (zR_x (go_p w1.1 w2.1 hc7) ha hR) (zOut_w zOut_r (by omega)) (by rw [qGo, if_neg hc7])
        | exact fin _ _ (zR_y (go_p w1.2.1 w2.2 (far_0 hfar hc7)) ha hR) (zOut_w zOut_r (by omega)) (by rw [qGo, if_pos hc7])
    · intro hc24
      refine z_iconst (q := 28) dX4_moveTowards_27 zci_1 rfl ?_
      refine z_eqi (show nI 1 = (if f (40 + 4 * t) ≤ f (4 + 6 * a) then -1 else nI 1) by rw [if_neg hc24]) ?_
      refine z_goto (q := 0) (tg := 32) dX4_moveTowards_28 rfl ?_
      refine z_iadd (q := 33) dX4_moveTowards_32 rfl ?_
      refine z_iastT (q := 34) dX4_moveTowards_33 (zWl_T hw rfl) (by omega) rfl ?_
      refine z_goto (q := 0) (tg := 61) dX4_moveTowards_34 rfl ?_
      first
        | exact fin _ _ (zR_x (go_p w1.1 w2.1 hc7) ha hR) (zOut_w zOut_r (by omega)) (by rw [qGo, if_neg hc7])
        | exact fin _ _ (zR_y (go_p w1.2.1 w2.2 (far_0 hfar hc7)) ha hR) (zOut_w zOut_r (by omega)) (by rw [qGo, if_pos hc7])
set_option maxRecDepth 100000 in
set_option maxHeartbeats 4000000 in
theorem ct_X4_workOrMove {g : zGl} {h : zHp} {b o n K a : Nat} {d : Nat → Nat → Int32} {f : Nat → Int32} (hw : zWo o) (hR : zR d o f n K) (ha : a < n) : zC g mX4_workOrMove [.ref (b + o), .int (nI a)] (zpT g h b d) (zTU g h b (fun D => zR D o (qWork f K a) n K ∧ zOut d D o 15) none) 0 0 := by
  have hn := zR_n6 hR
  have hK := zR_K8 hR
  refine zC_ofA (lv := [some (.ref (b + o)), some (.int (nI a)), none]) (by decide) rfl (Nat.le_of_ble_eq_true rfl) ?_
  cases hs : qOwnTask f K a with
  | none =>
    have hq : qWork f K a = f := by rw [qWork, hs]
    refine z_aload_n (q := 1) dX4_workOrMove_0 rfl rfl ?_
    refine z_iload_n (q := 2) dX4_workOrMove_1 rfl rfl ?_
    refine z_v1 (q := 5) dX4_workOrMove_2 zkX4_102 zt_mX6_ownTask rfl (by first | exact zT_o hw | exact zT_w hw rfl | exact zT_N (zNo_w hw) | exact zT_n (zNo_w hw) (by decide)) rfl (Nat.le_of_ble_eq_true rfl) (ct_X6_ownTask hw hR ha) rfl ?_
    refine z_eqi (show qT (qOwnTask f K a) = -9 by rw [hs]; rfl) ?_
    refine z_istore_n (q := 6) dX4_workOrMove_5 (Nat.le_of_ble_eq_true rfl) rfl rfl ?_
    refine z_iload_n (q := 7) dX4_workOrMove_6 rfl rfl ?_
    refine z_bipush (q := 9) dX4_workOrMove_7 zcb_m9 rfl ?_
    refine z_icmp_ne (tg := 13) (q := 12) dX4_workOrMove_9 rfl rfl ?_ ?_
    · intro hc9
      exact absurd rfl hc9
    · intro hc9
      exact z_ret dX4_workOrMove_12 rfl (⟨rfl, _, rfl, by rw [hq]; exact hR, zOut_r⟩)
  | some t =>
    have ht : t < K := (qFst_lt hs).1
    have hq : qWork f K a = if qFar f a t ≤ 0 then (if qDone (qDo f a t) t then qLay (qDo f a t) (72 + 4 * (8 * a + t)) (nI 2) (nI 0) (nI 0) (nI 0) else qDo f a t) else qGo f a t := by rw [qWork, hs]
    obtain ⟨-, -, -, -, e5⟩ := zR_a hR ha
    obtain ⟨e6, e7, -, e9⟩ := zR_t hR ht
    have fin : ∀ D, qFar f a t ≤ 0 → zR D o (qDo f a t) n K → zOut d D o 15 → zA g (zZc g mX4_workOrMove (zTU g h b (fun D => zR D o (qWork f K a) n K ∧ zOut d D o 15) none) 0 0) 0 0 71 [some (.ref (b + o)), some (.int (nI a)), some (.int (nI t))] [] (zpT g h b D) := by
      intro D h0 hD hO
      refine z_aload_n (q := 72) dX4_workOrMove_71 rfl rfl ?_
      refine z_iload_n (q := 73) dX4_workOrMove_72 rfl rfl ?_
      refine z_v1 (q := 76) dX4_workOrMove_73 zkX4_115 zt_mX6_isFinished rfl (by first | exact zT_o hw | exact zT_w hw rfl | exact zT_N (zNo_w hw) | exact zT_n (zNo_w hw) (by decide)) rfl (Nat.le_of_ble_eq_true rfl) (ct_X6_isFinished hw hD ht) rfl ?_
      refine z_ifb_eq (tg := 93) (q := 79) dX4_workOrMove_76 rfl rfl ?_ ?_
      · intro hc76
        exact z_ret dX4_workOrMove_93 rfl (by first | exact ⟨rfl, _, rfl, by rw [hq, if_pos h0, if_pos hc76]; exact zR_k2 ha ht hD, zOut_w hO (by omega)⟩ | exact ⟨rfl, _, rfl, by rw [hq, if_pos h0, if_neg (by rw [hc76]; decide)]; exact hD, hO⟩)
      · intro hc76
        refine z_aload_n (q := 80) dX4_workOrMove_79 rfl rfl ?_
        refine z_get (q := 83) dX4_workOrMove_80 zfX4_18 (by first | exact zT_o hw | exact zT_w hw rfl | exact zT_N (zNo_w hw) | exact zT_n (zNo_w hw) (by decide)) rfl rfl ?_
        refine z_get (q := 86) dX4_workOrMove_83 zfX4_67 (by first | exact zT_o hw | exact zT_w hw rfl | exact zT_N (zNo_w hw) | exact zT_n (zNo_w hw) (by decide)) rfl rfl ?_
        refine z_iload_n (q := 87) dX4_workOrMove_86 rfl rfl ?_
        refine z_iload_n (q := 88) dX4_workOrMove_87 rfl rfl ?_
        refine z_s2 (q := 91) dX4_workOrMove_88 zkX4_55 zt_mX7_noteIndex rfl (Nat.le_of_ble_eq_true rfl) (ct_X7_noteIndex) rfl ?_
        refine z_iconst (q := 92) dX4_workOrMove_91 zci_2 rfl ?_
        refine z_iastT (q := 93) dX4_workOrMove_92 (zNo_T (zNo_w hw) (by decide)) (by omega) rfl ?_
        exact z_ret dX4_workOrMove_93 rfl (by first | exact ⟨rfl, _, rfl, by rw [hq, if_pos h0, if_pos hc76]; exact zR_k2 ha ht hD, zOut_w hO (by omega)⟩ | exact ⟨rfl, _, rfl, by rw [hq, if_pos h0, if_neg (by rw [hc76]; decide)]; exact hD, hO⟩)
    refine z_aload_n (q := 1) dX4_workOrMove_0 rfl rfl ?_
    refine z_iload_n (q := 2) dX4_workOrMove_1 rfl rfl ?_
    refine z_v1 (q := 5) dX4_workOrMove_2 zkX4_102 zt_mX6_ownTask rfl (by first | exact zT_o hw | exact zT_w hw rfl | exact zT_N (zNo_w hw) | exact zT_n (zNo_w hw) (by decide)) rfl (Nat.le_of_ble_eq_true rfl) (ct_X6_ownTask hw hR ha) rfl ?_
    refine z_eqi (show qT (qOwnTask f K a) = nI t by rw [hs]; rfl) ?_
    refine z_istore_n (q := 6) dX4_workOrMove_5 (Nat.le_of_ble_eq_true rfl) rfl rfl ?_
    refine z_iload_n (q := 7) dX4_workOrMove_6 rfl rfl ?_
    refine z_bipush (q := 9) dX4_workOrMove_7 zcb_m9 rfl ?_
    refine z_icmp_ne (tg := 13) (q := 12) dX4_workOrMove_9 rfl rfl ?_ ?_
    · intro hc9
      refine z_aload_n (q := 14) dX4_workOrMove_13 rfl rfl ?_
      refine z_iload_n (q := 15) dX4_workOrMove_14 rfl rfl ?_
      refine z_iload_n (q := 16) dX4_workOrMove_15 rfl rfl ?_
      refine z_v2 (q := 19) dX4_workOrMove_16 zkX4_89 zt_mX6_wayToTask rfl (by first | exact zT_o hw | exact zT_w hw rfl | exact zT_N (zNo_w hw) | exact zT_n (zNo_w hw) (by decide)) rfl (Nat.le_of_ble_eq_true rfl) (ct_X6_wayToTask hw hR ha ht) rfl ?_
      refine z_if_le (tg := 40) (q := 22) dX4_workOrMove_19 rfl rfl ?_ ?_
      · intro hc19
        refine z_aload_n (q := 41) dX4_workOrMove_40 rfl rfl ?_
        refine z_iload_n (q := 42) dX4_workOrMove_41 rfl rfl ?_
        refine z_v1 (q := 45) dX4_workOrMove_42 zkX4_115 zt_mX6_isFinished rfl (by first | exact zT_o hw | exact zT_w hw rfl | exact zT_N (zNo_w hw) | exact zT_n (zNo_w hw) (by decide)) rfl (Nat.le_of_ble_eq_true rfl) (ct_X6_isFinished hw hR ht) rfl ?_
        refine z_ifb_eq (tg := 61) (q := 48) dX4_workOrMove_45 rfl rfl ?_ ?_
        · intro hc45
          refine z_aload_n (q := 62) dX4_workOrMove_61 rfl rfl ?_
          refine z_get (q := 65) dX4_workOrMove_62 zfX4_121 (by first | exact zT_o hw | exact zT_w hw rfl | exact zT_N (zNo_w hw) | exact zT_n (zNo_w hw) (by decide)) rfl rfl ?_
          refine z_iload_n (q := 66) dX4_workOrMove_65 rfl rfl ?_
          refine z_dup2 (q := 67) dX4_workOrMove_66 rfl rfl rfl ?_
          refine z_iald (q := 68) dX4_workOrMove_67 (by first | exact zT_o hw | exact zT_w hw rfl | exact zT_N (zNo_w hw) | exact zT_n (zNo_w hw) (by decide)) (by omega) (by omega) rfl ?_
          refine z_eqi e9 ?_
          refine z_iconst (q := 69) dX4_workOrMove_68 zci_1 rfl ?_
          refine z_iadd (q := 70) dX4_workOrMove_69 rfl ?_
          refine z_iastT (q := 71) dX4_workOrMove_70 (zWl_T hw rfl) (by omega) rfl ?_
          first
            | exact fin _ hc19 (by rw [qDo, if_pos hc45]; exact zR_w ha hR) (zOut_w zOut_r (by omega))
            | exact fin _ hc19 (by rw [qDo, if_neg (by rw [hc45]; decide)]; exact zR_p ht hR) (zOut_w zOut_r (by omega))
        · intro hc45
          refine z_aload_n (q := 49) dX4_workOrMove_48 rfl rfl ?_
          refine z_get (q := 52) dX4_workOrMove_49 zfX4_118 (by first | exact zT_o hw | exact zT_w hw rfl | exact zT_N (zNo_w hw) | exact zT_n (zNo_w hw) (by decide)) rfl rfl ?_
          refine z_iload_n (q := 53) dX4_workOrMove_52 rfl rfl ?_
          refine z_dup2 (q := 54) dX4_workOrMove_53 rfl rfl rfl ?_
          refine z_iald (q := 55) dX4_workOrMove_54 (by first | exact zT_o hw | exact zT_w hw rfl | exact zT_N (zNo_w hw) | exact zT_n (zNo_w hw) (by decide)) (by omega) (by omega) rfl ?_
          refine z_eqi e5 ?_
          refine z_iconst (q := 56) dX4_workOrMove_55 zci_1 rfl ?_
          refine z_iadd (q := 57) dX4_workOrMove_56 rfl ?_
          refine z_iastT (q := 58) dX4_workOrMove_57 (zWl_T hw rfl) (by omega) rfl ?_
          refine z_goto (q := 0) (tg := 71) dX4_workOrMove_58 rfl ?_
          first
            | exact fin _ hc19 (by rw [qDo, if_pos hc45]; exact zR_w ha hR) (zOut_w zOut_r (by omega))
            | exact fin _ hc19 (by rw [qDo, if_neg (by rw [hc45]; decide)]; exact zR_p ht hR) (zOut_w zOut_r (by omega))
      · intro hc19
        refine z_aload_n (q := 23) dX4_workOrMove_22 rfl rfl ?_
        refine z_iload_n (q := 24) dX4_workOrMove_23 rfl rfl ?_
        refine z_aload_n (q := 25) dX4_workOrMove_24 rfl rfl ?_
        refine z_get (q := 28) dX4_workOrMove_25 zfX4_105 (by first | exact zT_o hw | exact zT_w hw rfl | exact zT_N (zNo_w hw) | exact zT_n (zNo_w hw) (by decide)) rfl rfl ?_
        refine z_iload_n (q := 29) dX4_workOrMove_28 rfl rfl ?_
        refine z_iald (q := 30) dX4_workOrMove_29 (by first | exact zT_o hw | exact zT_w hw rfl | exact zT_N (zNo_w hw) | exact zT_n (zNo_w hw) (by decide)) (by omega) (by omega) rfl ?_
        refine z_eqi e6 ?_
        refine z_aload_n (q := 31) dX4_workOrMove_30 rfl rfl ?_
        refine z_get (q := 34) dX4_workOrMove_31 zfX4_108 (by first | exact zT_o hw | exact zT_w hw rfl | exact zT_N (zNo_w hw) | exact zT_n (zNo_w hw) (by decide)) rfl rfl ?_
        refine z_iload_n (q := 35) dX4_workOrMove_34 rfl rfl ?_
        refine z_iald (q := 36) dX4_workOrMove_35 (by first | exact zT_o hw | exact zT_w hw rfl | exact zT_N (zNo_w hw) | exact zT_n (zNo_w hw) (by decide)) (by omega) (by omega) rfl ?_
        refine z_eqi e7 ?_
        refine z_S4 (q := 39) dX4_workOrMove_36 zkX4_111 zt_mX4_moveTowards rfl (Nat.le_of_ble_eq_true rfl) (ct_X4_moveTowards hw hR ha ht hc19) (Nat.zero_le _) (Nat.zero_le _) rfl ?_
        rintro _ _ ⟨rfl, D, rfl, hD, hO⟩
        exact z_ret dX4_workOrMove_39 rfl (⟨rfl, D, rfl, by rw [hq, if_neg hc19]; exact hD, hO⟩)
    · intro hc9
      exact absurd hc9 (nI_nm9 (by omega))
