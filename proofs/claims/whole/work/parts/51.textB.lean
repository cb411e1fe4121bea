/-! ===== the component: digits of the text ===== -/
/-- a digit, -1 if there is none -/
def qDa (c : Int32) : Int32 := if nI 48 ≤ c ∧ c ≤ nI 57 then c - nI 48 else -1
theorem qDa_y {c : Int32} (h1 : nI 48 ≤ c) (h2 : c ≤ nI 57) : qDa c = c - nI 48 := if_pos ⟨h1, h2⟩
theorem qDa_1 {c : Int32} (h1 : ¬ nI 48 ≤ c) : qDa c = -1 := if_neg (fun h => h1 h.1)
theorem qDa_2 {c : Int32} (h2 : ¬ c ≤ nI 57) : qDa c = -1 := if_neg (fun h => h2 h.2)
set_option maxRecDepth 100000 in
set_option maxHeartbeats 4000000 in
theorem ct_X5_digitAt {g : zGl} {h : zHp} {b L i : Nat} {d : Nat → Nat → Int32} (hL : d 1 1 = nI L) (hL2 : L ≤ 120) (hi : i < 1000) : zC g mX5_digitAt [.ref (b + 1), .int (nI i)] (zpT g h b d) (zV (zpT g h b d) (.int (qDa (qCo (d 2) L i)))) 0 0 := by
  refine zC_ofA (lv := [some (.ref (b + 1)), some (.int (nI i)), none]) (by decide) rfl (Nat.le_of_ble_eq_true rfl) ?_
  refine z_aload_n (q := 1) dX5_digitAt_0 rfl rfl ?_
  refine z_iload_n (q := 2) dX5_digitAt_1 rfl rfl ?_
  refine z_v1 (q := 5) dX5_digitAt_2 zkX5_23 zt_mX5_codeAt rfl (by first | exact zT_X | exact zpT_a (c := 2) rfl) rfl (Nat.le_of_ble_eq_true rfl) (ct_X5_codeAt hL hL2 hi) rfl ?_
  refine z_istore_n (q := 6) dX5_digitAt_5 (Nat.le_of_ble_eq_true rfl) rfl rfl ?_
  refine z_iload_n (q := 7) dX5_digitAt_6 rfl rfl ?_
  refine z_bipush (q := 9) dX5_digitAt_7 zcb_48 rfl ?_
  refine z_icmp_lt (tg := 25) (q := 12) dX5_digitAt_9 rfl rfl ?_ ?_
  · intro hc9
    have e1 : ¬ nI 48 ≤ qCo (d 2) L i := Int32.not_le.mpr hc9
    refine z_iconst (q := 26) dX5_digitAt_25 zci_m1 rfl ?_
    exact z_reti dX5_digitAt_26 rfl (by first | exact ⟨congrArg (fun x => some (Value.int x)) (qDa_y e1 e2).symm, rfl⟩ | exact ⟨congrArg (fun x => some (Value.int x)) (qDa_1 e1).symm, rfl⟩ | exact ⟨congrArg (fun x => some (Value.int x)) (qDa_2 e2).symm, rfl⟩)
  · intro hc9
    have e1 : nI 48 ≤ qCo (d 2) L i := Int32.not_lt.mp hc9
    refine z_iload_n (q := 13) dX5_digitAt_12 rfl rfl ?_
    refine z_bipush (q := 15) dX5_digitAt_13 zcb_57 rfl ?_
    refine z_icmp_gt (tg := 25) (q := 18) dX5_digitAt_15 rfl rfl ?_ ?_
    · intro hc15
      have e2 : ¬ qCo (d 2) L i ≤ nI 57 := Int32.not_le.mpr hc15
      refine z_iconst (q := 26) dX5_digitAt_25 zci_m1 rfl ?_
      exact z_reti dX5_digitAt_26 rfl (by first | exact ⟨congrArg (fun x => some (Value.int x)) (qDa_y e1 e2).symm, rfl⟩ | exact ⟨congrArg (fun x => some (Value.int x)) (qDa_1 e1).symm, rfl⟩ | exact ⟨congrArg (fun x => some (Value.int x)) (qDa_2 e2).symm, rfl⟩)
    · intro hc15
      have e2 : qCo (d 2) L i ≤ nI 57 := Int32.not_lt.mp hc15
      refine z_iload_n (q := 19) dX5_digitAt_18 rfl rfl ?_
      refine z_bipush (q := 21) dX5_digitAt_19 zcb_48 rfl ?_
      refine z_isub (q := 22) dX5_digitAt_21 rfl ?_
      refine z_goto (q := 0) (tg := 26) dX5_digitAt_22 rfl ?_
      exact z_reti dX5_digitAt_26 rfl (by first | exact ⟨congrArg (fun x => some (Value.int x)) (qDa_y e1 e2).symm, rfl⟩ | exact ⟨congrArg (fun x => some (Value.int x)) (qDa_1 e1).symm, rfl⟩ | exact ⟨congrArg (fun x => some (Value.int x)) (qDa_2 e2).symm, rfl⟩)
set_option maxRecDepth 100000 in
set_option maxHeartbeats 4000000 in
theorem ct_X5_numberAt {g : zGl} {h : zHp} {b L i : Nat} {d : Nat → Nat → Int32} (hL : d 1 1 = nI L) (hL2 : L ≤ 120) (hi : i < 900) : zC g mX5_numberAt [.ref (b + 1), .int (nI i)] (zpT g h b d) (zV (zpT g h b d) (.int (nI 10 * qDa (qCo (d 2) L i) + qDa (qCo (d 2) L (i + 1))))) 0 0 := by
  refine zC_ofA (lv := [some (.ref (b + 1)), some (.int (nI i))]) (by decide) rfl (Nat.le_of_ble_eq_true rfl) ?_
  refine z_bipush (q := 2) dX5_numberAt_0 zcb_10 rfl ?_
  refine z_aload_n (q := 3) dX5_numberAt_2 rfl rfl ?_
  refine z_iload_n (q := 4) dX5_numberAt_3 rfl rfl ?_
  refine z_v1 (q := 7) dX5_numberAt_4 zkX5_60 zt_mX5_digitAt rfl (by first | exact zT_X | exact zpT_a (c := 2) rfl) rfl (Nat.le_of_ble_eq_true rfl) (ct_X5_digitAt hL hL2 (by omega)) rfl ?_
  refine z_imul (q := 8) dX5_numberAt_7 rfl ?_
  refine z_aload_n (q := 9) dX5_numberAt_8 rfl rfl ?_
  refine z_iload_n (q := 10) dX5_numberAt_9 rfl rfl ?_
  refine z_iconst (q := 11) dX5_numberAt_10 zci_1 rfl ?_
  refine z_iaddN (q := 12) dX5_numberAt_11 rfl ?_
  refine z_v1 (q := 15) dX5_numberAt_12 zkX5_60 zt_mX5_digitAt rfl (by first | exact zT_X | exact zpT_a (c := 2) rfl) rfl (Nat.le_of_ble_eq_true rfl) (ct_X5_digitAt hL hL2 (by omega)) rfl ?_
  refine z_iadd (q := 16) dX5_numberAt_15 rfl ?_
  exact z_reti dX5_numberAt_16 rfl (⟨rfl, rfl⟩)
