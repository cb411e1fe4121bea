/-! ===== the reference: leaves ===== -/
set_option maxRecDepth 100000 in
set_option maxHeartbeats 4000000 in
theorem ct_X8_agentAt {g : zGl} {h : zHp} {a : Nat} : zC g mX8_agentAt [.int (nI a)] h (zV h (.int (nI (4 + 6 * a)))) 0 0 := by
  refine zC_ofA (lv := [some (.int (nI a))]) (by decide) rfl (Nat.le_of_ble_eq_true rfl) ?_
  refine z_iconst (q := 1) dX8_agentAt_0 zci_4 rfl ?_
  refine z_bipush (q := 3) dX8_agentAt_1 zcb_6 rfl ?_
  refine z_iload_n (q := 4) dX8_agentAt_3 rfl rfl ?_
  refine z_imulN (q := 5) dX8_agentAt_4 rfl ?_
  refine z_iaddN (q := 6) dX8_agentAt_5 rfl ?_
  exact z_reti dX8_agentAt_6 rfl (⟨rfl, rfl⟩)
set_option maxRecDepth 100000 in
set_option maxHeartbeats 4000000 in
theorem ct_X8_taskAt {g : zGl} {h : zHp} {a : Nat} : zC g mX8_taskAt [.int (nI a)] h (zV h (.int (nI (40 + 4 * a)))) 0 0 := by
  refine zC_ofA (lv := [some (.int (nI a))]) (by decide) rfl (Nat.le_of_ble_eq_true rfl) ?_
  refine z_bipush (q := 2) dX8_taskAt_0 zcb_40 rfl ?_
  refine z_iconst (q := 3) dX8_taskAt_2 zci_4 rfl ?_
  refine z_iload_n (q := 4) dX8_taskAt_3 rfl rfl ?_
  refine z_imulN (q := 5) dX8_taskAt_4 rfl ?_
  refine z_iaddN (q := 6) dX8_taskAt_5 rfl ?_
  exact z_reti dX8_taskAt_6 rfl (⟨rfl, rfl⟩)
set_option maxRecDepth 100000 in
set_option maxHeartbeats 4000000 in
theorem ct_X8_noteAt {g : zGl} {h : zHp} {a t : Nat} : zC g mX8_noteAt [.int (nI a), .int (nI t)] h (zV h (.int (nI (72 + 4 * (8 * a + t))))) 0 0 := by
  refine zC_ofA (lv := [some (.int (nI a)), some (.int (nI t))]) (by decide) rfl (Nat.le_of_ble_eq_true rfl) ?_
  refine z_bipush (q := 2) dX8_noteAt_0 zcb_72 rfl ?_
  refine z_iconst (q := 3) dX8_noteAt_2 zci_4 rfl ?_
  refine z_bipush (q := 5) dX8_noteAt_3 zcb_8 rfl ?_
  refine z_iload_n (q := 6) dX8_noteAt_5 rfl rfl ?_
  refine z_imulN (q := 7) dX8_noteAt_6 rfl ?_
  refine z_iload_n (q := 8) dX8_noteAt_7 rfl rfl ?_
  refine z_iaddN (q := 9) dX8_noteAt_8 rfl ?_
  refine z_imulN (q := 10) dX8_noteAt_9 rfl ?_
  refine z_iaddN (q := 11) dX8_noteAt_10 rfl ?_
  exact z_reti dX8_noteAt_11 rfl (⟨rfl, rfl⟩)
set_option maxRecDepth 100000 in
set_option maxHeartbeats 4000000 in
theorem ct_X8_isOn {g : zGl} {h : zHp} {r a : Nat} {f : Nat → Int32} (hr : h.1 r = some (zI g 264 f)) (ha : a < 6) : zC g mX8_isOn [.ref r, .int (nI a)] h (zV h (.int (zbi (decide (f (4 + 6 * a + 3) = nI 1))))) 0 0 := by
  refine zC_ofA (lv := [some (.ref r), some (.int (nI a))]) (by decide) rfl (Nat.le_of_ble_eq_true rfl) ?_
  refine z_aload_n (q := 1) dX8_isOn_0 rfl rfl ?_
  refine z_iload_n (q := 2) dX8_isOn_1 rfl rfl ?_
  refine z_s1 (q := 5) dX8_isOn_2 zkX8_61 zt_mX8_agentAt rfl (Nat.le_of_ble_eq_true rfl) (ct_X8_agentAt) rfl ?_
  refine z_iconst (q := 6) dX8_isOn_5 zci_3 rfl ?_
  refine z_iaddN (q := 7) dX8_isOn_6 rfl ?_
  refine z_iald (q := 8) dX8_isOn_7 (by assumption) (by omega) (by omega) rfl ?_
  refine z_iconst (q := 9) dX8_isOn_8 zci_1 rfl ?_
  refine z_icmp_ne (tg := 16) (q := 12) dX8_isOn_9 rfl rfl ?_ ?_
  · intro hc9
    have hz := zF (h := h) hc9
    refine z_iconst (q := 17) dX8_isOn_16 zci_0 rfl ?_
    exact z_retz dX8_isOn_17 rfl (by first | exact Or.inl rfl | exact Or.inr rfl) (hz)
  · intro hc9
    have hz := zT (h := h) hc9
    refine z_iconst (q := 13) dX8_isOn_12 zci_1 rfl ?_
    refine z_goto (q := 0) (tg := 17) dX8_isOn_13 rfl ?_
    exact z_retz dX8_isOn_17 rfl (by first | exact Or.inl rfl | exact Or.inr rfl) (hz)
