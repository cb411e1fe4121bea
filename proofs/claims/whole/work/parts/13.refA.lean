/-! ===== the reference: leaves. Its row is a function f; fields of agent a at 4 + 6 a, of task t at 40 + 4 t, notes at 72 + 4 (8 a + t) ===== -/
def qOn (f : Nat → Int32) (a : Nat) : Bool := decide (f (4 + 6 * a + 3) = nI 1)
def qDone (f : Nat → Int32) (t : Nat) : Bool := decide (f (40 + 4 * t + 3) = f (40 + 4 * t + 2))
def qSz (x : Int32) : Int32 := if 0 ≤ x then x else -x
def qApart (f : Nat → Int32) (a b : Nat) : Int32 := qSz (f (4 + 6 * a) - f (4 + 6 * b)) + qSz (f (4 + 6 * a + 1) - f (4 + 6 * b + 1))
def qFar (f : Nat → Int32) (a t : Nat) : Int32 := qSz (f (4 + 6 * a) - f (40 + 4 * t)) + qSz (f (4 + 6 * a + 1) - f (40 + 4 * t + 1))
def qHears (f : Nat → Int32) (a b : Nat) : Bool := !decide (a = b) && qOn f a && qOn f b && !decide ((if f (4 + 6 * b + 2) ≤ f (4 + 6 * a + 2) then f (4 + 6 * b + 2) else f (4 + 6 * a + 2)) < qApart f a b)
def qLive (f : Nat → Int32) (p : Nat) (c : Int32) : Bool := decide (f (p) = nI 1) && !decide (f (p + 3) ≤ c)
def qNt (a t : Nat) : Nat := 72 + 4 * (8 * a + t)
def qOwn (f : Nat → Int32) (a t : Nat) : Bool := qLive f (72 + 4 * (8 * a + t)) (f 2) && decide (f (72 + 4 * (8 * a + t) + 1) = nI a)
def qOwnTask (f : Nat → Int32) (K a : Nat) : Option Nat := qFst (qOwn f a) K
def qLay (f : Nat → Int32) (p : Nat) (x y z w : Int32) : Nat → Int32 := va_up (va_up (va_up (va_up f (p) x) (p + 1) y) (p + 2) z) (p + 3) w
def qBetter (f : Nat → Int32) (p q : Nat) : Bool :=
  if decide (f (p) = nI 2) || decide (f (q) = nI 2) then decide (f (p) = nI 2) && !decide (f (q) = nI 2)
  else if !qLive f p (f 2) || !qLive f q (f 2) then qLive f p (f 2) && !qLive f q (f 2)
  else if f (p + 2) = f (q + 2) then (if f (p + 1) = f (q + 1) then !decide (f (p + 3) ≤ f (q + 3)) else !decide (f (q + 1) ≤ f (p + 1))) else !decide (f (q + 2) ≤ f (p + 2))
set_option maxRecDepth 100000 in
set_option maxHeartbeats 4000000 in
theorem ct_X8_agentAt {g : zGl} {h : zHp} {a : Nat} : zC g mX8_agentAt [.int (nI a)] h (zV h (.int (nI (4 + 6 * a)))) 0 0 := by
  refine zC_ofA (lv := [some (.int (nI a))]) (by decide) rfl (Nat.le_of_ble_eq_true rfl) ?_
  refine z_iconst (q := 1) dX8_agentAt_0 zci_4 rfl ?_
  refine z_bipush (q := 3) dX8_agentAt_1 zcb_6 rfl ?_
  refine z_iload_n (q := 4) dX8_agentAt_3 rfl rfl ?_
  refine z_imulN (q := 5) dX8_agentAt_4 rfl ?_
  refine z_iaddN (q := 6) dX8_agentAt_5 rfl ?_
  exact z_reti dX8_agentAt_6 rfl (⟨rfl, rfl⟩)
set_option maxRecDepth 100000 in
set_option maxHeartbeats 4000000 in
theorem ct_X8_taskAt {g : zGl} {h : zHp} {a : Nat} : zC g mX8_taskAt [.int (nI a)] h (zV h (.int (nI (40 + 4 * a)))) 0 0 := by
  refine zC_ofA (lv := [some (.int (nI a))]) (by decide) rfl (Nat.le_of_ble_eq_true rfl) ?_
  refine z_bipush (q := 2) dX8_taskAt_0 zcb_40 rfl ?_
  refine z_iconst (q := 3) dX8_taskAt_2 zci_4 rfl ?_
  refine z_iload_n (q := 4) dX8_taskAt_3 rfl rfl ?_
  refine z_imulN (q := 5) dX8_taskAt_4 rfl ?_
  refine z_iaddN (q := 6) dX8_taskAt_5 rfl ?_
  exact z_reti dX8_taskAt_6 rfl (⟨rfl, rfl⟩)
set_option maxRecDepth 100000 in
set_option maxHeartbeats 4000000 in
theorem ct_X8_noteAt {g : zGl} {h : zHp} {a t : Nat} : zC g mX8_noteAt [.int (nI a), .int (nI t)] h (zV h (.int (nI (72 + 4 * (8 * a + t))))) 0 0 := by
  refine zC_ofA (lv := [some (.int (nI a)), some (.int (nI t))]) (by decide) rfl (Nat.le_of_ble_eq_true rfl) ?_
  refine z_bipush (q := 2) dX8_noteAt_0 zcb_72 rfl ?_
  refine z_iconst (q := 3) dX8_noteAt_2 zci_4 rfl ?_
  refine z_bipush (q := 5) dX8_noteAt_3 zcb_8 rfl ?_
  refine z_iload_n (q := 6) dX8_noteAt_5 rfl rfl ?_
  refine z_imulN (q := 7) dX8_noteAt_6 rfl ?_
  refine z_iload_n (q := 8) dX8_noteAt_7 rfl rfl ?_
  refine z_iaddN (q := 9) dX8_noteAt_8 rfl ?_
  refine z_imulN (q := 10) dX8_noteAt_9 rfl ?_
  refine z_iaddN (q := 11) dX8_noteAt_10 rfl ?_
  exact z_reti dX8_noteAt_11 rfl (⟨rfl, rfl⟩)
set_option maxRecDepth 100000 in
set_option maxHeartbeats 4000000 in
theorem ct_X8_isOn {g : zGl} {h : zHp} {r a : Nat} {f : Nat → Int32} (hr : h.1 r = some (zI g 264 f)) (ha : a < 6) : zC g mX8_isOn [.ref r, .int (nI a)] h (zV h (.int (zbi (qOn f a)))) 0 0 := by
  refine zC_ofA (lv := [some (.ref r), some (.int (nI a))]) (by decide) rfl (Nat.le_of_ble_eq_true rfl) ?_
  refine z_aload_n (q := 1) dX8_isOn_0 rfl rfl ?_
  refine z_iload_n (q := 2) dX8_isOn_1 rfl rfl ?_
  refine z_s1 (q := 5) dX8_isOn_2 zkX8_61 zt_mX8_agentAt rfl (Nat.le_of_ble_eq_true rfl) (ct_X8_agentAt) rfl ?_
  refine z_iconst (q := 6) dX8_isOn_5 zci_3 rfl ?_
  refine z_iaddN (q := 7) dX8_isOn_6 rfl ?_
  refine z_iald (q := 8) dX8_isOn_7 (by assumption) (by omega) (by omega) rfl ?_
  refine z_iconst (q := 9) dX8_isOn_8 zci_1 rfl ?_
  refine z_icmp_ne (tg := 16) (q := 12) dX8_isOn_9 rfl rfl ?_ ?_
  · intro hc9
    refine z_iconst (q := 17) dX8_isOn_16 zci_0 rfl ?_
    exact z_retz dX8_isOn_17 rfl (by first | exact Or.inl rfl | exact Or.inr rfl) (zVf (by first | (simp [qOn, hc9]; done) | simp_all [qOn]))
  · intro hc9
    refine z_iconst (q := 13) dX8_isOn_12 zci_1 rfl ?_
    refine z_goto (q := 0) (tg := 17) dX8_isOn_13 rfl ?_
    exact z_retz dX8_isOn_17 rfl (by first | exact Or.inl rfl | exact Or.inr rfl) (zVt (by first | (simp [qOn, hc9]; done) | simp_all [qOn]))
set_option maxRecDepth 100000 in
set_option maxHeartbeats 4000000 in
theorem ct_X8_isDone {g : zGl} {h : zHp} {r t : Nat} {f : Nat → Int32} (hr : h.1 r = some (zI g 264 f)) (ht : t < 8) : zC g mX8_isDone [.ref r, .int (nI t)] h (zV h (.int (zbi (qDone f t)))) 0 0 := by
  refine zC_ofA (lv := [some (.ref r), some (.int (nI t))]) (by decide) rfl (Nat.le_of_ble_eq_true rfl) ?_
  refine z_aload_n (q := 1) dX8_isDone_0 rfl rfl ?_
  refine z_iload_n (q := 2) dX8_isDone_1 rfl rfl ?_
  refine z_s1 (q := 5) dX8_isDone_2 zkX8_65 zt_mX8_taskAt rfl (Nat.le_of_ble_eq_true rfl) (ct_X8_taskAt) rfl ?_
  refine z_iconst (q := 6) dX8_isDone_5 zci_3 rfl ?_
  refine z_iaddN (q := 7) dX8_isDone_6 rfl ?_
  refine z_iald (q := 8) dX8_isDone_7 (by assumption) (by omega) (by omega) rfl ?_
  refine z_aload_n (q := 9) dX8_isDone_8 rfl rfl ?_
  refine z_iload_n (q := 10) dX8_isDone_9 rfl rfl ?_
  refine z_s1 (q := 13) dX8_isDone_10 zkX8_65 zt_mX8_taskAt rfl (Nat.le_of_ble_eq_true rfl) (ct_X8_taskAt) rfl ?_
  refine z_iconst (q := 14) dX8_isDone_13 zci_2 rfl ?_
  refine z_iaddN (q := 15) dX8_isDone_14 rfl ?_
  refine z_iald (q := 16) dX8_isDone_15 (by assumption) (by omega) (by omega) rfl ?_
  refine z_icmp_ne (tg := 23) (q := 19) dX8_isDone_16 rfl rfl ?_ ?_
  · intro hc16
    refine z_iconst (q := 24) dX8_isDone_23 zci_0 rfl ?_
    exact z_retz dX8_isDone_24 rfl (by first | exact Or.inl rfl | exact Or.inr rfl) (zVf (by first | (simp [qDone, hc16]; done) | simp_all [qDone]))
  · intro hc16
    refine z_iconst (q := 20) dX8_isDone_19 zci_1 rfl ?_
    refine z_goto (q := 0) (tg := 24) dX8_isDone_20 rfl ?_
    exact z_retz dX8_isDone_24 rfl (by first | exact Or.inl rfl | exact Or.inr rfl) (zVt (by first | (simp [qDone, hc16]; done) | simp_all [qDone]))
set_option maxRecDepth 100000 in
set_option maxHeartbeats 4000000 in
theorem ct_X8_size {g : zGl} {h : zHp} {x : Int32} : zC g mX8_size [.int x] h (zV h (.int (qSz x))) 0 0 := by
  refine zC_ofA (lv := [some (.int x)]) (by decide) rfl (Nat.le_of_ble_eq_true rfl) ?_
  refine z_iload_n (q := 1) dX8_size_0 rfl rfl ?_
  refine z_if_ge (tg := 9) (q := 4) dX8_size_1 rfl rfl ?_ ?_
  · intro hc1
    refine z_iload_n (q := 10) dX8_size_9 rfl rfl ?_
    exact z_reti dX8_size_10 rfl (⟨by simp [qSz, hc1], rfl⟩)
  · intro hc1
    refine z_iload_n (q := 5) dX8_size_4 rfl rfl ?_
    refine z_ineg (q := 6) dX8_size_5 rfl ?_
    refine z_goto (q := 0) (tg := 10) dX8_size_6 rfl ?_
    exact z_reti dX8_size_10 rfl (⟨by simp [qSz, hc1], rfl⟩)
set_option maxRecDepth 100000 in
set_option maxHeartbeats 4000000 in
theorem ct_X8_apart {g : zGl} {h : zHp} {r a b : Nat} {f : Nat → Int32} (hr : h.1 r = some (zI g 264 f)) (ha : a < 6) (hb : b < 6) : zC g mX8_apart [.ref r, .int (nI a), .int (nI b)] h (zV h (.int (qApart f a b))) 0 0 := by
  refine zC_ofA (lv := [some (.ref r), some (.int (nI a)), some (.int (nI b))]) (by decide) rfl (Nat.le_of_ble_eq_true rfl) ?_
  refine z_aload_n (q := 1) dX8_apart_0 rfl rfl ?_
  refine z_iload_n (q := 2) dX8_apart_1 rfl rfl ?_
  refine z_s1 (q := 5) dX8_apart_2 zkX8_61 zt_mX8_agentAt rfl (Nat.le_of_ble_eq_true rfl) (ct_X8_agentAt) rfl ?_
  refine z_iconst (q := 6) dX8_apart_5 zci_0 rfl ?_
  refine z_iadd0 (q := 7) dX8_apart_6 rfl ?_
  refine z_iald (q := 8) dX8_apart_7 (by assumption) (by omega) (by omega) rfl ?_
  refine z_aload_n (q := 9) dX8_apart_8 rfl rfl ?_
  refine z_iload_n (q := 10) dX8_apart_9 rfl rfl ?_
  refine z_s1 (q := 13) dX8_apart_10 zkX8_61 zt_mX8_agentAt rfl (Nat.le_of_ble_eq_true rfl) (ct_X8_agentAt) rfl ?_
  refine z_iconst (q := 14) dX8_apart_13 zci_0 rfl ?_
  refine z_iadd0 (q := 15) dX8_apart_14 rfl ?_
  refine z_iald (q := 16) dX8_apart_15 (by assumption) (by omega) (by omega) rfl ?_
  refine z_isub (q := 17) dX8_apart_16 rfl ?_
  refine z_s1 (q := 20) dX8_apart_17 zkX8_68 zt_mX8_size rfl (Nat.le_of_ble_eq_true rfl) (ct_X8_size) rfl ?_
  refine z_aload_n (q := 21) dX8_apart_20 rfl rfl ?_
  refine z_iload_n (q := 22) dX8_apart_21 rfl rfl ?_
  refine z_s1 (q := 25) dX8_apart_22 zkX8_61 zt_mX8_agentAt rfl (Nat.le_of_ble_eq_true rfl) (ct_X8_agentAt) rfl ?_
  refine z_iconst (q := 26) dX8_apart_25 zci_1 rfl ?_
  refine z_iaddN (q := 27) dX8_apart_26 rfl ?_
  refine z_iald (q := 28) dX8_apart_27 (by assumption) (by omega) (by omega) rfl ?_
  refine z_aload_n (q := 29) dX8_apart_28 rfl rfl ?_
  refine z_iload_n (q := 30) dX8_apart_29 rfl rfl ?_
  refine z_s1 (q := 33) dX8_apart_30 zkX8_61 zt_mX8_agentAt rfl (Nat.le_of_ble_eq_true rfl) (ct_X8_agentAt) rfl ?_
  refine z_iconst (q := 34) dX8_apart_33 zci_1 rfl ?_
  refine z_iaddN (q := 35) dX8_apart_34 rfl ?_
  refine z_iald (q := 36) dX8_apart_35 (by assumption) (by omega) (by omega) rfl ?_
  refine z_isub (q := 37) dX8_apart_36 rfl ?_
  refine z_s1 (q := 40) dX8_apart_37 zkX8_68 zt_mX8_size rfl (Nat.le_of_ble_eq_true rfl) (ct_X8_size) rfl ?_
  refine z_iadd (q := 41) dX8_apart_40 rfl ?_
  exact z_reti dX8_apart_41 rfl (⟨rfl, rfl⟩)
set_option maxRecDepth 100000 in
set_option maxHeartbeats 4000000 in
theorem ct_X8_far {g : zGl} {h : zHp} {r a t : Nat} {f : Nat → Int32} (hr : h.1 r = some (zI g 264 f)) (ha : a < 6) (hb : t < 8) : zC g mX8_far [.ref r, .int (nI a), .int (nI t)] h (zV h (.int (qFar f a t))) 0 0 := by
  refine zC_ofA (lv := [some (.ref r), some (.int (nI a)), some (.int (nI t))]) (by decide) rfl (Nat.le_of_ble_eq_true rfl) ?_
  refine z_aload_n (q := 1) dX8_far_0 rfl rfl ?_
  refine z_iload_n (q := 2) dX8_far_1 rfl rfl ?_
  refine z_s1 (q := 5) dX8_far_2 zkX8_61 zt_mX8_agentAt rfl (Nat.le_of_ble_eq_true rfl) (ct_X8_agentAt) rfl ?_
  refine z_iconst (q := 6) dX8_far_5 zci_0 rfl ?_
  refine z_iadd0 (q := 7) dX8_far_6 rfl ?_
  refine z_iald (q := 8) dX8_far_7 (by assumption) (by omega) (by omega) rfl ?_
  refine z_aload_n (q := 9) dX8_far_8 rfl rfl ?_
  refine z_iload_n (q := 10) dX8_far_9 rfl rfl ?_
  refine z_s1 (q := 13) dX8_far_10 zkX8_65 zt_mX8_taskAt rfl (Nat.le_of_ble_eq_true rfl) (ct_X8_taskAt) rfl ?_
  refine z_iconst (q := 14) dX8_far_13 zci_0 rfl ?_
  refine z_iadd0 (q := 15) dX8_far_14 rfl ?_
  refine z_iald (q := 16) dX8_far_15 (by assumption) (by omega) (by omega) rfl ?_
  refine z_isub (q := 17) dX8_far_16 rfl ?_
  refine z_s1 (q := 20) dX8_far_17 zkX8_68 zt_mX8_size rfl (Nat.le_of_ble_eq_true rfl) (ct_X8_size) rfl ?_
  refine z_aload_n (q := 21) dX8_far_20 rfl rfl ?_
  refine z_iload_n (q := 22) dX8_far_21 rfl rfl ?_
  refine z_s1 (q := 25) dX8_far_22 zkX8_61 zt_mX8_agentAt rfl (Nat.le_of_ble_eq_true rfl) (ct_X8_agentAt) rfl ?_
  refine z_iconst (q := 26) dX8_far_25 zci_1 rfl ?_
  refine z_iaddN (q := 27) dX8_far_26 rfl ?_
  refine z_iald (q := 28) dX8_far_27 (by assumption) (by omega) (by omega) rfl ?_
  refine z_aload_n (q := 29) dX8_far_28 rfl rfl ?_
  refine z_iload_n (q := 30) dX8_far_29 rfl rfl ?_
  refine z_s1 (q := 33) dX8_far_30 zkX8_65 zt_mX8_taskAt rfl (Nat.le_of_ble_eq_true rfl) (ct_X8_taskAt) rfl ?_
  refine z_iconst (q := 34) dX8_far_33 zci_1 rfl ?_
  refine z_iaddN (q := 35) dX8_far_34 rfl ?_
  refine z_iald (q := 36) dX8_far_35 (by assumption) (by omega) (by omega) rfl ?_
  refine z_isub (q := 37) dX8_far_36 rfl ?_
  refine z_s1 (q := 40) dX8_far_37 zkX8_68 zt_mX8_size rfl (Nat.le_of_ble_eq_true rfl) (ct_X8_size) rfl ?_
  refine z_iadd (q := 41) dX8_far_40 rfl ?_
  exact z_reti dX8_far_41 rfl (⟨rfl, rfl⟩)
set_option maxRecDepth 100000 in
set_option maxHeartbeats 4000000 in
theorem ct_X8_hears {g : zGl} {h : zHp} {r a b : Nat} {f : Nat → Int32} (hr : h.1 r = some (zI g 264 f)) (ha : a < 6) (hb : b < 6) : zC g mX8_hears [.ref r, .int (nI a), .int (nI b)] h (zV h (.int (zbi (qHears f a b)))) 0 0 := by
  refine zC_ofA (lv := [some (.ref r), some (.int (nI a)), some (.int (nI b)), none]) (by decide) rfl (Nat.le_of_ble_eq_true rfl) ?_
  refine z_aload_n (q := 1) dX8_hears_0 rfl rfl ?_
  refine z_iload_n (q := 2) dX8_hears_1 rfl rfl ?_
  refine z_s1 (q := 5) dX8_hears_2 zkX8_61 zt_mX8_agentAt rfl (Nat.le_of_ble_eq_true rfl) (ct_X8_agentAt) rfl ?_
  refine z_iconst (q := 6) dX8_hears_5 zci_2 rfl ?_
  refine z_iaddN (q := 7) dX8_hears_6 rfl ?_
  refine z_iald (q := 8) dX8_hears_7 (by assumption) (by omega) (by omega) rfl ?_
  refine z_aload_n (q := 9) dX8_hears_8 rfl rfl ?_
  refine z_iload_n (q := 10) dX8_hears_9 rfl rfl ?_
  refine z_s1 (q := 13) dX8_hears_10 zkX8_61 zt_mX8_agentAt rfl (Nat.le_of_ble_eq_true rfl) (ct_X8_agentAt) rfl ?_
  refine z_iconst (q := 14) dX8_hears_13 zci_2 rfl ?_
  refine z_iaddN (q := 15) dX8_hears_14 rfl ?_
  refine z_iald (q := 16) dX8_hears_15 (by assumption) (by omega) (by omega) rfl ?_
  refine z_icmp_ge (tg := 30) (q := 19) dX8_hears_16 rfl rfl ?_ ?_
  · intro hc16
    refine z_aload_n (q := 31) dX8_hears_30 rfl rfl ?_
    refine z_iload_n (q := 32) dX8_hears_31 rfl rfl ?_
    refine z_s1 (q := 35) dX8_hears_32 zkX8_61 zt_mX8_agentAt rfl (Nat.le_of_ble_eq_true rfl) (ct_X8_agentAt) rfl ?_
    refine z_iconst (q := 36) dX8_hears_35 zci_2 rfl ?_
    refine z_iaddN (q := 37) dX8_hears_36 rfl ?_
    refine z_iald (q := 38) dX8_hears_37 (by assumption) (by omega) (by omega) rfl ?_
    refine z_istore_n (q := 39) dX8_hears_38 (Nat.le_of_ble_eq_true rfl) rfl rfl ?_
    refine z_iload_n (q := 40) dX8_hears_39 rfl rfl ?_
    refine z_iload_n (q := 41) dX8_hears_40 rfl rfl ?_
    refine z_icmp_eqN (tg := 74) (q := 44) dX8_hears_41 rfl rfl (by omega) (by omega) ?_ ?_
    · intro hc41
      refine z_iconst (q := 75) dX8_hears_74 zci_0 rfl ?_
      exact z_retz dX8_hears_75 rfl (by first | exact Or.inl rfl | exact Or.inr rfl) (zVf (by first | (simp [qHears, hc16, hc41]; done) | simp_all [qHears]))
    · intro hc41
      refine z_aload_n (q := 45) dX8_hears_44 rfl rfl ?_
      refine z_iload_n (q := 46) dX8_hears_45 rfl rfl ?_
      refine z_s2 (q := 49) dX8_hears_46 zkX8_71 zt_mX8_isOn rfl (Nat.le_of_ble_eq_true rfl) (ct_X8_isOn (by assumption) (by omega)) rfl ?_
      refine z_ifb_eq (tg := 74) (q := 52) dX8_hears_49 rfl rfl ?_ ?_
      · intro hc49
        refine z_iconst (q := 75) dX8_hears_74 zci_0 rfl ?_
        exact z_retz dX8_hears_75 rfl (by first | exact Or.inl rfl | exact Or.inr rfl) (zVf (by first | (simp [qHears, hc16, hc41, hc49]; done) | simp_all [qHears]))
      · intro hc49
        refine z_aload_n (q := 53) dX8_hears_52 rfl rfl ?_
        refine z_iload_n (q := 54) dX8_hears_53 rfl rfl ?_
        refine z_s2 (q := 57) dX8_hears_54 zkX8_71 zt_mX8_isOn rfl (Nat.le_of_ble_eq_true rfl) (ct_X8_isOn (by assumption) (by omega)) rfl ?_
        refine z_ifb_eq (tg := 74) (q := 60) dX8_hears_57 rfl rfl ?_ ?_
        · intro hc57
          refine z_iconst (q := 75) dX8_hears_74 zci_0 rfl ?_
          exact z_retz dX8_hears_75 rfl (by first | exact Or.inl rfl | exact Or.inr rfl) (zVf (by first | (simp [qHears, hc16, hc41, hc49, hc57]; done) | simp_all [qHears]))
        · intro hc57
          refine z_aload_n (q := 61) dX8_hears_60 rfl rfl ?_
          refine z_iload_n (q := 62) dX8_hears_61 rfl rfl ?_
          refine z_iload_n (q := 63) dX8_hears_62 rfl rfl ?_
          refine z_s3 (q := 66) dX8_hears_63 zkX8_75 zt_mX8_apart rfl (Nat.le_of_ble_eq_true rfl) (ct_X8_apart (by assumption) (by omega) (by omega)) rfl ?_
          refine z_iload_n (q := 67) dX8_hears_66 rfl rfl ?_
          refine z_icmp_gt (tg := 74) (q := 70) dX8_hears_67 rfl rfl ?_ ?_
          · intro hc67
            refine z_iconst (q := 75) dX8_hears_74 zci_0 rfl ?_
            exact z_retz dX8_hears_75 rfl (by first | exact Or.inl rfl | exact Or.inr rfl) (zVf (by first | (simp [qHears, hc16, hc41, hc49, hc57, hc67]; done) | simp_all [qHears]))
          · intro hc67
            refine z_iconst (q := 71) dX8_hears_70 zci_1 rfl ?_
            refine z_goto (q := 0) (tg := 75) dX8_hears_71 rfl ?_
            exact z_retz dX8_hears_75 rfl (by first | exact Or.inl rfl | exact Or.inr rfl) (zVt (by first | (simp [qHears, hc16, hc41, hc49, hc57, hc67]; done) | simp_all [qHears]))
  · intro hc16
    refine z_aload_n (q := 20) dX8_hears_19 rfl rfl ?_
    refine z_iload_n (q := 21) dX8_hears_20 rfl rfl ?_
    refine z_s1 (q := 24) dX8_hears_21 zkX8_61 zt_mX8_agentAt rfl (Nat.le_of_ble_eq_true rfl) (ct_X8_agentAt) rfl ?_
    refine z_iconst (q := 25) dX8_hears_24 zci_2 rfl ?_
    refine z_iaddN (q := 26) dX8_hears_25 rfl ?_
    refine z_iald (q := 27) dX8_hears_26 (by assumption) (by omega) (by omega) rfl ?_
    refine z_goto (q := 0) (tg := 38) dX8_hears_27 rfl ?_
    refine z_istore_n (q := 39) dX8_hears_38 (Nat.le_of_ble_eq_true rfl) rfl rfl ?_
    refine z_iload_n (q := 40) dX8_hears_39 rfl rfl ?_
    refine z_iload_n (q := 41) dX8_hears_40 rfl rfl ?_
    refine z_icmp_eqN (tg := 74) (q := 44) dX8_hears_41 rfl rfl (by omega) (by omega) ?_ ?_
    · intro hc41
      refine z_iconst (q := 75) dX8_hears_74 zci_0 rfl ?_
      exact z_retz dX8_hears_75 rfl (by first | exact Or.inl rfl | exact Or.inr rfl) (zVf (by first | (simp [qHears, hc16, hc41]; done) | simp_all [qHears]))
    · intro hc41
      refine z_aload_n (q := 45) dX8_hears_44 rfl rfl ?_
      refine z_iload_n (q := 46) dX8_hears_45 rfl rfl ?_
      refine z_s2 (q := 49) dX8_hears_46 zkX8_71 zt_mX8_isOn rfl (Nat.le_of_ble_eq_true rfl) (ct_X8_isOn (by assumption) (by omega)) rfl ?_
      refine z_ifb_eq (tg := 74) (q := 52) dX8_hears_49 rfl rfl ?_ ?_
      · intro hc49
        refine z_iconst (q := 75) dX8_hears_74 zci_0 rfl ?_
        exact z_retz dX8_hears_75 rfl (by first | exact Or.inl rfl | exact Or.inr rfl) (zVf (by first | (simp [qHears, hc16, hc41, hc49]; done) | simp_all [qHears]))
      · intro hc49
        refine z_aload_n (q := 53) dX8_hears_52 rfl rfl ?_
        refine z_iload_n (q := 54) dX8_hears_53 rfl rfl ?_
        refine z_s2 (q := 57) dX8_hears_54 zkX8_71 zt_mX8_isOn rfl (Nat.le_of_ble_eq_true rfl) (ct_X8_isOn (by assumption) (by omega)) rfl ?_
        refine z_ifb_eq (tg := 74) (q := 60) dX8_hears_57 rfl rfl ?_ ?_
        · intro hc57
          refine z_iconst (q := 75) dX8_hears_74 zci_0 rfl ?_
          exact z_retz dX8_hears_75 rfl (by first | exact Or.inl rfl | exact Or.inr rfl) (zVf (by first | (simp [qHears, hc16, hc41, hc49, hc57]; done) | simp_all [qHears]))
        · intro hc57
          refine z_aload_n (q := 61) dX8_hears_60 rfl rfl ?_
          refine z_iload_n (q := 62) dX8_hears_61 rfl rfl ?_
          refine z_iload_n (q := 63) dX8_hears_62 rfl rfl ?_
          refine z_s3 (q := 66) dX8_hears_63 zkX8_75 zt_mX8_apart rfl (Nat.le_of_ble_eq_true rfl) (ct_X8_apart (by assumption) (by omega) (by omega)) rfl ?_
          refine z_iload_n (q := 67) dX8_hears_66 rfl rfl ?_
          refine z_icmp_gt (tg := 74) (q := 70) dX8_hears_67 rfl rfl ?_ ?_
          · intro hc67
            refine z_iconst (q := 75) dX8_hears_74 zci_0 rfl ?_
            exact z_retz dX8_hears_75 rfl (by first | exact Or.inl rfl | exact Or.inr rfl) (zVf (by first | (simp [qHears, hc16, hc41, hc49, hc57, hc67]; done) | simp_all [qHears]))
          · intro hc67
            refine z_iconst (q := 71) dX8_hears_70 zci_1 rfl ?_
            refine z_goto (q := 0) (tg := 75) dX8_hears_71 rfl ?_
            exact z_retz dX8_hears_75 rfl (by first | exact Or.inl rfl | exact Or.inr rfl) (zVt (by first | (simp [qHears, hc16, hc41, hc49, hc57, hc67]; done) | simp_all [qHears]))
set_option maxRecDepth 100000 in
set_option maxHeartbeats 4000000 in
theorem ct_X8_isLive {g : zGl} {h : zHp} {r p : Nat} {c : Int32} {f : Nat → Int32} (hr : h.1 r = some (zI g 264 f)) (hp : p < 261) : zC g mX8_isLive [.ref r, .int (nI p), .int c] h (zV h (.int (zbi (qLive f p c)))) 0 0 := by
  refine zC_ofA (lv := [some (.ref r), some (.int (nI p)), some (.int c)]) (by decide) rfl (Nat.le_of_ble_eq_true rfl) ?_
  refine z_aload_n (q := 1) dX8_isLive_0 rfl rfl ?_
  refine z_iload_n (q := 2) dX8_isLive_1 rfl rfl ?_
  refine z_iconst (q := 3) dX8_isLive_2 zci_0 rfl ?_
  refine z_iadd0 (q := 4) dX8_isLive_3 rfl ?_
  refine z_iald (q := 5) dX8_isLive_4 (by assumption) (by omega) (by omega) rfl ?_
  refine z_iconst (q := 6) dX8_isLive_5 zci_1 rfl ?_
  refine z_icmp_ne (tg := 22) (q := 9) dX8_isLive_6 rfl rfl ?_ ?_
  · intro hc6
    refine z_iconst (q := 23) dX8_isLive_22 zci_0 rfl ?_
    exact z_retz dX8_isLive_23 rfl (by first | exact Or.inl rfl | exact Or.inr rfl) (zVf (by first | (simp [qLive, hc6]; done) | simp_all [qLive]))
  · intro hc6
    refine z_aload_n (q := 10) dX8_isLive_9 rfl rfl ?_
    refine z_iload_n (q := 11) dX8_isLive_10 rfl rfl ?_
    refine z_iconst (q := 12) dX8_isLive_11 zci_3 rfl ?_
    refine z_iaddN (q := 13) dX8_isLive_12 rfl ?_
    refine z_iald (q := 14) dX8_isLive_13 (by assumption) (by omega) (by omega) rfl ?_
    refine z_iload_n (q := 15) dX8_isLive_14 rfl rfl ?_
    refine z_icmp_le (tg := 22) (q := 18) dX8_isLive_15 rfl rfl ?_ ?_
    · intro hc15
      refine z_iconst (q := 23) dX8_isLive_22 zci_0 rfl ?_
      exact z_retz dX8_isLive_23 rfl (by first | exact Or.inl rfl | exact Or.inr rfl) (zVf (by first | (simp [qLive, hc6, hc15]; done) | simp_all [qLive]))
    · intro hc15
      refine z_iconst (q := 19) dX8_isLive_18 zci_1 rfl ?_
      refine z_goto (q := 0) (tg := 23) dX8_isLive_19 rfl ?_
      exact z_retz dX8_isLive_23 rfl (by first | exact Or.inl rfl | exact Or.inr rfl) (zVt (by first | (simp [qLive, hc6, hc15]; done) | simp_all [qLive]))
set_option maxRecDepth 100000 in
set_option maxHeartbeats 4000000 in
theorem ct_X8_better {g : zGl} {h : zHp} {r p q : Nat} {f : Nat → Int32} (hr : h.1 r = some (zI g 264 f)) (hp : p < 261) (hq : q < 261) : zC g mX8_better [.ref r, .int (nI p), .int (nI q)] h (zV h (.int (zbi (qBetter f p q)))) 0 0 := by
  refine zC_ofA (lv := [some (.ref r), some (.int (nI p)), some (.int (nI q)), none, none, none, none, none, none]) (by decide) rfl (Nat.le_of_ble_eq_true rfl) ?_
  refine z_aload_n (q := 1) dX8_better_0 rfl rfl ?_
  refine z_iconst (q := 2) dX8_better_1 zci_2 rfl ?_
  refine z_iald (q := 3) dX8_better_2 (by assumption) (by omega) (by omega) rfl ?_
  refine z_istore_n (q := 4) dX8_better_3 (Nat.le_of_ble_eq_true rfl) rfl rfl ?_
  refine z_aload_n (q := 5) dX8_better_4 rfl rfl ?_
  refine z_iload_n (q := 6) dX8_better_5 rfl rfl ?_
  refine z_iconst (q := 7) dX8_better_6 zci_0 rfl ?_
  refine z_iadd0 (q := 8) dX8_better_7 rfl ?_
  refine z_iald (q := 9) dX8_better_8 (by assumption) (by omega) (by omega) rfl ?_
  refine z_iconst (q := 10) dX8_better_9 zci_2 rfl ?_
  refine z_icmp_ne (tg := 17) (q := 13) dX8_better_10 rfl rfl ?_ ?_
  · intro hc10
    refine z_iconst (q := 18) dX8_better_17 zci_0 rfl ?_
    refine z_istore (q := 20) dX8_better_18 (Nat.le_of_ble_eq_true rfl) rfl rfl ?_
    refine z_aload_n (q := 21) dX8_better_20 rfl rfl ?_
    refine z_iload_n (q := 22) dX8_better_21 rfl rfl ?_
    refine z_iconst (q := 23) dX8_better_22 zci_0 rfl ?_
    refine z_iadd0 (q := 24) dX8_better_23 rfl ?_
    refine z_iald (q := 25) dX8_better_24 (by assumption) (by omega) (by omega) rfl ?_
    refine z_iconst (q := 26) dX8_better_25 zci_2 rfl ?_
    refine z_icmp_ne (tg := 33) (q := 29) dX8_better_26 rfl rfl ?_ ?_
    · intro hc26
      refine z_iconst (q := 34) dX8_better_33 zci_0 rfl ?_
      refine z_istore (q := 36) dX8_better_34 (Nat.le_of_ble_eq_true rfl) rfl rfl ?_
      refine z_iload (q := 38) dX8_better_36 rfl rfl ?_
      refine z_if_ne (tg := 46) (q := 41) dX8_better_38 rfl rfl ?_ ?_
      · intro hc38
        exact absurd hc38 (by decide)
      · intro hc38
        refine z_iload (q := 43) dX8_better_41 rfl rfl ?_
        refine z_if_eq (tg := 62) (q := 46) dX8_better_43 rfl rfl ?_ ?_
        · intro hc43
          refine z_aload_n (q := 63) dX8_better_62 rfl rfl ?_
          refine z_iload_n (q := 64) dX8_better_63 rfl rfl ?_
          refine z_iload_n (q := 65) dX8_better_64 rfl rfl ?_
          refine z_s3 (q := 68) dX8_better_65 zkX8_79 zt_mX8_isLive rfl (Nat.le_of_ble_eq_true rfl) (ct_X8_isLive (by assumption) (by omega)) rfl ?_
          refine z_istore (q := 70) dX8_better_68 (Nat.le_of_ble_eq_true rfl) rfl rfl ?_
          refine z_aload_n (q := 71) dX8_better_70 rfl rfl ?_
          refine z_iload_n (q := 72) dX8_better_71 rfl rfl ?_
          refine z_iload_n (q := 73) dX8_better_72 rfl rfl ?_
          refine z_s3 (q := 76) dX8_better_73 zkX8_79 zt_mX8_isLive rfl (Nat.le_of_ble_eq_true rfl) (ct_X8_isLive (by assumption) (by omega)) rfl ?_
          refine z_istore (q := 78) dX8_better_76 (Nat.le_of_ble_eq_true rfl) rfl rfl ?_
          refine z_iload (q := 80) dX8_better_78 rfl rfl ?_
          refine z_ifb_eq (tg := 88) (q := 83) dX8_better_80 rfl rfl ?_ ?_
          · intro hc80
            refine z_iload (q := 90) dX8_better_88 rfl rfl ?_
            refine z_ifb_eq (tg := 102) (q := 93) dX8_better_90 rfl rfl ?_ ?_
            · intro hc90
              refine z_iconst (q := 103) dX8_better_102 zci_0 rfl ?_
              exact z_retz dX8_better_103 rfl (by first | exact Or.inl rfl | exact Or.inr rfl) (zVf (by first | (simp [qBetter, hc10, hc26, hc80, hc90]; done) | simp_all [qBetter]))
            · intro hc90
              refine z_iload (q := 95) dX8_better_93 rfl rfl ?_
              refine z_ifb_ne (tg := 102) (q := 98) dX8_better_95 rfl rfl ?_ ?_
              · intro hc95
                refine z_iconst (q := 103) dX8_better_102 zci_0 rfl ?_
                exact z_retz dX8_better_103 rfl (by first | exact Or.inl rfl | exact Or.inr rfl) (zVf (by first | (simp [qBetter, hc10, hc26, hc80, hc90, hc95]; done) | simp_all [qBetter]))
              · intro hc95
                refine z_iconst (q := 99) dX8_better_98 zci_1 rfl ?_
                refine z_goto (q := 0) (tg := 103) dX8_better_99 rfl ?_
                exact z_retz dX8_better_103 rfl (by first | exact Or.inl rfl | exact Or.inr rfl) (zVt (by first | (simp [qBetter, hc10, hc26, hc80, hc90, hc95]; done) | simp_all [qBetter]))
          · intro hc80
            refine z_iload (q := 85) dX8_better_83 rfl rfl ?_
            refine z_ifb_ne (tg := 104) (q := 88) dX8_better_85 rfl rfl ?_ ?_
            · intro hc85
              refine z_iconst (q := 105) dX8_better_104 zci_2 rfl ?_
              refine z_istore (q := 107) dX8_better_105 (Nat.le_of_ble_eq_true rfl) rfl rfl ?_
              refine z_iload (q := 109) dX8_better_107 rfl rfl ?_
              refine z_iconst (q := 110) dX8_better_109 zci_1 rfl ?_
              refine z_icmp_ltN (tg := 155) (q := 113) dX8_better_110 rfl rfl (by omega) (by omega) ?_ ?_
              · intro hc110
                exact absurd hc110 (by decide)
              · intro hc110
                refine z_aload_n (q := 114) dX8_better_113 rfl rfl ?_
                refine z_iload_n (q := 115) dX8_better_114 rfl rfl ?_
                refine z_iload (q := 117) dX8_better_115 rfl rfl ?_
                refine z_iaddN (q := 118) dX8_better_117 rfl ?_
                refine z_iald (q := 119) dX8_better_118 (by assumption) (by omega) (by omega) rfl ?_
                refine z_aload_n (q := 120) dX8_better_119 rfl rfl ?_
                refine z_iload_n (q := 121) dX8_better_120 rfl rfl ?_
                refine z_iload (q := 123) dX8_better_121 rfl rfl ?_
                refine z_iaddN (q := 124) dX8_better_123 rfl ?_
                refine z_iald (q := 125) dX8_better_124 (by assumption) (by omega) (by omega) rfl ?_
                refine z_icmp_eq (tg := 149) (q := 128) dX8_better_125 rfl rfl ?_ ?_
                · intro hc125
                  refine z_iinc (q := 152) (v := nI 1) dX8_better_149 rfl (by decide) rfl rfl ?_
                  refine z_goto (q := 0) (tg := 107) dX8_better_152 rfl ?_
                  refine z_iload (q := 109) dX8_better_107 rfl rfl ?_
                  refine z_iconst (q := 110) dX8_better_109 zci_1 rfl ?_
                  refine z_icmp_ltN (tg := 155) (q := 113) dX8_better_110 rfl rfl (by omega) (by omega) ?_ ?_
                  · intro hc110
                    exact absurd hc110 (by decide)
                  · intro hc110
                    refine z_aload_n (q := 114) dX8_better_113 rfl rfl ?_
                    refine z_iload_n (q := 115) dX8_better_114 rfl rfl ?_
                    refine z_iload (q := 117) dX8_better_115 rfl rfl ?_
                    refine z_iaddN (q := 118) dX8_better_117 rfl ?_
                    refine z_iald (q := 119) dX8_better_118 (by assumption) (by omega) (by omega) rfl ?_
                    refine z_aload_n (q := 120) dX8_better_119 rfl rfl ?_
                    refine z_iload_n (q := 121) dX8_better_120 rfl rfl ?_
                    refine z_iload (q := 123) dX8_better_121 rfl rfl ?_
                    refine z_iaddN (q := 124) dX8_better_123 rfl ?_
                    refine z_iald (q := 125) dX8_better_124 (by assumption) (by omega) (by omega) rfl ?_
                    refine z_icmp_eq (tg := 149) (q := 128) dX8_better_125 rfl rfl ?_ ?_
                    · intro hc125x
                      refine z_iinc (q := 152) (v := nI 0) dX8_better_149 rfl (by decide) rfl rfl ?_
                      refine z_goto (q := 0) (tg := 107) dX8_better_152 rfl ?_
                      refine z_iload (q := 109) dX8_better_107 rfl rfl ?_
                      refine z_iconst (q := 110) dX8_better_109 zci_1 rfl ?_
                      refine z_icmp_ltN (tg := 155) (q := 113) dX8_better_110 rfl rfl (by omega) (by omega) ?_ ?_
                      · intro hc110
                        refine z_aload_n (q := 156) dX8_better_155 rfl rfl ?_
                        refine z_iload_n (q := 157) dX8_better_156 rfl rfl ?_
                        refine z_iconst (q := 158) dX8_better_157 zci_3 rfl ?_
                        refine z_iaddN (q := 159) dX8_better_158 rfl ?_
                        refine z_iald (q := 160) dX8_better_159 (by assumption) (by omega) (by omega) rfl ?_
                        refine z_aload_n (q := 161) dX8_better_160 rfl rfl ?_
                        refine z_iload_n (q := 162) dX8_better_161 rfl rfl ?_
                        refine z_iconst (q := 163) dX8_better_162 zci_3 rfl ?_
                        refine z_iaddN (q := 164) dX8_better_163 rfl ?_
                        refine z_iald (q := 165) dX8_better_164 (by assumption) (by omega) (by omega) rfl ?_
                        refine z_icmp_le (tg := 172) (q := 168) dX8_better_165 rfl rfl ?_ ?_
                        · intro hc165
                          refine z_iconst (q := 173) dX8_better_172 zci_0 rfl ?_
                          exact z_retz dX8_better_173 rfl (by first | exact Or.inl rfl | exact Or.inr rfl) (zVf (by first | (simp [qBetter, hc10, hc26, hc80, hc85, hc125, hc125x, hc165]; done) | simp_all [qBetter]))
                        · intro hc165
                          refine z_iconst (q := 169) dX8_better_168 zci_1 rfl ?_
                          refine z_goto (q := 0) (tg := 173) dX8_better_169 rfl ?_
                          exact z_retz dX8_better_173 rfl (by first | exact Or.inl rfl | exact Or.inr rfl) (zVt (by first | (simp [qBetter, hc10, hc26, hc80, hc85, hc125, hc125x, hc165]; done) | simp_all [qBetter]))
                      · intro hc110
                        exact absurd hc110 (by decide)
                    · intro hc125x
                      refine z_aload_n (q := 129) dX8_better_128 rfl rfl ?_
                      refine z_iload_n (q := 130) dX8_better_129 rfl rfl ?_
                      refine z_iload (q := 132) dX8_better_130 rfl rfl ?_
                      refine z_iaddN (q := 133) dX8_better_132 rfl ?_
                      refine z_iald (q := 134) dX8_better_133 (by assumption) (by omega) (by omega) rfl ?_
                      refine z_aload_n (q := 135) dX8_better_134 rfl rfl ?_
                      refine z_iload_n (q := 136) dX8_better_135 rfl rfl ?_
                      refine z_iload (q := 138) dX8_better_136 rfl rfl ?_
                      refine z_iaddN (q := 139) dX8_better_138 rfl ?_
                      refine z_iald (q := 140) dX8_better_139 (by assumption) (by omega) (by omega) rfl ?_
                      refine z_icmp_ge (tg := 147) (q := 143) dX8_better_140 rfl rfl ?_ ?_
                      · intro hc140
                        refine z_iconst (q := 148) dX8_better_147 zci_0 rfl ?_
                        exact z_retz dX8_better_148 rfl (by first | exact Or.inl rfl | exact Or.inr rfl) (zVf (by first | (simp [qBetter, hc10, hc26, hc80, hc85, hc125, hc125x, hc140]; done) | simp_all [qBetter]))
                      · intro hc140
                        refine z_iconst (q := 144) dX8_better_143 zci_1 rfl ?_
                        refine z_goto (q := 0) (tg := 148) dX8_better_144 rfl ?_
                        exact z_retz dX8_better_148 rfl (by first | exact Or.inl rfl | exact Or.inr rfl) (zVt (by first | (simp [qBetter, hc10, hc26, hc80, hc85, hc125, hc125x, hc140]; done) | simp_all [qBetter]))
                · intro hc125
                  refine z_aload_n (q := 129) dX8_better_128 rfl rfl ?_
                  refine z_iload_n (q := 130) dX8_better_129 rfl rfl ?_
                  refine z_iload (q := 132) dX8_better_130 rfl rfl ?_
                  refine z_iaddN (q := 133) dX8_better_132 rfl ?_
                  refine z_iald (q := 134) dX8_better_133 (by assumption) (by omega) (by omega) rfl ?_
                  refine z_aload_n (q := 135) dX8_better_134 rfl rfl ?_
                  refine z_iload_n (q := 136) dX8_better_135 rfl rfl ?_
                  refine z_iload (q := 138) dX8_better_136 rfl rfl ?_
                  refine z_iaddN (q := 139) dX8_better_138 rfl ?_
                  refine z_iald (q := 140) dX8_better_139 (by assumption) (by omega) (by omega) rfl ?_
                  refine z_icmp_ge (tg := 147) (q := 143) dX8_better_140 rfl rfl ?_ ?_
                  · intro hc140
                    refine z_iconst (q := 148) dX8_better_147 zci_0 rfl ?_
                    exact z_retz dX8_better_148 rfl (by first | exact Or.inl rfl | exact Or.inr rfl) (zVf (by first | (simp [qBetter, hc10, hc26, hc80, hc85, hc125, hc140]; done) | simp_all [qBetter]))
                  · intro hc140
                    refine z_iconst (q := 144) dX8_better_143 zci_1 rfl ?_
                    refine z_goto (q := 0) (tg := 148) dX8_better_144 rfl ?_
                    exact z_retz dX8_better_148 rfl (by first | exact Or.inl rfl | exact Or.inr rfl) (zVt (by first | (simp [qBetter, hc10, hc26, hc80, hc85, hc125, hc140]; done) | simp_all [qBetter]))
            · intro hc85
              refine z_iload (q := 90) dX8_better_88 rfl rfl ?_
              refine z_ifb_eq (tg := 102) (q := 93) dX8_better_90 rfl rfl ?_ ?_
              · intro hc90
                refine z_iconst (q := 103) dX8_better_102 zci_0 rfl ?_
                exact z_retz dX8_better_103 rfl (by first | exact Or.inl rfl | exact Or.inr rfl) (zVf (by first | (simp [qBetter, hc10, hc26, hc80, hc85, hc90]; done) | simp_all [qBetter]))
              · intro hc90
                refine z_iload (q := 95) dX8_better_93 rfl rfl ?_
                refine z_ifb_ne (tg := 102) (q := 98) dX8_better_95 rfl rfl ?_ ?_
                · intro hc95
                  refine z_iconst (q := 103) dX8_better_102 zci_0 rfl ?_
                  exact z_retz dX8_better_103 rfl (by first | exact Or.inl rfl | exact Or.inr rfl) (zVf (by first | (simp [qBetter, hc10, hc26, hc80, hc85, hc90, hc95]; done) | simp_all [qBetter]))
                · intro hc95
                  refine z_iconst (q := 99) dX8_better_98 zci_1 rfl ?_
                  refine z_goto (q := 0) (tg := 103) dX8_better_99 rfl ?_
                  exact z_retz dX8_better_103 rfl (by first | exact Or.inl rfl | exact Or.inr rfl) (zVt (by first | (simp [qBetter, hc10, hc26, hc80, hc85, hc90, hc95]; done) | simp_all [qBetter]))
        · intro hc43
          exact absurd hc43 (by decide)
    · intro hc26
      refine z_iconst (q := 30) dX8_better_29 zci_1 rfl ?_
      refine z_goto (q := 0) (tg := 34) dX8_better_30 rfl ?_
      refine z_istore (q := 36) dX8_better_34 (Nat.le_of_ble_eq_true rfl) rfl rfl ?_
      refine z_iload (q := 38) dX8_better_36 rfl rfl ?_
      refine z_if_ne (tg := 46) (q := 41) dX8_better_38 rfl rfl ?_ ?_
      · intro hc38
        exact absurd hc38 (by decide)
      · intro hc38
        refine z_iload (q := 43) dX8_better_41 rfl rfl ?_
        refine z_if_eq (tg := 62) (q := 46) dX8_better_43 rfl rfl ?_ ?_
        · intro hc43
          exact absurd hc43 (by decide)
        · intro hc43
          refine z_iload (q := 48) dX8_better_46 rfl rfl ?_
          refine z_if_eq (tg := 60) (q := 51) dX8_better_48 rfl rfl ?_ ?_
          · intro hc48
            refine z_iconst (q := 61) dX8_better_60 zci_0 rfl ?_
            exact z_retz dX8_better_61 rfl (by first | exact Or.inl rfl | exact Or.inr rfl) (zVf (by first | (simp [qBetter, hc10, hc26]; done) | simp_all [qBetter]))
          · intro hc48
            exact absurd hc48 (by decide)
  · intro hc10
    refine z_iconst (q := 14) dX8_better_13 zci_1 rfl ?_
    refine z_goto (q := 0) (tg := 18) dX8_better_14 rfl ?_
    refine z_istore (q := 20) dX8_better_18 (Nat.le_of_ble_eq_true rfl) rfl rfl ?_
    refine z_aload_n (q := 21) dX8_better_20 rfl rfl ?_
    refine z_iload_n (q := 22) dX8_better_21 rfl rfl ?_
    refine z_iconst (q := 23) dX8_better_22 zci_0 rfl ?_
    refine z_iadd0 (q := 24) dX8_better_23 rfl ?_
    refine z_iald (q := 25) dX8_better_24 (by assumption) (by omega) (by omega) rfl ?_
    refine z_iconst (q := 26) dX8_better_25 zci_2 rfl ?_
    refine z_icmp_ne (tg := 33) (q := 29) dX8_better_26 rfl rfl ?_ ?_
    · intro hc26
      refine z_iconst (q := 34) dX8_better_33 zci_0 rfl ?_
      refine z_istore (q := 36) dX8_better_34 (Nat.le_of_ble_eq_true rfl) rfl rfl ?_
      refine z_iload (q := 38) dX8_better_36 rfl rfl ?_
      refine z_if_ne (tg := 46) (q := 41) dX8_better_38 rfl rfl ?_ ?_
      · intro hc38
        refine z_iload (q := 48) dX8_better_46 rfl rfl ?_
        refine z_if_eq (tg := 60) (q := 51) dX8_better_48 rfl rfl ?_ ?_
        · intro hc48
          exact absurd hc48 (by decide)
        · intro hc48
          refine z_iload (q := 53) dX8_better_51 rfl rfl ?_
          refine z_if_ne (tg := 60) (q := 56) dX8_better_53 rfl rfl ?_ ?_
          · intro hc53
            exact absurd hc53 (by decide)
          · intro hc53
            refine z_iconst (q := 57) dX8_better_56 zci_1 rfl ?_
            refine z_goto (q := 0) (tg := 61) dX8_better_57 rfl ?_
            exact z_retz dX8_better_61 rfl (by first | exact Or.inl rfl | exact Or.inr rfl) (zVt (by first | (simp [qBetter, hc10, hc26]; done) | simp_all [qBetter]))
      · intro hc38
        exact absurd hc38 (by decide)
    · intro hc26
      refine z_iconst (q := 30) dX8_better_29 zci_1 rfl ?_
      refine z_goto (q := 0) (tg := 34) dX8_better_30 rfl ?_
      refine z_istore (q := 36) dX8_better_34 (Nat.le_of_ble_eq_true rfl) rfl rfl ?_
      refine z_iload (q := 38) dX8_better_36 rfl rfl ?_
      refine z_if_ne (tg := 46) (q := 41) dX8_better_38 rfl rfl ?_ ?_
      · intro hc38
        refine z_iload (q := 48) dX8_better_46 rfl rfl ?_
        refine z_if_eq (tg := 60) (q := 51) dX8_better_48 rfl rfl ?_ ?_
        · intro hc48
          exact absurd hc48 (by decide)
        · intro hc48
          refine z_iload (q := 53) dX8_better_51 rfl rfl ?_
          refine z_if_ne (tg := 60) (q := 56) dX8_better_53 rfl rfl ?_ ?_
          · intro hc53
            refine z_iconst (q := 61) dX8_better_60 zci_0 rfl ?_
            exact z_retz dX8_better_61 rfl (by first | exact Or.inl rfl | exact Or.inr rfl) (zVf (by first | (simp [qBetter, hc10, hc26]; done) | simp_all [qBetter]))
          · intro hc53
            exact absurd hc53 (by decide)
      · intro hc38
        exact absurd hc38 (by decide)
set_option maxRecDepth 100000 in
set_option maxHeartbeats 4000000 in
theorem ct_X8_isOwn {g : zGl} {h : zHp} {r a t : Nat} {f : Nat → Int32} (hr : h.1 r = some (zI g 264 f)) (ha : a < 6) (hb : t < 8) : zC g mX8_isOwn [.ref r, .int (nI a), .int (nI t)] h (zV h (.int (zbi (qOwn f a t)))) 0 0 := by
  refine zC_ofA (lv := [some (.ref r), some (.int (nI a)), some (.int (nI t))]) (by decide) rfl (Nat.le_of_ble_eq_true rfl) ?_
  refine z_aload_n (q := 1) dX8_isOwn_0 rfl rfl ?_
  refine z_iload_n (q := 2) dX8_isOwn_1 rfl rfl ?_
  refine z_iload_n (q := 3) dX8_isOwn_2 rfl rfl ?_
  refine z_s2 (q := 6) dX8_isOwn_3 zkX8_83 zt_mX8_noteAt rfl (Nat.le_of_ble_eq_true rfl) (ct_X8_noteAt) rfl ?_
  refine z_aload_n (q := 7) dX8_isOwn_6 rfl rfl ?_
  refine z_iconst (q := 8) dX8_isOwn_7 zci_2 rfl ?_
  refine z_iald (q := 9) dX8_isOwn_8 (by assumption) (by omega) (by omega) rfl ?_
  refine z_s3 (q := 12) dX8_isOwn_9 zkX8_79 zt_mX8_isLive rfl (Nat.le_of_ble_eq_true rfl) (ct_X8_isLive (by assumption) (by omega)) rfl ?_
  refine z_ifb_eq (tg := 32) (q := 15) dX8_isOwn_12 rfl rfl ?_ ?_
  · intro hc12
    refine z_iconst (q := 33) dX8_isOwn_32 zci_0 rfl ?_
    exact z_retz dX8_isOwn_33 rfl (by first | exact Or.inl rfl | exact Or.inr rfl) (zVf (by first | (simp [qOwn, hc12]; done) | simp_all [qOwn]))
  · intro hc12
    refine z_aload_n (q := 16) dX8_isOwn_15 rfl rfl ?_
    refine z_iload_n (q := 17) dX8_isOwn_16 rfl rfl ?_
    refine z_iload_n (q := 18) dX8_isOwn_17 rfl rfl ?_
    refine z_s2 (q := 21) dX8_isOwn_18 zkX8_83 zt_mX8_noteAt rfl (Nat.le_of_ble_eq_true rfl) (ct_X8_noteAt) rfl ?_
    refine z_iconst (q := 22) dX8_isOwn_21 zci_1 rfl ?_
    refine z_iaddN (q := 23) dX8_isOwn_22 rfl ?_
    refine z_iald (q := 24) dX8_isOwn_23 (by assumption) (by omega) (by omega) rfl ?_
    refine z_iload_n (q := 25) dX8_isOwn_24 rfl rfl ?_
    refine z_icmp_ne (tg := 32) (q := 28) dX8_isOwn_25 rfl rfl ?_ ?_
    · intro hc25
      refine z_iconst (q := 33) dX8_isOwn_32 zci_0 rfl ?_
      exact z_retz dX8_isOwn_33 rfl (by first | exact Or.inl rfl | exact Or.inr rfl) (zVf (by first | (simp [qOwn, hc12, hc25]; done) | simp_all [qOwn]))
    · intro hc25
      refine z_iconst (q := 29) dX8_isOwn_28 zci_1 rfl ?_
      refine z_goto (q := 0) (tg := 33) dX8_isOwn_29 rfl ?_
      exact z_retz dX8_isOwn_33 rfl (by first | exact Or.inl rfl | exact Or.inr rfl) (zVt (by first | (simp [qOwn, hc12, hc25]; done) | simp_all [qOwn]))
set_option maxRecDepth 100000 in
set_option maxHeartbeats 4000000 in
theorem ct_X8_ownTask {g : zGl} {h : zHp} {r a K : Nat} {f : Nat → Int32} (hr : h.1 r = some (zI g 264 f)) (ha : a < 6) (hK : f 1 = nI K) (hK8 : K ≤ 8) : zC g mX8_ownTask [.ref r, .int (nI a)] h (zV h (.int (qT (qOwnTask f K a)))) 0 0 := by
  refine zC_ofA (lv := [some (.ref r), some (.int (nI a)), none]) (by decide) rfl (Nat.le_of_ble_eq_true rfl) ?_
  have loop : ∀ d i, i + d = K → (∀ j, j < i → qOwn f a j = false) → zA g (zZc g mX8_ownTask (zV h (.int (qT (qOwnTask f K a)))) 0 0) 0 0 2 [some (.ref r), some (.int (nI a)), some (.int (nI i))] [] h := by
    intro d
    induction d using Nat.strongRecOn with
    | ind d ih =>
      intro i hi hj
      refine z_iload_n (q := 3) dX8_ownTask_2 rfl rfl ?_
      refine z_aload_n (q := 4) dX8_ownTask_3 rfl rfl ?_
      refine z_iconst (q := 5) dX8_ownTask_4 zci_1 rfl ?_
      refine z_iald (q := 6) dX8_ownTask_5 (by assumption) (by omega) (by omega) rfl ?_
      refine z_eqi hK ?_
      refine z_icmp_geN (tg := 26) (q := 9) dX8_ownTask_6 rfl rfl (by omega) (by omega) ?_ ?_
      · intro hc6
        refine z_bipush (q := 28) dX8_ownTask_26 zcb_m9 rfl ?_
        exact z_reti dX8_ownTask_28 rfl (⟨by rw [qOwnTask, qFst_none (fun j hj2 => hj j (by omega))]; rfl, rfl⟩)
      · intro hc6
        refine z_aload_n (q := 10) dX8_ownTask_9 rfl rfl ?_
        refine z_iload_n (q := 11) dX8_ownTask_10 rfl rfl ?_
        refine z_iload_n (q := 12) dX8_ownTask_11 rfl rfl ?_
        refine z_s3 (q := 15) dX8_ownTask_12 zkX8_87 zt_mX8_isOwn rfl (Nat.le_of_ble_eq_true rfl) (ct_X8_isOwn (by assumption) (by omega) (by omega)) rfl ?_
        refine z_ifb_eq (tg := 20) (q := 18) dX8_ownTask_15 rfl rfl ?_ ?_
        · intro hc15
          refine z_iincN (q := 23) dX8_ownTask_20 rfl rfl rfl ?_
          refine z_goto (q := 0) (tg := 2) dX8_ownTask_23 rfl ?_
          exact ih (d - 1) (by omega) (i + 1) (by omega) (fun j hj2 => by
            rcases Nat.lt_succ_iff_lt_or_eq.mp hj2 with h9 | rfl
            · exact hj j h9
            · exact hc15)
        · intro hc15
          refine z_iload_n (q := 19) dX8_ownTask_18 rfl rfl ?_
          exact z_reti dX8_ownTask_19 rfl (⟨by rw [qOwnTask, qFst_some hc6 hc15 hj]; rfl, rfl⟩)
  refine z_iconst (q := 1) dX8_ownTask_0 zci_0 rfl ?_
  refine z_istore_n (q := 2) dX8_ownTask_1 (Nat.le_of_ble_eq_true rfl) rfl rfl ?_
  exact loop K 0 (by omega) (fun j hj => absurd hj (Nat.not_lt_zero j))
set_option maxRecDepth 100000 in
set_option maxHeartbeats 4000000 in
theorem ct_X8_lay {g : zGl} {h : zHp} {r p : Nat} {x y z w : Int32} {f : Nat → Int32} (hp : p < 261) : zC g mX8_lay [.ref r, .int (nI p), .int x, .int y, .int z, .int w] (zup h r (zI g 264 f)) (fun v h' => v = none ∧ h' = zup h r (zI g 264 (qLay f p x y z w))) 0 0 := by
  refine zC_ofA (lv := [some (.ref r), some (.int (nI p)), some (.int x), some (.int y), some (.int z), some (.int w)]) (by decide) rfl (Nat.le_of_ble_eq_true rfl) ?_
  refine z_aload_n (q := 1) dX8_lay_0 rfl rfl ?_
  refine z_iload_n (q := 2) dX8_lay_1 rfl rfl ?_
  refine z_iconst (q := 3) dX8_lay_2 zci_0 rfl ?_
  refine z_iadd0 (q := 4) dX8_lay_3 rfl ?_
  refine z_iload_n (q := 5) dX8_lay_4 rfl rfl ?_
  refine z_iastU (q := 6) dX8_lay_5 (by omega) (by omega) rfl ?_
  refine z_aload_n (q := 7) dX8_lay_6 rfl rfl ?_
  refine z_iload_n (q := 8) dX8_lay_7 rfl rfl ?_
  refine z_iconst (q := 9) dX8_lay_8 zci_1 rfl ?_
  refine z_iaddN (q := 10) dX8_lay_9 rfl ?_
  refine z_iload_n (q := 11) dX8_lay_10 rfl rfl ?_
  refine z_iastU (q := 12) dX8_lay_11 (by omega) (by omega) rfl ?_
  refine z_aload_n (q := 13) dX8_lay_12 rfl rfl ?_
  refine z_iload_n (q := 14) dX8_lay_13 rfl rfl ?_
  refine z_iconst (q := 15) dX8_lay_14 zci_2 rfl ?_
  refine z_iaddN (q := 16) dX8_lay_15 rfl ?_
  refine z_iload (q := 18) dX8_lay_16 rfl rfl ?_
  refine z_iastU (q := 19) dX8_lay_18 (by omega) (by omega) rfl ?_
  refine z_aload_n (q := 20) dX8_lay_19 rfl rfl ?_
  refine z_iload_n (q := 21) dX8_lay_20 rfl rfl ?_
  refine z_iconst (q := 22) dX8_lay_21 zci_3 rfl ?_
  refine z_iaddN (q := 23) dX8_lay_22 rfl ?_
  refine z_iload (q := 25) dX8_lay_23 rfl rfl ?_
  refine z_iastU (q := 26) dX8_lay_25 (by omega) (by omega) rfl ?_
  exact z_ret dX8_lay_26 rfl (⟨rfl, rfl⟩)
