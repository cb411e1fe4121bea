/-! ===== the component: refusals ===== -/
theorem zxi_A : Cond.initialized "java/lang/IllegalArgumentException" ∈ zTb := by decide +kernel
theorem zxi_S : Cond.initialized "java/lang/IllegalStateException" ∈ zTb := by decide +kernel
theorem zxi_I : Cond.initialized "java/lang/IndexOutOfBoundsException" ∈ zTb := by decide +kernel
theorem zxw {L : List Cond} (h : (L.all fun w => decide (w ∈ zTb) || decide (w ∈ zNs)) = true) : ∀ w ∈ L, w ∈ zTb ∨ w ∈ zNs := by
  intro w hw
  have h2 := List.all_eq_true.mp h w hw
  rw [Bool.or_eq_true, decide_eq_true_eq, decide_eq_true_eq] at h2
  exact h2
theorem zxw_A : ∀ w ∈ vx_atS RX7 303 "java/lang/IllegalArgumentException" ["java/lang/RuntimeException", "java/lang/Exception"], w ∈ zTb ∨ w ∈ zNs := zxw (by decide +kernel)
theorem zxw_S : ∀ w ∈ vx_atS RX7 308 "java/lang/IllegalStateException" ["java/lang/RuntimeException", "java/lang/Exception"], w ∈ zTb ∨ w ∈ zNs := zxw (by decide +kernel)
theorem zxw_I : ∀ w ∈ vx_atS RX7 296 "java/lang/IndexOutOfBoundsException" ["java/lang/RuntimeException", "java/lang/Exception"], w ∈ zTb ∨ w ∈ zNs := zxw (by decide +kernel)
theorem zxn : ∀ z ∈ ["java/lang/RuntimeException", "java/lang/Exception"], Bundle.fit z = true := by decide +kernel
set_option maxRecDepth 100000 in
set_option maxHeartbeats 4000000 in
theorem ct_X7_requireIndex {g : zGl} {h : zHp} : zC g mX7_requireIndex [.int (nI 1)] h (zU h) 0 0 := by
  refine zC_ofA (lv := [some (.int (nI 1))]) (by decide) rfl (Nat.le_of_ble_eq_true rfl) ?_
  refine z_iload_n (q := 1) dX7_requireIndex_0 rfl rfl ?_
  refine z_if_ne (tg := 15) (q := 4) dX7_requireIndex_1 rfl rfl ?_ ?_
  · intro hc1
    exact z_ret dX7_requireIndex_15 rfl (⟨rfl, rfl⟩)
  · intro hc1
    exact absurd hc1 (by decide)
set_option maxRecDepth 100000 in
set_option maxHeartbeats 4000000 in
theorem ct_X7_requireArgument {g : zGl} {h : zHp} : zC g mX7_requireArgument [.int (nI 1)] h (zU h) 0 0 := by
  refine zC_ofA (lv := [some (.int (nI 1))]) (by decide) rfl (Nat.le_of_ble_eq_true rfl) ?_
  refine z_iload_n (q := 1) dX7_requireArgument_0 rfl rfl ?_
  refine z_if_ne (tg := 15) (q := 4) dX7_requireArgument_1 rfl rfl ?_ ?_
  · intro hc1
    exact z_ret dX7_requireArgument_15 rfl (⟨rfl, rfl⟩)
  · intro hc1
    exact absurd hc1 (by decide)
set_option maxRecDepth 100000 in
set_option maxHeartbeats 4000000 in
theorem ct_X7_requireState {g : zGl} {h : zHp} : zC g mX7_requireState [.int (nI 1)] h (zU h) 0 0 := by
  refine zC_ofA (lv := [some (.int (nI 1))]) (by decide) rfl (Nat.le_of_ble_eq_true rfl) ?_
  refine z_iload_n (q := 1) dX7_requireState_0 rfl rfl ?_
  refine z_if_ne (tg := 15) (q := 4) dX7_requireState_1 rfl rfl ?_ ?_
  · intro hc1
    exact z_ret dX7_requireState_15 rfl (⟨rfl, rfl⟩)
  · intro hc1
    exact absurd hc1 (by decide)
set_option maxRecDepth 100000 in
set_option maxHeartbeats 4000000 in
theorem cx_X7_requireIndex {g : zGl} {h : zHp} : zX g mX7_requireIndex [.int (nI 0)] h "java/lang/IndexOutOfBoundsException" (fun h' => h' = (h.1, none)) 1 6 := by
  refine zX_ofA (lv := [some (.int (nI 0))]) (by decide) rfl (Nat.le_of_ble_eq_true rfl) ?_
  refine z_iload_n (q := 1) dX7_requireIndex_0 rfl rfl ?_
  refine z_if_ne (tg := 15) (q := 4) dX7_requireIndex_1 rfl rfl ?_ ?_
  · intro hc1
    exact absurd hc1 (by decide)
  · intro hc1
    exact z_throw (by decide +kernel) zxn zyX7_292 zxi_I (fun s hI => hI.2.2.2.2.2.1.1) zxw_I dX7_requireIndex_4 dX7_requireIndex_7 dX7_requireIndex_8 dX7_requireIndex_11 dX7_requireIndex_14 (Nat.le_of_ble_eq_true rfl) (Nat.le_of_ble_eq_true rfl) (by decide) (by decide) rfl
set_option maxRecDepth 100000 in
set_option maxHeartbeats 4000000 in
theorem cx_X7_requireArgument {g : zGl} {h : zHp} : zX g mX7_requireArgument [.int (nI 0)] h "java/lang/IllegalArgumentException" (fun h' => h' = (h.1, none)) 1 6 := by
  refine zX_ofA (lv := [some (.int (nI 0))]) (by decide) rfl (Nat.le_of_ble_eq_true rfl) ?_
  refine z_iload_n (q := 1) dX7_requireArgument_0 rfl rfl ?_
  refine z_if_ne (tg := 15) (q := 4) dX7_requireArgument_1 rfl rfl ?_ ?_
  · intro hc1
    exact absurd hc1 (by decide)
  · intro hc1
    exact z_throw (by decide +kernel) zxn zyX7_299 zxi_A (fun s hI => hI.2.2.2.2.2.1.2.1) zxw_A dX7_requireArgument_4 dX7_requireArgument_7 dX7_requireArgument_8 dX7_requireArgument_11 dX7_requireArgument_14 (Nat.le_of_ble_eq_true rfl) (Nat.le_of_ble_eq_true rfl) (by decide) (by decide) rfl
set_option maxRecDepth 100000 in
set_option maxHeartbeats 4000000 in
theorem cx_X7_requireState {g : zGl} {h : zHp} : zX g mX7_requireState [.int (nI 0)] h "java/lang/IllegalStateException" (fun h' => h' = (h.1, none)) 1 6 := by
  refine zX_ofA (lv := [some (.int (nI 0))]) (by decide) rfl (Nat.le_of_ble_eq_true rfl) ?_
  refine z_iload_n (q := 1) dX7_requireState_0 rfl rfl ?_
  refine z_if_ne (tg := 15) (q := 4) dX7_requireState_1 rfl rfl ?_ ?_
  · intro hc1
    exact absurd hc1 (by decide)
  · intro hc1
    exact z_throw (by decide +kernel) zxn zyX7_304 zxi_S (fun s hI => hI.2.2.2.2.2.1.2.2) zxw_S dX7_requireState_4 dX7_requireState_7 dX7_requireState_8 dX7_requireState_11 dX7_requireState_14 (Nat.le_of_ble_eq_true rfl) (Nat.le_of_ble_eq_true rfl) (by decide) (by decide) rfl
theorem qBt_1 {x : Int32} {lo hi : Nat} (h : qBt x lo hi = true) : ¬ x < nI lo ∧ ¬ nI hi < x := by
  rw [qBt, Bool.and_eq_true, decide_eq_true_eq, decide_eq_true_eq] at h
  exact ⟨Int32.not_lt.mpr h.1, Int32.not_lt.mpr h.2⟩
theorem qBt_0 {x : Int32} {lo hi : Nat} (h : qBt x lo hi = false) (h1 : ¬ x < nI lo) : nI hi < x := by
  rw [qBt, Bool.and_eq_false_iff, decide_eq_false_iff_not, decide_eq_false_iff_not] at h
  rcases h with h | h
  · exact absurd (Int32.not_lt.mp h1) h
  · exact Int32.not_le.mp h
set_option maxRecDepth 100000 in
set_option maxHeartbeats 4000000 in
theorem ct_X7_requireBetween {g : zGl} {h : zHp} {x : Int32} {lo hi : Nat} (hv : qBt x lo hi = true) : zC g mX7_requireBetween [.int x, .int (nI lo), .int (nI hi)] h (zU h) 0 0 := by
  obtain ⟨h1, h2⟩ := qBt_1 hv
  refine zC_ofA (lv := [some (.int x), some (.int (nI lo)), some (.int (nI hi))]) (by decide) rfl (Nat.le_of_ble_eq_true rfl) ?_
  refine z_iload_n (q := 1) dX7_requireBetween_0 rfl rfl ?_
  refine z_iload_n (q := 2) dX7_requireBetween_1 rfl rfl ?_
  refine z_icmp_lt (tg := 14) (q := 5) dX7_requireBetween_2 rfl rfl ?_ ?_
  · intro hc2
    exact absurd hc2 h1
  · intro hc2
    refine z_iload_n (q := 6) dX7_requireBetween_5 rfl rfl ?_
    refine z_iload_n (q := 7) dX7_requireBetween_6 rfl rfl ?_
    refine z_icmp_gt (tg := 14) (q := 10) dX7_requireBetween_7 rfl rfl ?_ ?_
    · intro hc7
      exact absurd hc7 h2
    · intro hc7
      refine z_iconst (q := 11) dX7_requireBetween_10 zci_1 rfl ?_
      refine z_goto (q := 0) (tg := 15) dX7_requireBetween_11 rfl ?_
      refine z_u1 (q := 18) dX7_requireBetween_15 zkX7_220 zt_mX7_requireArgument rfl (Nat.le_of_ble_eq_true rfl) (ct_X7_requireArgument) rfl ?_
      exact z_ret dX7_requireBetween_18 rfl (⟨rfl, rfl⟩)
set_option maxRecDepth 100000 in
set_option maxHeartbeats 4000000 in
theorem cx_X7_requireBetween {g : zGl} {h : zHp} {x : Int32} {lo hi : Nat} (hv : qBt x lo hi = false) : zX g mX7_requireBetween [.int x, .int (nI lo), .int (nI hi)] h "java/lang/IllegalArgumentException" (fun h' => h' = (h.1, none)) 1 6 := by
  have h2 := qBt_0 hv
  refine zX_ofA (lv := [some (.int x), some (.int (nI lo)), some (.int (nI hi))]) (by decide) rfl (Nat.le_of_ble_eq_true rfl) ?_
  refine z_iload_n (q := 1) dX7_requireBetween_0 rfl rfl ?_
  refine z_iload_n (q := 2) dX7_requireBetween_1 rfl rfl ?_
  refine z_icmp_lt (tg := 14) (q := 5) dX7_requireBetween_2 rfl rfl ?_ ?_
  · intro hc2
    refine z_iconst (q := 15) dX7_requireBetween_14 zci_0 rfl ?_
    exact z_cSX (av := [.int (nI 0)]) dX7_requireBetween_15 zkX7_220 zw365 zt_mX7_requireArgument rfl rfl (Nat.le_of_ble_eq_true rfl) cx_X7_requireArgument (by decide) (by decide) (fun _ h => h)
  · intro hc2
    refine z_iload_n (q := 6) dX7_requireBetween_5 rfl rfl ?_
    refine z_iload_n (q := 7) dX7_requireBetween_6 rfl rfl ?_
    refine z_icmp_gt (tg := 14) (q := 10) dX7_requireBetween_7 rfl rfl ?_ ?_
    · intro hc7
      refine z_iconst (q := 15) dX7_requireBetween_14 zci_0 rfl ?_
      exact z_cSX (av := [.int (nI 0)]) dX7_requireBetween_15 zkX7_220 zw365 zt_mX7_requireArgument rfl rfl (Nat.le_of_ble_eq_true rfl) cx_X7_requireArgument (by decide) (by decide) (fun _ h => h)
    · intro hc7
      exact absurd (h2 hc2) hc7
