/-! ===== the component: its birth, piece by piece ===== -/
theorem z_wcg {g : zGl} {Z : zZt} {k n pc : Nat} {lv : List (Option Value)} {st : List Value} {h : zHp} {a N : Nat} {f f' : Nat → Option Nat} (hc : h.1 a = some (zW g N f)) (hf : ∀ j, j < N → f j = f' j) (kk : zA g Z k n pc lv st (zup h a (zW g N f'))) : zA g Z k n pc lv st h := by
  intro p e s m args below meth c ls H locs cells slots C E hL hR hS hk hn
  refine kk p e s m args below meth c ls H locs cells slots C E hL ⟨fun q c hq => ?_, hR.2⟩ hS hk hn
  rw [zup_1] at hq
  by_cases hqa : q = a
  · subst hqa
    rw [if_pos rfl] at hq
    cases hq
    obtain ⟨h1, h2⟩ := hR.1 q _ hc
    refine ⟨h1, ?_⟩
    show H[q]? = some (vp_cell _ _)
    have h3 : H[q]? = some (vp_cell (zgW g) (N, .inr (.inr (.inr (.inr f))))) := h2
    rw [h3, vp_cell_q, vp_cell_q, arrV, arrV]
    congr 3
    funext j
    rw [hf j.1 j.2]
  · rw [if_neg hqa] at hq
    exact hR.1 q c hq
/-- w cells from m on -/
def zBk (h : zHp) (m w : Nat) (C : Nat → va_E) : zHp := (fun q => if m ≤ q ∧ q < m + w then some (C (q - m)) else h.1 q, some (m + w))
theorem zBk_in {h : zHp} {m w j : Nat} {C : Nat → va_E} (hj : j < w) : (zBk h m w C).1 (m + j) = some (C j) := by
  simp [zBk, hj]
theorem zBk_out {h : zHp} {m w q : Nat} {C : Nat → va_E} (hq : q < m ∨ m + w ≤ q) : (zBk h m w C).1 q = h.1 q := by
  simp only [zBk]
  rw [if_neg (by omega)]
theorem zBk_eq {h H : zHp} {m w : Nat} {C : Nat → va_E} (h1 : ∀ j, j < w → H.1 (m + j) = some (C j)) (h2 : ∀ q, q < m ∨ m + w ≤ q → H.1 q = h.1 q) (h3 : H.2 = some (m + w)) : H = zBk h m w C := by
  refine Prod.ext ?_ h3
  funext q
  by_cases hq : m ≤ q ∧ q < m + w
  · obtain ⟨j, rfl⟩ : ∃ j, q = m + j := ⟨q - m, by omega⟩
    rw [zBk_in (by omega), h1 j (by omega)]
  · rw [zBk_out (by omega), h2 q (by omega)]
def zN0 (g : zGl) (m j : Nat) : va_E := if j = 0 then .inr (2, [.ref (m + 1), .ref (m + 2), .ref (m + 3), .ref (m + 4)]) else zI g 48 (fun _ => 0)
set_option maxRecDepth 100000 in
set_option maxHeartbeats 4000000 in
theorem ct_X2_init {g : zGl} {h : zHp} {m : Nat} (hm : h.1 m = some (.inr (2, [.null, .null, .null, .null]))) (hz : h.2 = some (m + 1)) : zC g mX2_init [.ref m] h (zU (zBk h m 5 (zN0 g m))) 4 192 := by
  refine zC_ofA (lv := [some (.ref m)]) (by decide) rfl (Nat.le_of_ble_eq_true rfl) ?_
  refine z_aload_n (q := 1) dX2_init_0 rfl rfl ?_
  refine z_obj (q := 4) dX2_init_1 zoX2_3 zo_i zo_c (Nat.le_of_ble_eq_true rfl) (Nat.le_of_ble_eq_true rfl) rfl ?_
  refine z_aload_n (q := 5) dX2_init_4 rfl rfl ?_
  refine z_bipush (q := 7) dX2_init_5 zcb_48 rfl ?_
  refine z_newI (q := 9) (sz := m + 1) dX2_init_7 za_int hz (Nat.le_of_ble_eq_true rfl) (Nat.le_of_ble_eq_true rfl) (Nat.le_of_ble_eq_true rfl) rfl ?_
  refine z_putF (q := 12) dX2_init_9 zfX2_9 rfl rfl ((znw_ne (by omega)).trans hm) (Nat.le_of_ble_eq_true rfl) rfl rfl rfl ?_
  refine z_aload_n (q := 13) dX2_init_12 rfl rfl ?_
  refine z_bipush (q := 15) dX2_init_13 zcb_48 rfl ?_
  refine z_newI (q := 17) (sz := m + 2) dX2_init_15 za_int rfl (Nat.le_of_ble_eq_true rfl) (Nat.le_of_ble_eq_true rfl) (Nat.le_of_ble_eq_true rfl) rfl ?_
  refine z_putF (q := 20) dX2_init_17 zfX2_15 rfl rfl ((znw_ne (by omega)).trans (zup_at _ _ _)) (Nat.le_of_ble_eq_true rfl) rfl rfl rfl ?_
  refine z_aload_n (q := 21) dX2_init_20 rfl rfl ?_
  refine z_bipush (q := 23) dX2_init_21 zcb_48 rfl ?_
  refine z_newI (q := 25) (sz := m + 3) dX2_init_23 za_int rfl (Nat.le_of_ble_eq_true rfl) (Nat.le_of_ble_eq_true rfl) (Nat.le_of_ble_eq_true rfl) rfl ?_
  refine z_putF (q := 28) dX2_init_25 zfX2_18 rfl rfl ((znw_ne (by omega)).trans (zup_at _ _ _)) (Nat.le_of_ble_eq_true rfl) rfl rfl rfl ?_
  refine z_aload_n (q := 29) dX2_init_28 rfl rfl ?_
  refine z_bipush (q := 31) dX2_init_29 zcb_48 rfl ?_
  refine z_newI (q := 33) (sz := m + 4) dX2_init_31 za_int rfl (Nat.le_of_ble_eq_true rfl) (Nat.le_of_ble_eq_true rfl) (Nat.le_of_ble_eq_true rfl) rfl ?_
  refine z_putF (q := 36) dX2_init_33 zfX2_21 rfl rfl ((znw_ne (by omega)).trans (zup_at _ _ _)) (Nat.le_of_ble_eq_true rfl) rfl rfl rfl ?_
  refine z_heq (h' := zBk h m 5 (zN0 g m)) (zBk_eq (fun j hj => ?_) (fun q hq => ?_) rfl) ?_
  · rcases (show j = 0 ∨ j = 1 ∨ j = 2 ∨ j = 3 ∨ j = 4 by omega) with rfl | rfl | rfl | rfl | rfl
    all_goals simp [zup, znw, zN0]
  · simp only [zup, znw]
    repeat rw [if_neg (by omega)]
  exact z_ret dX2_init_36 rfl (⟨rfl, rfl⟩)
def zW0 (g : zGl) (m j : Nat) : va_E := if j = 0 then .inr (6, [.int 0, .int 0, .int (nI 5), .int 0, .int 0, .ref (m + 1), .ref (m + 2), .ref (m + 3), .ref (m + 4), .ref (m + 5), .ref (m + 6), .ref (m + 7), .ref (m + 8), .ref (m + 9), .ref (m + 10)]) else if j ≤ 5 then zI g 6 (fun _ => 0) else if j ≤ 9 then zI g 8 (fun _ => 0) else zN0 g (m + 10) (j - 10)
def zWn : List Value := [.int 0, .int 0, .int 0, .int 0, .int 0, .null, .null, .null, .null, .null, .null, .null, .null, .null, .null]
set_option maxRecDepth 100000 in
set_option maxHeartbeats 4000000 in
theorem ct_X6_init {g : zGl} {h : zHp} {m : Nat} (hm : h.1 m = some (.inr (6, zWn))) (hz : h.2 = some (m + 1)) : zC g mX6_init [.ref m] h (zU (zBk h m 15 (zW0 g m))) 14 258 := by
  refine zC_ofA (lv := [some (.ref m)]) (by decide) rfl (Nat.le_of_ble_eq_true rfl) ?_
  refine z_aload_n (q := 1) dX6_init_0 rfl rfl ?_
  refine z_obj (q := 4) dX6_init_1 zoX6_3 zo_i zo_c (Nat.le_of_ble_eq_true rfl) (Nat.le_of_ble_eq_true rfl) rfl ?_
  refine z_aload_n (q := 5) dX6_init_4 rfl rfl ?_
  refine z_iconst (q := 6) dX6_init_5 zci_5 rfl ?_
  refine z_put (q := 9) dX6_init_6 zfX6_9 hm (Nat.le_of_ble_eq_true rfl) rfl rfl rfl ?_
  refine z_aload_n (q := 10) dX6_init_9 rfl rfl ?_
  refine z_bipush (q := 12) dX6_init_10 zcb_6 rfl ?_
  refine z_newI (q := 14) (sz := m + 1) dX6_init_12 za_int hz (Nat.le_of_ble_eq_true rfl) (Nat.le_of_ble_eq_true rfl) (Nat.le_of_ble_eq_true rfl) rfl ?_
  refine z_putF (q := 17) dX6_init_14 zfX6_15 rfl rfl ((znw_ne (by omega)).trans (zup_at _ _ _)) (Nat.le_of_ble_eq_true rfl) rfl rfl rfl ?_
  refine z_aload_n (q := 18) dX6_init_17 rfl rfl ?_
  refine z_bipush (q := 20) dX6_init_18 zcb_6 rfl ?_
  refine z_newI (q := 22) (sz := m + 2) dX6_init_20 za_int rfl (Nat.le_of_ble_eq_true rfl) (Nat.le_of_ble_eq_true rfl) (Nat.le_of_ble_eq_true rfl) rfl ?_
  refine z_putF (q := 25) dX6_init_22 zfX6_19 rfl rfl ((znw_ne (by omega)).trans (zup_at _ _ _)) (Nat.le_of_ble_eq_true rfl) rfl rfl rfl ?_
  refine z_aload_n (q := 26) dX6_init_25 rfl rfl ?_
  refine z_bipush (q := 28) dX6_init_26 zcb_6 rfl ?_
  refine z_newI (q := 30) (sz := m + 3) dX6_init_28 za_int rfl (Nat.le_of_ble_eq_true rfl) (Nat.le_of_ble_eq_true rfl) (Nat.le_of_ble_eq_true rfl) rfl ?_
  refine z_putF (q := 33) dX6_init_30 zfX6_22 rfl rfl ((znw_ne (by omega)).trans (zup_at _ _ _)) (Nat.le_of_ble_eq_true rfl) rfl rfl rfl ?_
  refine z_aload_n (q := 34) dX6_init_33 rfl rfl ?_
  refine z_bipush (q := 36) dX6_init_34 zcb_6 rfl ?_
  refine z_newI (q := 38) (sz := m + 4) dX6_init_36 za_int rfl (Nat.le_of_ble_eq_true rfl) (Nat.le_of_ble_eq_true rfl) (Nat.le_of_ble_eq_true rfl) rfl ?_
  refine z_putF (q := 41) dX6_init_38 zfX6_25 rfl rfl ((znw_ne (by omega)).trans (zup_at _ _ _)) (Nat.le_of_ble_eq_true rfl) rfl rfl rfl ?_
  refine z_aload_n (q := 42) dX6_init_41 rfl rfl ?_
  refine z_bipush (q := 44) dX6_init_42 zcb_6 rfl ?_
  refine z_newI (q := 46) (sz := m + 5) dX6_init_44 za_int rfl (Nat.le_of_ble_eq_true rfl) (Nat.le_of_ble_eq_true rfl) (Nat.le_of_ble_eq_true rfl) rfl ?_
  refine z_putF (q := 49) dX6_init_46 zfX6_28 rfl rfl ((znw_ne (by omega)).trans (zup_at _ _ _)) (Nat.le_of_ble_eq_true rfl) rfl rfl rfl ?_
  refine z_aload_n (q := 50) dX6_init_49 rfl rfl ?_
  refine z_bipush (q := 52) dX6_init_50 zcb_8 rfl ?_
  refine z_newI (q := 54) (sz := m + 6) dX6_init_52 za_int rfl (Nat.le_of_ble_eq_true rfl) (Nat.le_of_ble_eq_true rfl) (Nat.le_of_ble_eq_true rfl) rfl ?_
  refine z_putF (q := 57) dX6_init_54 zfX6_31 rfl rfl ((znw_ne (by omega)).trans (zup_at _ _ _)) (Nat.le_of_ble_eq_true rfl) rfl rfl rfl ?_
  refine z_aload_n (q := 58) dX6_init_57 rfl rfl ?_
  refine z_bipush (q := 60) dX6_init_58 zcb_8 rfl ?_
  refine z_newI (q := 62) (sz := m + 7) dX6_init_60 za_int rfl (Nat.le_of_ble_eq_true rfl) (Nat.le_of_ble_eq_true rfl) (Nat.le_of_ble_eq_true rfl) rfl ?_
  refine z_putF (q := 65) dX6_init_62 zfX6_34 rfl rfl ((znw_ne (by omega)).trans (zup_at _ _ _)) (Nat.le_of_ble_eq_true rfl) rfl rfl rfl ?_
  refine z_aload_n (q := 66) dX6_init_65 rfl rfl ?_
  refine z_bipush (q := 68) dX6_init_66 zcb_8 rfl ?_
  refine z_newI (q := 70) (sz := m + 8) dX6_init_68 za_int rfl (Nat.le_of_ble_eq_true rfl) (Nat.le_of_ble_eq_true rfl) (Nat.le_of_ble_eq_true rfl) rfl ?_
  refine z_putF (q := 73) dX6_init_70 zfX6_37 rfl rfl ((znw_ne (by omega)).trans (zup_at _ _ _)) (Nat.le_of_ble_eq_true rfl) rfl rfl rfl ?_
  refine z_aload_n (q := 74) dX6_init_73 rfl rfl ?_
  refine z_bipush (q := 76) dX6_init_74 zcb_8 rfl ?_
  refine z_newI (q := 78) (sz := m + 9) dX6_init_76 za_int rfl (Nat.le_of_ble_eq_true rfl) (Nat.le_of_ble_eq_true rfl) (Nat.le_of_ble_eq_true rfl) rfl ?_
  refine z_putF (q := 81) dX6_init_78 zfX6_40 rfl rfl ((znw_ne (by omega)).trans (zup_at _ _ _)) (Nat.le_of_ble_eq_true rfl) rfl rfl rfl ?_
  refine z_aload_n (q := 82) dX6_init_81 rfl rfl ?_
  refine z_new (q := 85) (sz := m + 10) (fs := [.null, .null, .null, .null]) dX6_init_82 zcl_2 zyX6_43 zuX2 zdX2 rfl (fun j hj => by rcases (show j = 0 ∨ j = 1 ∨ j = 2 ∨ j = 3 by omega) with rfl | rfl | rfl | rfl <;> rfl) (Nat.le_of_ble_eq_true rfl) (Nat.le_of_ble_eq_true rfl) rfl ?_
  refine z_dup (q := 86) dX6_init_85 rfl rfl ?_
  refine z_I0 (q := 89) dX6_init_86 zkX6_45 zt_mX2_init rfl rfl rfl (Nat.le_of_ble_eq_true rfl) (ct_X2_init znw_at rfl) (Nat.le_of_ble_eq_true rfl) (Nat.le_of_ble_eq_true rfl) rfl ?_
  rintro _ _ ⟨rfl, rfl⟩
  refine z_putF (q := 92) dX6_init_89 zfX6_46 rfl rfl ((zBk_out (by omega)).trans ((znw_ne (by omega)).trans (zup_at _ _ _))) (Nat.le_of_ble_eq_true rfl) rfl rfl rfl ?_
  refine z_heq (h' := zBk h m 15 (zW0 g m)) (zBk_eq (fun j hj => ?_) (fun q hq => ?_) rfl) ?_
  · rcases (show j = 0 ∨ j = 1 ∨ j = 2 ∨ j = 3 ∨ j = 4 ∨ j = 5 ∨ j = 6 ∨ j = 7 ∨ j = 8 ∨ j = 9 ∨ j = 10 ∨ j = 11 ∨ j = 12 ∨ j = 13 ∨ j = 14 by omega) with rfl | rfl | rfl | rfl | rfl | rfl | rfl | rfl | rfl | rfl | rfl | rfl | rfl | rfl | rfl
    all_goals simp [zup, znw, zW0, zWn, zBk, Nat.add_sub_add_left]
  · simp only [zup, znw, zBk]
    repeat rw [if_neg (by omega)]
  exact z_ret dX6_init_92 rfl (⟨rfl, rfl⟩)
set_option maxRecDepth 100000 in
set_option maxHeartbeats 4000000 in
theorem ct_X5_init {g : zGl} {h : zHp} {m : Nat} (hm : h.1 m = some (.inr (5, [.null, .int 0]))) (hz : h.2 = some (m + 1)) : zC g mX5_init [.ref m] h (zU (zBk h m 2 (fun j => if j = 0 then .inr (5, [.ref (m + 1), .int 0]) else zI g 120 (fun _ => 0)))) 1 120 := by
  refine zC_ofA (lv := [some (.ref m)]) (by decide) rfl (Nat.le_of_ble_eq_true rfl) ?_
  refine z_aload_n (q := 1) dX5_init_0 rfl rfl ?_
  refine z_obj (q := 4) dX5_init_1 zoX5_3 zo_i zo_c (Nat.le_of_ble_eq_true rfl) (Nat.le_of_ble_eq_true rfl) rfl ?_
  refine z_aload_n (q := 5) dX5_init_4 rfl rfl ?_
  refine z_bipush (q := 7) dX5_init_5 zcb_120 rfl ?_
  refine z_newI (q := 9) (sz := m + 1) dX5_init_7 za_int hz (Nat.le_of_ble_eq_true rfl) (Nat.le_of_ble_eq_true rfl) (Nat.le_of_ble_eq_true rfl) rfl ?_
  refine z_putF (q := 12) dX5_init_9 zfX5_9 rfl rfl ((znw_ne (by omega)).trans hm) (Nat.le_of_ble_eq_true rfl) rfl rfl rfl ?_
  refine z_heq (h' := zBk h m 2 (fun j => if j = 0 then .inr (5, [.ref (m + 1), .int 0]) else zI g 120 (fun _ => 0))) (zBk_eq (fun j hj => ?_) (fun q hq => ?_) rfl) ?_
  · rcases (show j = 0 ∨ j = 1 by omega) with rfl | rfl
    all_goals simp [zup, znw]
  · simp only [zup, znw]
    repeat rw [if_neg (by omega)]
  exact z_ret dX5_init_12 rfl (⟨rfl, rfl⟩)
set_option maxRecDepth 100000 in
set_option maxHeartbeats 4000000 in
theorem ct_X3_init {g : zGl} {h : zHp} {m : Nat} (hm : h.1 m = some (.inr (3, [.null, .int 0, .null]))) (hz : h.2 = some (m + 1)) : zC g mX3_init [.ref m] h (zU (zBk h m 3 (fun j => if j = 0 then .inr (3, [.ref (m + 1), .int 0, .ref (m + 2)]) else if j = 1 then zI g 6 (fun _ => 0) else zI g 1792 (fun _ => 0)))) 2 1798 := by
  refine zC_ofA (lv := [some (.ref m)]) (by decide) rfl (Nat.le_of_ble_eq_true rfl) ?_
  refine z_aload_n (q := 1) dX3_init_0 rfl rfl ?_
  refine z_obj (q := 4) dX3_init_1 zoX3_3 zo_i zo_c (Nat.le_of_ble_eq_true rfl) (Nat.le_of_ble_eq_true rfl) rfl ?_
  refine z_aload_n (q := 5) dX3_init_4 rfl rfl ?_
  refine z_bipush (q := 7) dX3_init_5 zcb_6 rfl ?_
  refine z_newI (q := 9) (sz := m + 1) dX3_init_7 za_int hz (Nat.le_of_ble_eq_true rfl) (Nat.le_of_ble_eq_true rfl) (Nat.le_of_ble_eq_true rfl) rfl ?_
  refine z_putF (q := 12) dX3_init_9 zfX3_9 rfl rfl ((znw_ne (by omega)).trans hm) (Nat.le_of_ble_eq_true rfl) rfl rfl rfl ?_
  refine z_aload_n (q := 13) dX3_init_12 rfl rfl ?_
  refine z_sipush (q := 16) dX3_init_13 zcs_1792 rfl ?_
  refine z_newI (q := 18) (sz := m + 2) dX3_init_16 za_int rfl (Nat.le_of_ble_eq_true rfl) (Nat.le_of_ble_eq_true rfl) (Nat.le_of_ble_eq_true rfl) rfl ?_
  refine z_putF (q := 21) dX3_init_18 zfX3_15 rfl rfl ((znw_ne (by omega)).trans (zup_at _ _ _)) (Nat.le_of_ble_eq_true rfl) rfl rfl rfl ?_
  refine z_heq (h' := zBk h m 3 (fun j => if j = 0 then .inr (3, [.ref (m + 1), .int 0, .ref (m + 2)]) else if j = 1 then zI g 6 (fun _ => 0) else zI g 1792 (fun _ => 0))) (zBk_eq (fun j hj => ?_) (fun q hq => ?_) rfl) ?_
  · rcases (show j = 0 ∨ j = 1 ∨ j = 2 by omega) with rfl | rfl | rfl
    all_goals simp [zup, znw]
  · simp only [zup, znw]
    repeat rw [if_neg (by omega)]
  exact z_ret dX3_init_21 rfl (⟨rfl, rfl⟩)
set_option maxRecDepth 100000 in
set_option maxHeartbeats 4000000 in
theorem ct_X4_init {g : zGl} {h : zHp} {m : Nat} (hm : h.1 m = some (.inr (4, [.null]))) (hz : h.2 = some (m + 1)) : zC g mX4_init [.ref m] h (zU (zBk h m 6 (fun j => if j = 0 then .inr (4, [.ref (m + 1)]) else zN0 g (m + 1) (j - 1)))) 5 196 := by
  refine zC_ofA (lv := [some (.ref m)]) (by decide) rfl (Nat.le_of_ble_eq_true rfl) ?_
  refine z_aload_n (q := 1) dX4_init_0 rfl rfl ?_
  refine z_obj (q := 4) dX4_init_1 zoX4_3 zo_i zo_c (Nat.le_of_ble_eq_true rfl) (Nat.le_of_ble_eq_true rfl) rfl ?_
  refine z_aload_n (q := 5) dX4_init_4 rfl rfl ?_
  refine z_new (q := 8) (sz := m + 1) (fs := [.null, .null, .null, .null]) dX4_init_5 zcl_2 zyX4_9 zuX2 zdX2 hz (fun j hj => by rcases (show j = 0 ∨ j = 1 ∨ j = 2 ∨ j = 3 by omega) with rfl | rfl | rfl | rfl <;> rfl) (Nat.le_of_ble_eq_true rfl) (Nat.le_of_ble_eq_true rfl) rfl ?_
  refine z_dup (q := 9) dX4_init_8 rfl rfl ?_
  refine z_I0 (q := 12) dX4_init_9 zkX4_11 zt_mX2_init rfl rfl rfl (Nat.le_of_ble_eq_true rfl) (ct_X2_init znw_at rfl) (Nat.le_of_ble_eq_true rfl) (Nat.le_of_ble_eq_true rfl) rfl ?_
  rintro _ _ ⟨rfl, rfl⟩
  refine z_putF (q := 15) dX4_init_12 zfX4_12 rfl rfl ((zBk_out (by omega)).trans ((znw_ne (by omega)).trans hm)) (Nat.le_of_ble_eq_true rfl) rfl rfl rfl ?_
  refine z_heq (h' := zBk h m 6 (fun j => if j = 0 then .inr (4, [.ref (m + 1)]) else zN0 g (m + 1) (j - 1))) (zBk_eq (fun j hj => ?_) (fun q hq => ?_) rfl) ?_
  · rcases (show j = 0 ∨ j = 1 ∨ j = 2 ∨ j = 3 ∨ j = 4 ∨ j = 5 by omega) with rfl | rfl | rfl | rfl | rfl | rfl
    all_goals simp [zup, znw, zBk, Nat.add_sub_add_left]
  · simp only [zup, znw, zBk]
    repeat rw [if_neg (by omega)]
  exact z_ret dX4_init_15 rfl (⟨rfl, rfl⟩)
set_option maxRecDepth 100000 in
set_option maxHeartbeats 4000000 in
theorem ct_X0_init {g : zGl} {h : zHp} {m a : Nat} (hm : h.1 m = some (.inr (0, [.null]))) : zC g mX0_init [.ref m, .ref a] h (zU (zup h m (.inr (0, [.ref a])))) 0 0 := by
  refine zC_ofA (lv := [some (.ref m), some (.ref a)]) (by decide) rfl (Nat.le_of_ble_eq_true rfl) ?_
  refine z_aload_n (q := 1) dX0_init_0 rfl rfl ?_
  refine z_obj (q := 4) dX0_init_1 zoX0_3 zo_i zo_c (Nat.le_of_ble_eq_true rfl) (Nat.le_of_ble_eq_true rfl) rfl ?_
  refine z_aload_n (q := 5) dX0_init_4 rfl rfl ?_
  refine z_aload_n (q := 6) dX0_init_5 rfl rfl ?_
  refine z_putF (q := 9) dX0_init_6 zfX0_9 rfl rfl hm (Nat.le_of_ble_eq_true rfl) rfl rfl rfl ?_
  exact z_ret dX0_init_9 rfl (⟨rfl, rfl⟩)
/-- the history behind i worlds -/
def zHc (g : zGl) (m i c : Nat) : va_E := if c = 0 then .inr (1, [.ref (m + 1), .int 0, .int 0]) else if c = 1 then zW g 14 (fun j => if j < i then some (m + 2 + 15 * j) else none) else zW0 g (m + 2 + 15 * ((c - 2) / 15)) ((c - 2) % 15)
set_option maxRecDepth 100000 in
set_option maxHeartbeats 4000000 in
theorem ct_X1_init {g : zGl} {h : zHp} {m : Nat} (hm : h.1 m = some (.inr (1, [.null, .int 0, .int 0]))) (hz : h.2 = some (m + 1)) : zC g mX1_init [.ref m] h (zU (zBk h m 212 (zHc g m 14))) 211 3836 := by
  refine zC_ofA (lv := [some (.ref m), none]) (by decide) rfl (Nat.le_of_ble_eq_true rfl) ?_
  have loop : ∀ r i, i + r = 14 → zA g (zZc g mX1_init (zU (zBk h m 212 (zHc g m 14))) 211 3836) (15 * r) (273 * r) 15 [some (.ref m), some (.int (nI i))] [] (zBk h m (2 + 15 * i) (zHc g m i)) := by
    intro r
    induction r with
    | zero =>
      intro i hi
      obtain rfl : i = 14 := by omega
      refine z_iload_n (q := 16) dX1_init_15 rfl rfl ?_
      refine z_bipush (q := 18) dX1_init_16 zcb_14 rfl ?_
      refine z_icmp_geN (tg := 40) (q := 21) dX1_init_18 rfl rfl (by omega) (by omega) ?_ ?_
      · intro hc18
        exact z_ret dX1_init_40 rfl (⟨rfl, rfl⟩)
      · intro hc18
        exact absurd hc18 (by decide)
    | succ r ih =>
      intro i hi
      have hcm : (zBk h m (2 + 15 * i) (zHc g m i)).1 m = some (.inr (1, [.ref (m + 1), .int 0, .int 0])) := zBk_in (j := 0) (by omega)
      have hck : (zBk h m (2 + 15 * i) (zHc g m i)).1 (m + 1) = some (zW g 14 (fun j => if j < i then some (m + 2 + 15 * j) else none)) := zBk_in (j := 1) (by omega)
      refine z_iload_n (q := 16) dX1_init_15 rfl rfl ?_
      refine z_bipush (q := 18) dX1_init_16 zcb_14 rfl ?_
      refine z_icmp_geN (tg := 40) (q := 21) dX1_init_18 rfl rfl (by omega) (by omega) ?_ ?_
      · intro hc18
        omega
      · intro hc18
        refine z_aload_n (q := 22) dX1_init_21 rfl rfl ?_
        refine z_get (q := 25) dX1_init_22 zfX1_11 hcm rfl rfl ?_
        refine z_iload_n (q := 26) dX1_init_25 rfl rfl ?_
        refine z_new (q := 29) (sz := m + (2 + 15 * i)) (fs := zWn) dX1_init_26 zcl_6 zyX1_9 zuX6 zdX6 rfl (fun j hj => by rcases (show j = 0 ∨ j = 1 ∨ j = 2 ∨ j = 3 ∨ j = 4 ∨ j = 5 ∨ j = 6 ∨ j = 7 ∨ j = 8 ∨ j = 9 ∨ j = 10 ∨ j = 11 ∨ j = 12 ∨ j = 13 ∨ j = 14 by omega) with rfl | rfl | rfl | rfl | rfl | rfl | rfl | rfl | rfl | rfl | rfl | rfl | rfl | rfl | rfl <;> rfl) (by omega) (by omega) rfl ?_
        refine z_dup (q := 30) dX1_init_29 rfl rfl ?_
        refine z_I0 (q := 33) dX1_init_30 zkX1_17 zt_mX6_init rfl rfl rfl (Nat.le_of_ble_eq_true rfl) (ct_X6_init znw_at rfl) (by omega) (by omega) rfl ?_
        rintro _ _ ⟨rfl, rfl⟩
        refine z_aast (q := 34) (vs := [.int 0, .int 0, .int (nI 5), .int 0, .int 0, .ref (m + (2 + 15 * i) + 1), .ref (m + (2 + 15 * i) + 2), .ref (m + (2 + 15 * i) + 3), .ref (m + (2 + 15 * i) + 4), .ref (m + (2 + 15 * i) + 5), .ref (m + (2 + 15 * i) + 6), .ref (m + (2 + 15 * i) + 7), .ref (m + (2 + 15 * i) + 8), .ref (m + (2 + 15 * i) + 9), .ref (m + (2 + 15 * i) + 10)]) dX1_init_33 ((zBk_out (by omega)).trans ((znw_ne (by omega)).trans hck)) (by decide) (by omega) (zBk_in (j := 0) (by decide)) rfl ?_
        refine z_heq (h' := zBk h m (2 + 15 * (i + 1)) (zHc g m (i + 1))) (zBk_eq (fun j hj => ?_) (fun q hq => ?_) (congrArg some (by omega))) ?_
        · by_cases h1 : j = 1
          · subst h1
            rw [zup_at]
            refine congrArg some ?_
            show zW g 14 _ = zW g 14 _
            congr 1
            congr 4
            funext j
            by_cases hji : j = i
            · subst hji
              rw [zu_eq, if_pos (by omega), Nat.add_assoc]
            · rw [zu_ne hji]
              by_cases hlt : j < i
              · rw [if_pos hlt, if_pos (by omega)]
              · rw [if_neg hlt, if_neg (by omega)]
          · rw [zup_ne (by omega)]
            by_cases h2 : j < 2 + 15 * i
            · rw [zBk_out (by omega), znw_ne (by omega), zBk_in h2]
              simp only [zHc, h1, if_false]
            · obtain ⟨k, rfl⟩ : ∃ k, j = 2 + 15 * i + k := ⟨j - (2 + 15 * i), by omega⟩
              rw [show m + (2 + 15 * i + k) = m + (2 + 15 * i) + k by omega, zBk_in (by omega)]
              have e1 : (2 + 15 * i + k - 2) / 15 = i := by omega
              have e2 : (2 + 15 * i + k - 2) % 15 = k := by omega
              rw [zHc, if_neg (by omega), if_neg (by omega), e1, e2, Nat.add_assoc]
        · rw [zup_ne (by omega), zBk_out (by omega), znw_ne (by omega), zBk_out (by omega)]
        refine z_iincN (q := 37) dX1_init_34 rfl rfl rfl ?_
        refine z_goto (q := 0) (tg := 15) dX1_init_37 rfl ?_
        have e9 := ih (i + 1) (by omega)
        rw [show 15 * (r + 1) - 1 - 14 = 15 * r by omega, show 273 * (r + 1) - 15 - 258 = 273 * r by omega]
        exact e9
  refine z_aload_n (q := 1) dX1_init_0 rfl rfl ?_
  refine z_obj (q := 4) dX1_init_1 zoX1_3 zo_i zo_c (Nat.le_of_ble_eq_true rfl) (Nat.le_of_ble_eq_true rfl) rfl ?_
  refine z_aload_n (q := 5) dX1_init_4 rfl rfl ?_
  refine z_bipush (q := 7) dX1_init_5 zcb_14 rfl ?_
  refine z_newW (q := 10) (sz := m + 1) dX1_init_7 zyX1_9 hz (Nat.le_of_ble_eq_true rfl) (Nat.le_of_ble_eq_true rfl) (Nat.le_of_ble_eq_true rfl) rfl ?_
  refine z_putF (q := 13) dX1_init_10 zfX1_11 rfl rfl ((znw_ne (by omega)).trans hm) (Nat.le_of_ble_eq_true rfl) rfl rfl rfl ?_
  refine z_heq (h' := zBk h m (2 + 15 * 0) (zHc g m 0)) (zBk_eq (fun j hj => ?_) (fun q hq => ?_) rfl) ?_
  · rcases (show j = 0 ∨ j = 1 by omega) with rfl | rfl
    all_goals simp [zup, znw, zHc]
  · simp only [zup, znw]
    repeat rw [if_neg (by omega)]
  refine z_iconst (q := 14) dX1_init_13 zci_0 rfl ?_
  refine z_istore_n (q := 15) dX1_init_14 (Nat.le_of_ble_eq_true rfl) rfl rfl ?_
  exact loop 14 0 (by omega)
