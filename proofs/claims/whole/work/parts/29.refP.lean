/-! ===== the reference: its birth ===== -/
theorem znw_ne {h : zHp} {a q : Nat} {c : va_E} (hq : q ≠ a) : (znw h a c).1 q = h.1 q := by simp [znw, hq]
theorem znw_at {h : zHp} {a : Nat} {c : va_E} : (znw h a c).1 a = some c := by simp [znw]
theorem z_heq {g : zGl} {Z : zZt} {k n pc : Nat} {lv : List (Option Value)} {st : List Value} {h h' : zHp} (he : h = h') (kk : zA g Z k n pc lv st h') : zA g Z k n pc lv st h := by
  rw [he]
  exact kk
def zMnew : List Value := [.int 0, .null, .int 0, .int 0, .null, .null, .null, .null, .null, .int 0, .null, .null, .null, .null, .null]
set_option maxRecDepth 100000 in
set_option maxHeartbeats 4000000 in
theorem ct_X8_init {g : zGl} {h : zHp} {m : Nat} (hm : h.1 m = some (.inr (8, zMnew))) (hz : h.2 = some (m + 1)) : zC g mX8_init [.ref m] h (zU (zpM g (h.1, some (m + 12)) m (va_up (fun _ _ => 0) 3 (va_up (fun _ => 0) 3 (nI 5))))) 11 5420 := by
  refine zC_ofA (lv := [some (.ref m)]) (by decide) rfl (Nat.le_of_ble_eq_true rfl) ?_
  refine z_aload_n (q := 1) dX8_init_0 rfl rfl ?_
  refine z_obj (q := 4) dX8_init_1 zoX8_1 zo_i zo_c (Nat.le_of_ble_eq_true rfl) (Nat.le_of_ble_eq_true rfl) rfl ?_
  refine z_aload_n (q := 5) dX8_init_4 rfl rfl ?_
  refine z_bipush (q := 7) dX8_init_5 zcb_120 rfl ?_
  refine z_newI (q := 9) (sz := m + 1) dX8_init_7 za_int hz (Nat.le_of_ble_eq_true rfl) (Nat.le_of_ble_eq_true rfl) (Nat.le_of_ble_eq_true rfl) rfl ?_
  refine z_putF (q := 12) dX8_init_9 zfX8_7 rfl rfl ((znw_ne (by omega)).trans hm) (Nat.le_of_ble_eq_true rfl) rfl rfl rfl ?_
  refine z_aload_n (q := 13) dX8_init_12 rfl rfl ?_
  refine z_sipush (q := 16) dX8_init_13 zcs_264 rfl ?_
  refine z_newI (q := 18) (sz := m + 2) dX8_init_16 za_int rfl (Nat.le_of_ble_eq_true rfl) (Nat.le_of_ble_eq_true rfl) (Nat.le_of_ble_eq_true rfl) rfl ?_
  refine z_putF (q := 21) dX8_init_18 zfX8_13 rfl rfl ((znw_ne (by omega)).trans (zup_at _ _ _)) (Nat.le_of_ble_eq_true rfl) rfl rfl rfl ?_
  refine z_aload_n (q := 22) dX8_init_21 rfl rfl ?_
  refine z_sipush (q := 25) dX8_init_22 zcs_264 rfl ?_
  refine z_newI (q := 27) (sz := m + 3) dX8_init_25 za_int rfl (Nat.le_of_ble_eq_true rfl) (Nat.le_of_ble_eq_true rfl) (Nat.le_of_ble_eq_true rfl) rfl ?_
  refine z_putF (q := 30) dX8_init_27 zfX8_16 rfl rfl ((znw_ne (by omega)).trans (zup_at _ _ _)) (Nat.le_of_ble_eq_true rfl) rfl rfl rfl ?_
  refine z_aload_n (q := 31) dX8_init_30 rfl rfl ?_
  refine z_sipush (q := 34) dX8_init_31 zcs_264 rfl ?_
  refine z_newI (q := 36) (sz := m + 4) dX8_init_34 za_int rfl (Nat.le_of_ble_eq_true rfl) (Nat.le_of_ble_eq_true rfl) (Nat.le_of_ble_eq_true rfl) rfl ?_
  refine z_putF (q := 39) dX8_init_36 zfX8_19 rfl rfl ((znw_ne (by omega)).trans (zup_at _ _ _)) (Nat.le_of_ble_eq_true rfl) rfl rfl rfl ?_
  refine z_aload_n (q := 40) dX8_init_39 rfl rfl ?_
  refine z_sipush (q := 43) dX8_init_40 zcs_264 rfl ?_
  refine z_newI (q := 45) (sz := m + 5) dX8_init_43 za_int rfl (Nat.le_of_ble_eq_true rfl) (Nat.le_of_ble_eq_true rfl) (Nat.le_of_ble_eq_true rfl) rfl ?_
  refine z_putF (q := 48) dX8_init_45 zfX8_22 rfl rfl ((znw_ne (by omega)).trans (zup_at _ _ _)) (Nat.le_of_ble_eq_true rfl) rfl rfl rfl ?_
  refine z_aload_n (q := 49) dX8_init_48 rfl rfl ?_
  refine z_sipush (q := 52) dX8_init_49 zcs_3696 rfl ?_
  refine z_newI (q := 54) (sz := m + 6) dX8_init_52 za_int rfl (Nat.le_of_ble_eq_true rfl) (Nat.le_of_ble_eq_true rfl) (Nat.le_of_ble_eq_true rfl) rfl ?_
  refine z_putF (q := 57) dX8_init_54 zfX8_25 rfl rfl ((znw_ne (by omega)).trans (zup_at _ _ _)) (Nat.le_of_ble_eq_true rfl) rfl rfl rfl ?_
  refine z_aload_n (q := 58) dX8_init_57 rfl rfl ?_
  refine z_sipush (q := 61) dX8_init_58 zcs_528 rfl ?_
  refine z_newI (q := 63) (sz := m + 7) dX8_init_61 za_int rfl (Nat.le_of_ble_eq_true rfl) (Nat.le_of_ble_eq_true rfl) (Nat.le_of_ble_eq_true rfl) rfl ?_
  refine z_putF (q := 66) dX8_init_63 zfX8_28 rfl rfl ((znw_ne (by omega)).trans (zup_at _ _ _)) (Nat.le_of_ble_eq_true rfl) rfl rfl rfl ?_
  refine z_aload_n (q := 67) dX8_init_66 rfl rfl ?_
  refine z_iconst (q := 68) dX8_init_67 zci_2 rfl ?_
  refine z_newB (q := 70) (sz := m + 8) dX8_init_68 za_boolean rfl (Nat.le_of_ble_eq_true rfl) (Nat.le_of_ble_eq_true rfl) (Nat.le_of_ble_eq_true rfl) rfl ?_
  refine z_putF (q := 73) dX8_init_70 zfX8_31 rfl rfl ((znw_ne (by omega)).trans (zup_at _ _ _)) (Nat.le_of_ble_eq_true rfl) rfl rfl rfl ?_
  refine z_aload_n (q := 74) dX8_init_73 rfl rfl ?_
  refine z_bipush (q := 76) dX8_init_74 zcb_6 rfl ?_
  refine z_newI (q := 78) (sz := m + 9) dX8_init_76 za_int rfl (Nat.le_of_ble_eq_true rfl) (Nat.le_of_ble_eq_true rfl) (Nat.le_of_ble_eq_true rfl) rfl ?_
  refine z_putF (q := 81) dX8_init_78 zfX8_35 rfl rfl ((znw_ne (by omega)).trans (zup_at _ _ _)) (Nat.le_of_ble_eq_true rfl) rfl rfl rfl ?_
  refine z_aload_n (q := 82) dX8_init_81 rfl rfl ?_
  refine z_bipush (q := 84) dX8_init_82 zcb_6 rfl ?_
  refine z_newI (q := 86) (sz := m + 10) dX8_init_84 za_int rfl (Nat.le_of_ble_eq_true rfl) (Nat.le_of_ble_eq_true rfl) (Nat.le_of_ble_eq_true rfl) rfl ?_
  refine z_putF (q := 89) dX8_init_86 zfX8_38 rfl rfl ((znw_ne (by omega)).trans (zup_at _ _ _)) (Nat.le_of_ble_eq_true rfl) rfl rfl rfl ?_
  refine z_aload_n (q := 90) dX8_init_89 rfl rfl ?_
  refine z_bipush (q := 92) dX8_init_90 zcb_6 rfl ?_
  refine z_newI (q := 94) (sz := m + 11) dX8_init_92 za_int rfl (Nat.le_of_ble_eq_true rfl) (Nat.le_of_ble_eq_true rfl) (Nat.le_of_ble_eq_true rfl) rfl ?_
  refine z_putF (q := 97) dX8_init_94 zfX8_41 rfl rfl ((znw_ne (by omega)).trans (zup_at _ _ _)) (Nat.le_of_ble_eq_true rfl) rfl rfl rfl ?_
  refine z_heq (h' := zpM g (h.1, some (m + 12)) m (fun _ _ => 0)) ?_ ?_
  · refine Prod.ext ?_ rfl
    funext q
    by_cases hq : m ≤ q ∧ q < m + 12
    · obtain ⟨i, rfl⟩ : ∃ i, q = m + i := ⟨q - m, by omega⟩
      rcases (show i = 0 ∨ i = 1 ∨ i = 2 ∨ i = 3 ∨ i = 4 ∨ i = 5 ∨ i = 6 ∨ i = 7 ∨ i = 8 ∨ i = 9 ∨ i = 10 ∨ i = 11 by omega) with rfl | rfl | rfl | rfl | rfl | rfl | rfl | rfl | rfl | rfl | rfl | rfl
      all_goals simp [zup, znw, zpM, zMc, zMf, zMl, zMnew]
    · simp only [zpM, if_neg hq, zup, znw]
      repeat rw [if_neg (by omega)]
  refine z_aload_n (q := 98) dX8_init_97 rfl rfl ?_
  refine z_get (q := 101) dX8_init_98 zfX8_16 zpM_0 rfl rfl ?_
  refine z_iconst (q := 102) dX8_init_101 zci_3 rfl ?_
  refine z_iconst (q := 103) dX8_init_102 zci_5 rfl ?_
  refine z_iastM (q := 104) dX8_init_103 rfl (by omega) rfl ?_
  exact z_ret dX8_init_104 rfl (⟨rfl, rfl⟩)
