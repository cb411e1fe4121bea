/-! ===== the component: its birth ===== -/
/-- the numbers of a new object -/
def zd0 (c : Nat) : Nat → Int32 := if zWi c = some 0 then va_up (fun _ => 0) 2 (nI 5) else fun _ => 0
/-- the first w cells, the object's own fields fs -/
def zPf (g : zGl) (h : zHp) (b w : Nat) (fs : List Value) : zHp := (fun q => if q = b then some (.inr (7, fs)) else if b < q ∧ q < b + w then some (zTc g b (q - b) (zd0 (q - b))) else h.1 q, some (b + w))
theorem zPf_0 {g : zGl} {h : zHp} {b w : Nat} {fs : List Value} : (zPf g h b w fs).1 b = some (.inr (7, fs)) := if_pos rfl
theorem zPf_in {g : zGl} {h : zHp} {b w j : Nat} {fs : List Value} (h0 : 0 < j) (hj : j < w) : (zPf g h b w fs).1 (b + j) = some (zTc g b j (zd0 j)) := by
  simp only [zPf]
  rw [if_neg (by omega), if_pos (by omega), Nat.add_sub_cancel_left]
theorem zPf_out {g : zGl} {h : zHp} {b w q : Nat} {fs : List Value} (hq : q < b ∨ b + w ≤ q) (hw : 0 < w) : (zPf g h b w fs).1 q = h.1 q := by
  simp only [zPf]
  rw [if_neg (by omega), if_neg (by omega)]
theorem zPf_put {g : zGl} {h : zHp} {b w : Nat} {fs fs' : List Value} : zup (zPf g h b w fs) b (.inr (7, fs')) = zPf g h b w fs' := by
  refine Prod.ext ?_ rfl
  funext q
  simp only [zup, zPf]
  by_cases hq : q = b
  · rw [if_pos hq, if_pos hq]
  · rw [if_neg hq, if_neg hq, if_neg hq]
/-- a piece of v cells behind them -/
theorem zPf_bk {g : zGl} {h : zHp} {b w v : Nat} {fs : List Value} {e : va_E} {C : Nat → va_E} (hw : 0 < w) (hv : 0 < v) (hC : ∀ j, j < v → C j = zTc g b (w + j) (zd0 (w + j))) : zBk (znw (zPf g h b w fs) (b + w) e) (b + w) v C = zPf g h b (w + v) fs := by
  refine Prod.ext ?_ (congrArg some (Nat.add_assoc b w v))
  funext q
  by_cases h1 : b + w ≤ q ∧ q < b + w + v
  · obtain ⟨j, rfl⟩ : ∃ j, q = b + w + j := ⟨q - (b + w), by omega⟩
    rw [zBk_in (by omega), hC j (by omega), Nat.add_assoc, zPf_in (by omega) (by omega)]
  · rw [zBk_out (by omega), znw_ne (by omega)]
    simp only [zPf]
    by_cases h2 : q = b
    · rw [if_pos h2, if_pos h2]
    · rw [if_neg h2, if_neg h2]
      by_cases h3 : b < q ∧ q < b + w
      · rw [if_pos h3, if_pos (by omega)]
      · rw [if_neg h3, if_neg (by omega)]
theorem zd0_o {c : Nat} (h : zWi c = some 0) : zd0 c = va_up (fun _ => 0) 2 (nI 5) := if_pos h
theorem zd0_n {c : Nat} (h : ¬ zWi c = some 0) : zd0 c = fun _ => 0 := if_neg h
set_option maxHeartbeats 4000000 in
theorem zW0_T {g : zGl} {b o : Nat} (ho : zWo o) : ∀ j, j < 15 → zW0 g (b + o) j = zTc g b (o + j) (zd0 (o + j)) := by
  intro j hj
  have hi := zWi_o ho hj
  rw [zTc, zTl, hi]
  rcases (show j = 0 ∨ j = 1 ∨ j = 2 ∨ j = 3 ∨ j = 4 ∨ j = 5 ∨ j = 6 ∨ j = 7 ∨ j = 8 ∨ j = 9 ∨ j = 10 ∨ j = 11 ∨ j = 12 ∨ j = 13 ∨ j = 14 by omega) with rfl | rfl | rfl | rfl | rfl | rfl | rfl | rfl | rfl | rfl | rfl | rfl | rfl | rfl | rfl
  · rw [zd0_o hi]
    rfl
  all_goals
    rw [zd0_n (by rw [hi]; decide)]
    rfl
theorem zHc_T {g : zGl} {b : Nat} : ∀ j, j < 212 → j ≠ 1 → zHc g (b + 33) 14 j = zTc g b (33 + j) (zd0 (33 + j)) := by
  intro j hj h1
  by_cases h0 : j = 0
  · subst h0
    rfl
  · have hw : zWo (35 + 15 * ((j - 2) / 15)) := zWo_h (by omega)
    have e := zW0_T (g := g) (b := b) hw ((j - 2) % 15) (Nat.mod_lt _ (by decide))
    rw [show 35 + 15 * ((j - 2) / 15) + (j - 2) % 15 = 33 + j by omega, show b + (35 + 15 * ((j - 2) / 15)) = b + 33 + 2 + 15 * ((j - 2) / 15) by omega] at e
    rw [zHc, if_neg h0, if_neg h1, e]
theorem zPs_bk {g : zGl} {h : zHp} {b w v : Nat} {fs : List Value} {e X : va_E} {C : Nat → va_E} (hw : 245 < w) (hv : 0 < v) (hC : ∀ j, j < v → C j = zTc g b (w + j) (zd0 (w + j))) : zBk (znw (zup (zPf g h b w fs) (b + 245) X) (b + w) e) (b + w) v C = zup (zPf g h b (w + v) fs) (b + 245) X := by
  rw [← zPf_bk (e := e) (by omega) hv hC]
  refine Prod.ext ?_ rfl
  funext q
  by_cases hq : q = b + 245
  · subst hq
    rw [zup_at, zBk_out (by omega), znw_ne (by omega), zup_at]
  · rw [zup_ne hq]
    by_cases h1 : b + w ≤ q ∧ q < b + w + v
    · obtain ⟨j, rfl⟩ : ∃ j, q = b + w + j := ⟨q - (b + w), by omega⟩
      rw [zBk_in (by omega), zBk_in (by omega)]
    · rw [zBk_out (by omega), zBk_out (by omega), znw_ne (by omega), znw_ne (by omega), zup_ne hq]
theorem zPs_nw {g : zGl} {h : zHp} {b : Nat} {fs : List Value} {X : va_E} : znw (zPf g h b 245 fs) (b + 245) X = zup (zPf g h b 246 fs) (b + 245) X := by
  refine Prod.ext ?_ rfl
  funext q
  by_cases hq : q = b + 245
  · subst hq
    rw [znw_at, zup_at]
  · rw [znw_ne hq, zup_ne hq]
    simp only [zPf]
    by_cases h2 : q = b
    · rw [if_pos h2, if_pos h2]
    · rw [if_neg h2, if_neg h2]
      by_cases h3 : b < q ∧ q < b + 245
      · rw [if_pos h3, if_pos (by omega)]
      · rw [if_neg h3, if_neg (by omega)]
theorem zPs_put {g : zGl} {h : zHp} {b w : Nat} {fs fs' : List Value} {X : va_E} : zup (zup (zPf g h b w fs) (b + 245) X) b (.inr (7, fs')) = zup (zPf g h b w fs') (b + 245) X := by
  rw [zup_comm (by omega), zPf_put]
theorem zPs_0 {g : zGl} {h : zHp} {b w : Nat} {fs : List Value} {X : va_E} : (zup (zPf g h b w fs) (b + 245) X).1 b = some (.inr (7, fs)) := (zup_ne (by omega)).trans zPf_0
def zTn : List Value := [.null, .null, .null, .null, .null, .int 0, .null, .null, .null]
set_option maxRecDepth 100000 in
set_option maxHeartbeats 4000000 in
theorem ct_X7_init {g : zGl} {h : zHp} {b : Nat} (hm : h.1 b = some (.inr (7, zTn))) (hz : h.2 = some (b + 1)) : zC g mX7_init [.ref b] h (zU (zpT g (h.1, some (b + 286)) b zd0)) 285 7054 := by
  refine zC_ofA (lv := [some (.ref b), none]) (by decide) rfl (Nat.le_of_ble_eq_true rfl) ?_
  have s0 : h = zPf g h b 1 zTn := by
    refine Prod.ext ?_ hz
    funext q
    by_cases hq : q = b
    · subst hq
      rw [zPf_0, hm]
    · rw [zPf_out (by omega) (by decide)]
  refine z_heq s0 ?_
  have fin : zA g (zZc g mX7_init (zU (zpT g (h.1, some (b + 286)) b zd0)) 285 7054) 10 1999 82 [some (.ref b), some (.int (nI 2))] [] (zPf g h b 276 [.ref (b + 1), .ref (b + 3), .ref (b + 18), .ref (b + 33), .ref (b + 245), .int 0, .null, .null, .null]) := by
    refine z_aload_n (q := 83) dX7_init_82 rfl rfl ?_
    refine z_iconst (q := 84) dX7_init_83 zci_0 rfl ?_
    refine z_put (q := 87) dX7_init_84 zfX7_37 zPf_0 (Nat.le_of_ble_eq_true rfl) rfl rfl rfl ?_
    refine z_heq zPf_put ?_
    refine z_aload_n (q := 88) dX7_init_87 rfl rfl ?_
    refine z_new (q := 91) (sz := b + 276) (fs := [.null]) dX7_init_88 zcl_4 zyX7_41 zuX4 zdX4 rfl (fun j hj => by rcases (show j = 0 by omega) with rfl; rfl) (Nat.le_of_ble_eq_true rfl) (Nat.le_of_ble_eq_true rfl) rfl ?_
    refine z_dup (q := 92) dX7_init_91 rfl rfl ?_
    refine z_I0 (q := 95) dX7_init_92 zkX7_43 zt_mX4_init rfl rfl rfl (Nat.le_of_ble_eq_true rfl) (ct_X4_init znw_at rfl) (Nat.le_of_ble_eq_true rfl) (Nat.le_of_ble_eq_true rfl) rfl ?_
    rintro _ _ ⟨rfl, rfl⟩
    refine z_heq (zPf_bk (by decide) (by decide) (fun j hj => by rcases (show j = 0 ∨ j = 1 ∨ j = 2 ∨ j = 3 ∨ j = 4 ∨ j = 5 by omega) with rfl | rfl | rfl | rfl | rfl | rfl <;> rfl)) ?_
    refine z_putF (q := 98) dX7_init_95 zfX7_44 rfl rfl zPf_0 (Nat.le_of_ble_eq_true rfl) rfl rfl rfl ?_
    refine z_heq zPf_put ?_
    refine z_aload_n (q := 99) dX7_init_98 rfl rfl ?_
    refine z_new (q := 102) (sz := b + 282) (fs := [.null]) dX7_init_99 zcl_0 zyX7_48 zuX0 zdX0 rfl (fun j hj => by rcases (show j = 0 by omega) with rfl; rfl) (Nat.le_of_ble_eq_true rfl) (Nat.le_of_ble_eq_true rfl) rfl ?_
    refine z_dup (q := 103) dX7_init_102 rfl rfl ?_
    refine z_aload_n (q := 104) dX7_init_103 rfl rfl ?_
    refine z_get (q := 107) dX7_init_104 zfX7_44 ((znw_ne (by omega)).trans zPf_0) rfl rfl ?_
    refine z_I1 (q := 110) dX7_init_107 zkX7_50 zt_mX0_init rfl rfl rfl (Nat.le_of_ble_eq_true rfl) (ct_X0_init znw_at) (Nat.zero_le _) (Nat.zero_le _) rfl ?_
    rintro _ _ ⟨rfl, rfl⟩
    refine z_heq (h' := zPf g h b 283 [.ref (b + 1), .ref (b + 3), .ref (b + 18), .ref (b + 33), .ref (b + 245), .int (nI 0), .ref (b + 276), .null, .null]) ?_ ?_
    · refine Eq.trans ?_ (zPf_bk (w := 282) (v := 1) (e := .inr (0, [.null])) (C := fun _ => .inr (0, [.ref (b + 276)])) (by decide) (by decide) (fun j hj => by rcases (show j = 0 by omega) with rfl; rfl))
      refine zBk_eq (fun j hj => ?_) (fun q hq => ?_) rfl
      · rcases (show j = 0 by omega) with rfl
        exact zup_at _ _ _
      · rw [zup_ne (by omega)]
        rfl
    refine z_putF (q := 113) dX7_init_110 zfX7_53 rfl rfl zPf_0 (Nat.le_of_ble_eq_true rfl) rfl rfl rfl ?_
    refine z_heq zPf_put ?_
    refine z_aload_n (q := 114) dX7_init_113 rfl rfl ?_
    refine z_new (q := 117) (sz := b + 283) (fs := [.null, .int 0, .null]) dX7_init_114 zcl_3 zyX7_57 zuX3 zdX3 rfl (fun j hj => by rcases (show j = 0 ∨ j = 1 ∨ j = 2 by omega) with rfl | rfl | rfl <;> rfl) (Nat.le_of_ble_eq_true rfl) (Nat.le_of_ble_eq_true rfl) rfl ?_
    refine z_dup (q := 118) dX7_init_117 rfl rfl ?_
    refine z_I0 (q := 121) dX7_init_118 zkX7_59 zt_mX3_init rfl rfl rfl (Nat.le_of_ble_eq_true rfl) (ct_X3_init znw_at rfl) (Nat.le_of_ble_eq_true rfl) (Nat.le_of_ble_eq_true rfl) rfl ?_
    rintro _ _ ⟨rfl, rfl⟩
    refine z_heq (zPf_bk (by decide) (by decide) (fun j hj => by rcases (show j = 0 ∨ j = 1 ∨ j = 2 by omega) with rfl | rfl | rfl <;> rfl)) ?_
    refine z_putF (q := 124) dX7_init_121 zfX7_60 rfl rfl zPf_0 (Nat.le_of_ble_eq_true rfl) rfl rfl rfl ?_
    refine z_heq zPf_put ?_
    refine z_heq (h' := zpT g (h.1, some (b + 286)) b zd0) ?_ ?_
    · refine Prod.ext ?_ rfl
      funext q
      by_cases hq : q = b
      · subst hq
        have e := zpT_c (g := g) (h := (h.1, some (q + 286))) (b := q) (d := zd0) (c := 0) (by decide)
        rw [zPf_0]
        exact e.symm
      · by_cases h2 : b ≤ q ∧ q < b + 286
        · obtain ⟨j, rfl⟩ : ∃ j, q = b + j := ⟨q - b, by omega⟩
          exact (zPf_in (by omega) (by omega)).trans (zpT_c (by omega)).symm
        · exact (zPf_out (by omega) (by decide)).trans (zpT_o (by omega)).symm
    exact z_ret dX7_init_124 rfl (⟨rfl, rfl⟩)
  have it2 : zA g (zZc g mX7_init (zU (zpT g (h.1, some (b + 286)) b zd0)) 285 7054) 10 1999 58 [some (.ref b), some (.int (nI 2))] [] (zPf g h b 276 [.ref (b + 1), .ref (b + 3), .ref (b + 18), .ref (b + 33), .ref (b + 245), .int 0, .null, .null, .null]) := by
    refine z_iload_n (q := 59) dX7_init_58 rfl rfl ?_
    refine z_iconst (q := 60) dX7_init_59 zci_2 rfl ?_
    refine z_icmp_geN (tg := 82) (q := 63) dX7_init_60 rfl rfl (by omega) (by omega) ?_ ?_
    · intro hc60
      exact fin
    · intro hc60
      exact absurd hc60 (by decide)
  have it1 : zA g (zZc g mX7_init (zU (zpT g (h.1, some (b + 286)) b zd0)) 285 7054) 25 2272 58 [some (.ref b), some (.int (nI 1))] [] (zup (zPf g h b 261 [.ref (b + 1), .ref (b + 3), .ref (b + 18), .ref (b + 33), .ref (b + 245), .int 0, .null, .null, .null]) (b + 245) (zW g 2 (va_up (fun _ => none) 0 (some (b + 246))))) := by
    refine z_iload_n (q := 59) dX7_init_58 rfl rfl ?_
    refine z_iconst (q := 60) dX7_init_59 zci_2 rfl ?_
    refine z_icmp_geN (tg := 82) (q := 63) dX7_init_60 rfl rfl (by omega) (by omega) ?_ ?_
    · intro hc60
      exact absurd hc60 (by decide)
    · intro hc60
      refine z_aload_n (q := 64) dX7_init_63 rfl rfl ?_
      refine z_get (q := 67) dX7_init_64 zfX7_33 zPs_0 rfl rfl ?_
      refine z_iload_n (q := 68) dX7_init_67 rfl rfl ?_
      refine z_new (q := 71) (sz := b + 261) (fs := zWn) dX7_init_68 zcl_6 zyX7_16 zuX6 zdX6 rfl (fun j hj => by rcases (show j = 0 ∨ j = 1 ∨ j = 2 ∨ j = 3 ∨ j = 4 ∨ j = 5 ∨ j = 6 ∨ j = 7 ∨ j = 8 ∨ j = 9 ∨ j = 10 ∨ j = 11 ∨ j = 12 ∨ j = 13 ∨ j = 14 by omega) with rfl | rfl | rfl | rfl | rfl | rfl | rfl | rfl | rfl | rfl | rfl | rfl | rfl | rfl | rfl <;> rfl) (Nat.le_of_ble_eq_true rfl) (Nat.le_of_ble_eq_true rfl) rfl ?_
      refine z_dup (q := 72) dX7_init_71 rfl rfl ?_
      refine z_I0 (q := 75) dX7_init_72 zkX7_18 zt_mX6_init rfl rfl rfl (Nat.le_of_ble_eq_true rfl) (ct_X6_init znw_at rfl) (Nat.le_of_ble_eq_true rfl) (Nat.le_of_ble_eq_true rfl) rfl ?_
      rintro _ _ ⟨rfl, rfl⟩
      refine z_heq (zPs_bk (by decide) (by decide) (zW0_T (Or.inr (Or.inr (Or.inr (Or.inr rfl)))))) ?_
      refine z_aast (q := 76) (vs := zWf b 261 (zd0 261)) dX7_init_75 (zup_at _ _ _) (by decide) (by decide) ((zup_ne (by omega)).trans (zPf_in (j := 261) (by decide) (by decide))) rfl ?_
      rw [zup_zup]
      refine z_iinc (q := 79) (v := nI 2) dX7_init_76 rfl (by decide) rfl rfl ?_
      refine z_goto (q := 0) (tg := 58) dX7_init_79 rfl ?_
      refine z_wcg (a := b + 245) (f' := fun i => some (b + (246 + 15 * i))) (zup_at _ _ _) (fun j hj => by rcases (show j = 0 ∨ j = 1 by omega) with rfl | rfl <;> rfl) ?_
      rw [zup_zup]
      refine z_heq (zup_self (zPf_in (j := 245) (by decide) (by decide))) ?_
      exact it2
  have it0 : zA g (zZc g mX7_init (zU (zpT g (h.1, some (b + 286)) b zd0)) 285 7054) 40 2545 58 [some (.ref b), some (.int (nI 0))] [] (zup (zPf g h b 246 [.ref (b + 1), .ref (b + 3), .ref (b + 18), .ref (b + 33), .ref (b + 245), .int 0, .null, .null, .null]) (b + 245) (zW g 2 (fun _ => none))) := by
    refine z_iload_n (q := 59) dX7_init_58 rfl rfl ?_
    refine z_iconst (q := 60) dX7_init_59 zci_2 rfl ?_
    refine z_icmp_geN (tg := 82) (q := 63) dX7_init_60 rfl rfl (by omega) (by omega) ?_ ?_
    · intro hc60
      exact absurd hc60 (by decide)
    · intro hc60
      refine z_aload_n (q := 64) dX7_init_63 rfl rfl ?_
      refine z_get (q := 67) dX7_init_64 zfX7_33 zPs_0 rfl rfl ?_
      refine z_iload_n (q := 68) dX7_init_67 rfl rfl ?_
      refine z_new (q := 71) (sz := b + 246) (fs := zWn) dX7_init_68 zcl_6 zyX7_16 zuX6 zdX6 rfl (fun j hj => by rcases (show j = 0 ∨ j = 1 ∨ j = 2 ∨ j = 3 ∨ j = 4 ∨ j = 5 ∨ j = 6 ∨ j = 7 ∨ j = 8 ∨ j = 9 ∨ j = 10 ∨ j = 11 ∨ j = 12 ∨ j = 13 ∨ j = 14 by omega) with rfl | rfl | rfl | rfl | rfl | rfl | rfl | rfl | rfl | rfl | rfl | rfl | rfl | rfl | rfl <;> rfl) (Nat.le_of_ble_eq_true rfl) (Nat.le_of_ble_eq_true rfl) rfl ?_
      refine z_dup (q := 72) dX7_init_71 rfl rfl ?_
      refine z_I0 (q := 75) dX7_init_72 zkX7_18 zt_mX6_init rfl rfl rfl (Nat.le_of_ble_eq_true rfl) (ct_X6_init znw_at rfl) (Nat.le_of_ble_eq_true rfl) (Nat.le_of_ble_eq_true rfl) rfl ?_
      rintro _ _ ⟨rfl, rfl⟩
      refine z_heq (zPs_bk (by decide) (by decide) (zW0_T (Or.inr (Or.inr (Or.inr (Or.inl rfl)))))) ?_
      refine z_aast (q := 76) (vs := zWf b 246 (zd0 246)) dX7_init_75 (zup_at _ _ _) (by decide) (by decide) ((zup_ne (by omega)).trans (zPf_in (j := 246) (by decide) (by decide))) rfl ?_
      rw [zup_zup]
      refine z_iinc (q := 79) (v := nI 1) dX7_init_76 rfl (by decide) rfl rfl ?_
      refine z_goto (q := 0) (tg := 58) dX7_init_79 rfl ?_
      exact it1
  refine z_aload_n (q := 1) dX7_init_0 rfl rfl ?_
  refine z_obj (q := 4) dX7_init_1 zoX7_1 zo_i zo_c (Nat.le_of_ble_eq_true rfl) (Nat.le_of_ble_eq_true rfl) rfl ?_
  refine z_aload_n (q := 5) dX7_init_4 rfl rfl ?_
  refine z_new (q := 8) (sz := b + 1) (fs := [.null, .int 0]) dX7_init_5 zcl_5 zyX7_7 zuX5 zdX5 rfl (fun j hj => by rcases (show j = 0 ∨ j = 1 by omega) with rfl | rfl <;> rfl) (Nat.le_of_ble_eq_true rfl) (Nat.le_of_ble_eq_true rfl) rfl ?_
  refine z_dup (q := 9) dX7_init_8 rfl rfl ?_
  refine z_I0 (q := 12) dX7_init_9 zkX7_9 zt_mX5_init rfl rfl rfl (Nat.le_of_ble_eq_true rfl) (ct_X5_init znw_at rfl) (Nat.le_of_ble_eq_true rfl) (Nat.le_of_ble_eq_true rfl) rfl ?_
  rintro _ _ ⟨rfl, rfl⟩
  refine z_heq (zPf_bk (by decide) (by decide) (fun j hj => by rcases (show j = 0 ∨ j = 1 by omega) with rfl | rfl <;> rfl)) ?_
  refine z_putF (q := 15) dX7_init_12 zfX7_10 rfl rfl zPf_0 (Nat.le_of_ble_eq_true rfl) rfl rfl rfl ?_
  refine z_heq zPf_put ?_
  refine z_aload_n (q := 16) dX7_init_15 rfl rfl ?_
  refine z_new (q := 19) (sz := b + 3) (fs := zWn) dX7_init_16 zcl_6 zyX7_16 zuX6 zdX6 rfl (fun j hj => by rcases (show j = 0 ∨ j = 1 ∨ j = 2 ∨ j = 3 ∨ j = 4 ∨ j = 5 ∨ j = 6 ∨ j = 7 ∨ j = 8 ∨ j = 9 ∨ j = 10 ∨ j = 11 ∨ j = 12 ∨ j = 13 ∨ j = 14 by omega) with rfl | rfl | rfl | rfl | rfl | rfl | rfl | rfl | rfl | rfl | rfl | rfl | rfl | rfl | rfl <;> rfl) (Nat.le_of_ble_eq_true rfl) (Nat.le_of_ble_eq_true rfl) rfl ?_
  refine z_dup (q := 20) dX7_init_19 rfl rfl ?_
  refine z_I0 (q := 23) dX7_init_20 zkX7_18 zt_mX6_init rfl rfl rfl (Nat.le_of_ble_eq_true rfl) (ct_X6_init znw_at rfl) (Nat.le_of_ble_eq_true rfl) (Nat.le_of_ble_eq_true rfl) rfl ?_
  rintro _ _ ⟨rfl, rfl⟩
  refine z_heq (zPf_bk (by decide) (by decide) (zW0_T zWo_3)) ?_
  refine z_putF (q := 26) dX7_init_23 zfX7_19 rfl rfl zPf_0 (Nat.le_of_ble_eq_true rfl) rfl rfl rfl ?_
  refine z_heq zPf_put ?_
  refine z_aload_n (q := 27) dX7_init_26 rfl rfl ?_
  refine z_new (q := 30) (sz := b + 18) (fs := zWn) dX7_init_27 zcl_6 zyX7_16 zuX6 zdX6 rfl (fun j hj => by rcases (show j = 0 ∨ j = 1 ∨ j = 2 ∨ j = 3 ∨ j = 4 ∨ j = 5 ∨ j = 6 ∨ j = 7 ∨ j = 8 ∨ j = 9 ∨ j = 10 ∨ j = 11 ∨ j = 12 ∨ j = 13 ∨ j = 14 by omega) with rfl | rfl | rfl | rfl | rfl | rfl | rfl | rfl | rfl | rfl | rfl | rfl | rfl | rfl | rfl <;> rfl) (Nat.le_of_ble_eq_true rfl) (Nat.le_of_ble_eq_true rfl) rfl ?_
  refine z_dup (q := 31) dX7_init_30 rfl rfl ?_
  refine z_I0 (q := 34) dX7_init_31 zkX7_18 zt_mX6_init rfl rfl rfl (Nat.le_of_ble_eq_true rfl) (ct_X6_init znw_at rfl) (Nat.le_of_ble_eq_true rfl) (Nat.le_of_ble_eq_true rfl) rfl ?_
  rintro _ _ ⟨rfl, rfl⟩
  refine z_heq (zPf_bk (by decide) (by decide) (zW0_T (Or.inr (Or.inl rfl)))) ?_
  refine z_putF (q := 37) dX7_init_34 zfX7_23 rfl rfl zPf_0 (Nat.le_of_ble_eq_true rfl) rfl rfl rfl ?_
  refine z_heq zPf_put ?_
  refine z_aload_n (q := 38) dX7_init_37 rfl rfl ?_
  refine z_new (q := 41) (sz := b + 33) (fs := [.null, .int 0, .int 0]) dX7_init_38 zcl_1 zyX7_26 zuX1 zdX1 rfl (fun j hj => by rcases (show j = 0 ∨ j = 1 ∨ j = 2 by omega) with rfl | rfl | rfl <;> rfl) (Nat.le_of_ble_eq_true rfl) (Nat.le_of_ble_eq_true rfl) rfl ?_
  refine z_dup (q := 42) dX7_init_41 rfl rfl ?_
  refine z_I0 (q := 45) dX7_init_42 zkX7_28 zt_mX1_init rfl rfl rfl (Nat.le_of_ble_eq_true rfl) (ct_X1_init znw_at rfl) (Nat.le_of_ble_eq_true rfl) (Nat.le_of_ble_eq_true rfl) rfl ?_
  rintro _ _ ⟨rfl, rfl⟩
  refine z_wcg (a := b + 33 + 1) (f' := fun i => some (b + (35 + 15 * i))) (zBk_in (j := 1) (by decide)) (fun j hj => by rw [if_pos hj]; exact congrArg some (by omega)) ?_
  refine z_heq (h' := zPf g h b 245 [.ref (b + 1), .ref (b + 3), .ref (b + 18), .null, .null, .int 0, .null, .null, .null]) ?_ ?_
  · refine Eq.trans ?_ (zPf_bk (w := 33) (v := 212) (e := .inr (1, [.null, .int 0, .int 0])) (C := fun j => if j = 1 then zW g 14 (fun i => some (b + (35 + 15 * i))) else zHc g (b + 33) 14 j) (by decide) (by decide) (fun j hj => ?_))
    · refine zBk_eq (fun j hj => ?_) (fun q hq => ?_) rfl
      · by_cases h1 : j = 1
        · subst h1
          rw [zup_at, if_pos rfl]
        · rw [zup_ne (by omega), zBk_in hj, if_neg h1]
      · rw [zup_ne (by omega), zBk_out (by omega)]
        rfl
    · by_cases h1 : j = 1
      · subst h1
        rfl
      · rw [if_neg h1]
        exact zHc_T j hj h1
  refine z_putF (q := 48) dX7_init_45 zfX7_29 rfl rfl zPf_0 (Nat.le_of_ble_eq_true rfl) rfl rfl rfl ?_
  refine z_heq zPf_put ?_
  refine z_aload_n (q := 49) dX7_init_48 rfl rfl ?_
  refine z_iconst (q := 50) dX7_init_49 zci_2 rfl ?_
  refine z_newW (q := 53) (sz := b + 245) dX7_init_50 zyX7_16 rfl (Nat.le_of_ble_eq_true rfl) (Nat.le_of_ble_eq_true rfl) (Nat.le_of_ble_eq_true rfl) rfl ?_
  refine z_heq zPs_nw ?_
  refine z_putF (q := 56) dX7_init_53 zfX7_33 rfl rfl zPs_0 (Nat.le_of_ble_eq_true rfl) rfl rfl rfl ?_
  refine z_heq zPs_put ?_
  refine z_iconst (q := 57) dX7_init_56 zci_0 rfl ?_
  refine z_istore_n (q := 58) dX7_init_57 (Nat.le_of_ble_eq_true rfl) rfl rfl ?_
  exact it0
