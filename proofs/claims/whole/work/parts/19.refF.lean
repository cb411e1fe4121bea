/-! ===== the reference: what its public methods share ===== -/
theorem zRp_cg {g : zGl} {h : zHp} {H : Heap} {a N : Nat} {f f' : Nat → Int32} (hf : ∀ j, j < N → f j = f' j) (hR : zRp g h H) (hc : h.1 a = some (zI g N f)) : zRp g (zup h a (zI g N f')) H := by
  refine zRp_up hR (hR.1 a _ hc).1 ?_ rfl (fun _ _ => rfl)
  have h1 := (hR.1 a _ hc).2
  have e : vp_cell (zgI g) (N, .inl f) = vp_cell (zgI g) (N, .inl f') := by
    rw [vp_cell_i, vp_cell_i, arrV, arrV]
    congr 2
    funext j
    rw [hf j.val j.isLt]
  show H[a]? = some (vp_cell (zgI g) (N, .inl f'))
  rw [← e]
  exact h1
theorem z_cg {g : zGl} {Z : zZt} {k n pc : Nat} {lv : List (Option Value)} {st : List Value} {h : zHp} {a N : Nat} {f f' : Nat → Int32} (hf : ∀ j, j < N → f j = f' j) (hc : h.1 a = some (zI g N f)) (kk : zA g Z k n pc lv st (zup h a (zI g N f'))) : zA g Z k n pc lv st h := by
  intro p e s m args below meth c ls H locs cells slots C E hL hR hS hk hn
  exact kk p e s m args below meth c ls H locs cells slots C E hL (zRp_cg hf hR hc) hS hk hn
theorem z_cgM {g : zGl} {Z : zZt} {k n pc : Nat} {lv : List (Option Value)} {st : List Value} {h : zHp} {m c N : Nat} {u : Nat → Nat → Int32} {f : Nat → Int32} (hc : zMl c = some N) (hf : ∀ j, j < N → u c j = f j) (kk : zA g Z k n pc lv st (zpM g h m (va_up u c f))) : zA g Z k n pc lv st (zpM g h m u) :=
  z_cg hf (zpM_a hc) (by rw [zpM_row hc]; exact kk)
theorem cpy_all {e f : Nat → Int32} {N : Nat} : ∀ j, j < N → va_cpy e f 0 0 N j = e j := by
  intro j hj
  simp only [va_cpy]
  rw [if_pos (by omega)]
  congr 1
  omega
theorem zM_U {g : zGl} {M : zMt} {av : List Value} {h : zHp} {m c N : Nat} {u : Nat → Nat → Int32} {f' : Nat → Int32} (hc : zMl c = some N) (hC : zC g M av (zup (zpM g h m u) (m + c) (zI g N (u c))) (zU (zup (zpM g h m u) (m + c) (zI g N f'))) 0 0) : zC g M av (zpM g h m u) (zU (zpM g h m (va_up u c f'))) 0 0 := by
  rw [← zpM_own hc, zpM_row hc] at hC
  exact hC
theorem zM_V {g : zGl} {M : zMt} {av : List Value} {h : zHp} {m c N : Nat} {u : Nat → Nat → Int32} {f' : Nat → Int32} {v : Value} (hc : zMl c = some N) (hC : zC g M av (zup (zpM g h m u) (m + c) (zI g N (u c))) (zVU (zup (zpM g h m u) (m + c) (zI g N f')) v) 0 0) : zC g M av (zpM g h m u) (zVU (zpM g h m (va_up u c f')) v) 0 0 := by
  rw [← zpM_own hc, zpM_row hc] at hC
  exact hC
theorem ct_M_stepOn {g : zGl} {h : zHp} {m c n K : Nat} {u : Nat → Nat → Int32} (hc : c = 3 ∨ c = 4) (hn : u c 0 = nI n) (hn6 : n ≤ 6) (hK : u c 1 = nI K) (hK8 : K ≤ 8) : zC g mX8_stepOn [.ref m, .ref (m + c)] (zpM g h m u) (zU (zpM g h m (va_up (va_up u 5 (va_cpy (u c) (u 5) 0 0 264)) c (qStep (u c) n K)))) 0 0 := by
  have hl : zMl c = some 264 := by rcases hc with rfl | rfl <;> rfl
  have hC := ct_X8_stepOn (g := g) (H := zpM g h m u) (m := m) (r := m + c) (f := u c) zpM_0 (zpM_a (c := 5) rfl) (by omega) (by omega) hn hn6 hK hK8
  rw [← zpM_own hl, zpM_row (c := 5) rfl, zpM_row hl] at hC
  exact hC
/-- what counts of the reference's state is the same -/
def zSc (u u' : Nat → Nat → Int32) : Prop := u' 1 = u 1 ∧ u' 3 = u 3 ∧ u' 6 = u 6 ∧ u' 7 = u 7 ∧ u' 8 = u 8 ∧ u' 0 2 = u 0 2 ∧ u' 0 9 = u 0 9
theorem zSc_r {u : Nat → Nat → Int32} : zSc u u := ⟨rfl, rfl, rfl, rfl, rfl, rfl, rfl⟩
theorem zSc_t {u v w : Nat → Nat → Int32} (h1 : zSc u v) (h2 : zSc v w) : zSc u w := by
  obtain ⟨a1, a2, a3, a4, a5, a6, a7⟩ := h1
  obtain ⟨b1, b2, b3, b4, b5, b6, b7⟩ := h2
  exact ⟨b1.trans a1, b2.trans a2, b3.trans a3, b4.trans a4, b5.trans a5, b6.trans a6, b7.trans a7⟩
theorem zSc_rf {u : Nat → Nat → Int32} {x : Int32} : zSc u (va_up u 0 (va_up (u 0) 0 x)) := ⟨rfl, rfl, rfl, rfl, rfl, rfl, rfl⟩
/-- a row that doesn't count -/
theorem zSc_w {u : Nat → Nat → Int32} {c : Nat} {f : Nat → Int32} (hc : c = 2 ∨ c = 4 ∨ c = 5 ∨ c = 9 ∨ c = 10 ∨ c = 11) : zSc u (va_up u c f) ∧ va_up u c f 0 = u 0 := by
  rcases hc with rfl | rfl | rfl | rfl | rfl | rfl <;> exact ⟨⟨rfl, rfl, rfl, rfl, rfl, rfl, rfl⟩, rfl⟩
/-- the answer v, 'thrown' x; what counts is as in u -/
def zMP (g : zGl) (h : zHp) (m : Nat) (u : Nat → Nat → Int32) (x : Int32) (v : Int32) : Option Value → zHp → Prop := fun v' h' => v' = some (.int v) ∧ ∃ u', h' = zpM g h m u' ∧ zSc u u' ∧ u' 0 0 = x
theorem zMP_i {g : zGl} {h : zHp} {m : Nat} {u u' : Nat → Nat → Int32} {x v w : Int32} (hv : w = v) (hS : zSc u u') (hx : u' 0 0 = x) : zMP g h m u x v (some (.int w)) (zpM g h m u') := ⟨by rw [hv], u', rfl, hS, hx⟩
theorem ct_M_groupsOf {g : zGl} {h : zHp} {m c n : Nat} {u : Nat → Nat → Int32} (hc : c = 3 ∨ c = 4) (hn : u c 0 = nI n) (hn6 : n ≤ 6) : zC g mX8_groupsOf [.ref m, .ref (m + c)] (zpM g h m u) (zVU (zpM g h m (va_up u 9 (qGr (u c) n (u 9) n).2.2)) (.int (nI (qGr (u c) n (u 9) n).2.1))) 0 0 := by
  have hl : zMl c = some 264 := by rcases hc with rfl | rfl <;> rfl
  exact zM_V (c := 9) rfl (ct_X8_groupsOf (H := zpM g h m u) zpM_0 (zpM_a hl) (by omega) hn hn6)
theorem ct_M_layWays {g : zGl} {h : zHp} {m c n s : Nat} {u : Nat → Nat → Int32} (hc : c = 3 ∨ c = 4) (hn : u c 0 = nI n) (hn6 : n ≤ 6) (hs : s < 6) : zC g mX8_layWays [.ref m, .ref (m + c), .int (nI s)] (zpM g h m u) (zU (zpM g h m (va_up u 9 (qWays (u c) n s (u 9))))) 0 0 := by
  have hl : zMl c = some 264 := by rcases hc with rfl | rfl <;> rfl
  exact zM_U (c := 9) rfl (ct_X8_layWays (H := zpM g h m u) zpM_0 (zpM_a hl) (by omega) hn hn6 hs)
theorem ct_M_setRanges {g : zGl} {h : zHp} {m n : Nat} {x : Int32} {u : Nat → Nat → Int32} (hn : u 4 0 = nI n) (hn6 : n ≤ 6) : zC g mX8_setRanges [.ref m, .ref (m + 4), .int x] (zpM g h m u) (zU (zpM g h m (va_up u 4 (qRng (u 4) n x)))) 0 0 :=
  zM_U (c := 4) rfl (ct_X8_setRanges hn hn6)
theorem ct_M_copy {g : zGl} {h : zHp} {m c d a t k N N2 : Nat} {u : Nat → Nat → Int32} (hc : zMl c = some N2) (hd : zMl d = some N) (hcd : c ≠ d) (ha : a + k ≤ N2) (ht : t + k ≤ N) : zC g mX8_copy [.ref (m + c), .int (nI a), .ref (m + d), .int (nI t), .int (nI k)] (zpM g h m u) (zU (zpM g h m (va_up u d (va_cpy (u c) (u d) a t k)))) 0 0 :=
  zM_U hd (ct_X8_copy (h := zpM g h m u) (zpM_a hc) (by omega) (zMl_lt hd).2.2.2 (zMl_lt hc).2.2.2 ha ht)
set_option maxRecDepth 100000 in
set_option maxHeartbeats 4000000 in
theorem ct_X8_clearText {g : zGl} {h : zHp} {m : Nat} {u : Nat → Nat → Int32} : zC g mX8_clearText [.ref m] (zpM g h m u) (zMP g h m (va_up u 0 (va_up (u 0) 2 (nI 0))) (nI 0) (u 0 2)) 0 0 := by
  refine zC_ofA (lv := [some (.ref m), none]) (by decide) rfl (Nat.le_of_ble_eq_true rfl) ?_
  refine z_aload_n (q := 1) dX8_clearText_0 rfl rfl ?_
  refine z_iconst (q := 2) dX8_clearText_1 zci_0 rfl ?_
  refine z_putM (q := 5) dX8_clearText_2 zfX8_44 (by decide) rfl ?_
  refine z_aload_n (q := 6) dX8_clearText_5 rfl rfl ?_
  refine z_get (q := 9) dX8_clearText_6 zfX8_123 (by first | exact zpM_0 | exact zpM_a rfl | exact zpM_8) rfl rfl ?_
  refine z_istore_n (q := 10) dX8_clearText_9 (Nat.le_of_ble_eq_true rfl) rfl rfl ?_
  refine z_aload_n (q := 11) dX8_clearText_10 rfl rfl ?_
  refine z_iconst (q := 12) dX8_clearText_11 zci_0 rfl ?_
  refine z_putM (q := 15) dX8_clearText_12 zfX8_123 (by decide) rfl ?_
  refine z_iload_n (q := 16) dX8_clearText_15 rfl rfl ?_
  exact z_reti dX8_clearText_16 rfl (zMP_i rfl ⟨rfl, rfl, rfl, rfl, rfl, rfl, rfl⟩ rfl)
set_option maxRecDepth 100000 in
set_option maxHeartbeats 4000000 in
theorem ct_X8_append1 {g : zGl} {h : zHp} {m : Nat} {x : Int32} {u : Nat → Nat → Int32} (hv : qBt x 0 255 = false) : zC g mX8_append [.ref m, .int x] (zpM g h m u) (zMP g h m u (nI 1) (nI 0)) 0 0 := by
  refine zC_ofA (lv := [some (.ref m), some (.int x)]) (by decide) rfl (Nat.le_of_ble_eq_true rfl) ?_
  refine z_aload_n (q := 1) dX8_append_0 rfl rfl ?_
  refine z_iload_n (q := 2) dX8_append_1 rfl rfl ?_
  refine z_i2l (q := 3) dX8_append_2 rfl rfl ?_
  refine z_lconst (q := 4) (v := 0) dX8_append_3 (by decide) rfl ?_
  refine z_ldc2 (q := 7) dX8_append_4 zqX8_121 rfl ?_
  refine z_s3 (q := 10) dX8_append_7 zkX8_57 zt_mX8_in rfl (Nat.le_of_ble_eq_true rfl) (ct_X8_in) rfl ?_
  refine z_eqi ((congrArg zbi ((qIn_bt (by decide) (by decide) (by decide) (by decide)).trans hv)).trans zbi_f) ?_
  refine z_if_ne (tg := 17) (q := 13) dX8_append_10 rfl rfl ?_ ?_
  · intro hc10
    exact absurd hc10 (by decide)
  · intro hc10
    refine z_iconst (q := 14) dX8_append_13 zci_1 rfl ?_
    refine z_goto (q := 0) (tg := 31) dX8_append_14 rfl ?_
    refine z_x1 (q := 34) dX8_append_31 zkX8_126 zt_mX8_refused rfl (by first | exact zpM_0 | exact zpM_a rfl | exact zpM_8) rfl (Nat.le_of_ble_eq_true rfl) (ct_X8_refused) rfl ?_
    refine z_eqi (show zbi (!decide (nI 1 ≤ 0)) = nI 1 by decide) ?_
    refine z_if_eq (tg := 39) (q := 37) dX8_append_34 rfl rfl ?_ ?_
    · intro hc34
      exact absurd hc34 (by decide)
    · intro hc34
      refine z_iconst (q := 38) dX8_append_37 zci_0 rfl ?_
      exact z_reti dX8_append_38 rfl (zMP_i rfl zSc_rf rfl)
set_option maxRecDepth 100000 in
set_option maxHeartbeats 4000000 in
theorem ct_X8_append2 {g : zGl} {h : zHp} {m : Nat} {x : Int32} {u : Nat → Nat → Int32} (hv : qBt x 0 255 = true) (hs : u 0 2 = nI 120) : zC g mX8_append [.ref m, .int x] (zpM g h m u) (zMP g h m u (nI 2) (nI 0)) 0 0 := by
  refine zC_ofA (lv := [some (.ref m), some (.int x)]) (by decide) rfl (Nat.le_of_ble_eq_true rfl) ?_
  refine z_aload_n (q := 1) dX8_append_0 rfl rfl ?_
  refine z_iload_n (q := 2) dX8_append_1 rfl rfl ?_
  refine z_i2l (q := 3) dX8_append_2 rfl rfl ?_
  refine z_lconst (q := 4) (v := 0) dX8_append_3 (by decide) rfl ?_
  refine z_ldc2 (q := 7) dX8_append_4 zqX8_121 rfl ?_
  refine z_s3 (q := 10) dX8_append_7 zkX8_57 zt_mX8_in rfl (Nat.le_of_ble_eq_true rfl) (ct_X8_in) rfl ?_
  refine z_eqi ((congrArg zbi ((qIn_bt (by decide) (by decide) (by decide) (by decide)).trans hv)).trans zbi_t) ?_
  refine z_if_ne (tg := 17) (q := 13) dX8_append_10 rfl rfl ?_ ?_
  · intro hc10
    refine z_aload_n (q := 18) dX8_append_17 rfl rfl ?_
    refine z_get (q := 21) dX8_append_18 zfX8_123 (by first | exact zpM_0 | exact zpM_a rfl | exact zpM_8) rfl rfl ?_
    refine z_eqi hs ?_
    refine z_bipush (q := 23) dX8_append_21 zcb_120 rfl ?_
    refine z_icmp_neN (tg := 30) (q := 26) dX8_append_23 rfl rfl (by omega) (by omega) ?_ ?_
    · intro hc23
      exact absurd hc23 (by decide)
    · intro hc23
      refine z_iconst (q := 27) dX8_append_26 zci_2 rfl ?_
      refine z_goto (q := 0) (tg := 31) dX8_append_27 rfl ?_
      refine z_x1 (q := 34) dX8_append_31 zkX8_126 zt_mX8_refused rfl (by first | exact zpM_0 | exact zpM_a rfl | exact zpM_8) rfl (Nat.le_of_ble_eq_true rfl) (ct_X8_refused) rfl ?_
      refine z_eqi (show zbi (!decide (nI 2 ≤ 0)) = nI 1 by decide) ?_
      refine z_if_eq (tg := 39) (q := 37) dX8_append_34 rfl rfl ?_ ?_
      · intro hc34
        exact absurd hc34 (by decide)
      · intro hc34
        refine z_iconst (q := 38) dX8_append_37 zci_0 rfl ?_
        exact z_reti dX8_append_38 rfl (zMP_i rfl zSc_rf rfl)
  · intro hc10
    exact absurd hc10 (by decide)
set_option maxRecDepth 100000 in
set_option maxHeartbeats 4000000 in
theorem ct_X8_append0 {g : zGl} {h : zHp} {m s : Nat} {x : Int32} {u : Nat → Nat → Int32} (hv : qBt x 0 255 = true) (hs : u 0 2 = nI s) (hs1 : s < 120) : zC g mX8_append [.ref m, .int x] (zpM g h m u) (zMP g h m (va_up (va_up u 1 (va_up (u 1) s x)) 0 (va_up (u 0) 2 (nI (s + 1)))) (nI 0) (nI (s + 1))) 0 0 := by
  refine zC_ofA (lv := [some (.ref m), some (.int x)]) (by decide) rfl (Nat.le_of_ble_eq_true rfl) ?_
  refine z_aload_n (q := 1) dX8_append_0 rfl rfl ?_
  refine z_iload_n (q := 2) dX8_append_1 rfl rfl ?_
  refine z_i2l (q := 3) dX8_append_2 rfl rfl ?_
  refine z_lconst (q := 4) (v := 0) dX8_append_3 (by decide) rfl ?_
  refine z_ldc2 (q := 7) dX8_append_4 zqX8_121 rfl ?_
  refine z_s3 (q := 10) dX8_append_7 zkX8_57 zt_mX8_in rfl (Nat.le_of_ble_eq_true rfl) (ct_X8_in) rfl ?_
  refine z_eqi ((congrArg zbi ((qIn_bt (by decide) (by decide) (by decide) (by decide)).trans hv)).trans zbi_t) ?_
  refine z_if_ne (tg := 17) (q := 13) dX8_append_10 rfl rfl ?_ ?_
  · intro hc10
    refine z_aload_n (q := 18) dX8_append_17 rfl rfl ?_
    refine z_get (q := 21) dX8_append_18 zfX8_123 (by first | exact zpM_0 | exact zpM_a rfl | exact zpM_8) rfl rfl ?_
    refine z_eqi hs ?_
    refine z_bipush (q := 23) dX8_append_21 zcb_120 rfl ?_
    refine z_icmp_neN (tg := 30) (q := 26) dX8_append_23 rfl rfl (by omega) (by omega) ?_ ?_
    · intro hc23
      skip
      refine z_iconst (q := 31) dX8_append_30 zci_0 rfl ?_
      refine z_x1 (q := 34) dX8_append_31 zkX8_126 zt_mX8_refused rfl (by first | exact zpM_0 | exact zpM_a rfl | exact zpM_8) rfl (Nat.le_of_ble_eq_true rfl) (ct_X8_refused) rfl ?_
      refine z_eqi (show zbi (!decide (nI 0 ≤ 0)) = nI 0 by decide) ?_
      refine z_if_eq (tg := 39) (q := 37) dX8_append_34 rfl rfl ?_ ?_
      · intro hc34
        refine z_aload_n (q := 40) dX8_append_39 rfl rfl ?_
        refine z_get (q := 43) dX8_append_40 zfX8_7 (by first | exact zpM_0 | exact zpM_a rfl | exact zpM_8) rfl rfl ?_
        refine z_aload_n (q := 44) dX8_append_43 rfl rfl ?_
        refine z_get (q := 47) dX8_append_44 zfX8_123 (by first | exact zpM_0 | exact zpM_a rfl | exact zpM_8) rfl rfl ?_
        refine z_eqi hs ?_
        refine z_iload_n (q := 48) dX8_append_47 rfl rfl ?_
        refine z_iastM (q := 49) dX8_append_48 rfl (by omega) rfl ?_
        refine z_aload_n (q := 50) dX8_append_49 rfl rfl ?_
        refine z_dup (q := 51) dX8_append_50 rfl rfl ?_
        refine z_get (q := 54) dX8_append_51 zfX8_123 (by first | exact zpM_0 | exact zpM_a rfl | exact zpM_8) rfl rfl ?_
        refine z_eqi hs ?_
        refine z_iconst (q := 55) dX8_append_54 zci_1 rfl ?_
        refine z_iaddN (q := 56) dX8_append_55 rfl ?_
        refine z_putM (q := 59) dX8_append_56 zfX8_123 (by decide) rfl ?_
        refine z_aload_n (q := 60) dX8_append_59 rfl rfl ?_
        refine z_get (q := 63) dX8_append_60 zfX8_123 (by first | exact zpM_0 | exact zpM_a rfl | exact zpM_8) rfl rfl ?_
        exact z_reti dX8_append_63 rfl (zMP_i rfl ⟨rfl, rfl, rfl, rfl, rfl, rfl, rfl⟩ rfl)
      · intro hc34
        exact absurd hc34 (by decide)
    · intro hc23
      omega
  · intro hc10
    exact absurd hc10 (by decide)
