/-! ===== the component: its history ===== -/
theorem zT_H {g : zGl} {h : zHp} {b : Nat} {d : Nat → Nat → Int32} : (zpT g h b d).1 (b + 33) = some (.inr (1, [.ref (b + 34), .int (d 33 1), .int (d 33 2)])) := zpT_c (c := 33) (by decide)
theorem zT_K {g : zGl} {h : zHp} {b : Nat} {d : Nat → Nat → Int32} : (zpT g h b d).1 (b + 34) = some (zW g 14 (fun i => some (b + (35 + 15 * i)))) := zpT_c (c := 34) (by decide)
theorem z_putH {g : zGl} {Z : zZt} {k n pc q : Nat} {lv : List (Option Value)} {st : List Value} {h : zHp} {idx kf b : Nat} {C0 : String} {d : Nat → Nat → Int32} {v : Int32} (hd : decode Z.1.2.1 pc = .ok (.putfield idx, 3)) (hf : zFld Z.1.1.cls idx 1 kf .int false C0) (hk : kf = 1 ∨ kf = 2) (hp : pc + 3 = q) (kk : zA g Z k n q lv st (zpT g h b (va_up d 33 (va_up (d 33) kf v)))) : zA g Z k n pc lv (.int v :: .ref (b + 33) :: st) (zpT g h b d) := by
  refine z_put hd hf zT_H (show kf < 3 by omega) rfl rfl hp ?_
  rw [zpT_up (f := va_up (d 33) kf v) (by decide)]
  · exact kk
  · rcases hk with rfl | rfl <;> rfl
theorem zWo_h {i : Nat} (h : i < 14) : zWo (35 + 15 * i) := Or.inr (Or.inr (Or.inl ⟨i, h, rfl⟩))
set_option maxRecDepth 100000 in
set_option maxHeartbeats 4000000 in
theorem ct_X1_forget {g : zGl} {h : zHp} {b : Nat} {d : Nat → Nat → Int32} : zC g mX1_forget [.ref (b + 33)] (zpT g h b d) (zU (zpT g h b (va_up d 33 (va_up (d 33) 2 (nI 0))))) 0 0 := by
  refine zC_ofA (lv := [some (.ref (b + 33))]) (by decide) rfl (Nat.le_of_ble_eq_true rfl) ?_
  refine z_aload_n (q := 1) dX1_forget_0 rfl rfl ?_
  refine z_iconst (q := 2) dX1_forget_1 zci_0 rfl ?_
  refine z_putH (q := 5) dX1_forget_2 zfX1_26 (by decide) rfl ?_
  exact z_ret dX1_forget_5 rfl (⟨rfl, rfl⟩)
theorem min14 {c : Nat} (h : c ≤ 14) : qMn (nI (c + 1)) (nI 14) = nI (qC1 c) := by
  rw [qMn, qC1]
  by_cases hc : c = 14
  · subst hc
    decide
  · rw [if_neg hc, if_neg (nI_nlt (by omega) (by decide))]
set_option maxRecDepth 100000 in
set_option maxHeartbeats 4000000 in
theorem ct_X1_remember {g : zGl} {h : zHp} {b x c : Nat} {d : Nat → Nat → Int32} (h1 : d 33 1 = nI x) (hx : x < 14) (h2 : d 33 2 = nI c) (hc : c ≤ 14) : zC g mX1_remember [.ref (b + 33), .ref (b + 3)] (zpT g h b d) (zTU g h b (fun D => ∃ D0, zCy d D0 (35 + 15 * x) 3 ∧ D = va_up D0 33 (va_up (va_up (d 33) 1 (nI ((x + 1) % 14))) 2 (nI (qC1 c)))) none) 0 0 := by
  have hw := zWo_h hx
  refine zC_ofA (lv := [some (.ref (b + 33)), some (.ref (b + 3))]) (by decide) rfl (Nat.le_of_ble_eq_true rfl) ?_
  refine z_aload_n (q := 1) dX1_remember_0 rfl rfl ?_
  refine z_get (q := 4) dX1_remember_1 zfX1_11 (by first | exact zT_H | exact zT_K | exact zT_o hw) rfl rfl ?_
  refine z_aload_n (q := 5) dX1_remember_4 rfl rfl ?_
  refine z_get (q := 8) dX1_remember_5 zfX1_18 (by first | exact zT_H | exact zT_K | exact zT_o hw) rfl rfl ?_
  refine z_eqi h1 ?_
  refine z_aald (q := 9) (x := b + (35 + 15 * x)) dX1_remember_8 zT_K (by decide) hx rfl rfl ?_
  refine z_aload_n (q := 10) dX1_remember_9 rfl rfl ?_
  refine z_V1 (q := 13) dX1_remember_10 zkX1_22 zt_mX6_copyFrom rfl (by first | exact zT_H | exact zT_K | exact zT_o hw) rfl (Nat.le_of_ble_eq_true rfl) (ct_X6_copyFrom hw (Or.inl rfl) (by omega)) (Nat.zero_le _) (Nat.zero_le _) rfl ?_
  rintro _ _ ⟨rfl, D, rfl, hD⟩
  have e33 : D 33 = d 33 := hD.2.2.2 33 (by omega)
  refine z_aload_n (q := 14) dX1_remember_13 rfl rfl ?_
  refine z_aload_n (q := 15) dX1_remember_14 rfl rfl ?_
  refine z_get (q := 18) dX1_remember_15 zfX1_18 (by first | exact zT_H | exact zT_K | exact zT_o hw) rfl rfl ?_
  refine z_eqi (show D 33 1 = nI x by rw [e33]; exact h1) ?_
  refine z_iconst (q := 19) dX1_remember_18 zci_1 rfl ?_
  refine z_iaddN (q := 20) dX1_remember_19 rfl ?_
  refine z_bipush (q := 22) dX1_remember_20 zcb_14 rfl ?_
  refine z_iremN (q := 23) dX1_remember_22 (by omega) (by omega) (by omega) rfl ?_
  refine z_putH (q := 26) dX1_remember_23 zfX1_18 (by decide) rfl ?_
  refine z_aload_n (q := 27) dX1_remember_26 rfl rfl ?_
  refine z_aload_n (q := 28) dX1_remember_27 rfl rfl ?_
  refine z_get (q := 31) dX1_remember_28 zfX1_26 (by first | exact zT_H | exact zT_K | exact zT_o hw) rfl rfl ?_
  refine z_eqi (show va_up D 33 _ 33 2 = nI c by rw [zu_eq, zu_ne (by decide), e33]; exact h2) ?_
  refine z_iconst (q := 32) dX1_remember_31 zci_1 rfl ?_
  refine z_iaddN (q := 33) dX1_remember_32 rfl ?_
  refine z_bipush (q := 35) dX1_remember_33 zcb_14 rfl ?_
  refine z_mmin (q := 38) dX1_remember_35 zw593 (Nat.le_of_ble_eq_true rfl) (Nat.le_of_ble_eq_true rfl) rfl ?_
  refine z_eqi (min14 hc) ?_
  refine z_putH (q := 41) dX1_remember_38 zfX1_26 (by decide) rfl ?_
  exact z_ret dX1_remember_41 rfl (⟨rfl, _, rfl, D, hD, by rw [zu_eq, zu_up, e33]⟩)
set_option maxRecDepth 100000 in
set_option maxHeartbeats 4000000 in
theorem ct_X1_takeBack {g : zGl} {h : zHp} {b x c : Nat} {d : Nat → Nat → Int32} (h1 : d 33 1 = nI x) (hx : x < 14) (h2 : d 33 2 = nI (c + 1)) (hc : c < 14) : zC g mX1_takeBack [.ref (b + 33), .ref (b + 3)] (zpT g h b d) (zTU g h b (fun D => zCy (va_up d 33 (va_up (va_up (d 33) 1 (nI ((x + 13) % 14))) 2 (nI c))) D 3 (35 + 15 * ((x + 13) % 14))) none) 0 0 := by
  have hy : (x + 13) % 14 < 14 := Nat.mod_lt _ (by decide)
  have hw := zWo_h hy
  refine zC_ofA (lv := [some (.ref (b + 33)), some (.ref (b + 3))]) (by decide) rfl (Nat.le_of_ble_eq_true rfl) ?_
  refine z_aload_n (q := 1) dX1_takeBack_0 rfl rfl ?_
  refine z_get (q := 4) dX1_takeBack_1 zfX1_26 (by first | exact zT_H | exact zT_K | exact zT_o hw) rfl rfl ?_
  refine z_eqi h2 ?_
  refine z_if_gt (tg := 8) (q := 7) dX1_takeBack_4 rfl rfl ?_ ?_
  · intro hc4
    refine z_aload_n (q := 9) dX1_takeBack_8 rfl rfl ?_
    refine z_aload_n (q := 10) dX1_takeBack_9 rfl rfl ?_
    refine z_get (q := 13) dX1_takeBack_10 zfX1_18 (by first | exact zT_H | exact zT_K | exact zT_o hw) rfl rfl ?_
    refine z_eqi h1 ?_
    refine z_bipush (q := 15) dX1_takeBack_13 zcb_14 rfl ?_
    refine z_iaddN (q := 16) dX1_takeBack_15 rfl ?_
    refine z_iconst (q := 17) dX1_takeBack_16 zci_1 rfl ?_
    refine z_isub (q := 18) dX1_takeBack_17 rfl ?_
    refine z_eqi (nI_sub (by omega)) ?_
    refine z_eqi (show nI (x + 14 - 1) = nI (x + 13) from rfl) ?_
    refine z_bipush (q := 20) dX1_takeBack_18 zcb_14 rfl ?_
    refine z_iremN (q := 21) dX1_takeBack_20 (by omega) (by omega) (by omega) rfl ?_
    refine z_putH (q := 24) dX1_takeBack_21 zfX1_18 (by decide) rfl ?_
    refine z_aload_n (q := 25) dX1_takeBack_24 rfl rfl ?_
    refine z_dup (q := 26) dX1_takeBack_25 rfl rfl ?_
    refine z_get (q := 29) dX1_takeBack_26 zfX1_26 (by first | exact zT_H | exact zT_K | exact zT_o hw) rfl rfl ?_
    refine z_eqi (show va_up d 33 _ 33 2 = nI (c + 1) by rw [zu_eq, zu_ne (by decide)]; exact h2) ?_
    refine z_iconst (q := 30) dX1_takeBack_29 zci_1 rfl ?_
    refine z_isub (q := 31) dX1_takeBack_30 rfl ?_
    refine z_eqi (nI_sub (by omega)) ?_
    refine z_eqi (show nI (c + 1 - 1) = nI c from rfl) ?_
    refine z_putH (q := 34) dX1_takeBack_31 zfX1_26 (by decide) rfl ?_
    rw [zu_up, zu_eq]
    refine z_aload_n (q := 35) dX1_takeBack_34 rfl rfl ?_
    refine z_aload_n (q := 36) dX1_takeBack_35 rfl rfl ?_
    refine z_get (q := 39) dX1_takeBack_36 zfX1_11 (by first | exact zT_H | exact zT_K | exact zT_o hw) rfl rfl ?_
    refine z_aload_n (q := 40) dX1_takeBack_39 rfl rfl ?_
    refine z_get (q := 43) dX1_takeBack_40 zfX1_18 (by first | exact zT_H | exact zT_K | exact zT_o hw) rfl rfl ?_
    refine z_eqi (show va_up d 33 _ 33 1 = nI ((x + 13) % 14) by rw [zu_eq, zu_ne (by decide), zu_eq]) ?_
    refine z_aald (q := 44) (x := b + (35 + 15 * ((x + 13) % 14))) dX1_takeBack_43 zT_K (by decide) hy rfl rfl ?_
    refine z_V1 (q := 47) dX1_takeBack_44 zkX1_22 zt_mX6_copyFrom rfl (zT_o (Or.inl rfl)) rfl (Nat.le_of_ble_eq_true rfl) (ct_X6_copyFrom (Or.inl rfl) hw (by omega)) (Nat.zero_le _) (Nat.zero_le _) rfl ?_
    rintro _ _ ⟨rfl, D, rfl, hD⟩
    exact z_ret dX1_takeBack_47 rfl (⟨rfl, D, rfl, hD⟩)
  · intro hc4
    exact absurd (nI_lt (show 0 < c + 1 by omega) (by omega)) hc4
