/-! ===== the component: its text ===== -/
theorem zT_X {g : zGl} {h : zHp} {b : Nat} {d : Nat → Nat → Int32} : (zpT g h b d).1 (b + 1) = some (.inr (5, [.ref (b + 2), .int (d 1 1)])) := zpT_c (c := 1) (by decide)
theorem z_putX {g : zGl} {Z : zZt} {k n pc q : Nat} {lv : List (Option Value)} {st : List Value} {h : zHp} {idx b : Nat} {C0 : String} {d : Nat → Nat → Int32} {v : Int32} (hd : decode Z.1.2.1 pc = .ok (.putfield idx, 3)) (hf : zFld Z.1.1.cls idx 5 1 .int false C0) (hp : pc + 3 = q) (kk : zA g Z k n q lv st (zpT g h b (va_up d 1 (va_up (d 1) 1 v)))) : zA g Z k n pc lv (.int v :: .ref (b + 1) :: st) (zpT g h b d) := by
  refine z_put hd hf zT_X (show 1 < 2 by decide) rfl rfl hp ?_
  rw [zpT_up (f := va_up (d 1) 1 v) (by decide)]
  · exact kk
  · rfl
set_option maxRecDepth 100000 in
set_option maxHeartbeats 4000000 in
theorem ct_X5_hasRoom {g : zGl} {h : zHp} {b L : Nat} {d : Nat → Nat → Int32} (hL : d 1 1 = nI L) (hL2 : L ≤ 120) : zC g mX5_hasRoom [.ref (b + 1)] (zpT g h b d) (zV (zpT g h b d) (.int (zbi (decide (L < 120))))) 0 0 := by
  refine zC_ofA (lv := [some (.ref (b + 1))]) (by decide) rfl (Nat.le_of_ble_eq_true rfl) ?_
  refine z_aload_n (q := 1) dX5_hasRoom_0 rfl rfl ?_
  refine z_get (q := 4) dX5_hasRoom_1 zfX5_15 (by first | exact zT_X | exact zpT_a (c := 2) rfl) rfl rfl ?_
  refine z_eqi hL ?_
  refine z_bipush (q := 6) dX5_hasRoom_4 zcb_120 rfl ?_
  refine z_icmp_geN (tg := 13) (q := 9) dX5_hasRoom_6 rfl rfl (by omega) (by omega) ?_ ?_
  · intro hc6
    refine z_iconst (q := 14) dX5_hasRoom_13 zci_0 rfl ?_
    exact z_retz dX5_hasRoom_14 rfl (by first | exact Or.inl rfl | exact Or.inr rfl) (by first | exact zVt (decide_eq_true (show L < 120 by omega)) | exact zVf (decide_eq_false (show ¬ L < 120 by omega)))
  · intro hc6
    refine z_iconst (q := 10) dX5_hasRoom_9 zci_1 rfl ?_
    refine z_goto (q := 0) (tg := 14) dX5_hasRoom_10 rfl ?_
    exact z_retz dX5_hasRoom_14 rfl (by first | exact Or.inl rfl | exact Or.inr rfl) (by first | exact zVt (decide_eq_true (show L < 120 by omega)) | exact zVf (decide_eq_false (show ¬ L < 120 by omega)))
set_option maxRecDepth 100000 in
set_option maxHeartbeats 4000000 in
theorem ct_X5_add {g : zGl} {h : zHp} {b L : Nat} {x : Int32} {d : Nat → Nat → Int32} (hL : d 1 1 = nI L) (hL2 : L < 120) : zC g mX5_add [.ref (b + 1), .int x] (zpT g h b d) (zU (zpT g h b (va_up (va_up d 2 (va_up (d 2) L x)) 1 (va_up (d 1) 1 (nI (L + 1)))))) 0 0 := by
  refine zC_ofA (lv := [some (.ref (b + 1)), some (.int x)]) (by decide) rfl (Nat.le_of_ble_eq_true rfl) ?_
  refine z_aload_n (q := 1) dX5_add_0 rfl rfl ?_
  refine z_v0 (q := 4) dX5_add_1 zkX5_19 zt_mX5_hasRoom rfl (by first | exact zT_X | exact zpT_a (c := 2) rfl) rfl (Nat.le_of_ble_eq_true rfl) (ct_X5_hasRoom hL (by omega)) rfl ?_
  refine z_ifb_eq (tg := 27) (q := 7) dX5_add_4 rfl rfl ?_ ?_
  · intro hc4
    exact absurd hc4 (by rw [decide_eq_true hL2]; decide)
  · intro hc4
    refine z_aload_n (q := 8) dX5_add_7 rfl rfl ?_
    refine z_get (q := 11) dX5_add_8 zfX5_9 (by first | exact zT_X | exact zpT_a (c := 2) rfl) rfl rfl ?_
    refine z_aload_n (q := 12) dX5_add_11 rfl rfl ?_
    refine z_get (q := 15) dX5_add_12 zfX5_15 (by first | exact zT_X | exact zpT_a (c := 2) rfl) rfl rfl ?_
    refine z_eqi hL ?_
    refine z_iload_n (q := 16) dX5_add_15 rfl rfl ?_
    refine z_iastT (q := 17) dX5_add_16 (show zTl 2 = some 120 from rfl) (by omega) rfl ?_
    refine z_aload_n (q := 18) dX5_add_17 rfl rfl ?_
    refine z_dup (q := 19) dX5_add_18 rfl rfl ?_
    refine z_get (q := 22) dX5_add_19 zfX5_15 (by first | exact zT_X | exact zpT_a (c := 2) rfl) rfl rfl ?_
    refine z_eqi (show va_up d 2 _ 1 1 = nI L from hL) ?_
    refine z_iconst (q := 23) dX5_add_22 zci_1 rfl ?_
    refine z_iaddN (q := 24) dX5_add_23 rfl ?_
    refine z_putX (q := 27) dX5_add_24 zfX5_15 rfl ?_
    exact z_ret dX5_add_27 rfl (⟨rfl, rfl⟩)
/-- the code at a place, -1 behind the end -/
def qCo (v : Nat → Int32) (L i : Nat) : Int32 := if i < L then v i else -1
set_option maxRecDepth 100000 in
set_option maxHeartbeats 4000000 in
theorem ct_X5_codeAt {g : zGl} {h : zHp} {b L i : Nat} {d : Nat → Nat → Int32} (hL : d 1 1 = nI L) (hL2 : L ≤ 120) (hi : i < 1000) : zC g mX5_codeAt [.ref (b + 1), .int (nI i)] (zpT g h b d) (zV (zpT g h b d) (.int (qCo (d 2) L i))) 0 0 := by
  refine zC_ofA (lv := [some (.ref (b + 1)), some (.int (nI i))]) (by decide) rfl (Nat.le_of_ble_eq_true rfl) ?_
  refine z_iload_n (q := 1) dX5_codeAt_0 rfl rfl ?_
  refine z_if_lt (tg := 21) (q := 4) dX5_codeAt_1 rfl rfl ?_ ?_
  · intro hc1
    exact absurd hc1 (nI_pos (by omega))
  · intro hc1
    refine z_iload_n (q := 5) dX5_codeAt_4 rfl rfl ?_
    refine z_aload_n (q := 6) dX5_codeAt_5 rfl rfl ?_
    refine z_get (q := 9) dX5_codeAt_6 zfX5_15 (by first | exact zT_X | exact zpT_a (c := 2) rfl) rfl rfl ?_
    refine z_eqi hL ?_
    refine z_icmp_geN (tg := 21) (q := 12) dX5_codeAt_9 rfl rfl (by omega) (by omega) ?_ ?_
    · intro hc9
      refine z_iconst (q := 22) dX5_codeAt_21 zci_m1 rfl ?_
      exact z_reti dX5_codeAt_22 rfl (by first | exact ⟨by rw [qCo, if_pos hc9], rfl⟩ | exact ⟨by rw [qCo, if_neg (by omega)], rfl⟩)
    · intro hc9
      refine z_aload_n (q := 13) dX5_codeAt_12 rfl rfl ?_
      refine z_get (q := 16) dX5_codeAt_13 zfX5_9 (by first | exact zT_X | exact zpT_a (c := 2) rfl) rfl rfl ?_
      refine z_iload_n (q := 17) dX5_codeAt_16 rfl rfl ?_
      refine z_iald (q := 18) dX5_codeAt_17 (by first | exact zT_X | exact zpT_a (c := 2) rfl) (by omega) (by omega) rfl ?_
      refine z_goto (q := 0) (tg := 22) dX5_codeAt_18 rfl ?_
      exact z_reti dX5_codeAt_22 rfl (by first | exact ⟨by rw [qCo, if_pos hc9], rfl⟩ | exact ⟨by rw [qCo, if_neg (by omega)], rfl⟩)
