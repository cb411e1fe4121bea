/-! ===== the component: sets, sums, who hears whom ===== -/
/-- the set of the numbers below n that p holds of -/
def mk (p : Nat → Bool) : Nat → Nat
  | 0 => 0
  | n + 1 => mk p n ||| (if p n then 2 ^ n else 0)
theorem mk_t {p : Nat → Bool} {i : Nat} (h : p i = true) : mk p (i + 1) = mk p i ||| 2 ^ i := by rw [mk, if_pos h]
theorem mk_f {p : Nat → Bool} {i : Nat} (h : p i = false) : mk p (i + 1) = mk p i := by rw [mk, if_neg (by rw [h]; decide), Nat.or_zero]
theorem mk_tb {p : Nat → Bool} {n i : Nat} : (mk p n).testBit i = (decide (i < n) && p i) := by
  induction n with
  | zero => simp [mk]
  | succ n ih =>
    rw [mk, Nat.testBit_or, ih]
    by_cases hp : p n = true
    · rw [if_pos hp, Nat.testBit_two_pow]
      by_cases hi : n = i
      · subst hi
        simp [hp]
      · have h1 : (i < n + 1) = (i < n) := propext (by omega)
        simp [hi, h1]
    · rw [if_neg hp, Nat.zero_testBit, Bool.or_false]
      by_cases hi : n = i
      · subst hi
        simp [hp]
      · have h1 : (i < n + 1) = (i < n) := propext (by omega)
        simp [h1]
theorem mk_lt {p : Nat → Bool} {n : Nat} : mk p n < 2 ^ n := Nat.lt_pow_two_of_testBit _ (fun i hi => by rw [mk_tb]; simp; omega)
theorem mk_eq {p : Nat → Bool} {n S : Nat} (hS : S < 2 ^ n) (h : ∀ a, a < n → S.testBit a = p a) : S = mk p n := by
  apply Nat.eq_of_testBit_eq
  intro i
  rw [mk_tb]
  by_cases hi : i < n
  · rw [h i hi]
    simp [hi]
  · have h2 : S.testBit i = false := Nat.testBit_lt_two_pow (Nat.lt_of_lt_of_le hS (Nat.pow_le_pow_right (by decide) (by omega)))
    rw [h2]
    simp [hi]
theorem mk_congr {p q : Nat → Bool} {n : Nat} (h : ∀ a, a < n → p a = q a) : mk p n = mk q n := by
  apply Nat.eq_of_testBit_eq
  intro i
  rw [mk_tb, mk_tb]
  by_cases hi : i < n
  · rw [h i hi]
  · simp [hi]
theorem mk_i {p : Nat → Bool} {n : Nat} (hn : n ≤ 31) : qIt (fun b c => c ||| (if p b then nI 1 <<< (nI b &&& 31) else nI 0)) (nI 0) n = nI (mk p n) := by
  induction n with
  | zero => rfl
  | succ n ih =>
    show qIt _ (nI 0) n ||| _ = _
    rw [ih (by omega), mk, nI_shl (by omega), ← nI_or]
    cases p n <;> rfl
theorem nI_andn (a b : Nat) : ∀ i, i < 32 → (nI a &&& (nI b ^^^ (-1))).toBitVec.getLsbD i = (a.testBit i && !b.testBit i) := by
  intro i hi
  have h1 : (-1 : Int32).toBitVec = BitVec.allOnes 32 := by decide
  simp only [nI, Int32.toBitVec_and, Int32.toBitVec_xor, h1, Int32.toBitVec_ofNat', BitVec.getLsbD_and, BitVec.getLsbD_xor, BitVec.getLsbD_allOnes, BitVec.getLsbD_ofNat, hi, decide_true, Bool.true_and, Bool.xor_true]
theorem mk_andn {p q : Nat → Bool} {n : Nat} : nI (mk p n) &&& (nI (mk q n) ^^^ (-1)) = nI (mk (fun a => p a && !q a) n) := by
  apply Int32.toBitVec_inj.mp
  apply BitVec.eq_of_getLsbD_eq
  intro i hi
  rw [nI_andn _ _ i hi, mk_tb, mk_tb]
  simp only [nI, Int32.toBitVec_ofNat', BitVec.getLsbD_ofNat, hi, decide_true, Bool.true_and, mk_tb]
  by_cases h : i < n <;> simp [h]
theorem mk_0 {p : Nat → Bool} {n : Nat} : mk p n = 0 ↔ ∀ a, a < n → p a = false := by
  constructor
  · intro h a ha
    have h2 := mk_tb (p := p) (n := n) (i := a)
    rw [h, Nat.zero_testBit] at h2
    simpa [ha] using h2.symm
  · intro h
    induction n with
    | zero => rfl
    | succ n ih => rw [mk_f (h n (by omega)), ih (fun a ha => h a (by omega))]
/-- how many bits -/
def pcN (S : Nat) : Nat := S % 2 + S / 2 % 2 + S / 4 % 2 + S / 8 % 2 + S / 16 % 2 + S / 32 % 2
def ush (x : Int32) (k : Nat) : Int32 := (x.toUInt32 >>> ((nI k).toUInt32 &&& Int32.toUInt32 31)).toInt32
def qBc1 (x : Int32) : Int32 := x - (ush x 1 &&& 1431655765)
def qBc2 (x : Int32) : Int32 := (x &&& 858993459) + (ush x 2 &&& 858993459)
def qBc3 (x : Int32) : Int32 := (x + ush x 4) &&& 252645135
def qBc4 (x : Int32) : Int32 := x + ush x 8
def qBc5 (x : Int32) : Int32 := x + ush x 16
def qBc (x : Int32) : Int32 := qBc5 (qBc4 (qBc3 (qBc2 (qBc1 x)))) &&& nI 63
theorem qBc_i : ∀ S : Fin 64, qBc (nI S) = nI (pcN S) := by decide +kernel
set_option maxRecDepth 100000 in
set_option maxHeartbeats 4000000 in
theorem ct_J6_bitCount {g : zGl} {h : zHp} {S : Nat} (hS : S < 64) : zC g mJ6_bitCount_0f7a4 [.int (nI S)] h (zV h (.int (nI (pcN S)))) 0 0 := by
  rw [← qBc_i ⟨S, hS⟩]
  refine zC_ofA (lv := [some (.int (nI S))]) (by decide) rfl (Nat.le_of_ble_eq_true rfl) ?_
  refine z_iload_n (q := 1) dJ6_bitCount_0f7a4_0 rfl rfl ?_
  refine z_iload_n (q := 2) dJ6_bitCount_0f7a4_1 rfl rfl ?_
  refine z_iconst (q := 3) dJ6_bitCount_0f7a4_2 zci_1 rfl ?_
  refine z_iushr (q := 4) dJ6_bitCount_0f7a4_3 rfl rfl ?_
  refine z_ldcw (q := 7) dJ6_bitCount_0f7a4_4 zqJ6_265 rfl ?_
  refine z_iand (q := 8) dJ6_bitCount_0f7a4_7 rfl ?_
  refine z_isub (q := 9) dJ6_bitCount_0f7a4_8 rfl ?_
  refine z_eqi (show _ = qBc1 (nI S) from rfl) ?_
  refine z_istore_n (q := 10) dJ6_bitCount_0f7a4_9 (Nat.le_of_ble_eq_true rfl) rfl rfl ?_
  refine z_iload_n (q := 11) dJ6_bitCount_0f7a4_10 rfl rfl ?_
  refine z_ldcw (q := 14) dJ6_bitCount_0f7a4_11 zqJ6_266 rfl ?_
  refine z_iand (q := 15) dJ6_bitCount_0f7a4_14 rfl ?_
  refine z_iload_n (q := 16) dJ6_bitCount_0f7a4_15 rfl rfl ?_
  refine z_iconst (q := 17) dJ6_bitCount_0f7a4_16 zci_2 rfl ?_
  refine z_iushr (q := 18) dJ6_bitCount_0f7a4_17 rfl rfl ?_
  refine z_ldcw (q := 21) dJ6_bitCount_0f7a4_18 zqJ6_266 rfl ?_
  refine z_iand (q := 22) dJ6_bitCount_0f7a4_21 rfl ?_
  refine z_iadd (q := 23) dJ6_bitCount_0f7a4_22 rfl ?_
  refine z_eqi (show _ = qBc2 (qBc1 (nI S)) from rfl) ?_
  refine z_istore_n (q := 24) dJ6_bitCount_0f7a4_23 (Nat.le_of_ble_eq_true rfl) rfl rfl ?_
  refine z_iload_n (q := 25) dJ6_bitCount_0f7a4_24 rfl rfl ?_
  refine z_iload_n (q := 26) dJ6_bitCount_0f7a4_25 rfl rfl ?_
  refine z_iconst (q := 27) dJ6_bitCount_0f7a4_26 zci_4 rfl ?_
  refine z_iushr (q := 28) dJ6_bitCount_0f7a4_27 rfl rfl ?_
  refine z_iadd (q := 29) dJ6_bitCount_0f7a4_28 rfl ?_
  refine z_ldcw (q := 32) dJ6_bitCount_0f7a4_29 zqJ6_267 rfl ?_
  refine z_iand (q := 33) dJ6_bitCount_0f7a4_32 rfl ?_
  refine z_eqi (show _ = qBc3 (qBc2 (qBc1 (nI S))) from rfl) ?_
  refine z_istore_n (q := 34) dJ6_bitCount_0f7a4_33 (Nat.le_of_ble_eq_true rfl) rfl rfl ?_
  refine z_iload_n (q := 35) dJ6_bitCount_0f7a4_34 rfl rfl ?_
  refine z_iload_n (q := 36) dJ6_bitCount_0f7a4_35 rfl rfl ?_
  refine z_bipush (q := 38) dJ6_bitCount_0f7a4_36 zcb_8 rfl ?_
  refine z_iushr (q := 39) dJ6_bitCount_0f7a4_38 rfl rfl ?_
  refine z_iadd (q := 40) dJ6_bitCount_0f7a4_39 rfl ?_
  refine z_eqi (show _ = qBc4 (qBc3 (qBc2 (qBc1 (nI S)))) from rfl) ?_
  refine z_istore_n (q := 41) dJ6_bitCount_0f7a4_40 (Nat.le_of_ble_eq_true rfl) rfl rfl ?_
  refine z_iload_n (q := 42) dJ6_bitCount_0f7a4_41 rfl rfl ?_
  refine z_iload_n (q := 43) dJ6_bitCount_0f7a4_42 rfl rfl ?_
  refine z_bipush (q := 45) dJ6_bitCount_0f7a4_43 zcb_16 rfl ?_
  refine z_iushr (q := 46) dJ6_bitCount_0f7a4_45 rfl rfl ?_
  refine z_iadd (q := 47) dJ6_bitCount_0f7a4_46 rfl ?_
  refine z_eqi (show _ = qBc5 (qBc4 (qBc3 (qBc2 (qBc1 (nI S))))) from rfl) ?_
  refine z_istore_n (q := 48) dJ6_bitCount_0f7a4_47 (Nat.le_of_ble_eq_true rfl) rfl rfl ?_
  refine z_iload_n (q := 49) dJ6_bitCount_0f7a4_48 rfl rfl ?_
  refine z_bipush (q := 51) dJ6_bitCount_0f7a4_49 zcb_63 rfl ?_
  refine z_iand (q := 52) dJ6_bitCount_0f7a4_51 rfl ?_
  exact z_reti dJ6_bitCount_0f7a4_52 rfl (⟨rfl, rfl⟩)
theorem qMn_eq {x y : Int32} : qMn x y = if y ≤ x then y else x := by
  rw [qMn]
  by_cases h : y < x
  · rw [if_pos h, if_pos (Int32.le_of_lt h)]
  · rw [if_neg h]
    by_cases h2 : y ≤ x
    · rw [if_pos h2]
      exact Int32.le_antisymm (Int32.not_lt.mp h) h2
    · rw [if_neg h2]
set_option maxRecDepth 100000 in
set_option maxHeartbeats 4000000 in
theorem ct_X6_areInTouch {g : zGl} {h : zHp} {b o n K a c : Nat} {d : Nat → Nat → Int32} {f : Nat → Int32} (hw : zWo o) (hR : zR d o f n K) (ha : a < n) (hc : c < n) : zC g mX6_areInTouch [.ref (b + o), .int (nI a), .int (nI c)] (zpT g h b d) (zV (zpT g h b d) (.int (zbi (qHears f a c)))) 0 0 := by
  have hn := zR_n6 hR
  obtain ⟨e1, e2, e3, -⟩ := zR_a hR ha
  obtain ⟨e4, e5, e6, -⟩ := zR_a hR hc
  have w1 := zWF_a hR.1 ha
  have w2 := zWF_a hR.1 hc
  refine zC_ofA (lv := [some (.ref (b + o)), some (.int (nI a)), some (.int (nI c))]) (by decide) rfl (Nat.le_of_ble_eq_true rfl) ?_
  refine z_iload_n (q := 1) dX6_areInTouch_0 rfl rfl ?_
  refine z_iload_n (q := 2) dX6_areInTouch_1 rfl rfl ?_
  refine z_icmp_eqN (tg := 70) (q := 5) dX6_areInTouch_2 rfl rfl (by omega) (by omega) ?_ ?_
  · intro hc2
    refine z_iconst (q := 71) dX6_areInTouch_70 zci_0 rfl ?_
    exact z_retz dX6_areInTouch_71 rfl (by first | exact Or.inl rfl | exact Or.inr rfl) (by first | exact zVt (by simp only [qHears, hc2]; rfl) | exact zVf (by first | (simp [qHears, hc2]; done) | (simp only [qHears, hc2]; rfl)))
  · intro hc2
    refine z_aload_n (q := 6) dX6_areInTouch_5 rfl rfl ?_
    refine z_iload_n (q := 7) dX6_areInTouch_6 rfl rfl ?_
    refine z_v1 (q := 10) dX6_areInTouch_7 zkX6_93 zt_mX6_isOn rfl (by first | exact zT_o hw | exact zT_w hw rfl | exact zT_N (zNo_w hw) | exact zT_n (zNo_w hw) (by decide) | exact hr) rfl (Nat.le_of_ble_eq_true rfl) (ct_X6_isOn hw hR ha) rfl ?_
    refine z_ifb_eq (tg := 70) (q := 13) dX6_areInTouch_10 rfl rfl ?_ ?_
    · intro hc10
      refine z_iconst (q := 71) dX6_areInTouch_70 zci_0 rfl ?_
      exact z_retz dX6_areInTouch_71 rfl (by first | exact Or.inl rfl | exact Or.inr rfl) (by first | exact zVt (by simp only [qHears, hc2, hc10]; rfl) | exact zVf (by first | (simp [qHears, hc2, hc10]; done) | (simp only [qHears, hc2, hc10]; rfl)))
    · intro hc10
      refine z_aload_n (q := 14) dX6_areInTouch_13 rfl rfl ?_
      refine z_iload_n (q := 15) dX6_areInTouch_14 rfl rfl ?_
      refine z_v1 (q := 18) dX6_areInTouch_15 zkX6_93 zt_mX6_isOn rfl (by first | exact zT_o hw | exact zT_w hw rfl | exact zT_N (zNo_w hw) | exact zT_n (zNo_w hw) (by decide) | exact hr) rfl (Nat.le_of_ble_eq_true rfl) (ct_X6_isOn hw hR hc) rfl ?_
      refine z_ifb_eq (tg := 70) (q := 21) dX6_areInTouch_18 rfl rfl ?_ ?_
      · intro hc18
        refine z_iconst (q := 71) dX6_areInTouch_70 zci_0 rfl ?_
        exact z_retz dX6_areInTouch_71 rfl (by first | exact Or.inl rfl | exact Or.inr rfl) (by first | exact zVt (by simp only [qHears, hc2, hc10, hc18]; rfl) | exact zVf (by first | (simp [qHears, hc2, hc10, hc18]; done) | (simp only [qHears, hc2, hc10, hc18]; rfl)))
      · intro hc18
        refine z_aload_n (q := 22) dX6_areInTouch_21 rfl rfl ?_
        refine z_get (q := 25) dX6_areInTouch_22 zfX6_15 (by first | exact zT_o hw | exact zT_w hw rfl | exact zT_N (zNo_w hw) | exact zT_n (zNo_w hw) (by decide) | exact hr) rfl rfl ?_
        refine z_iload_n (q := 26) dX6_areInTouch_25 rfl rfl ?_
        refine z_iald (q := 27) dX6_areInTouch_26 (by first | exact zT_o hw | exact zT_w hw rfl | exact zT_N (zNo_w hw) | exact zT_n (zNo_w hw) (by decide) | exact hr) (by omega) (by omega) rfl ?_
        refine z_eqi e1 ?_
        refine z_aload_n (q := 28) dX6_areInTouch_27 rfl rfl ?_
        refine z_get (q := 31) dX6_areInTouch_28 zfX6_19 (by first | exact zT_o hw | exact zT_w hw rfl | exact zT_N (zNo_w hw) | exact zT_n (zNo_w hw) (by decide) | exact hr) rfl rfl ?_
        refine z_iload_n (q := 32) dX6_areInTouch_31 rfl rfl ?_
        refine z_iald (q := 33) dX6_areInTouch_32 (by first | exact zT_o hw | exact zT_w hw rfl | exact zT_N (zNo_w hw) | exact zT_n (zNo_w hw) (by decide) | exact hr) (by omega) (by omega) rfl ?_
        refine z_eqi e2 ?_
        refine z_aload_n (q := 34) dX6_areInTouch_33 rfl rfl ?_
        refine z_get (q := 37) dX6_areInTouch_34 zfX6_15 (by first | exact zT_o hw | exact zT_w hw rfl | exact zT_N (zNo_w hw) | exact zT_n (zNo_w hw) (by decide) | exact hr) rfl rfl ?_
        refine z_iload_n (q := 38) dX6_areInTouch_37 rfl rfl ?_
        refine z_iald (q := 39) dX6_areInTouch_38 (by first | exact zT_o hw | exact zT_w hw rfl | exact zT_N (zNo_w hw) | exact zT_n (zNo_w hw) (by decide) | exact hr) (by omega) (by omega) rfl ?_
        refine z_eqi e4 ?_
        refine z_aload_n (q := 40) dX6_areInTouch_39 rfl rfl ?_
        refine z_get (q := 43) dX6_areInTouch_40 zfX6_19 (by first | exact zT_o hw | exact zT_w hw rfl | exact zT_N (zNo_w hw) | exact zT_n (zNo_w hw) (by decide) | exact hr) rfl rfl ?_
        refine z_iload_n (q := 44) dX6_areInTouch_43 rfl rfl ?_
        refine z_iald (q := 45) dX6_areInTouch_44 (by first | exact zT_o hw | exact zT_w hw rfl | exact zT_N (zNo_w hw) | exact zT_n (zNo_w hw) (by decide) | exact hr) (by omega) (by omega) rfl ?_
        refine z_eqi e5 ?_
        refine z_s4 (q := 48) dX6_areInTouch_45 zkX6_75 zt_mX7_distanceOf rfl (Nat.le_of_ble_eq_true rfl) (ct_X7_distanceOf) rfl ?_
        refine z_eqi (show _ = qApart f a c by rw [qApart, qDst_sz w1.1 w2.1, qDst_sz w1.2.1 w2.2.1]) ?_
        refine z_aload_n (q := 49) dX6_areInTouch_48 rfl rfl ?_
        refine z_get (q := 52) dX6_areInTouch_49 zfX6_22 (by first | exact zT_o hw | exact zT_w hw rfl | exact zT_N (zNo_w hw) | exact zT_n (zNo_w hw) (by decide) | exact hr) rfl rfl ?_
        refine z_iload_n (q := 53) dX6_areInTouch_52 rfl rfl ?_
        refine z_iald (q := 54) dX6_areInTouch_53 (by first | exact zT_o hw | exact zT_w hw rfl | exact zT_N (zNo_w hw) | exact zT_n (zNo_w hw) (by decide) | exact hr) (by omega) (by omega) rfl ?_
        refine z_eqi e3 ?_
        refine z_aload_n (q := 55) dX6_areInTouch_54 rfl rfl ?_
        refine z_get (q := 58) dX6_areInTouch_55 zfX6_22 (by first | exact zT_o hw | exact zT_w hw rfl | exact zT_N (zNo_w hw) | exact zT_n (zNo_w hw) (by decide) | exact hr) rfl rfl ?_
        refine z_iload_n (q := 59) dX6_areInTouch_58 rfl rfl ?_
        refine z_iald (q := 60) dX6_areInTouch_59 (by first | exact zT_o hw | exact zT_w hw rfl | exact zT_N (zNo_w hw) | exact zT_n (zNo_w hw) (by decide) | exact hr) (by omega) (by omega) rfl ?_
        refine z_eqi e6 ?_
        refine z_mmin (q := 63) dX6_areInTouch_60 zw330 (Nat.le_of_ble_eq_true rfl) (Nat.le_of_ble_eq_true rfl) rfl ?_
        refine z_eqi qMn_eq ?_
        refine z_icmp_gt (tg := 70) (q := 66) dX6_areInTouch_63 rfl rfl ?_ ?_
        · intro hc63
          refine z_iconst (q := 71) dX6_areInTouch_70 zci_0 rfl ?_
          exact z_retz dX6_areInTouch_71 rfl (by first | exact Or.inl rfl | exact Or.inr rfl) (by first | exact zVt (by simp only [qHears, hc2, hc10, hc18, hc63]; rfl) | exact zVf (by first | (simp [qHears, hc2, hc10, hc18, hc63]; done) | (simp only [qHears, hc2, hc10, hc18, hc63]; rfl)))
        · intro hc63
          refine z_iconst (q := 67) dX6_areInTouch_66 zci_1 rfl ?_
          refine z_goto (q := 0) (tg := 71) dX6_areInTouch_67 rfl ?_
          exact z_retz dX6_areInTouch_71 rfl (by first | exact Or.inl rfl | exact Or.inr rfl) (by first | exact zVt (by simp only [qHears, hc2, hc10, hc18, hc63]; rfl) | exact zVf (by first | (simp [qHears, hc2, hc10, hc18, hc63]; done) | (simp only [qHears, hc2, hc10, hc18, hc63]; rfl)))
set_option maxRecDepth 100000 in
set_option maxHeartbeats 4000000 in
theorem ct_X6_heardBy {g : zGl} {h : zHp} {b o n K a : Nat} {d : Nat → Nat → Int32} {f : Nat → Int32} (hw : zWo o) (hR : zR d o f n K) (ha : a < n) : zC g mX6_heardBy [.ref (b + o), .int (nI a)] (zpT g h b d) (zV (zpT g h b d) (.int (nI (mk (qHears f a) n)))) 0 0 := by
  have hn := zR_n6 hR
  refine zC_ofA (lv := [some (.ref (b + o)), some (.int (nI a)), none, none]) (by decide) rfl (Nat.le_of_ble_eq_true rfl) ?_
  have loop : ∀ r i, i + r = n → zA g (zZc g mX6_heardBy (zV (zpT g h b d) (.int (nI (mk (qHears f a) n)))) 0 0) 0 0 4 [some (.ref (b + o)), some (.int (nI a)), some (.int (nI (mk (qHears f a) i))), some (.int (nI i))] [] (zpT g h b d) := by
    intro r
    induction r using Nat.strongRecOn with
    | ind r ih =>
      intro i hi
      refine z_iload_n (q := 5) dX6_heardBy_4 rfl rfl ?_
      refine z_aload_n (q := 6) dX6_heardBy_5 rfl rfl ?_
      refine z_get (q := 9) dX6_heardBy_6 zfX6_50 (by first | exact zT_o hw | exact zT_w hw rfl | exact zT_N (zNo_w hw) | exact zT_n (zNo_w hw) (by decide) | exact hr) rfl rfl ?_
      refine z_eqi (zR_0 hR) ?_
      refine z_icmp_geN (tg := 33) (q := 12) dX6_heardBy_9 rfl rfl (by omega) (by omega) ?_ ?_
      · intro hc9
        refine z_iload_n (q := 34) dX6_heardBy_33 rfl rfl ?_
        exact z_reti dX6_heardBy_34 rfl (⟨by rw [show i = n by omega], rfl⟩)
      · intro hc9
        refine z_aload_n (q := 13) dX6_heardBy_12 rfl rfl ?_
        refine z_iload_n (q := 14) dX6_heardBy_13 rfl rfl ?_
        refine z_iload_n (q := 15) dX6_heardBy_14 rfl rfl ?_
        refine z_v2 (q := 18) dX6_heardBy_15 zkX6_102 zt_mX6_areInTouch rfl (by first | exact zT_o hw | exact zT_w hw rfl | exact zT_N (zNo_w hw) | exact zT_n (zNo_w hw) (by decide) | exact hr) rfl (Nat.le_of_ble_eq_true rfl) (ct_X6_areInTouch hw hR ha (by omega)) rfl ?_
        refine z_ifb_eq (tg := 27) (q := 21) dX6_heardBy_18 rfl rfl ?_ ?_
        · intro hc18
          refine z_iincN (q := 30) dX6_heardBy_27 rfl rfl rfl ?_
          refine z_goto (q := 0) (tg := 4) dX6_heardBy_30 rfl ?_
          have e9 := ih (r - 1) (by omega) (i + 1) (by omega)
          first
            | (rw [mk_t hc18] at e9; exact e9)
            | (rw [mk_f hc18] at e9; exact e9)
        · intro hc18
          refine z_iload_n (q := 22) dX6_heardBy_21 rfl rfl ?_
          refine z_iconst (q := 23) dX6_heardBy_22 zci_1 rfl ?_
          refine z_iload_n (q := 24) dX6_heardBy_23 rfl rfl ?_
          refine z_ishl (q := 25) dX6_heardBy_24 rfl ?_
          refine z_eqi (nI_shl (by omega)) ?_
          refine z_ior (q := 26) dX6_heardBy_25 rfl ?_
          refine z_eqi (nI_or _ _) ?_
          refine z_istore_n (q := 27) dX6_heardBy_26 (Nat.le_of_ble_eq_true rfl) rfl rfl ?_
          refine z_iincN (q := 30) dX6_heardBy_27 rfl rfl rfl ?_
          refine z_goto (q := 0) (tg := 4) dX6_heardBy_30 rfl ?_
          have e9 := ih (r - 1) (by omega) (i + 1) (by omega)
          first
            | (rw [mk_t hc18] at e9; exact e9)
            | (rw [mk_f hc18] at e9; exact e9)
  refine z_iconst (q := 1) dX6_heardBy_0 zci_0 rfl ?_
  refine z_istore_n (q := 2) dX6_heardBy_1 (Nat.le_of_ble_eq_true rfl) rfl rfl ?_
  refine z_iconst (q := 3) dX6_heardBy_2 zci_0 rfl ?_
  refine z_istore_n (q := 4) dX6_heardBy_3 (Nat.le_of_ble_eq_true rfl) rfl rfl ?_
  exact loop n 0 (by omega)
set_option maxRecDepth 100000 in
set_option maxHeartbeats 4000000 in
theorem ct_X6_finishedTasks {g : zGl} {h : zHp} {b o n K : Nat} {d : Nat → Nat → Int32} {f : Nat → Int32} (hw : zWo o) (hR : zR d o f n K) : zC g mX6_finishedTasks [.ref (b + o)] (zpT g h b d) (zV (zpT g h b d) (.int (qFin f K))) 0 0 := by
  have hK := zR_K8 hR
  refine zC_ofA (lv := [some (.ref (b + o)), none, none]) (by decide) rfl (Nat.le_of_ble_eq_true rfl) ?_
  have loop : ∀ r i, i + r = K → zA g (zZc g mX6_finishedTasks (zV (zpT g h b d) (.int (qFin f K))) 0 0) 0 0 4 [some (.ref (b + o)), some (.int (qFin f i)), some (.int (nI i))] [] (zpT g h b d) := by
    intro r
    induction r using Nat.strongRecOn with
    | ind r ih =>
      intro i hi
      have e0 : qFin f (i + 1) = qFin f i + zbi (qDone f i) := rfl
      refine z_iload_n (q := 5) dX6_finishedTasks_4 rfl rfl ?_
      refine z_aload_n (q := 6) dX6_finishedTasks_5 rfl rfl ?_
      refine z_get (q := 9) dX6_finishedTasks_6 zfX6_53 (by first | exact zT_o hw | exact zT_w hw rfl | exact zT_N (zNo_w hw) | exact zT_n (zNo_w hw) (by decide) | exact hr) rfl rfl ?_
      refine z_eqi (zR_1 hR) ?_
      refine z_icmp_geN (tg := 29) (q := 12) dX6_finishedTasks_9 rfl rfl (by omega) (by omega) ?_ ?_
      · intro hc9
        refine z_iload_n (q := 30) dX6_finishedTasks_29 rfl rfl ?_
        exact z_reti dX6_finishedTasks_30 rfl (⟨by rw [show i = K by omega], rfl⟩)
      · intro hc9
        refine z_aload_n (q := 13) dX6_finishedTasks_12 rfl rfl ?_
        refine z_iload_n (q := 14) dX6_finishedTasks_13 rfl rfl ?_
        refine z_v1 (q := 17) dX6_finishedTasks_14 zkX6_131 zt_mX6_isFinished rfl (by first | exact zT_o hw | exact zT_w hw rfl | exact zT_N (zNo_w hw) | exact zT_n (zNo_w hw) (by decide) | exact hr) rfl (Nat.le_of_ble_eq_true rfl) (ct_X6_isFinished hw hR (by omega)) rfl ?_
        refine z_ifb_eq (tg := 23) (q := 20) dX6_finishedTasks_17 rfl rfl ?_ ?_
        · intro hc17
          refine z_iincN (q := 26) dX6_finishedTasks_23 rfl rfl rfl ?_
          refine z_goto (q := 0) (tg := 4) dX6_finishedTasks_26 rfl ?_
          have e9 := ih (r - 1) (by omega) (i + 1) (by omega)
          rw [e0, hc17] at e9
          first
            | exact e9
            | (rw [show qFin f i + zbi false = qFin f i from Int32.add_zero _] at e9; exact e9)
        · intro hc17
          refine z_iinc (q := 23) dX6_finishedTasks_20 rfl rfl rfl rfl ?_
          refine z_iincN (q := 26) dX6_finishedTasks_23 rfl rfl rfl ?_
          refine z_goto (q := 0) (tg := 4) dX6_finishedTasks_26 rfl ?_
          have e9 := ih (r - 1) (by omega) (i + 1) (by omega)
          rw [e0, hc17] at e9
          first
            | exact e9
            | (rw [show qFin f i + zbi false = qFin f i from Int32.add_zero _] at e9; exact e9)
  refine z_iconst (q := 1) dX6_finishedTasks_0 zci_0 rfl ?_
  refine z_istore_n (q := 2) dX6_finishedTasks_1 (Nat.le_of_ble_eq_true rfl) rfl rfl ?_
  refine z_iconst (q := 3) dX6_finishedTasks_2 zci_0 rfl ?_
  refine z_istore_n (q := 4) dX6_finishedTasks_3 (Nat.le_of_ble_eq_true rfl) rfl rfl ?_
  exact loop K 0 (by omega)
set_option maxRecDepth 100000 in
set_option maxHeartbeats 4000000 in
theorem ct_X6_sumOf {g : zGl} {h : zHp} {r N n : Nat} {v : Nat → Int32} (hr : h.1 r = some (zI g N v)) (hn : n ≤ N) (hN : N < 100) : zC g mX6_sumOf [.ref r, .int (nI n)] h (zV h (.int (qIt (fun i c => c + v i) (nI 0) n))) 0 0 := by
  refine zC_ofA (lv := [some (.ref r), some (.int (nI n)), none, none]) (by decide) rfl (Nat.le_of_ble_eq_true rfl) ?_
  have loop : ∀ q i, i + q = n → zA g (zZc g mX6_sumOf (zV h (.int (qIt (fun i c => c + v i) (nI 0) n))) 0 0) 0 0 4 [some (.ref r), some (.int (nI n)), some (.int (qIt (fun i c => c + v i) (nI 0) i)), some (.int (nI i))] [] h := by
    intro q
    induction q using Nat.strongRecOn with
    | ind q ih =>
      intro i hi
      refine z_iload_n (q := 5) dX6_sumOf_4 rfl rfl ?_
      refine z_iload_n (q := 6) dX6_sumOf_5 rfl rfl ?_
      refine z_icmp_geN (tg := 21) (q := 9) dX6_sumOf_6 rfl rfl (by omega) (by omega) ?_ ?_
      · intro hc6
        refine z_iload_n (q := 22) dX6_sumOf_21 rfl rfl ?_
        exact z_reti dX6_sumOf_22 rfl (⟨by rw [show i = n by omega], rfl⟩)
      · intro hc6
        refine z_iload_n (q := 10) dX6_sumOf_9 rfl rfl ?_
        refine z_aload_n (q := 11) dX6_sumOf_10 rfl rfl ?_
        refine z_iload_n (q := 12) dX6_sumOf_11 rfl rfl ?_
        refine z_iald (q := 13) dX6_sumOf_12 (by first | exact zT_o hw | exact zT_w hw rfl | exact zT_N (zNo_w hw) | exact zT_n (zNo_w hw) (by decide) | exact hr) (by omega) (by omega) rfl ?_
        refine z_iadd (q := 14) dX6_sumOf_13 rfl ?_
        refine z_istore_n (q := 15) dX6_sumOf_14 (Nat.le_of_ble_eq_true rfl) rfl rfl ?_
        refine z_iincN (q := 18) dX6_sumOf_15 rfl rfl rfl ?_
        refine z_goto (q := 0) (tg := 4) dX6_sumOf_18 rfl ?_
        exact ih (q - 1) (by omega) (i + 1) (by omega)
  refine z_iconst (q := 1) dX6_sumOf_0 zci_0 rfl ?_
  refine z_istore_n (q := 2) dX6_sumOf_1 (Nat.le_of_ble_eq_true rfl) rfl rfl ?_
  refine z_iconst (q := 3) dX6_sumOf_2 zci_0 rfl ?_
  refine z_istore_n (q := 4) dX6_sumOf_3 (Nat.le_of_ble_eq_true rfl) rfl rfl ?_
  exact loop n 0 (by omega)
set_option maxRecDepth 100000 in
set_option maxHeartbeats 4000000 in
theorem ct_X6_allProgress {g : zGl} {h : zHp} {b o n K : Nat} {d : Nat → Nat → Int32} {f : Nat → Int32} (hw : zWo o) (hR : zR d o f n K) : zC g mX6_allProgress [.ref (b + o)] (zpT g h b d) (zV (zpT g h b d) (.int (qPrg f K))) 0 0 := by
  have hK := zR_K8 hR
  refine zC_ofA (lv := [some (.ref (b + o))]) (by decide) rfl (Nat.le_of_ble_eq_true rfl) ?_
  refine z_aload_n (q := 1) dX6_allProgress_0 rfl rfl ?_
  refine z_get (q := 4) dX6_allProgress_1 zfX6_40 (by first | exact zT_o hw | exact zT_w hw rfl | exact zT_N (zNo_w hw) | exact zT_n (zNo_w hw) (by decide) | exact hr) rfl rfl ?_
  refine z_aload_n (q := 5) dX6_allProgress_4 rfl rfl ?_
  refine z_get (q := 8) dX6_allProgress_5 zfX6_53 (by first | exact zT_o hw | exact zT_w hw rfl | exact zT_N (zNo_w hw) | exact zT_n (zNo_w hw) (by decide) | exact hr) rfl rfl ?_
  refine z_eqi (zR_1 hR) ?_
  refine z_s2 (q := 11) dX6_allProgress_8 zkX6_134 zt_mX6_sumOf rfl (Nat.le_of_ble_eq_true rfl) (ct_X6_sumOf (zT_w hw rfl) (by omega) (by omega)) rfl ?_
  exact z_reti dX6_allProgress_11 rfl (⟨by rw [qPrg]; exact congrArg (fun x => some (Value.int x)) (qIt_congr (fun i x hi => by rw [(zR_t hR hi).2.2.2])), rfl⟩)
set_option maxRecDepth 100000 in
set_option maxHeartbeats 4000000 in
theorem ct_X6_allMoves {g : zGl} {h : zHp} {b o n K : Nat} {d : Nat → Nat → Int32} {f : Nat → Int32} (hw : zWo o) (hR : zR d o f n K) : zC g mX6_allMoves [.ref (b + o)] (zpT g h b d) (zV (zpT g h b d) (.int (qSum f n 4))) 0 0 := by
  have hn := zR_n6 hR
  refine zC_ofA (lv := [some (.ref (b + o))]) (by decide) rfl (Nat.le_of_ble_eq_true rfl) ?_
  refine z_aload_n (q := 1) dX6_allMoves_0 rfl rfl ?_
  refine z_get (q := 4) dX6_allMoves_1 zfX6_25 (by first | exact zT_o hw | exact zT_w hw rfl | exact zT_N (zNo_w hw) | exact zT_n (zNo_w hw) (by decide) | exact hr) rfl rfl ?_
  refine z_aload_n (q := 5) dX6_allMoves_4 rfl rfl ?_
  refine z_get (q := 8) dX6_allMoves_5 zfX6_50 (by first | exact zT_o hw | exact zT_w hw rfl | exact zT_N (zNo_w hw) | exact zT_n (zNo_w hw) (by decide) | exact hr) rfl rfl ?_
  refine z_eqi (zR_0 hR) ?_
  refine z_s2 (q := 11) dX6_allMoves_8 zkX6_134 zt_mX6_sumOf rfl (Nat.le_of_ble_eq_true rfl) (ct_X6_sumOf (zT_w hw rfl) (by omega) (by omega)) rfl ?_
  exact z_reti dX6_allMoves_11 rfl (⟨by rw [qSum]; exact congrArg (fun x => some (Value.int x)) (qIt_congr (fun i x hi => by rw [(zR_a hR hi).2.2.2.1])), rfl⟩)
set_option maxRecDepth 100000 in
set_option maxHeartbeats 4000000 in
theorem ct_X6_allWasted {g : zGl} {h : zHp} {b o n K : Nat} {d : Nat → Nat → Int32} {f : Nat → Int32} (hw : zWo o) (hR : zR d o f n K) : zC g mX6_allWasted [.ref (b + o)] (zpT g h b d) (zV (zpT g h b d) (.int (qSum f n 5))) 0 0 := by
  have hn := zR_n6 hR
  refine zC_ofA (lv := [some (.ref (b + o))]) (by decide) rfl (Nat.le_of_ble_eq_true rfl) ?_
  refine z_aload_n (q := 1) dX6_allWasted_0 rfl rfl ?_
  refine z_get (q := 4) dX6_allWasted_1 zfX6_28 (by first | exact zT_o hw | exact zT_w hw rfl | exact zT_N (zNo_w hw) | exact zT_n (zNo_w hw) (by decide) | exact hr) rfl rfl ?_
  refine z_aload_n (q := 5) dX6_allWasted_4 rfl rfl ?_
  refine z_get (q := 8) dX6_allWasted_5 zfX6_50 (by first | exact zT_o hw | exact zT_w hw rfl | exact zT_N (zNo_w hw) | exact zT_n (zNo_w hw) (by decide) | exact hr) rfl rfl ?_
  refine z_eqi (zR_0 hR) ?_
  refine z_s2 (q := 11) dX6_allWasted_8 zkX6_134 zt_mX6_sumOf rfl (Nat.le_of_ble_eq_true rfl) (ct_X6_sumOf (zT_w hw rfl) (by omega) (by omega)) rfl ?_
  exact z_reti dX6_allWasted_11 rfl (⟨by rw [qSum]; exact congrArg (fun x => some (Value.int x)) (qIt_congr (fun i x hi => by rw [(zR_a hR hi).2.2.2.2])), rfl⟩)
set_option maxRecDepth 100000 in
set_option maxHeartbeats 4000000 in
theorem ct_X6_knowers {g : zGl} {h : zHp} {b o n K t : Nat} {d : Nat → Nat → Int32} {f : Nat → Int32} (hw : zWo o) (hR : zR d o f n K) (ht : t < K) : zC g mX6_knowers [.ref (b + o), .int (nI t)] (zpT g h b d) (zV (zpT g h b d) (.int (nI (mk (fun a => decide (f (72 + 4 * (8 * a + t)) = nI 2)) n)))) 0 0 := by
  have hn := zR_n6 hR
  have hK := zR_K8 hR
  refine zC_ofA (lv := [some (.ref (b + o)), some (.int (nI t)), none, none]) (by decide) rfl (Nat.le_of_ble_eq_true rfl) ?_
  have loop : ∀ r i, i + r = n → zA g (zZc g mX6_knowers (zV (zpT g h b d) (.int (nI (mk (fun a => decide (f (72 + 4 * (8 * a + t)) = nI 2)) n)))) 0 0) 0 0 4 [some (.ref (b + o)), some (.int (nI t)), some (.int (nI (mk (fun a => decide (f (72 + 4 * (8 * a + t)) = nI 2)) i))), some (.int (nI i))] [] (zpT g h b d) := by
    intro r
    induction r using Nat.strongRecOn with
    | ind r ih =>
      intro i hi
      refine z_iload_n (q := 5) dX6_knowers_4 rfl rfl ?_
      refine z_aload_n (q := 6) dX6_knowers_5 rfl rfl ?_
      refine z_get (q := 9) dX6_knowers_6 zfX6_50 (by first | exact zT_o hw | exact zT_w hw rfl | exact zT_N (zNo_w hw) | exact zT_n (zNo_w hw) (by decide) | exact hr) rfl rfl ?_
      refine z_eqi (zR_0 hR) ?_
      refine z_icmp_geN (tg := 41) (q := 12) dX6_knowers_9 rfl rfl (by omega) (by omega) ?_ ?_
      · intro hc9
        refine z_iload_n (q := 42) dX6_knowers_41 rfl rfl ?_
        exact z_reti dX6_knowers_42 rfl (⟨by rw [show i = n by omega], rfl⟩)
      · intro hc9
        refine z_aload_n (q := 13) dX6_knowers_12 rfl rfl ?_
        refine z_get (q := 16) dX6_knowers_13 zfX6_46 (by first | exact zT_o hw | exact zT_w hw rfl | exact zT_N (zNo_w hw) | exact zT_n (zNo_w hw) (by decide) | exact hr) rfl rfl ?_
        refine z_get (q := 19) dX6_knowers_16 zfX6_128 (by first | exact zT_o hw | exact zT_w hw rfl | exact zT_N (zNo_w hw) | exact zT_n (zNo_w hw) (by decide) | exact hr) rfl rfl ?_
        refine z_iload_n (q := 20) dX6_knowers_19 rfl rfl ?_
        refine z_iload_n (q := 21) dX6_knowers_20 rfl rfl ?_
        refine z_s2 (q := 24) dX6_knowers_21 zkX6_79 zt_mX7_noteIndex rfl (Nat.le_of_ble_eq_true rfl) (ct_X7_noteIndex) rfl ?_
        refine z_iald (q := 25) dX6_knowers_24 (by first | exact zT_o hw | exact zT_w hw rfl | exact zT_N (zNo_w hw) | exact zT_n (zNo_w hw) (by decide) | exact hr) (by omega) (by omega) rfl ?_
        refine z_eqi (zR_n hR (a := i) (by omega) ht).1 ?_
        refine z_iconst (q := 26) dX6_knowers_25 zci_2 rfl ?_
        refine z_icmp_ne (tg := 35) (q := 29) dX6_knowers_26 rfl rfl ?_ ?_
        · intro hc26
          refine z_iincN (q := 38) dX6_knowers_35 rfl rfl rfl ?_
          refine z_goto (q := 0) (tg := 4) dX6_knowers_38 rfl ?_
          have e9 := ih (r - 1) (by omega) (i + 1) (by omega)
          first
            | (rw [mk_t (decide_eq_true hc26)] at e9; exact e9)
            | (rw [mk_f (decide_eq_false hc26)] at e9; exact e9)
        · intro hc26
          refine z_iload_n (q := 30) dX6_knowers_29 rfl rfl ?_
          refine z_iconst (q := 31) dX6_knowers_30 zci_1 rfl ?_
          refine z_iload_n (q := 32) dX6_knowers_31 rfl rfl ?_
          refine z_ishl (q := 33) dX6_knowers_32 rfl ?_
          refine z_eqi (nI_shl (by omega)) ?_
          refine z_ior (q := 34) dX6_knowers_33 rfl ?_
          refine z_eqi (nI_or _ _) ?_
          refine z_istore_n (q := 35) dX6_knowers_34 (Nat.le_of_ble_eq_true rfl) rfl rfl ?_
          refine z_iincN (q := 38) dX6_knowers_35 rfl rfl rfl ?_
          refine z_goto (q := 0) (tg := 4) dX6_knowers_38 rfl ?_
          have e9 := ih (r - 1) (by omega) (i + 1) (by omega)
          first
            | (rw [mk_t (decide_eq_true hc26)] at e9; exact e9)
            | (rw [mk_f (decide_eq_false hc26)] at e9; exact e9)
  refine z_iconst (q := 1) dX6_knowers_0 zci_0 rfl ?_
  refine z_istore_n (q := 2) dX6_knowers_1 (Nat.le_of_ble_eq_true rfl) rfl rfl ?_
  refine z_iconst (q := 3) dX6_knowers_2 zci_0 rfl ?_
  refine z_istore_n (q := 4) dX6_knowers_3 (Nat.le_of_ble_eq_true rfl) rfl rfl ?_
  exact loop n 0 (by omega)
set_option maxRecDepth 100000 in
set_option maxHeartbeats 4000000 in
theorem ct_X6_claimants {g : zGl} {h : zHp} {b o n K t : Nat} {d : Nat → Nat → Int32} {f : Nat → Int32} (hw : zWo o) (hR : zR d o f n K) (ht : t < K) : zC g mX6_claimants [.ref (b + o), .int (nI t)] (zpT g h b d) (zV (zpT g h b d) (.int (nI (mk (fun a => qOn f a && qOwn f a t) n)))) 0 0 := by
  have hn := zR_n6 hR
  have hK := zR_K8 hR
  refine zC_ofA (lv := [some (.ref (b + o)), some (.int (nI t)), none, none]) (by decide) rfl (Nat.le_of_ble_eq_true rfl) ?_
  have loop : ∀ r i, i + r = n → zA g (zZc g mX6_claimants (zV (zpT g h b d) (.int (nI (mk (fun a => qOn f a && qOwn f a t) n)))) 0 0) 0 0 4 [some (.ref (b + o)), some (.int (nI t)), some (.int (nI (mk (fun a => qOn f a && qOwn f a t) i))), some (.int (nI i))] [] (zpT g h b d) := by
    intro r
    induction r using Nat.strongRecOn with
    | ind r ih =>
      intro i hi
      refine z_iload_n (q := 5) dX6_claimants_4 rfl rfl ?_
      refine z_aload_n (q := 6) dX6_claimants_5 rfl rfl ?_
      refine z_get (q := 9) dX6_claimants_6 zfX6_50 (by first | exact zT_o hw | exact zT_w hw rfl | exact zT_N (zNo_w hw) | exact zT_n (zNo_w hw) (by decide) | exact hr) rfl rfl ?_
      refine z_eqi (zR_0 hR) ?_
      refine z_icmp_geN (tg := 41) (q := 12) dX6_claimants_9 rfl rfl (by omega) (by omega) ?_ ?_
      · intro hc9
        refine z_iload_n (q := 42) dX6_claimants_41 rfl rfl ?_
        exact z_reti dX6_claimants_42 rfl (⟨by rw [show i = n by omega], rfl⟩)
      · intro hc9
        refine z_aload_n (q := 13) dX6_claimants_12 rfl rfl ?_
        refine z_iload_n (q := 14) dX6_claimants_13 rfl rfl ?_
        refine z_v1 (q := 17) dX6_claimants_14 zkX6_93 zt_mX6_isOn rfl (by first | exact zT_o hw | exact zT_w hw rfl | exact zT_N (zNo_w hw) | exact zT_n (zNo_w hw) (by decide) | exact hr) rfl (Nat.le_of_ble_eq_true rfl) (ct_X6_isOn hw hR (by omega)) rfl ?_
        refine z_ifb_eq (tg := 35) (q := 20) dX6_claimants_17 rfl rfl ?_ ?_
        · intro hc17
          refine z_iincN (q := 38) dX6_claimants_35 rfl rfl rfl ?_
          refine z_goto (q := 0) (tg := 4) dX6_claimants_38 rfl ?_
          have e9 := ih (r - 1) (by omega) (i + 1) (by omega)
          first
            | (rw [mk_t (show (qOn f i && qOwn f i t) = true by rw [hc17, hc26]; rfl)] at e9; exact e9)
            | (rw [mk_f (show (qOn f i && qOwn f i t) = false by rw [hc17]; rfl)] at e9; exact e9)
            | (rw [mk_f (show (qOn f i && qOwn f i t) = false by rw [hc17, hc26]; rfl)] at e9; exact e9)
        · intro hc17
          refine z_aload_n (q := 21) dX6_claimants_20 rfl rfl ?_
          refine z_iload_n (q := 22) dX6_claimants_21 rfl rfl ?_
          refine z_iload_n (q := 23) dX6_claimants_22 rfl rfl ?_
          refine z_v2 (q := 26) dX6_claimants_23 zkX6_90 zt_mX6_ownsLiveClaim rfl (by first | exact zT_o hw | exact zT_w hw rfl | exact zT_N (zNo_w hw) | exact zT_n (zNo_w hw) (by decide) | exact hr) rfl (Nat.le_of_ble_eq_true rfl) (ct_X6_ownsLiveClaim hw hR (by omega) ht) rfl ?_
          refine z_ifb_eq (tg := 35) (q := 29) dX6_claimants_26 rfl rfl ?_ ?_
          · intro hc26
            refine z_iincN (q := 38) dX6_claimants_35 rfl rfl rfl ?_
            refine z_goto (q := 0) (tg := 4) dX6_claimants_38 rfl ?_
            have e9 := ih (r - 1) (by omega) (i + 1) (by omega)
            first
              | (rw [mk_t (show (qOn f i && qOwn f i t) = true by rw [hc17, hc26]; rfl)] at e9; exact e9)
              | (rw [mk_f (show (qOn f i && qOwn f i t) = false by rw [hc17]; rfl)] at e9; exact e9)
              | (rw [mk_f (show (qOn f i && qOwn f i t) = false by rw [hc17, hc26]; rfl)] at e9; exact e9)
          · intro hc26
            refine z_iload_n (q := 30) dX6_claimants_29 rfl rfl ?_
            refine z_iconst (q := 31) dX6_claimants_30 zci_1 rfl ?_
            refine z_iload_n (q := 32) dX6_claimants_31 rfl rfl ?_
            refine z_ishl (q := 33) dX6_claimants_32 rfl ?_
            refine z_eqi (nI_shl (by omega)) ?_
            refine z_ior (q := 34) dX6_claimants_33 rfl ?_
            refine z_eqi (nI_or _ _) ?_
            refine z_istore_n (q := 35) dX6_claimants_34 (Nat.le_of_ble_eq_true rfl) rfl rfl ?_
            refine z_iincN (q := 38) dX6_claimants_35 rfl rfl rfl ?_
            refine z_goto (q := 0) (tg := 4) dX6_claimants_38 rfl ?_
            have e9 := ih (r - 1) (by omega) (i + 1) (by omega)
            first
              | (rw [mk_t (show (qOn f i && qOwn f i t) = true by rw [hc17, hc26]; rfl)] at e9; exact e9)
              | (rw [mk_f (show (qOn f i && qOwn f i t) = false by rw [hc17]; rfl)] at e9; exact e9)
              | (rw [mk_f (show (qOn f i && qOwn f i t) = false by rw [hc17, hc26]; rfl)] at e9; exact e9)
  refine z_iconst (q := 1) dX6_claimants_0 zci_0 rfl ?_
  refine z_istore_n (q := 2) dX6_claimants_1 (Nat.le_of_ble_eq_true rfl) rfl rfl ?_
  refine z_iconst (q := 3) dX6_claimants_2 zci_0 rfl ?_
  refine z_istore_n (q := 4) dX6_claimants_3 (Nat.le_of_ble_eq_true rfl) rfl rfl ?_
  exact loop n 0 (by omega)
