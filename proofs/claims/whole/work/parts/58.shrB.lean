/-! ===== the component: sharing ===== -/
theorem zWo_3 : zWo 3 := Or.inl rfl
theorem zT_G {g : zGl} {h : zHp} {b : Nat} {d : Nat → Nat → Int32} : (zpT g h b d).1 (b + 283) = some (.inr (3, [.ref (b + 284), .int (d 283 1), .ref (b + 285)])) := zpT_c (c := 283) (by decide)
theorem z_putG {g : zGl} {Z : zZt} {k n pc q : Nat} {lv : List (Option Value)} {st : List Value} {h : zHp} {idx b : Nat} {C0 : String} {d : Nat → Nat → Int32} {v : Int32} (hd : decode Z.1.2.1 pc = .ok (.putfield idx, 3)) (hf : zFld Z.1.1.cls idx 3 1 .int false C0) (hp : pc + 3 = q) (kk : zA g Z k n q lv st (zpT g h b (va_up d 283 (va_up (d 283) 1 v)))) : zA g Z k n pc lv (.int v :: .ref (b + 283) :: st) (zpT g h b d) := by
  refine z_put hd hf zT_G (show 1 < 3 by decide) rfl rfl hp ?_
  rw [zpT_up (f := va_up (d 283) 1 v) (by decide)]
  · exact kk
  · rfl
set_option maxRecDepth 100000 in
set_option maxHeartbeats 4000000 in
theorem ct_X3_mayTake {g : zGl} {h : zHp} {b n K a t M : Nat} {d : Nat → Nat → Int32} {f : Nat → Int32} (hR : zR d 3 f n K) (ha : a < n) (ht : t < K) (hM : M < 256) : zC g mX3_mayTake [.ref (b + 3), .int (nI a), .int (nI t), .int (nI M)] (zpT g h b d) (zV (zpT g h b d) (.int (zbi (qGet f K a t M)))) 0 0 := by
  have hK := zR_K8 hR
  have e : qGet f K a t M = (qOn f a && !M.testBit t && !qDone f t) := by
    rw [qGet, decide_eq_true ht, Bool.and_true, Bool.and_assoc, Bool.and_assoc, Bool.and_comm (!qDone f t)]
  rw [e]
  refine zC_ofA (lv := [some (.ref (b + 3)), some (.int (nI a)), some (.int (nI t)), some (.int (nI M))]) (by decide) rfl (Nat.le_of_ble_eq_true rfl) ?_
  refine z_aload_n (q := 1) dX3_mayTake_0 rfl rfl ?_
  refine z_iload_n (q := 2) dX3_mayTake_1 rfl rfl ?_
  refine z_v1 (q := 5) dX3_mayTake_2 zkX3_49 zt_mX6_isOn rfl (by first | exact zT_G | exact zpT_a (c := 284) rfl | exact zpT_a (c := 285) rfl | exact zT_o zWo_3) rfl (Nat.le_of_ble_eq_true rfl) (ct_X6_isOn zWo_3 hR ha) rfl ?_
  refine z_ifb_eq (tg := 28) (q := 8) dX3_mayTake_5 rfl rfl ?_ ?_
  · intro hc5
    refine z_iconst (q := 29) dX3_mayTake_28 zci_0 rfl ?_
    exact z_retz dX3_mayTake_29 rfl (by first | exact Or.inl rfl | exact Or.inr rfl) (by first | exact zVt (by simp [hc5]; done) | exact zVf (by simp [hc5]))
  · intro hc5
    refine z_iload_n (q := 9) dX3_mayTake_8 rfl rfl ?_
    refine z_iload_n (q := 10) dX3_mayTake_9 rfl rfl ?_
    refine z_s2 (q := 13) dX3_mayTake_10 zkX3_53 zt_mX7_isIn rfl (Nat.le_of_ble_eq_true rfl) (ct_X7_isIn (by omega) (by omega)) rfl ?_
    refine z_ifb_ne (tg := 28) (q := 16) dX3_mayTake_13 rfl rfl ?_ ?_
    · intro hc13
      refine z_iconst (q := 29) dX3_mayTake_28 zci_0 rfl ?_
      exact z_retz dX3_mayTake_29 rfl (by first | exact Or.inl rfl | exact Or.inr rfl) (by first | exact zVt (by simp [hc5, hc13]; done) | exact zVf (by simp [hc5, hc13]))
    · intro hc13
      refine z_aload_n (q := 17) dX3_mayTake_16 rfl rfl ?_
      refine z_iload_n (q := 18) dX3_mayTake_17 rfl rfl ?_
      refine z_v1 (q := 21) dX3_mayTake_18 zkX3_57 zt_mX6_isFinished rfl (by first | exact zT_G | exact zpT_a (c := 284) rfl | exact zpT_a (c := 285) rfl | exact zT_o zWo_3) rfl (Nat.le_of_ble_eq_true rfl) (ct_X6_isFinished zWo_3 hR ht) rfl ?_
      refine z_ifb_ne (tg := 28) (q := 24) dX3_mayTake_21 rfl rfl ?_ ?_
      · intro hc21
        refine z_iconst (q := 29) dX3_mayTake_28 zci_0 rfl ?_
        exact z_retz dX3_mayTake_29 rfl (by first | exact Or.inl rfl | exact Or.inr rfl) (by first | exact zVt (by simp [hc5, hc13, hc21]; done) | exact zVf (by simp [hc5, hc13, hc21]))
      · intro hc21
        refine z_iconst (q := 25) dX3_mayTake_24 zci_1 rfl ?_
        refine z_goto (q := 0) (tg := 29) dX3_mayTake_25 rfl ?_
        exact z_retz dX3_mayTake_29 rfl (by first | exact Or.inl rfl | exact Or.inr rfl) (by first | exact zVt (by simp [hc5, hc13, hc21]; done) | exact zVf (by simp [hc5, hc13, hc21]))
/-- the table from agent a on -/
def zTa (d : Nat → Nat → Int32) (f : Nat → Int32) (n K a : Nat) : Prop := ∀ c M, a ≤ c → c ≤ n → M < 2 ^ K → d 285 (c * 256 + M) = nI (qV f K (n - c) c M)
theorem sh_256 {K M : Nat} (hK : K ≤ 8) (hM : M < 2 ^ K) : M < 256 := Nat.lt_of_lt_of_le hM (Nat.pow_le_pow_right (by decide) hK : 2 ^ K ≤ 2 ^ 8)
theorem sh_or {K M t : Nat} (hM : M < 2 ^ K) (ht : t < K) : M ||| 2 ^ t < 2 ^ K := Nat.or_lt_two_pow hM (Nat.pow_lt_pow_right (by decide) ht)
set_option maxRecDepth 100000 in
set_option maxHeartbeats 4000000 in
theorem ct_X3_worthOf {g : zGl} {h : zHp} {b n K a t M : Nat} {d : Nat → Nat → Int32} {f : Nat → Int32} (hR : zR d 3 f n K) (ha : a < n) (ht : t < K) (hM : M < 2 ^ K) (hT : zTa d f n K (a + 1)) : zC g mX3_worthOf [.ref (b + 283), .ref (b + 3), .int (nI a), .int (nI t), .int (nI M)] (zpT g h b d) (zV (zpT g h b d) (.int (nI (qU f (qV f K (n - (a + 1))) a M t)))) 0 0 := by
  have hK := zR_K8 hR
  have hn := zR_n6 hR
  obtain ⟨w1, w2⟩ := qWn_v hR.1 ha ht
  have h2 := sh_or hM ht
  have h3 := sh_256 hK h2
  refine zC_ofA (lv := [some (.ref (b + 283)), some (.ref (b + 3)), some (.int (nI a)), some (.int (nI t)), some (.int (nI M))]) (by decide) rfl (Nat.le_of_ble_eq_true rfl) ?_
  refine z_sipush (q := 3) dX3_worthOf_0 zcs_1000 rfl ?_
  refine z_aload_n (q := 4) dX3_worthOf_3 rfl rfl ?_
  refine z_iload_n (q := 5) dX3_worthOf_4 rfl rfl ?_
  refine z_iload_n (q := 6) dX3_worthOf_5 rfl rfl ?_
  refine z_v2 (q := 9) dX3_worthOf_6 zkX3_60 zt_mX6_wayToTask rfl (by first | exact zT_G | exact zpT_a (c := 284) rfl | exact zpT_a (c := 285) rfl | exact zT_o zWo_3) rfl (Nat.le_of_ble_eq_true rfl) (ct_X6_wayToTask zWo_3 hR ha ht) rfl ?_
  refine z_eqi w1 ?_
  refine z_isub (q := 10) dX3_worthOf_9 rfl ?_
  refine z_eqi (nI_sub (by omega)) ?_
  refine z_aload_n (q := 11) dX3_worthOf_10 rfl rfl ?_
  refine z_get (q := 14) dX3_worthOf_11 zfX3_15 (by first | exact zT_G | exact zpT_a (c := 284) rfl | exact zpT_a (c := 285) rfl | exact zT_o zWo_3) rfl rfl ?_
  refine z_iload_n (q := 15) dX3_worthOf_14 rfl rfl ?_
  refine z_iconst (q := 16) dX3_worthOf_15 zci_1 rfl ?_
  refine z_iaddN (q := 17) dX3_worthOf_16 rfl ?_
  refine z_sipush (q := 20) dX3_worthOf_17 zcs_256 rfl ?_
  refine z_imulN (q := 21) dX3_worthOf_20 rfl ?_
  refine z_iload (q := 23) dX3_worthOf_21 rfl rfl ?_
  refine z_iconst (q := 24) dX3_worthOf_23 zci_1 rfl ?_
  refine z_iload_n (q := 25) dX3_worthOf_24 rfl rfl ?_
  refine z_ishl (q := 26) dX3_worthOf_25 rfl ?_
  refine z_eqi (nI_shl (by omega)) ?_
  refine z_ior (q := 27) dX3_worthOf_26 rfl ?_
  refine z_eqi (nI_or _ _) ?_
  refine z_iaddN (q := 28) dX3_worthOf_27 rfl ?_
  refine z_iald (q := 29) dX3_worthOf_28 (by first | exact zT_G | exact zpT_a (c := 284) rfl | exact zpT_a (c := 285) rfl | exact zT_o zWo_3) (by omega) (by omega) rfl ?_
  refine z_eqi (hT (a + 1) (M ||| 2 ^ t) (Nat.le_refl _) (by omega) h2) ?_
  refine z_iaddN (q := 30) dX3_worthOf_29 rfl ?_
  exact z_reti dX3_worthOf_30 rfl (⟨by rw [qU, if_neg (by omega)], rfl⟩)
/-- the most among nothing and the tasks below i -/
def qMo (f : Nat → Int32) (K e a M i : Nat) : Nat := qIt (fun t m => if qGet f K a t M && decide (m < qU f (qV f K e) a M t) then qU f (qV f K e) a M t else m) (qV f K e (a + 1) M) i
theorem qMo_s {f : Nat → Int32} {K e a M i : Nat} : qMo f K e a M (i + 1) = if qGet f K a i M && decide (qMo f K e a M i < qU f (qV f K e) a M i) then qU f (qV f K e) a M i else qMo f K e a M i := rfl
theorem qMo_ge {f : Nat → Int32} {K e a M : Nat} (i : Nat) : qV f K e (a + 1) M ≤ qMo f K e a M i ∧ (∀ t, t < i → qGet f K a t M = true → qU f (qV f K e) a M t ≤ qMo f K e a M i) ∧ (qMo f K e a M i = qV f K e (a + 1) M ∨ ∃ t, t < i ∧ qGet f K a t M = true ∧ qMo f K e a M i = qU f (qV f K e) a M t) := by
  induction i with
  | zero => exact ⟨Nat.le_refl _, fun t ht => absurd ht (Nat.not_lt_zero t), Or.inl rfl⟩
  | succ i ih =>
    obtain ⟨h1, h2, h3⟩ := ih
    rw [qMo_s]
    by_cases hc : (qGet f K a i M && decide (qMo f K e a M i < qU f (qV f K e) a M i)) = true
    · rw [if_pos hc]
      rw [Bool.and_eq_true, decide_eq_true_eq] at hc
      refine ⟨by omega, fun t ht hg => ?_, Or.inr ⟨i, by omega, hc.1, rfl⟩⟩
      rcases Nat.lt_succ_iff_lt_or_eq.mp ht with h9 | rfl
      · have := h2 t h9 hg
        omega
      · exact Nat.le_refl _
    · rw [if_neg hc]
      refine ⟨h1, fun t ht hg => ?_, h3.imp id (fun ⟨t, a1, a2⟩ => ⟨t, by omega, a2⟩)⟩
      rcases Nat.lt_succ_iff_lt_or_eq.mp ht with h9 | rfl
      · exact h2 t h9 hg
      · rw [hg, Bool.true_and, decide_eq_true_eq] at hc
        omega
theorem qMo_V {f : Nat → Int32} {n K e a M : Nat} (hW : zWF f n K) : qMo f K e a M K = qV f K (e + 1) a M := by
  obtain ⟨m1, m2, m3⟩ := qMo_ge (f := f) (K := K) (e := e) (a := a) (M := M) K
  obtain ⟨j1, j2, j3, -⟩ := qBe_s (qJ_s (f := f) (K := K) (e := e) (a := a) (M := M))
  have hK := hW.2.1
  rw [qV_s]
  apply Nat.le_antisymm
  · rcases m3 with h | ⟨t, h1, h2, h3⟩
    · rw [h]
      have := j3 8 (by decide) (by rw [qOkc]; rfl)
      rw [qU, if_pos rfl] at this
      exact this
    · rw [h3]
      exact j3 t (by omega) (by rw [qOkc, h2, Bool.or_true])
  · rw [qOkc, Bool.or_eq_true, decide_eq_true_eq] at j2
    rcases j2 with h | h
    · rw [h, qU, if_pos rfl]
      exact m1
    · exact m2 _ (qGet_K h) h
theorem qU_le {f : Nat → Int32} {n K e a M t : Nat} (hW : zWF f n K) (h : a + 1 + e = n) : qU f (qV f K e) a M t ≤ 7000 := by
  have h1 := hW.1
  rw [qU]
  split
  · have := qV_le (M := M) hW h
    omega
  · have := qV_le (M := M ||| 2 ^ t) hW h
    omega
theorem qMo_le {f : Nat → Int32} {n K e a M : Nat} (hW : zWF f n K) (h : a + 1 + e = n) (i : Nat) : qMo f K e a M i ≤ 7000 := by
  obtain ⟨-, -, h3⟩ := qMo_ge (f := f) (K := K) (e := e) (a := a) (M := M) i
  have h1 := hW.1
  rcases h3 with h3 | ⟨t, -, -, h3⟩
  · have := qV_le (M := M) hW h
    omega
  · rw [h3]
    exact qU_le hW h
theorem qMx_n {x y : Nat} (hx : x < 2 ^ 31) (hy : y < 2 ^ 31) : qMx (nI x) (nI y) = nI (if x < y then y else x) := by
  rw [qMx]
  by_cases h : x < y
  · rw [if_pos h, if_pos (nI_lt h hy)]
  · rw [if_neg h, if_neg (nI_nlt (by omega) hx)]
set_option maxRecDepth 100000 in
set_option maxHeartbeats 4000000 in
theorem ct_X3_mostFor {g : zGl} {h : zHp} {b n K a M : Nat} {d : Nat → Nat → Int32} {f : Nat → Int32} (hR : zR d 3 f n K) (ha : a < n) (hM : M < 2 ^ K) (hT : zTa d f n K (a + 1)) : zC g mX3_mostFor [.ref (b + 283), .ref (b + 3), .int (nI a), .int (nI M)] (zpT g h b d) (zV (zpT g h b d) (.int (nI (qV f K (n - a) a M)))) 0 0 := by
  have hK := zR_K8 hR
  have hn := zR_n6 hR
  have h256 := sh_256 hK hM
  rw [show n - a = (n - (a + 1)) + 1 by omega, ← qMo_V hR.1]
  refine zC_ofA (lv := [some (.ref (b + 283)), some (.ref (b + 3)), some (.int (nI a)), some (.int (nI M)), none, none]) (by decide) rfl (Nat.le_of_ble_eq_true rfl) ?_
  have loop : ∀ r i, i + r = K → zA g (zZc g mX3_mostFor (zV (zpT g h b d) (.int (nI (qMo f K (n - (a + 1)) a M K)))) 0 0) 0 0 19 [some (.ref (b + 283)), some (.ref (b + 3)), some (.int (nI a)), some (.int (nI M)), some (.int (nI (qMo f K (n - (a + 1)) a M i))), some (.int (nI i))] [] (zpT g h b d) := by
    intro r
    induction r using Nat.strongRecOn with
    | ind r ih =>
      intro i hi
      refine z_iload (q := 21) dX3_mostFor_19 rfl rfl ?_
      refine z_aload_n (q := 22) dX3_mostFor_21 rfl rfl ?_
      refine z_get (q := 25) dX3_mostFor_22 zfX3_24 (by first | exact zT_G | exact zpT_a (c := 284) rfl | exact zpT_a (c := 285) rfl | exact zT_o zWo_3) rfl rfl ?_
      refine z_eqi (zR_1 hR) ?_
      refine z_icmp_geN (tg := 61) (q := 28) dX3_mostFor_25 rfl rfl (by omega) (by omega) ?_ ?_
      · intro hc25
        refine z_iload (q := 63) dX3_mostFor_61 rfl rfl ?_
        exact z_reti dX3_mostFor_63 rfl (⟨by rw [show i = K by omega], rfl⟩)
      · intro hc25
        refine z_aload_n (q := 29) dX3_mostFor_28 rfl rfl ?_
        refine z_iload_n (q := 30) dX3_mostFor_29 rfl rfl ?_
        refine z_iload (q := 32) dX3_mostFor_30 rfl rfl ?_
        refine z_iload_n (q := 33) dX3_mostFor_32 rfl rfl ?_
        refine z_s4 (q := 36) dX3_mostFor_33 zkX3_35 zt_mX3_mayTake rfl (Nat.le_of_ble_eq_true rfl) (ct_X3_mayTake hR ha (by omega) h256) rfl ?_
        refine z_ifb_eq (tg := 55) (q := 39) dX3_mostFor_36 rfl rfl ?_ ?_
        · intro hc36
          refine z_iincN (q := 58) dX3_mostFor_55 rfl rfl rfl ?_
          refine z_goto (q := 0) (tg := 19) dX3_mostFor_58 rfl ?_
          have e9 := ih (r - 1) (by omega) (i + 1) (by omega)
          rw [qMo_s, hc36] at e9
          first
            | (rw [Bool.false_and, if_neg (by decide)] at e9; exact e9)
            | (simp only [Bool.true_and, decide_eq_true_eq] at e9; exact e9)
        · intro hc36
          refine z_iload (q := 41) dX3_mostFor_39 rfl rfl ?_
          refine z_aload_n (q := 42) dX3_mostFor_41 rfl rfl ?_
          refine z_aload_n (q := 43) dX3_mostFor_42 rfl rfl ?_
          refine z_iload_n (q := 44) dX3_mostFor_43 rfl rfl ?_
          refine z_iload (q := 46) dX3_mostFor_44 rfl rfl ?_
          refine z_iload_n (q := 47) dX3_mostFor_46 rfl rfl ?_
          refine z_v4 (q := 50) dX3_mostFor_47 zkX3_39 zt_mX3_worthOf rfl (by first | exact zT_G | exact zpT_a (c := 284) rfl | exact zpT_a (c := 285) rfl | exact zT_o zWo_3) rfl (Nat.le_of_ble_eq_true rfl) (ct_X3_worthOf hR ha (by omega) hM hT) rfl ?_
          refine z_mmax (q := 53) dX3_mostFor_50 zw828 (Nat.le_of_ble_eq_true rfl) (Nat.le_of_ble_eq_true rfl) rfl ?_
          refine z_eqi (qMx_n (Nat.lt_of_le_of_lt (qMo_le hR.1 (by omega) i) (by decide)) (Nat.lt_of_le_of_lt (qU_le hR.1 (by omega)) (by decide))) ?_
          refine z_istore (q := 55) dX3_mostFor_53 (Nat.le_of_ble_eq_true rfl) rfl rfl ?_
          refine z_iincN (q := 58) dX3_mostFor_55 rfl rfl rfl ?_
          refine z_goto (q := 0) (tg := 19) dX3_mostFor_58 rfl ?_
          have e9 := ih (r - 1) (by omega) (i + 1) (by omega)
          rw [qMo_s, hc36] at e9
          first
            | (rw [Bool.false_and, if_neg (by decide)] at e9; exact e9)
            | (simp only [Bool.true_and, decide_eq_true_eq] at e9; exact e9)
  refine z_aload_n (q := 1) dX3_mostFor_0 rfl rfl ?_
  refine z_get (q := 4) dX3_mostFor_1 zfX3_15 (by first | exact zT_G | exact zpT_a (c := 284) rfl | exact zpT_a (c := 285) rfl | exact zT_o zWo_3) rfl rfl ?_
  refine z_iload_n (q := 5) dX3_mostFor_4 rfl rfl ?_
  refine z_iconst (q := 6) dX3_mostFor_5 zci_1 rfl ?_
  refine z_iaddN (q := 7) dX3_mostFor_6 rfl ?_
  refine z_sipush (q := 10) dX3_mostFor_7 zcs_256 rfl ?_
  refine z_imulN (q := 11) dX3_mostFor_10 rfl ?_
  refine z_iload_n (q := 12) dX3_mostFor_11 rfl rfl ?_
  refine z_iaddN (q := 13) dX3_mostFor_12 rfl ?_
  refine z_iald (q := 14) dX3_mostFor_13 (by first | exact zT_G | exact zpT_a (c := 284) rfl | exact zpT_a (c := 285) rfl | exact zT_o zWo_3) (by omega) (by omega) rfl ?_
  refine z_eqi (hT (a + 1) M (Nat.le_refl _) (by omega) hM) ?_
  refine z_istore (q := 16) dX3_mostFor_14 (Nat.le_of_ble_eq_true rfl) rfl rfl ?_
  refine z_iconst (q := 17) dX3_mostFor_16 zci_0 rfl ?_
  refine z_istore (q := 19) dX3_mostFor_17 (Nat.le_of_ble_eq_true rfl) rfl rfl ?_
  exact loop K 0 (by omega)
set_option maxRecDepth 100000 in
set_option maxHeartbeats 4000000 in
theorem ct_X3_smallestBest {g : zGl} {h : zHp} {b n K a M : Nat} {d : Nat → Nat → Int32} {f : Nat → Int32} (hR : zR d 3 f n K) (ha : a < n) (hM : M < 2 ^ K) (hT : zTa d f n K a) : zC g mX3_smallestBest [.ref (b + 283), .ref (b + 3), .int (nI a), .int (nI M)] (zpT g h b d) (zV (zpT g h b d) (.int (if qJ f K (n - (a + 1)) a M = 8 then -9 else nI (qJ f K (n - (a + 1)) a M)))) 0 0 := by
  have hK := zR_K8 hR
  have hn := zR_n6 hR
  have h256 := sh_256 hK hM
  have hT1 : zTa d f n K (a + 1) := fun c M h1 h2 h3 => hT c M (by omega) h2 h3
  have hV : d 285 (a * 256 + M) = nI (qU f (qV f K (n - (a + 1))) a M (qJ f K (n - (a + 1)) a M)) := by
    rw [hT a M (Nat.le_refl _) (by omega) hM, show n - a = (n - (a + 1)) + 1 by omega, qV_s]
  obtain ⟨j1, j2, j3, j4⟩ := qBe_s (qJ_s (f := f) (K := K) (e := n - (a + 1)) (a := a) (M := M))
  have ub : ∀ t, qU f (qV f K (n - (a + 1))) a M t < 2 ^ 31 := fun t => Nat.lt_of_le_of_lt (qU_le hR.1 (by omega)) (by decide)
  refine zC_ofA (lv := [some (.ref (b + 283)), some (.ref (b + 3)), some (.int (nI a)), some (.int (nI M)), none]) (by decide) rfl (Nat.le_of_ble_eq_true rfl) ?_
  have loop : ∀ r i, i + r = K → (∀ c, c < i → c ≠ qJ f K (n - (a + 1)) a M) → zA g (zZc g mX3_smallestBest (zV (zpT g h b d) (.int (if qJ f K (n - (a + 1)) a M = 8 then -9 else nI (qJ f K (n - (a + 1)) a M)))) 0 0) 0 0 3 [some (.ref (b + 283)), some (.ref (b + 3)), some (.int (nI a)), some (.int (nI M)), some (.int (nI i))] [] (zpT g h b d) := by
    intro r
    induction r using Nat.strongRecOn with
    | ind r ih =>
      intro i hi hj
      refine z_iload (q := 5) dX3_smallestBest_3 rfl rfl ?_
      refine z_aload_n (q := 6) dX3_smallestBest_5 rfl rfl ?_
      refine z_get (q := 9) dX3_smallestBest_6 zfX3_24 (by first | exact zT_G | exact zpT_a (c := 284) rfl | exact zpT_a (c := 285) rfl | exact zT_o zWo_3) rfl rfl ?_
      refine z_eqi (zR_1 hR) ?_
      refine z_icmp_geN (tg := 56) (q := 12) dX3_smallestBest_9 rfl rfl (by omega) (by omega) ?_ ?_
      · intro hc9
        refine z_bipush (q := 58) dX3_smallestBest_56 zcb_m9 rfl ?_
        exact z_reti dX3_smallestBest_58 rfl (⟨by
          rw [if_pos ((qJ_lt hR.1).resolve_right (fun h9 => absurd rfl (hj _ (by omega))))], rfl⟩)
      · intro hc9
        refine z_aload_n (q := 13) dX3_smallestBest_12 rfl rfl ?_
        refine z_iload_n (q := 14) dX3_smallestBest_13 rfl rfl ?_
        refine z_iload (q := 16) dX3_smallestBest_14 rfl rfl ?_
        refine z_iload_n (q := 17) dX3_smallestBest_16 rfl rfl ?_
        refine z_s4 (q := 20) dX3_smallestBest_17 zkX3_35 zt_mX3_mayTake rfl (Nat.le_of_ble_eq_true rfl) (ct_X3_mayTake hR ha (by omega) h256) rfl ?_
        refine z_ifb_eq (tg := 50) (q := 23) dX3_smallestBest_20 rfl rfl ?_ ?_
        · intro hc20
          refine z_iincN (q := 53) dX3_smallestBest_50 rfl rfl rfl ?_
          refine z_goto (q := 0) (tg := 3) dX3_smallestBest_53 rfl ?_
          refine ih (r - 1) (by omega) (i + 1) (by omega) (fun c hc => ?_)
          rcases Nat.lt_succ_iff_lt_or_eq.mp hc with h9 | rfl
          · exact hj c h9
          · intro e9
            first
              | (rw [← e9, qOkc, hc20, Bool.or_false, decide_eq_true_eq] at j2; omega)
              | exact hc44 (by rw [← e9])
        · intro hc20
          refine z_aload_n (q := 24) dX3_smallestBest_23 rfl rfl ?_
          refine z_aload_n (q := 25) dX3_smallestBest_24 rfl rfl ?_
          refine z_iload_n (q := 26) dX3_smallestBest_25 rfl rfl ?_
          refine z_iload (q := 28) dX3_smallestBest_26 rfl rfl ?_
          refine z_iload_n (q := 29) dX3_smallestBest_28 rfl rfl ?_
          refine z_v4 (q := 32) dX3_smallestBest_29 zkX3_39 zt_mX3_worthOf rfl (by first | exact zT_G | exact zpT_a (c := 284) rfl | exact zpT_a (c := 285) rfl | exact zT_o zWo_3) rfl (Nat.le_of_ble_eq_true rfl) (ct_X3_worthOf hR ha (by omega) hM hT1) rfl ?_
          refine z_aload_n (q := 33) dX3_smallestBest_32 rfl rfl ?_
          refine z_get (q := 36) dX3_smallestBest_33 zfX3_15 (by first | exact zT_G | exact zpT_a (c := 284) rfl | exact zpT_a (c := 285) rfl | exact zT_o zWo_3) rfl rfl ?_
          refine z_iload_n (q := 37) dX3_smallestBest_36 rfl rfl ?_
          refine z_sipush (q := 40) dX3_smallestBest_37 zcs_256 rfl ?_
          refine z_imulN (q := 41) dX3_smallestBest_40 rfl ?_
          refine z_iload_n (q := 42) dX3_smallestBest_41 rfl rfl ?_
          refine z_iaddN (q := 43) dX3_smallestBest_42 rfl ?_
          refine z_iald (q := 44) dX3_smallestBest_43 (by first | exact zT_G | exact zpT_a (c := 284) rfl | exact zpT_a (c := 285) rfl | exact zT_o zWo_3) (by omega) (by omega) rfl ?_
          refine z_eqi hV ?_
          refine z_icmp_ne (tg := 50) (q := 47) dX3_smallestBest_44 rfl rfl ?_ ?_
          · intro hc44
            refine z_iincN (q := 53) dX3_smallestBest_50 rfl rfl rfl ?_
            refine z_goto (q := 0) (tg := 3) dX3_smallestBest_53 rfl ?_
            refine ih (r - 1) (by omega) (i + 1) (by omega) (fun c hc => ?_)
            rcases Nat.lt_succ_iff_lt_or_eq.mp hc with h9 | rfl
            · exact hj c h9
            · intro e9
              first
                | (rw [← e9, qOkc, hc20, Bool.or_false, decide_eq_true_eq] at j2; omega)
                | exact hc44 (by rw [← e9])
          · intro hc44
            refine z_iload (q := 49) dX3_smallestBest_47 rfl rfl ?_
            exact z_reti dX3_smallestBest_49 rfl (⟨by
              have e1 : qU f (qV f K (n - (a + 1))) a M i = qU f (qV f K (n - (a + 1))) a M (qJ f K (n - (a + 1)) a M) := (nI_eq (ub i) (ub _)).mp hc44
              have e2 : i = qJ f K (n - (a + 1)) a M := by
                rcases Nat.lt_trichotomy i (qJ f K (n - (a + 1)) a M) with h9 | h9 | h9
                · have := j4 i h9 (by rw [qOkc, hc20, Bool.or_true])
                  omega
                · exact h9
                · exact absurd rfl (hj _ h9)
              rw [← e2, if_neg (by omega)], rfl⟩)
  refine z_iconst (q := 1) dX3_smallestBest_0 zci_0 rfl ?_
  refine z_istore (q := 3) dX3_smallestBest_1 (Nat.le_of_ble_eq_true rfl) rfl rfl ?_
  exact loop K 0 (by omega) (fun c hc => absurd hc (Nat.not_lt_zero c))
