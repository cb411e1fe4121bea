/-! ===== the component: who hears whom, forecasts ===== -/
theorem zO2_s {d D : Nat → Nat → Int32} (h : zO2 d D 18) : ∀ c, c < 18 ∨ (33 ≤ c ∧ c < 276) → D c = d c := fun c hc => h c (by omega) (by omega)
theorem zOut_s {d D : Nat → Nat → Int32} (h : zOut d D 18 15) : ∀ c, c < 18 ∨ (33 ≤ c ∧ c < 276) → D c = d c := fun c hc => h c (by omega)
theorem qRng_v {f : Nat → Int32} {n : Nat} {x : Int32} (j : Nat) : qRng f n x j = if 4 ≤ j ∧ j < 4 + 6 * n ∧ (j - 4) % 6 = 2 then x else f j := by
  induction n with
  | zero => rw [if_neg (by omega)]; rfl
  | succ n ih =>
    have e : qRng f (n + 1) x = va_up (qRng f n x) (4 + 6 * n + 2) x := rfl
    rw [e]
    by_cases hj : j = 4 + 6 * n + 2
    · subst hj
      rw [zu_eq, if_pos (by omega)]
    · rw [zu_ne hj, ih]
      by_cases hc : 4 ≤ j ∧ j < 4 + 6 * n ∧ (j - 4) % 6 = 2
      · rw [if_pos hc, if_pos (by omega)]
      · rw [if_neg hc, if_neg (by omega)]
theorem qRng_rr {f : Nat → Int32} {n : Nat} {x y : Int32} : qRng (qRng f n y) n x = qRng f n x := by
  funext j
  rw [qRng_v, qRng_v, qRng_v]
  by_cases hc : 4 ≤ j ∧ j < 4 + 6 * n ∧ (j - 4) % 6 = 2
  · rw [if_pos hc, if_pos hc]
  · rw [if_neg hc, if_neg hc, if_neg hc]
theorem qSz_12' : ∀ p q : Fin 12, ∃ m : Fin 12, qSz (nI p.1 - nI q.1) = nI m.1 := qSz_12
theorem qApart_22 {f : Nat → Int32} {n K a c : Nat} (h : zWF f n K) (ha : a < n) (hc : c < n) : ∃ m, m ≤ 22 ∧ qApart f a c = nI m := by
  obtain ⟨⟨p1, h1, e1⟩, ⟨p2, h2, e2⟩, -⟩ := zWF_a h ha
  obtain ⟨⟨p3, h3, e3⟩, ⟨p4, h4, e4⟩, -⟩ := zWF_a h hc
  obtain ⟨m1, g1⟩ := qSz_12 ⟨p1, h1⟩ ⟨p3, h3⟩
  obtain ⟨m2, g2⟩ := qSz_12 ⟨p2, h2⟩ ⟨p4, h4⟩
  have l1 := m1.2
  have l2 := m2.2
  refine ⟨m1.1 + m2.1, by omega, ?_⟩
  rw [qApart, e1, e2, e3, e4, show qSz (nI p1 - nI p3) = nI m1.1 from g1, show qSz (nI p2 - nI p4) = nI m2.1 from g2, nI_add]
/-- with the largest range all that are on hear each other -/
theorem qGs_22 {f : Nat → Int32} {n K : Nat} (h : zWF f n K) : (qGs (qRng f n (nI 22)) n n).2 ≤ 1 := by
  obtain ⟨F, hF⟩ : ∃ F, F = qRng f n (nI 22) := ⟨_, rfl⟩
  have hr : ∀ a, a < n → F (4 + 6 * a + 2) = nI 22 := fun a ha => by rw [hF, qRng_v, if_pos (by omega)]
  have ho : ∀ j, ¬ (j - 4) % 6 = 2 → F j = f j := fun j hj => by rw [hF, qRng_v, if_neg (by omega)]
  have hap : ∀ a c, a < n → c < n → ∃ m, m ≤ 22 ∧ qApart F a c = nI m := fun a c ha hc => by
    obtain ⟨m, h1, h2⟩ := qApart_22 h ha hc
    refine ⟨m, h1, ?_⟩
    rw [← h2, qApart, qApart, ho _ (by omega), ho _ (by omega), ho _ (by omega), ho _ (by omega)]
  have hh : ∀ a c, a < n → c < n → a ≠ c → qOn F a = true → qOn F c = true → qHears F a c = true := fun a c ha hc hac h1 h2 => by
    obtain ⟨m, m1, m2⟩ := hap a c ha hc
    have e : ¬ nI 22 < nI m := nI_nlt m1 (by decide)
    rw [qHears, h1, h2, decide_eq_false hac, hr a ha, hr c hc, m2]
    simp [e]
  have hall : ∀ a c, a < n → c < n → qOn F a = true → qOn F c = true → qRc F n a 5 c = true := fun a c ha hc h1 h2 => by
    have g1 : qRc F n a 1 c = true := by
      by_cases hac : a = c
      · subst hac
        exact qRc_mono (r := 0) (decide_eq_true rfl)
      · exact qRc_hear (r := 0) (decide_eq_true rfl) ha (hh a c ha hc hac h1 h2)
    exact qRc_mono (qRc_mono (qRc_mono (qRc_mono g1)))
  rw [← hF]
  have inv : ∀ i, i ≤ n → (qGs F n i).2 ≤ 1 ∧ ((qGs F n i).2 = 1 → ∀ c, c < n → qOn F c = true → (qGs F n i).1 c = true) := by
    intro i
    induction i with
    | zero => intro _; exact ⟨Nat.zero_le _, fun e => absurd (show (0 : Nat) = 1 from e) (by decide)⟩
    | succ i ih =>
      intro hi
      obtain ⟨i1, i2⟩ := ih (by omega)
      cases hc : (qOn F i && !(qGs F n i).1 i) with
      | true =>
        rw [qGs_y hc]
        rw [Bool.and_eq_true] at hc
        have h0 : (qGs F n i).2 = 0 := by
          by_cases h1 : (qGs F n i).2 = 1
          · have := i2 h1 i (by omega) hc.1
            rw [this] at hc
            exact absurd hc.2 (by decide)
          · omega
        refine ⟨?_, fun _ c hcn hco => ?_⟩
        · show (qGs F n i).2 + 1 ≤ 1
          omega
        · show ((qGs F n i).1 c || qRc F n i 5 c) = true
          rw [hall i c (by omega) hcn hc.1 hco, Bool.or_true]
      | false =>
        rw [qGs_n hc]
        exact ⟨i1, i2⟩
  exact (inv n (Nat.le_refl n)).1
/-- the range that is needed -/
def qRN (f : Nat → Int32) (n : Nat) : Nat := (qFst (fun r => decide ((qGs (qRng f n (nI r)) n n).2 ≤ 1)) 22).getD 22
theorem qRN_v {f : Nat → Int32} {n K : Nat} (h : zWF f n K) : qRN f n < 1000 ∧ (∀ w, (qGr (qRng f n (nI (qRN f n))) n w n).2.1 ≤ 1) ∧ ∀ r w, r < qRN f n → 1 < (qGr (qRng f n (nI r)) n w n).2.1 := by
  have hn := h.1
  have hg : ∀ r w, (qGr (qRng f n (nI r)) n w n).2.1 = (qGs (qRng f n (nI r)) n n).2 := fun r w => (qGr_v hn n (Nat.le_refl n)).2
  unfold qRN
  cases hq : qFst (fun r => decide ((qGs (qRng f n (nI r)) n n).2 ≤ 1)) 22 with
  | none =>
    refine ⟨by decide, fun w => ?_, fun r w hr => ?_⟩
    · rw [hg]
      exact qGs_22 h
    · have h1 := qFst_nlt hq r hr
      rw [decide_eq_false_iff_not] at h1
      rw [hg]
      omega
  | some R =>
    obtain ⟨h1, h2, h3⟩ := qFst_lt hq
    refine ⟨by show R < 1000; omega, fun w => ?_, fun r w hr => ?_⟩
    · rw [hg]
      exact of_decide_eq_true h2
    · have h4 := h3 r hr
      rw [decide_eq_false_iff_not] at h4
      rw [hg]
      omega
theorem qGs_le {f : Nat → Int32} {n i : Nat} : (qGs f n i).2 ≤ i := by
  induction i with
  | zero => exact Nat.le_refl 0
  | succ i ih =>
    cases hc : (qOn f i && !(qGs f n i).1 i) with
    | true => rw [qGs_y hc]; exact Nat.succ_le_succ ih
    | false => rw [qGs_n hc]; omega
set_option maxRecDepth 100000 in
set_option maxHeartbeats 4000000 in
theorem cx_X7_hops1 {g : zGl} {h : zHp} {b n K : Nat} {d u : Nat → Nat → Int32} {x y : Int32} (hJ : zJo d u n K) (hv : (qHas x n && qHas y n) = false) : zX g mX7_hops [.ref b, .int x, .int y] (zpT g h b d) "java/lang/IndexOutOfBoundsException" (zXJ g h b u) 1 6 := by
  have hR := hJ.1
  have hn := zR_n6 hR
  have hK := zR_K8 hR
  refine zX_ofA (lv := [some (.ref b), some (.int x), some (.int y), none, none]) (by decide) rfl (Nat.le_of_ble_eq_true rfl) ?_
  refine z_aload_n (q := 1) dX7_hops_0 rfl rfl ?_
  refine z_get (q := 4) dX7_hops_1 zfX7_19 (by first | exact zT_0 | exact zT_o zWo_3 | exact zT_w zWo_3 rfl | exact zT_o zWo_18 | exact zT_X | exact zT_H | exact zT_S | exact zT_C | exact zT_G | exact zT_N (zNo_w zWo_3) | exact zT_n (zNo_w zWo_3) (by decide) | exact zpT_a (c := 284) rfl | exact zT_L) rfl rfl ?_
  refine z_iload_n (q := 5) dX7_hops_4 rfl rfl ?_
  refine z_v1 (q := 8) dX7_hops_5 zkX7_119 zt_mX6_hasAgent rfl (by first | exact zT_0 | exact zT_o zWo_3 | exact zT_w zWo_3 rfl | exact zT_o zWo_18 | exact zT_X | exact zT_H | exact zT_S | exact zT_C | exact zT_G | exact zT_N (zNo_w zWo_3) | exact zT_n (zNo_w zWo_3) (by decide) | exact zpT_a (c := 284) rfl | exact zT_L) rfl (Nat.le_of_ble_eq_true rfl) (ct_X6_hasAgent zWo_3 (zR_0 hR)) rfl ?_
  refine z_ifb_eq (tg := 26) (q := 11) dX7_hops_8 rfl rfl ?_ ?_
  · intro hc8
    refine z_iconst (q := 27) dX7_hops_26 zci_0 rfl ?_
    exact z_cSX (av := [.int (nI 0)]) dX7_hops_27 zkX7_123 zw513 zt_mX7_requireIndex rfl rfl (Nat.le_of_ble_eq_true rfl) cx_X7_requireIndex (by decide) (by decide) (fun _ hh => ⟨d, ⟨n, K, hJ⟩, hh⟩)
  · intro hc8
    refine z_aload_n (q := 12) dX7_hops_11 rfl rfl ?_
    refine z_get (q := 15) dX7_hops_12 zfX7_19 (by first | exact zT_0 | exact zT_o zWo_3 | exact zT_w zWo_3 rfl | exact zT_o zWo_18 | exact zT_X | exact zT_H | exact zT_S | exact zT_C | exact zT_G | exact zT_N (zNo_w zWo_3) | exact zT_n (zNo_w zWo_3) (by decide) | exact zpT_a (c := 284) rfl | exact zT_L) rfl rfl ?_
    refine z_iload_n (q := 16) dX7_hops_15 rfl rfl ?_
    refine z_v1 (q := 19) dX7_hops_16 zkX7_119 zt_mX6_hasAgent rfl (by first | exact zT_0 | exact zT_o zWo_3 | exact zT_w zWo_3 rfl | exact zT_o zWo_18 | exact zT_X | exact zT_H | exact zT_S | exact zT_C | exact zT_G | exact zT_N (zNo_w zWo_3) | exact zT_n (zNo_w zWo_3) (by decide) | exact zpT_a (c := 284) rfl | exact zT_L) rfl (Nat.le_of_ble_eq_true rfl) (ct_X6_hasAgent zWo_3 (zR_0 hR)) rfl ?_
    refine z_ifb_eq (tg := 26) (q := 22) dX7_hops_19 rfl rfl ?_ ?_
    · intro hc19
      refine z_iconst (q := 27) dX7_hops_26 zci_0 rfl ?_
      exact z_cSX (av := [.int (nI 0)]) dX7_hops_27 zkX7_123 zw513 zt_mX7_requireIndex rfl rfl (Nat.le_of_ble_eq_true rfl) cx_X7_requireIndex (by decide) (by decide) (fun _ hh => ⟨d, ⟨n, K, hJ⟩, hh⟩)
    · intro hc19
      exact absurd hv (by rw [hc8, hc19]; decide)
set_option maxRecDepth 100000 in
set_option maxHeartbeats 4000000 in
theorem ct_X7_hops0 {g : zGl} {h : zHp} {b n K a e : Nat} {d u : Nat → Nat → Int32} (hJ : zJo d u n K) (ha : a < n) (hb : e < n) : zC g mX7_hops [.ref b, .int (nI a), .int (nI e)] (zpT g h b d) (zRJ g h b u (qWays (u 3) n a (u 9) e)) 0 0 := by
  have hR := hJ.1
  have hn := zR_n6 hR
  have hK := zR_K8 hR
  rw [qWays_v hn ha hb]
  refine zC_ofA (lv := [some (.ref b), some (.int (nI a)), some (.int (nI e)), none, none]) (by decide) rfl (Nat.le_of_ble_eq_true rfl) ?_
  have loop : ∀ r i, i + r = 6 → (∀ j, j < i → qRc (u 3) n a j e = false) → zA g (zZc g mX7_hops (zRJ g h b u (qT (qFst (fun j => qRc (u 3) n a j e) 6))) 0 0) 0 0 37 [some (.ref b), some (.int (nI a)), some (.int (nI e)), some (.int (nI (mk (qRc (u 3) n a i) n))), some (.int (nI i))] [] (zpT g h b d) := by
    intro r
    induction r using Nat.strongRecOn with
    | ind r ih =>
      intro i hi hj
      have h64 : mk (qRc (u 3) n a i) n < 64 := zS_31 mk_lt hn
      refine z_iload (q := 39) dX7_hops_37 rfl rfl ?_
      refine z_bipush (q := 41) dX7_hops_39 zcb_6 rfl ?_
      refine z_icmp_geN (tg := 70) (q := 44) dX7_hops_41 rfl rfl (by omega) (by omega) ?_ ?_
      · intro hc41
        refine z_bipush (q := 72) dX7_hops_70 zcb_m9 rfl ?_
        exact z_reti dX7_hops_72 rfl (zRJ_v hJ (by rw [qFst_none (fun j hj2 => hj j (by omega))]; rfl))
      · intro hc41
        refine z_iload_n (q := 45) dX7_hops_44 rfl rfl ?_
        refine z_iload_n (q := 46) dX7_hops_45 rfl rfl ?_
        refine z_s2 (q := 49) dX7_hops_46 zkX7_240 zt_mX7_isIn rfl (Nat.le_of_ble_eq_true rfl) (ct_X7_isIn (by omega) (by omega)) rfl ?_
        refine z_ifb_eq (tg := 55) (q := 52) dX7_hops_49 rfl rfl ?_ ?_
        · intro hc49
          rw [mk_tb, show decide (e < n) = true from decide_eq_true hb, Bool.true_and] at hc49
          refine z_aload_n (q := 56) dX7_hops_55 rfl rfl ?_
          refine z_get (q := 59) dX7_hops_56 zfX7_19 (by first | exact zT_0 | exact zT_o zWo_3 | exact zT_w zWo_3 rfl | exact zT_o zWo_18 | exact zT_X | exact zT_H | exact zT_S | exact zT_C | exact zT_G | exact zT_N (zNo_w zWo_3) | exact zT_n (zNo_w zWo_3) (by decide) | exact zpT_a (c := 284) rfl | exact zT_L) rfl rfl ?_
          refine z_iload_n (q := 60) dX7_hops_59 rfl rfl ?_
          refine z_v1 (q := 63) dX7_hops_60 zkX7_243 zt_mX6_passedOn rfl (by first | exact zT_0 | exact zT_o zWo_3 | exact zT_w zWo_3 rfl | exact zT_o zWo_18 | exact zT_X | exact zT_H | exact zT_S | exact zT_C | exact zT_G | exact zT_N (zNo_w zWo_3) | exact zT_n (zNo_w zWo_3) (by decide) | exact zpT_a (c := 284) rfl | exact zT_L) rfl (Nat.le_of_ble_eq_true rfl) (ct_X6_passedOn zWo_3 hR) rfl ?_
          refine z_istore_n (q := 64) dX7_hops_63 (Nat.le_of_ble_eq_true rfl) rfl rfl ?_
          refine z_iincN (q := 67) dX7_hops_64 rfl rfl rfl ?_
          refine z_goto (q := 0) (tg := 37) dX7_hops_67 rfl ?_
          refine ih (r - 1) (by omega) (i + 1) (by omega) (fun j hj2 => ?_)
          rcases Nat.lt_succ_iff_lt_or_eq.mp hj2 with h9 | rfl
          · exact hj j h9
          · exact hc49
        · intro hc49
          rw [mk_tb, show decide (e < n) = true from decide_eq_true hb, Bool.true_and] at hc49
          refine z_iload (q := 54) dX7_hops_52 rfl rfl ?_
          exact z_reti dX7_hops_54 rfl (zRJ_v hJ (by rw [qFst_some (i := i) (by omega) hc49 hj]; rfl))
  refine z_aload_n (q := 1) dX7_hops_0 rfl rfl ?_
  refine z_get (q := 4) dX7_hops_1 zfX7_19 (by first | exact zT_0 | exact zT_o zWo_3 | exact zT_w zWo_3 rfl | exact zT_o zWo_18 | exact zT_X | exact zT_H | exact zT_S | exact zT_C | exact zT_G | exact zT_N (zNo_w zWo_3) | exact zT_n (zNo_w zWo_3) (by decide) | exact zpT_a (c := 284) rfl | exact zT_L) rfl rfl ?_
  refine z_iload_n (q := 5) dX7_hops_4 rfl rfl ?_
  refine z_v1 (q := 8) dX7_hops_5 zkX7_119 zt_mX6_hasAgent rfl (by first | exact zT_0 | exact zT_o zWo_3 | exact zT_w zWo_3 rfl | exact zT_o zWo_18 | exact zT_X | exact zT_H | exact zT_S | exact zT_C | exact zT_G | exact zT_N (zNo_w zWo_3) | exact zT_n (zNo_w zWo_3) (by decide) | exact zpT_a (c := 284) rfl | exact zT_L) rfl (Nat.le_of_ble_eq_true rfl) (ct_X6_hasAgent zWo_3 (zR_0 hR)) rfl ?_
  refine z_eqi ((congrArg zbi ((qHas_i ha (by omega)))).trans zbi_t) ?_
  refine z_if_eq (tg := 26) (q := 11) dX7_hops_8 rfl rfl ?_ ?_
  · intro hc8
    exact absurd hc8 (by decide)
  · intro hc8
    refine z_aload_n (q := 12) dX7_hops_11 rfl rfl ?_
    refine z_get (q := 15) dX7_hops_12 zfX7_19 (by first | exact zT_0 | exact zT_o zWo_3 | exact zT_w zWo_3 rfl | exact zT_o zWo_18 | exact zT_X | exact zT_H | exact zT_S | exact zT_C | exact zT_G | exact zT_N (zNo_w zWo_3) | exact zT_n (zNo_w zWo_3) (by decide) | exact zpT_a (c := 284) rfl | exact zT_L) rfl rfl ?_
    refine z_iload_n (q := 16) dX7_hops_15 rfl rfl ?_
    refine z_v1 (q := 19) dX7_hops_16 zkX7_119 zt_mX6_hasAgent rfl (by first | exact zT_0 | exact zT_o zWo_3 | exact zT_w zWo_3 rfl | exact zT_o zWo_18 | exact zT_X | exact zT_H | exact zT_S | exact zT_C | exact zT_G | exact zT_N (zNo_w zWo_3) | exact zT_n (zNo_w zWo_3) (by decide) | exact zpT_a (c := 284) rfl | exact zT_L) rfl (Nat.le_of_ble_eq_true rfl) (ct_X6_hasAgent zWo_3 (zR_0 hR)) rfl ?_
    refine z_eqi ((congrArg zbi ((qHas_i hb (by omega)))).trans zbi_t) ?_
    refine z_if_eq (tg := 26) (q := 22) dX7_hops_19 rfl rfl ?_ ?_
    · intro hc19
      exact absurd hc19 (by decide)
    · intro hc19
      refine z_iconst (q := 23) dX7_hops_22 zci_1 rfl ?_
      refine z_goto (q := 0) (tg := 27) dX7_hops_23 rfl ?_
      refine z_u1 (q := 30) dX7_hops_27 zkX7_123 zt_mX7_requireIndex rfl (Nat.le_of_ble_eq_true rfl) (ct_X7_requireIndex) rfl ?_
      refine z_iconst (q := 31) dX7_hops_30 zci_1 rfl ?_
      refine z_iload_n (q := 32) dX7_hops_31 rfl rfl ?_
      refine z_ishl (q := 33) dX7_hops_32 rfl ?_
      refine z_eqi (nI_shl (by omega)) ?_
      refine z_eqi (show nI (2 ^ a) = nI (mk (qRc (u 3) n a 0) n) from congrArg nI (mk_one ha).symm) ?_
      refine z_istore_n (q := 34) dX7_hops_33 (Nat.le_of_ble_eq_true rfl) rfl rfl ?_
      refine z_iconst (q := 35) dX7_hops_34 zci_0 rfl ?_
      refine z_istore (q := 37) dX7_hops_35 (Nat.le_of_ble_eq_true rfl) rfl rfl ?_
      exact loop 6 0 (by omega) (fun j hj => absurd hj (Nat.not_lt_zero j))
set_option maxRecDepth 100000 in
set_option maxHeartbeats 4000000 in
theorem ct_X7_groups {g : zGl} {h : zHp} {b n K : Nat} {d u : Nat → Nat → Int32} (hJ : zJo d u n K) : zC g mX7_groups [.ref b] (zpT g h b d) (zRJ g h b u (nI (qGr (u 3) n (u 9) n).2.1)) 0 0 := by
  have hR := hJ.1
  have hn := zR_n6 hR
  have hK := zR_K8 hR
  refine zC_ofA (lv := [some (.ref b)]) (by decide) rfl (Nat.le_of_ble_eq_true rfl) ?_
  refine z_aload_n (q := 1) dX7_groups_0 rfl rfl ?_
  refine z_get (q := 4) dX7_groups_1 zfX7_19 (by first | exact zT_0 | exact zT_o zWo_3 | exact zT_w zWo_3 rfl | exact zT_o zWo_18 | exact zT_X | exact zT_H | exact zT_S | exact zT_C | exact zT_G | exact zT_N (zNo_w zWo_3) | exact zT_n (zNo_w zWo_3) (by decide) | exact zpT_a (c := 284) rfl | exact zT_L) rfl rfl ?_
  refine z_v0 (q := 7) dX7_groups_4 zkX7_246 zt_mX6_groupCount rfl (by first | exact zT_0 | exact zT_o zWo_3 | exact zT_w zWo_3 rfl | exact zT_o zWo_18 | exact zT_X | exact zT_H | exact zT_S | exact zT_C | exact zT_G | exact zT_N (zNo_w zWo_3) | exact zT_n (zNo_w zWo_3) (by decide) | exact zpT_a (c := 284) rfl | exact zT_L) rfl (Nat.le_of_ble_eq_true rfl) (ct_X6_groupCount zWo_3 hR) rfl ?_
  exact z_reti dX7_groups_7 rfl (zRJ_v hJ (by rw [(qGr_v hn n (Nat.le_refl n)).2]))
set_option maxRecDepth 100000 in
set_option maxHeartbeats 4000000 in
theorem ct_X7_rangeNeeded {g : zGl} {h : zHp} {b n K : Nat} {d u : Nat → Nat → Int32} (hJ : zJo d u n K) : zC g mX7_rangeNeeded [.ref b] (zpT g h b d) (zRJ g h b u (nI (qRN (u 3) n))) 0 0 := by
  have hR := hJ.1
  have hn := zR_n6 hR
  have hK := zR_K8 hR
  refine zC_ofA (lv := [some (.ref b), none]) (by decide) rfl (Nat.le_of_ble_eq_true rfl) ?_
  have loop : ∀ r i D F, i + r = 22 → (∀ j, j < i → decide ((qGs (qRng (u 3) n (nI j)) n n).2 ≤ 1) = false) → zR D 18 F n K → (∀ x, qRng F n x = qRng (u 3) n x) → (∀ c, c < 18 ∨ (33 ≤ c ∧ c < 276) → D c = d c) → zA g (zZc g mX7_rangeNeeded (zRJ g h b u (nI (qRN (u 3) n))) 0 0) 0 0 13 [some (.ref b), some (.int (nI i))] [] (zpT g h b D) := by
    intro r
    induction r using Nat.strongRecOn with
    | ind r ih =>
      intro i D F hi hj hD hF hS
      refine z_iload_n (q := 14) dX7_rangeNeeded_13 rfl rfl ?_
      refine z_bipush (q := 16) dX7_rangeNeeded_14 zcb_22 rfl ?_
      refine z_icmp_geN (tg := 46) (q := 19) dX7_rangeNeeded_16 rfl rfl (by omega) (by omega) ?_ ?_
      · intro hc16
        refine z_bipush (q := 48) dX7_rangeNeeded_46 zcb_22 rfl ?_
        exact z_reti dX7_rangeNeeded_48 rfl (⟨by rw [qRN, qFst_none (fun j hj2 => hj j (by omega))]; rfl, D, rfl, n, K, zJo_same hS hJ⟩)
      · intro hc16
        refine z_aload_n (q := 20) dX7_rangeNeeded_19 rfl rfl ?_
        refine z_get (q := 23) dX7_rangeNeeded_20 zfX7_23 (by first | exact zT_0 | exact zT_o zWo_3 | exact zT_w zWo_3 rfl | exact zT_o zWo_18 | exact zT_X | exact zT_H | exact zT_S | exact zT_C | exact zT_G | exact zT_N (zNo_w zWo_3) | exact zT_n (zNo_w zWo_3) (by decide) | exact zpT_a (c := 284) rfl | exact zT_L) rfl rfl ?_
        refine z_iload_n (q := 24) dX7_rangeNeeded_23 rfl rfl ?_
        refine z_V1 (q := 27) dX7_rangeNeeded_24 zkX7_249 zt_mX6_setAllRanges rfl (zT_o zWo_18) rfl (Nat.le_of_ble_eq_true rfl) (ct_X6_setAllRanges zWo_18 hD ⟨i, by omega, rfl⟩) (Nat.zero_le _) (Nat.zero_le _) rfl ?_
        rintro _ _ ⟨rfl, D2, rfl, hD2, hO2⟩
        rw [hF] at hD2
        refine z_aload_n (q := 28) dX7_rangeNeeded_27 rfl rfl ?_
        refine z_get (q := 31) dX7_rangeNeeded_28 zfX7_23 (by first | exact zT_0 | exact zT_o zWo_3 | exact zT_w zWo_3 rfl | exact zT_o zWo_18 | exact zT_X | exact zT_H | exact zT_S | exact zT_C | exact zT_G | exact zT_N (zNo_w zWo_3) | exact zT_n (zNo_w zWo_3) (by decide) | exact zpT_a (c := 284) rfl | exact zT_L) rfl rfl ?_
        refine z_v0 (q := 34) dX7_rangeNeeded_31 zkX7_246 zt_mX6_groupCount rfl (zT_o zWo_18) rfl (Nat.le_of_ble_eq_true rfl) (ct_X6_groupCount zWo_18 hD2) rfl ?_
        refine z_iconst (q := 35) dX7_rangeNeeded_34 zci_1 rfl ?_
        have hle := qGs_le (f := qRng (u 3) n (nI i)) (n := n) (i := n)
        refine z_icmp_gtN (tg := 40) (q := 38) dX7_rangeNeeded_35 rfl rfl (by omega) (by omega) ?_ ?_
        · intro hc35
          refine z_iincN (q := 43) dX7_rangeNeeded_40 rfl rfl rfl ?_
          refine z_goto (q := 0) (tg := 13) dX7_rangeNeeded_43 rfl ?_
          refine ih (r - 1) (by omega) (i + 1) D2 _ (by omega) (fun j hj2 => ?_) hD2 (fun x => qRng_rr) (fun c hc => (zOut_s hO2 c hc).trans (hS c hc))
          rcases Nat.lt_succ_iff_lt_or_eq.mp hj2 with h9 | rfl
          · exact hj j h9
          · exact decide_eq_false (by omega)
        · intro hc35
          refine z_iload_n (q := 39) dX7_rangeNeeded_38 rfl rfl ?_
          exact z_reti dX7_rangeNeeded_39 rfl (⟨by
            rw [qRN, qFst_some (i := i) (by omega) (decide_eq_true hc35) hj]
            rfl, D2, rfl, n, K, zJo_same (fun c hc => (zOut_s hO2 c hc).trans (hS c hc)) hJ⟩)
  refine z_aload_n (q := 1) dX7_rangeNeeded_0 rfl rfl ?_
  refine z_get (q := 4) dX7_rangeNeeded_1 zfX7_23 (by first | exact zT_0 | exact zT_o zWo_3 | exact zT_w zWo_3 rfl | exact zT_o zWo_18 | exact zT_X | exact zT_H | exact zT_S | exact zT_C | exact zT_G | exact zT_N (zNo_w zWo_3) | exact zT_n (zNo_w zWo_3) (by decide) | exact zpT_a (c := 284) rfl | exact zT_L) rfl rfl ?_
  refine z_aload_n (q := 5) dX7_rangeNeeded_4 rfl rfl ?_
  refine z_get (q := 8) dX7_rangeNeeded_5 zfX7_19 (by first | exact zT_0 | exact zT_o zWo_3 | exact zT_w zWo_3 rfl | exact zT_o zWo_18 | exact zT_X | exact zT_H | exact zT_S | exact zT_C | exact zT_G | exact zT_N (zNo_w zWo_3) | exact zT_n (zNo_w zWo_3) (by decide) | exact zpT_a (c := 284) rfl | exact zT_L) rfl rfl ?_
  refine z_V1 (q := 11) dX7_rangeNeeded_8 zkX7_87 zt_mX6_copyFrom rfl (zT_o zWo_18) rfl (Nat.le_of_ble_eq_true rfl) (ct_X6_copyFrom zWo_18 zWo_3 (by omega)) (Nat.zero_le _) (Nat.zero_le _) rfl ?_
  rintro _ _ ⟨rfl, D, rfl, hD⟩
  have hR1 := zCy_R hD hR
  have hS1 := zOut_s hD.2.2.2
  refine z_iconst (q := 12) dX7_rangeNeeded_11 zci_0 rfl ?_
  refine z_istore_n (q := 13) dX7_rangeNeeded_12 (Nat.le_of_ble_eq_true rfl) rfl rfl ?_
  exact loop 22 0 D _ (by omega) (fun j hj => absurd hj (Nat.not_lt_zero j)) hR1 (fun x => rfl) hS1
set_option maxRecDepth 100000 in
set_option maxHeartbeats 4000000 in
theorem cx_X7_conflicts1 {g : zGl} {h : zHp} {b n K : Nat} {d u : Nat → Nat → Int32} {x : Int32} (hJ : zJo d u n K) (hv : qBt x 0 2 = false) : zX g mX7_conflicts [.ref b, .int x] (zpT g h b d) "java/lang/IllegalArgumentException" (zXJ g h b u) 1 6 := by
  have hR := hJ.1
  have hn := zR_n6 hR
  have hK := zR_K8 hR
  refine zX_ofA (lv := [some (.ref b), some (.int x)]) (by decide) rfl (Nat.le_of_ble_eq_true rfl) ?_
  refine z_iload_n (q := 1) dX7_conflicts_0 rfl rfl ?_
  refine z_iconst (q := 2) dX7_conflicts_1 zci_0 rfl ?_
  refine z_iconst (q := 3) dX7_conflicts_2 zci_2 rfl ?_
  exact z_cSX (av := [.int x, .int (nI 0), .int (nI 2)]) dX7_conflicts_3 zkX7_64 zw362 zt_mX7_requireBetween rfl rfl (Nat.le_of_ble_eq_true rfl) (cx_X7_requireBetween hv) (by decide) (by decide) (fun _ hh => ⟨d, ⟨n, K, hJ⟩, hh⟩)
set_option maxRecDepth 100000 in
set_option maxHeartbeats 4000000 in
theorem ct_X7_conflicts0 {g : zGl} {h : zHp} {b n K w : Nat} {d u : Nat → Nat → Int32} (hJ : zJo d u n K) (hw : w ≤ 2) : zC g mX7_conflicts [.ref b, .int (nI w)] (zpT g h b d) (zRJ g h b u (qConf (u 3) n K w)) 0 0 := by
  have hR := hJ.1
  have hn := zR_n6 hR
  have hK := zR_K8 hR
  refine zC_ofA (lv := [some (.ref b), some (.int (nI w))]) (by decide) rfl (Nat.le_of_ble_eq_true rfl) ?_
  rcases (show w = 0 ∨ w = 1 ∨ w = 2 by omega) with rfl | rfl | rfl
  · skip
    refine z_iload_n (q := 1) dX7_conflicts_0 rfl rfl ?_
    refine z_iconst (q := 2) dX7_conflicts_1 zci_0 rfl ?_
    refine z_iconst (q := 3) dX7_conflicts_2 zci_2 rfl ?_
    refine z_u3 (q := 6) dX7_conflicts_3 zkX7_64 zt_mX7_requireBetween rfl (Nat.le_of_ble_eq_true rfl) (ct_X7_requireBetween (qBt_i (by decide) (by decide) (by decide))) rfl ?_
    refine z_iload_n (q := 7) dX7_conflicts_6 rfl rfl ?_
    refine z_lookup (q := 0) (tg := 32) dX7_conflicts_7 (by decide) rfl rfl ?_
    refine z_aload_n (q := 33) dX7_conflicts_32 rfl rfl ?_
    refine z_get (q := 36) dX7_conflicts_33 zfX7_19 (by first | exact zT_0 | exact zT_o zWo_3 | exact zT_w zWo_3 rfl | exact zT_o zWo_18 | exact zT_X | exact zT_H | exact zT_S | exact zT_C | exact zT_G | exact zT_N (zNo_w zWo_3) | exact zT_n (zNo_w zWo_3) (by decide) | exact zpT_a (c := 284) rfl | exact zT_L) rfl rfl ?_
    refine z_v0 (q := 39) dX7_conflicts_36 zkX7_252 zt_mX6_doublyClaimed rfl (by first | exact zT_0 | exact zT_o zWo_3 | exact zT_w zWo_3 rfl | exact zT_o zWo_18 | exact zT_X | exact zT_H | exact zT_S | exact zT_C | exact zT_G | exact zT_N (zNo_w zWo_3) | exact zT_n (zNo_w zWo_3) (by decide) | exact zpT_a (c := 284) rfl | exact zT_L) rfl (Nat.le_of_ble_eq_true rfl) (ct_X6_doublyClaimed zWo_3 hR) rfl ?_
    exact z_reti dX7_conflicts_39 rfl (zRJ_v hJ rfl)
  · skip
    refine z_iload_n (q := 1) dX7_conflicts_0 rfl rfl ?_
    refine z_iconst (q := 2) dX7_conflicts_1 zci_0 rfl ?_
    refine z_iconst (q := 3) dX7_conflicts_2 zci_2 rfl ?_
    refine z_u3 (q := 6) dX7_conflicts_3 zkX7_64 zt_mX7_requireBetween rfl (Nat.le_of_ble_eq_true rfl) (ct_X7_requireBetween (qBt_i (by decide) (by decide) (by decide))) rfl ?_
    refine z_iload_n (q := 7) dX7_conflicts_6 rfl rfl ?_
    refine z_lookup (q := 0) (tg := 40) dX7_conflicts_7 (by decide) rfl rfl ?_
    refine z_aload_n (q := 41) dX7_conflicts_40 rfl rfl ?_
    refine z_get (q := 44) dX7_conflicts_41 zfX7_19 (by first | exact zT_0 | exact zT_o zWo_3 | exact zT_w zWo_3 rfl | exact zT_o zWo_18 | exact zT_X | exact zT_H | exact zT_S | exact zT_C | exact zT_G | exact zT_N (zNo_w zWo_3) | exact zT_n (zNo_w zWo_3) (by decide) | exact zpT_a (c := 284) rfl | exact zT_L) rfl rfl ?_
    refine z_v0 (q := 47) dX7_conflicts_44 zkX7_255 zt_mX6_unknownFinishes rfl (by first | exact zT_0 | exact zT_o zWo_3 | exact zT_w zWo_3 rfl | exact zT_o zWo_18 | exact zT_X | exact zT_H | exact zT_S | exact zT_C | exact zT_G | exact zT_N (zNo_w zWo_3) | exact zT_n (zNo_w zWo_3) (by decide) | exact zpT_a (c := 284) rfl | exact zT_L) rfl (Nat.le_of_ble_eq_true rfl) (ct_X6_unknownFinishes zWo_3 hR) rfl ?_
    exact z_reti dX7_conflicts_47 rfl (zRJ_v hJ rfl)
  · skip
    refine z_iload_n (q := 1) dX7_conflicts_0 rfl rfl ?_
    refine z_iconst (q := 2) dX7_conflicts_1 zci_0 rfl ?_
    refine z_iconst (q := 3) dX7_conflicts_2 zci_2 rfl ?_
    refine z_u3 (q := 6) dX7_conflicts_3 zkX7_64 zt_mX7_requireBetween rfl (Nat.le_of_ble_eq_true rfl) (ct_X7_requireBetween (qBt_i (by decide) (by decide) (by decide))) rfl ?_
    refine z_iload_n (q := 7) dX7_conflicts_6 rfl rfl ?_
    refine z_lookup (q := 0) (tg := 48) dX7_conflicts_7 (by decide) rfl rfl ?_
    refine z_aload_n (q := 49) dX7_conflicts_48 rfl rfl ?_
    refine z_get (q := 52) dX7_conflicts_49 zfX7_19 (by first | exact zT_0 | exact zT_o zWo_3 | exact zT_w zWo_3 rfl | exact zT_o zWo_18 | exact zT_X | exact zT_H | exact zT_S | exact zT_C | exact zT_G | exact zT_N (zNo_w zWo_3) | exact zT_n (zNo_w zWo_3) (by decide) | exact zpT_a (c := 284) rfl | exact zT_L) rfl rfl ?_
    refine z_v0 (q := 55) dX7_conflicts_52 zkX7_258 zt_mX6_claimsOfLostAgents rfl (by first | exact zT_0 | exact zT_o zWo_3 | exact zT_w zWo_3 rfl | exact zT_o zWo_18 | exact zT_X | exact zT_H | exact zT_S | exact zT_C | exact zT_G | exact zT_N (zNo_w zWo_3) | exact zT_n (zNo_w zWo_3) (by decide) | exact zpT_a (c := 284) rfl | exact zT_L) rfl (Nat.le_of_ble_eq_true rfl) (ct_X6_claimsOfLostAgents zWo_3 hR) rfl ?_
    exact z_reti dX7_conflicts_55 rfl (zRJ_v hJ rfl)
set_option maxRecDepth 100000 in
set_option maxHeartbeats 4000000 in
theorem cx_X7_finishedAfter1 {g : zGl} {h : zHp} {b n K : Nat} {d u : Nat → Nat → Int32} {x : Int32} (hJ : zJo d u n K) (hv : qBt x 0 8 = false) : zX g mX7_finishedAfter [.ref b, .int x] (zpT g h b d) "java/lang/IllegalArgumentException" (zXJ g h b u) 1 6 := by
  have hR := hJ.1
  have hn := zR_n6 hR
  have hK := zR_K8 hR
  refine zX_ofA (lv := [some (.ref b), some (.int x), none]) (by decide) rfl (Nat.le_of_ble_eq_true rfl) ?_
  refine z_iload_n (q := 1) dX7_finishedAfter_0 rfl rfl ?_
  refine z_iconst (q := 2) dX7_finishedAfter_1 zci_0 rfl ?_
  refine z_bipush (q := 4) dX7_finishedAfter_2 zcb_8 rfl ?_
  exact z_cSX (av := [.int x, .int (nI 0), .int (nI 8)]) dX7_finishedAfter_4 zkX7_64 zw362 zt_mX7_requireBetween rfl rfl (Nat.le_of_ble_eq_true rfl) (cx_X7_requireBetween hv) (by decide) (by decide) (fun _ hh => ⟨d, ⟨n, K, hJ⟩, hh⟩)
set_option maxRecDepth 100000 in
set_option maxHeartbeats 4000000 in
theorem ct_X7_finishedAfter0 {g : zGl} {h : zHp} {b n K x : Nat} {d u : Nat → Nat → Int32} (hJ : zJo d u n K) (hx : x ≤ 8) : zC g mX7_finishedAfter [.ref b, .int (nI x)] (zpT g h b d) (zRJ g h b u (qFA (u 3) n K x)) 0 0 := by
  have hR := hJ.1
  have hn := zR_n6 hR
  have hK := zR_K8 hR
  refine zC_ofA (lv := [some (.ref b), some (.int (nI x)), none]) (by decide) rfl (Nat.le_of_ble_eq_true rfl) ?_
  have loop : ∀ r i D, i + r = 151 → (∀ j, j < i → (!decide (qFin (qSteps (u 3) n K j) K < nI x)) = false) → zR D 18 (qSteps (u 3) n K i) n K → (∀ c, c < 18 ∨ (33 ≤ c ∧ c < 276) → D c = d c) → zA g (zZc g mX7_finishedAfter (zRJ g h b u (qFA (u 3) n K x)) 0 0) 0 0 20 [some (.ref b), some (.int (nI x)), some (.int (nI i))] [] (zpT g h b D) := by
    intro r
    induction r using Nat.strongRecOn with
    | ind r ih =>
      intro i D hi hj hD hS
      refine z_iload_n (q := 21) dX7_finishedAfter_20 rfl rfl ?_
      refine z_sipush (q := 24) dX7_finishedAfter_21 zcs_150 rfl ?_
      refine z_icmp_gtN (tg := 58) (q := 27) dX7_finishedAfter_24 rfl rfl (by omega) (by omega) ?_ ?_
      · intro hc24
        refine z_bipush (q := 60) dX7_finishedAfter_58 zcb_m9 rfl ?_
        exact z_reti dX7_finishedAfter_60 rfl (⟨by rw [qFA, qFst_none (fun j hj2 => hj j (by omega))]; rfl, D, rfl, n, K, zJo_same hS hJ⟩)
      · intro hc24
        refine z_aload_n (q := 28) dX7_finishedAfter_27 rfl rfl ?_
        refine z_get (q := 31) dX7_finishedAfter_28 zfX7_23 (by first | exact zT_0 | exact zT_o zWo_3 | exact zT_w zWo_3 rfl | exact zT_o zWo_18 | exact zT_X | exact zT_H | exact zT_S | exact zT_C | exact zT_G | exact zT_N (zNo_w zWo_3) | exact zT_n (zNo_w zWo_3) (by decide) | exact zpT_a (c := 284) rfl | exact zT_L) rfl rfl ?_
        refine z_v0 (q := 34) dX7_finishedAfter_31 zkX7_106 zt_mX6_finishedTasks rfl (zT_o zWo_18) rfl (Nat.le_of_ble_eq_true rfl) (ct_X6_finishedTasks zWo_18 hD) rfl ?_
        refine z_iload_n (q := 35) dX7_finishedAfter_34 rfl rfl ?_
        refine z_icmp_lt (tg := 40) (q := 38) dX7_finishedAfter_35 rfl rfl ?_ ?_
        · intro hc35
          refine z_aload_n (q := 41) dX7_finishedAfter_40 rfl rfl ?_
          refine z_get (q := 44) dX7_finishedAfter_41 zfX7_44 (by first | exact zT_0 | exact zT_o zWo_3 | exact zT_w zWo_3 rfl | exact zT_o zWo_18 | exact zT_X | exact zT_H | exact zT_S | exact zT_C | exact zT_G | exact zT_N (zNo_w zWo_3) | exact zT_n (zNo_w zWo_3) (by decide) | exact zpT_a (c := 284) rfl | exact zT_L) rfl rfl ?_
          refine z_aload_n (q := 45) dX7_finishedAfter_44 rfl rfl ?_
          refine z_get (q := 48) dX7_finishedAfter_45 zfX7_23 (by first | exact zT_0 | exact zT_o zWo_3 | exact zT_w zWo_3 rfl | exact zT_o zWo_18 | exact zT_X | exact zT_H | exact zT_S | exact zT_C | exact zT_G | exact zT_N (zNo_w zWo_3) | exact zT_n (zNo_w zWo_3) (by decide) | exact zpT_a (c := 284) rfl | exact zT_L) rfl rfl ?_
          refine z_iconst (q := 49) dX7_finishedAfter_48 zci_1 rfl ?_
          refine z_V2 (q := 52) dX7_finishedAfter_49 zkX7_201 zt_mX4_makeSteps rfl zT_S rfl (Nat.le_of_ble_eq_true rfl) (ct_X4_makeSteps zWo_18 hD (by decide)) (Nat.zero_le _) (Nat.zero_le _) rfl ?_
          rintro _ _ ⟨rfl, D2, rfl, hD2, hO2⟩
          refine z_iincN (q := 55) dX7_finishedAfter_52 rfl rfl rfl ?_
          refine z_goto (q := 0) (tg := 20) dX7_finishedAfter_55 rfl ?_
          refine ih (r - 1) (by omega) (i + 1) D2 (by omega) (fun j hj2 => ?_) hD2 (fun c hc => (zO2_s hO2 c hc).trans (hS c hc))
          rcases Nat.lt_succ_iff_lt_or_eq.mp hj2 with h9 | rfl
          · exact hj j h9
          · rw [decide_eq_true hc35]; rfl
        · intro hc35
          refine z_iload_n (q := 39) dX7_finishedAfter_38 rfl rfl ?_
          exact z_reti dX7_finishedAfter_39 rfl (⟨by rw [qFA, qFst_some (i := i) (by omega) (by rw [decide_eq_false hc35]; rfl) hj]; rfl, D, rfl, n, K, zJo_same hS hJ⟩)
  refine z_iload_n (q := 1) dX7_finishedAfter_0 rfl rfl ?_
  refine z_iconst (q := 2) dX7_finishedAfter_1 zci_0 rfl ?_
  refine z_bipush (q := 4) dX7_finishedAfter_2 zcb_8 rfl ?_
  refine z_u3 (q := 7) dX7_finishedAfter_4 zkX7_64 zt_mX7_requireBetween rfl (Nat.le_of_ble_eq_true rfl) (ct_X7_requireBetween (qBt_i (Nat.zero_le _) hx (by decide))) rfl ?_
  refine z_aload_n (q := 8) dX7_finishedAfter_7 rfl rfl ?_
  refine z_get (q := 11) dX7_finishedAfter_8 zfX7_23 (by first | exact zT_0 | exact zT_o zWo_3 | exact zT_w zWo_3 rfl | exact zT_o zWo_18 | exact zT_X | exact zT_H | exact zT_S | exact zT_C | exact zT_G | exact zT_N (zNo_w zWo_3) | exact zT_n (zNo_w zWo_3) (by decide) | exact zpT_a (c := 284) rfl | exact zT_L) rfl rfl ?_
  refine z_aload_n (q := 12) dX7_finishedAfter_11 rfl rfl ?_
  refine z_get (q := 15) dX7_finishedAfter_12 zfX7_19 (by first | exact zT_0 | exact zT_o zWo_3 | exact zT_w zWo_3 rfl | exact zT_o zWo_18 | exact zT_X | exact zT_H | exact zT_S | exact zT_C | exact zT_G | exact zT_N (zNo_w zWo_3) | exact zT_n (zNo_w zWo_3) (by decide) | exact zpT_a (c := 284) rfl | exact zT_L) rfl rfl ?_
  refine z_V1 (q := 18) dX7_finishedAfter_15 zkX7_87 zt_mX6_copyFrom rfl (zT_o zWo_18) rfl (Nat.le_of_ble_eq_true rfl) (ct_X6_copyFrom zWo_18 zWo_3 (by omega)) (Nat.zero_le _) (Nat.zero_le _) rfl ?_
  rintro _ _ ⟨rfl, D, rfl, hD⟩
  have hR1 := zCy_R hD hR
  have hS1 := zOut_s hD.2.2.2
  refine z_iconst (q := 19) dX7_finishedAfter_18 zci_0 rfl ?_
  refine z_istore_n (q := 20) dX7_finishedAfter_19 (Nat.le_of_ble_eq_true rfl) rfl rfl ?_
  exact loop 151 0 D (by omega) (fun j hj => absurd hj (Nat.not_lt_zero j)) hR1 hS1
set_option maxRecDepth 100000 in
set_option maxHeartbeats 4000000 in
theorem cx_X7_knownAfter1 {g : zGl} {h : zHp} {b n K : Nat} {d u : Nat → Nat → Int32} {x : Int32} (hJ : zJo d u n K) (hv : qHas x K = false) : zX g mX7_knownAfter [.ref b, .int x] (zpT g h b d) "java/lang/IndexOutOfBoundsException" (zXJ g h b u) 1 6 := by
  have hR := hJ.1
  have hn := zR_n6 hR
  have hK := zR_K8 hR
  refine zX_ofA (lv := [some (.ref b), some (.int x), none]) (by decide) rfl (Nat.le_of_ble_eq_true rfl) ?_
  refine z_aload_n (q := 1) dX7_knownAfter_0 rfl rfl ?_
  refine z_get (q := 4) dX7_knownAfter_1 zfX7_19 (by first | exact zT_0 | exact zT_o zWo_3 | exact zT_w zWo_3 rfl | exact zT_o zWo_18 | exact zT_X | exact zT_H | exact zT_S | exact zT_C | exact zT_G | exact zT_N (zNo_w zWo_3) | exact zT_n (zNo_w zWo_3) (by decide) | exact zpT_a (c := 284) rfl | exact zT_L) rfl rfl ?_
  refine z_iload_n (q := 5) dX7_knownAfter_4 rfl rfl ?_
  refine z_v1 (q := 8) dX7_knownAfter_5 zkX7_152 zt_mX6_hasTask rfl (by first | exact zT_0 | exact zT_o zWo_3 | exact zT_w zWo_3 rfl | exact zT_o zWo_18 | exact zT_X | exact zT_H | exact zT_S | exact zT_C | exact zT_G | exact zT_N (zNo_w zWo_3) | exact zT_n (zNo_w zWo_3) (by decide) | exact zpT_a (c := 284) rfl | exact zT_L) rfl (Nat.le_of_ble_eq_true rfl) (ct_X6_hasTask zWo_3 (zR_1 hR)) rfl ?_
  refine z_eqi ((congrArg zbi (hv)).trans zbi_f) ?_
  exact z_cSX (av := [.int (nI 0)]) dX7_knownAfter_8 zkX7_123 zw513 zt_mX7_requireIndex rfl rfl (Nat.le_of_ble_eq_true rfl) cx_X7_requireIndex (by decide) (by decide) (fun _ hh => ⟨d, ⟨n, K, hJ⟩, hh⟩)
set_option maxRecDepth 100000 in
set_option maxHeartbeats 4000000 in
theorem ct_X7_knownAfter0 {g : zGl} {h : zHp} {b n K x : Nat} {d u : Nat → Nat → Int32} (hJ : zJo d u n K) (ht : x < K) : zC g mX7_knownAfter [.ref b, .int (nI x)] (zpT g h b d) (zRJ g h b u (qKA (u 3) n K x)) 0 0 := by
  have hR := hJ.1
  have hn := zR_n6 hR
  have hK := zR_K8 hR
  refine zC_ofA (lv := [some (.ref b), some (.int (nI x)), none]) (by decide) rfl (Nat.le_of_ble_eq_true rfl) ?_
  have loop : ∀ r i D, i + r = 151 → (∀ j, j < i → qKnw (qSteps (u 3) n K j) n x = false) → zR D 18 (qSteps (u 3) n K i) n K → (∀ c, c < 18 ∨ (33 ≤ c ∧ c < 276) → D c = d c) → zA g (zZc g mX7_knownAfter (zRJ g h b u (qKA (u 3) n K x)) 0 0) 0 0 24 [some (.ref b), some (.int (nI x)), some (.int (nI i))] [] (zpT g h b D) := by
    intro r
    induction r using Nat.strongRecOn with
    | ind r ih =>
      intro i D hi hj hD hS
      refine z_iload_n (q := 25) dX7_knownAfter_24 rfl rfl ?_
      refine z_sipush (q := 28) dX7_knownAfter_25 zcs_150 rfl ?_
      refine z_icmp_gtN (tg := 62) (q := 31) dX7_knownAfter_28 rfl rfl (by omega) (by omega) ?_ ?_
      · intro hc28
        refine z_bipush (q := 64) dX7_knownAfter_62 zcb_m9 rfl ?_
        exact z_reti dX7_knownAfter_64 rfl (⟨by rw [qKA, qFst_none (fun j hj2 => hj j (by omega))]; rfl, D, rfl, n, K, zJo_same hS hJ⟩)
      · intro hc28
        refine z_aload_n (q := 32) dX7_knownAfter_31 rfl rfl ?_
        refine z_get (q := 35) dX7_knownAfter_32 zfX7_23 (by first | exact zT_0 | exact zT_o zWo_3 | exact zT_w zWo_3 rfl | exact zT_o zWo_18 | exact zT_X | exact zT_H | exact zT_S | exact zT_C | exact zT_G | exact zT_N (zNo_w zWo_3) | exact zT_n (zNo_w zWo_3) (by decide) | exact zpT_a (c := 284) rfl | exact zT_L) rfl rfl ?_
        refine z_iload_n (q := 36) dX7_knownAfter_35 rfl rfl ?_
        refine z_v1 (q := 39) dX7_knownAfter_36 zkX7_261 zt_mX6_isKnownToAll rfl (zT_o zWo_18) rfl (Nat.le_of_ble_eq_true rfl) (ct_X6_isKnownToAll zWo_18 hD ht) rfl ?_
        refine z_ifb_eq (tg := 44) (q := 42) dX7_knownAfter_39 rfl rfl ?_ ?_
        · intro hc39
          refine z_aload_n (q := 45) dX7_knownAfter_44 rfl rfl ?_
          refine z_get (q := 48) dX7_knownAfter_45 zfX7_44 (by first | exact zT_0 | exact zT_o zWo_3 | exact zT_w zWo_3 rfl | exact zT_o zWo_18 | exact zT_X | exact zT_H | exact zT_S | exact zT_C | exact zT_G | exact zT_N (zNo_w zWo_3) | exact zT_n (zNo_w zWo_3) (by decide) | exact zpT_a (c := 284) rfl | exact zT_L) rfl rfl ?_
          refine z_aload_n (q := 49) dX7_knownAfter_48 rfl rfl ?_
          refine z_get (q := 52) dX7_knownAfter_49 zfX7_23 (by first | exact zT_0 | exact zT_o zWo_3 | exact zT_w zWo_3 rfl | exact zT_o zWo_18 | exact zT_X | exact zT_H | exact zT_S | exact zT_C | exact zT_G | exact zT_N (zNo_w zWo_3) | exact zT_n (zNo_w zWo_3) (by decide) | exact zpT_a (c := 284) rfl | exact zT_L) rfl rfl ?_
          refine z_iconst (q := 53) dX7_knownAfter_52 zci_1 rfl ?_
          refine z_V2 (q := 56) dX7_knownAfter_53 zkX7_201 zt_mX4_makeSteps rfl zT_S rfl (Nat.le_of_ble_eq_true rfl) (ct_X4_makeSteps zWo_18 hD (by decide)) (Nat.zero_le _) (Nat.zero_le _) rfl ?_
          rintro _ _ ⟨rfl, D2, rfl, hD2, hO2⟩
          refine z_iincN (q := 59) dX7_knownAfter_56 rfl rfl rfl ?_
          refine z_goto (q := 0) (tg := 24) dX7_knownAfter_59 rfl ?_
          refine ih (r - 1) (by omega) (i + 1) D2 (by omega) (fun j hj2 => ?_) hD2 (fun c hc => (zO2_s hO2 c hc).trans (hS c hc))
          rcases Nat.lt_succ_iff_lt_or_eq.mp hj2 with h9 | rfl
          · exact hj j h9
          · exact hc39
        · intro hc39
          refine z_iload_n (q := 43) dX7_knownAfter_42 rfl rfl ?_
          exact z_reti dX7_knownAfter_43 rfl (⟨by rw [qKA, qFst_some (i := i) (by omega) hc39 hj]; rfl, D, rfl, n, K, zJo_same hS hJ⟩)
  refine z_aload_n (q := 1) dX7_knownAfter_0 rfl rfl ?_
  refine z_get (q := 4) dX7_knownAfter_1 zfX7_19 (by first | exact zT_0 | exact zT_o zWo_3 | exact zT_w zWo_3 rfl | exact zT_o zWo_18 | exact zT_X | exact zT_H | exact zT_S | exact zT_C | exact zT_G | exact zT_N (zNo_w zWo_3) | exact zT_n (zNo_w zWo_3) (by decide) | exact zpT_a (c := 284) rfl | exact zT_L) rfl rfl ?_
  refine z_iload_n (q := 5) dX7_knownAfter_4 rfl rfl ?_
  refine z_v1 (q := 8) dX7_knownAfter_5 zkX7_152 zt_mX6_hasTask rfl (by first | exact zT_0 | exact zT_o zWo_3 | exact zT_w zWo_3 rfl | exact zT_o zWo_18 | exact zT_X | exact zT_H | exact zT_S | exact zT_C | exact zT_G | exact zT_N (zNo_w zWo_3) | exact zT_n (zNo_w zWo_3) (by decide) | exact zpT_a (c := 284) rfl | exact zT_L) rfl (Nat.le_of_ble_eq_true rfl) (ct_X6_hasTask zWo_3 (zR_1 hR)) rfl ?_
  refine z_eqi ((congrArg zbi ((qHas_i ht (by omega)))).trans zbi_t) ?_
  refine z_u1 (q := 11) dX7_knownAfter_8 zkX7_123 zt_mX7_requireIndex rfl (Nat.le_of_ble_eq_true rfl) (ct_X7_requireIndex) rfl ?_
  refine z_aload_n (q := 12) dX7_knownAfter_11 rfl rfl ?_
  refine z_get (q := 15) dX7_knownAfter_12 zfX7_23 (by first | exact zT_0 | exact zT_o zWo_3 | exact zT_w zWo_3 rfl | exact zT_o zWo_18 | exact zT_X | exact zT_H | exact zT_S | exact zT_C | exact zT_G | exact zT_N (zNo_w zWo_3) | exact zT_n (zNo_w zWo_3) (by decide) | exact zpT_a (c := 284) rfl | exact zT_L) rfl rfl ?_
  refine z_aload_n (q := 16) dX7_knownAfter_15 rfl rfl ?_
  refine z_get (q := 19) dX7_knownAfter_16 zfX7_19 (by first | exact zT_0 | exact zT_o zWo_3 | exact zT_w zWo_3 rfl | exact zT_o zWo_18 | exact zT_X | exact zT_H | exact zT_S | exact zT_C | exact zT_G | exact zT_N (zNo_w zWo_3) | exact zT_n (zNo_w zWo_3) (by decide) | exact zpT_a (c := 284) rfl | exact zT_L) rfl rfl ?_
  refine z_V1 (q := 22) dX7_knownAfter_19 zkX7_87 zt_mX6_copyFrom rfl (zT_o zWo_18) rfl (Nat.le_of_ble_eq_true rfl) (ct_X6_copyFrom zWo_18 zWo_3 (by omega)) (Nat.zero_le _) (Nat.zero_le _) rfl ?_
  rintro _ _ ⟨rfl, D, rfl, hD⟩
  have hR1 := zCy_R hD hR
  have hS1 := zOut_s hD.2.2.2
  refine z_iconst (q := 23) dX7_knownAfter_22 zci_0 rfl ?_
  refine z_istore_n (q := 24) dX7_knownAfter_23 (Nat.le_of_ble_eq_true rfl) rfl rfl ?_
  exact loop 151 0 D (by omega) (fun j hj => absurd hj (Nat.not_lt_zero j)) hR1 hS1
set_option maxRecDepth 100000 in
set_option maxHeartbeats 4000000 in
theorem cx_X7_wastedIf1 {g : zGl} {h : zHp} {b n K : Nat} {d u : Nat → Nat → Int32} {x y : Int32} (hJ : zJo d u n K) (hv : (qBt x 0 22 && qBt y 1 99) = false) : zX g mX7_wastedIf [.ref b, .int x, .int y] (zpT g h b d) "java/lang/IllegalArgumentException" (zXJ g h b u) 1 6 := by
  have hR := hJ.1
  have hn := zR_n6 hR
  have hK := zR_K8 hR
  refine zX_ofA (lv := [some (.ref b), some (.int x), some (.int y)]) (by decide) rfl (Nat.le_of_ble_eq_true rfl) ?_
  cases hx : qBt x 0 22 with
  | false =>
    refine z_iload_n (q := 1) dX7_wastedIf_0 rfl rfl ?_
    refine z_iconst (q := 2) dX7_wastedIf_1 zci_0 rfl ?_
    refine z_bipush (q := 4) dX7_wastedIf_2 zcb_22 rfl ?_
    exact z_cSX (av := [.int x, .int (nI 0), .int (nI 22)]) dX7_wastedIf_4 zkX7_64 zw362 zt_mX7_requireBetween rfl rfl (Nat.le_of_ble_eq_true rfl) (cx_X7_requireBetween hx) (by decide) (by decide) (fun _ hh => ⟨d, ⟨n, K, hJ⟩, hh⟩)
  | true =>
    have hy := and_f hv hx
    refine z_iload_n (q := 1) dX7_wastedIf_0 rfl rfl ?_
    refine z_iconst (q := 2) dX7_wastedIf_1 zci_0 rfl ?_
    refine z_bipush (q := 4) dX7_wastedIf_2 zcb_22 rfl ?_
    refine z_u3 (q := 7) dX7_wastedIf_4 zkX7_64 zt_mX7_requireBetween rfl (Nat.le_of_ble_eq_true rfl) (ct_X7_requireBetween hx) rfl ?_
    refine z_iload_n (q := 8) dX7_wastedIf_7 rfl rfl ?_
    refine z_iconst (q := 9) dX7_wastedIf_8 zci_1 rfl ?_
    refine z_bipush (q := 11) dX7_wastedIf_9 zcb_99 rfl ?_
    exact z_cSX (av := [.int y, .int (nI 1), .int (nI 99)]) dX7_wastedIf_11 zkX7_64 zw362 zt_mX7_requireBetween rfl rfl (Nat.le_of_ble_eq_true rfl) (cx_X7_requireBetween hy) (by decide) (by decide) (fun _ hh => ⟨d, ⟨n, K, hJ⟩, hh⟩)
set_option maxRecDepth 100000 in
set_option maxHeartbeats 4000000 in
theorem ct_X7_wastedIf0 {g : zGl} {h : zHp} {b n K y : Nat} {d u : Nat → Nat → Int32} {x : Int32} (hJ : zJo d u n K) (hx : qBt x 0 22 = true) (hy1 : 1 ≤ y) (hy2 : y ≤ 99) : zC g mX7_wastedIf [.ref b, .int x, .int (nI y)] (zpT g h b d) (zRJ g h b u (qSum (qSteps (qRng (u 3) n x) n K y) n 5)) 0 0 := by
  have hR := hJ.1
  have hn := zR_n6 hR
  have hK := zR_K8 hR
  have hxp : zPl x 23 := by
    obtain ⟨j, -, j2, e⟩ := qBt_t hx (by decide) (by decide)
    exact ⟨j, by omega, e⟩
  refine zC_ofA (lv := [some (.ref b), some (.int x), some (.int (nI y))]) (by decide) rfl (Nat.le_of_ble_eq_true rfl) ?_
  refine z_iload_n (q := 1) dX7_wastedIf_0 rfl rfl ?_
  refine z_iconst (q := 2) dX7_wastedIf_1 zci_0 rfl ?_
  refine z_bipush (q := 4) dX7_wastedIf_2 zcb_22 rfl ?_
  refine z_u3 (q := 7) dX7_wastedIf_4 zkX7_64 zt_mX7_requireBetween rfl (Nat.le_of_ble_eq_true rfl) (ct_X7_requireBetween hx) rfl ?_
  refine z_iload_n (q := 8) dX7_wastedIf_7 rfl rfl ?_
  refine z_iconst (q := 9) dX7_wastedIf_8 zci_1 rfl ?_
  refine z_bipush (q := 11) dX7_wastedIf_9 zcb_99 rfl ?_
  refine z_u3 (q := 14) dX7_wastedIf_11 zkX7_64 zt_mX7_requireBetween rfl (Nat.le_of_ble_eq_true rfl) (ct_X7_requireBetween (qBt_i hy1 hy2 (by decide))) rfl ?_
  refine z_aload_n (q := 15) dX7_wastedIf_14 rfl rfl ?_
  refine z_get (q := 18) dX7_wastedIf_15 zfX7_23 (by first | exact zT_0 | exact zT_o zWo_3 | exact zT_w zWo_3 rfl | exact zT_o zWo_18 | exact zT_X | exact zT_H | exact zT_S | exact zT_C | exact zT_G | exact zT_N (zNo_w zWo_3) | exact zT_n (zNo_w zWo_3) (by decide) | exact zpT_a (c := 284) rfl | exact zT_L) rfl rfl ?_
  refine z_aload_n (q := 19) dX7_wastedIf_18 rfl rfl ?_
  refine z_get (q := 22) dX7_wastedIf_19 zfX7_19 (by first | exact zT_0 | exact zT_o zWo_3 | exact zT_w zWo_3 rfl | exact zT_o zWo_18 | exact zT_X | exact zT_H | exact zT_S | exact zT_C | exact zT_G | exact zT_N (zNo_w zWo_3) | exact zT_n (zNo_w zWo_3) (by decide) | exact zpT_a (c := 284) rfl | exact zT_L) rfl rfl ?_
  refine z_V1 (q := 25) dX7_wastedIf_22 zkX7_87 zt_mX6_copyFrom rfl (zT_o zWo_18) rfl (Nat.le_of_ble_eq_true rfl) (ct_X6_copyFrom zWo_18 zWo_3 (by omega)) (Nat.zero_le _) (Nat.zero_le _) rfl ?_
  rintro _ _ ⟨rfl, D, rfl, hD⟩
  have hR1 := zCy_R hD hR
  have hS1 := zOut_s hD.2.2.2
  refine z_aload_n (q := 26) dX7_wastedIf_25 rfl rfl ?_
  refine z_get (q := 29) dX7_wastedIf_26 zfX7_23 (by first | exact zT_0 | exact zT_o zWo_3 | exact zT_w zWo_3 rfl | exact zT_o zWo_18 | exact zT_X | exact zT_H | exact zT_S | exact zT_C | exact zT_G | exact zT_N (zNo_w zWo_3) | exact zT_n (zNo_w zWo_3) (by decide) | exact zpT_a (c := 284) rfl | exact zT_L) rfl rfl ?_
  refine z_iload_n (q := 30) dX7_wastedIf_29 rfl rfl ?_
  refine z_V1 (q := 33) dX7_wastedIf_30 zkX7_249 zt_mX6_setAllRanges rfl (zT_o zWo_18) rfl (Nat.le_of_ble_eq_true rfl) (ct_X6_setAllRanges zWo_18 hR1 hxp) (Nat.zero_le _) (Nat.zero_le _) rfl ?_
  rintro _ _ ⟨rfl, D2, rfl, hD2, hO2⟩
  refine z_aload_n (q := 34) dX7_wastedIf_33 rfl rfl ?_
  refine z_get (q := 37) dX7_wastedIf_34 zfX7_44 (by first | exact zT_0 | exact zT_o zWo_3 | exact zT_w zWo_3 rfl | exact zT_o zWo_18 | exact zT_X | exact zT_H | exact zT_S | exact zT_C | exact zT_G | exact zT_N (zNo_w zWo_3) | exact zT_n (zNo_w zWo_3) (by decide) | exact zpT_a (c := 284) rfl | exact zT_L) rfl rfl ?_
  refine z_aload_n (q := 38) dX7_wastedIf_37 rfl rfl ?_
  refine z_get (q := 41) dX7_wastedIf_38 zfX7_23 (by first | exact zT_0 | exact zT_o zWo_3 | exact zT_w zWo_3 rfl | exact zT_o zWo_18 | exact zT_X | exact zT_H | exact zT_S | exact zT_C | exact zT_G | exact zT_N (zNo_w zWo_3) | exact zT_n (zNo_w zWo_3) (by decide) | exact zpT_a (c := 284) rfl | exact zT_L) rfl rfl ?_
  refine z_iload_n (q := 42) dX7_wastedIf_41 rfl rfl ?_
  refine z_V2 (q := 45) dX7_wastedIf_42 zkX7_201 zt_mX4_makeSteps rfl zT_S rfl (Nat.le_of_ble_eq_true rfl) (ct_X4_makeSteps zWo_18 hD2 (by omega)) (Nat.zero_le _) (Nat.zero_le _) rfl ?_
  rintro _ _ ⟨rfl, D3, rfl, hD3, hO3⟩
  refine z_aload_n (q := 46) dX7_wastedIf_45 rfl rfl ?_
  refine z_get (q := 49) dX7_wastedIf_46 zfX7_23 (by first | exact zT_0 | exact zT_o zWo_3 | exact zT_w zWo_3 rfl | exact zT_o zWo_18 | exact zT_X | exact zT_H | exact zT_S | exact zT_C | exact zT_G | exact zT_N (zNo_w zWo_3) | exact zT_n (zNo_w zWo_3) (by decide) | exact zpT_a (c := 284) rfl | exact zT_L) rfl rfl ?_
  refine z_v0 (q := 52) dX7_wastedIf_49 zkX7_113 zt_mX6_allWasted rfl (zT_o zWo_18) rfl (Nat.le_of_ble_eq_true rfl) (ct_X6_allWasted zWo_18 hD3) rfl ?_
  exact z_reti dX7_wastedIf_52 rfl (⟨rfl, D3, rfl, n, K, zJo_same (fun c hc => (zO2_s hO3 c hc).trans ((zOut_s hO2 c hc).trans (hS1 c hc))) hJ⟩)
