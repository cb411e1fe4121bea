/-! ===== who is reached: the reference's ways ===== -/
theorem nI_ne {a b : Nat} (ha : a < 2 ^ 31) (hb : b < 2 ^ 31) (h : a ≠ b) : ¬ nI a = nI b := by
  intro e
  have h2 := congrArg Int32.toInt e
  rw [nI_toInt ha, nI_toInt hb] at h2
  omega
theorem qWc_v {f w : Nat → Int32} {r b : Nat} (hr : r < 1000) (i c : Nat) : qWc f r b w i c = if c < i ∧ w b = nI r ∧ w c = -9 ∧ qHears f b c = true then nI (r + 1) else w c := by
  induction i generalizing c with
  | zero => rw [if_neg (by omega)]; rfl
  | succ i ih =>
    have hb : qWc f r b w i b = w b := by
      rw [ih]
      by_cases h : b < i ∧ w b = nI r ∧ w b = -9 ∧ qHears f b b = true
      · exact absurd (h.2.1.symm.trans h.2.2.1) (nI_nm9 (by omega))
      · rw [if_neg h]
    rw [qWc_s, hb]
    by_cases hw : w b = nI r
    · rw [if_pos hw]
      by_cases hc : c = i
      · subst hc
        rw [zu_eq, ih c, if_neg (show ¬ (c < c ∧ w b = nI r ∧ w c = -9 ∧ qHears f b c = true) by omega)]
        by_cases hx : w c = -9 ∧ qHears f b c = true
        · rw [if_pos hx, if_pos ⟨by omega, hw, hx⟩]
        · rw [if_neg hx, if_neg (fun hh => hx hh.2.2)]
      · rw [zu_ne hc, ih c]
        by_cases hx : c < i ∧ w b = nI r ∧ w c = -9 ∧ qHears f b c = true
        · rw [if_pos hx, if_pos ⟨by omega, hx.2⟩]
        · rw [if_neg hx, if_neg (fun hh => hx ⟨by omega, hh.2⟩)]
    · rw [if_neg hw, ih c, if_neg (fun hh => hw hh.2.1), if_neg (fun hh => hw hh.2.1)]
theorem qWb_v {f w : Nat → Int32} {n r : Nat} (hr : r < 1000) (i c : Nat) : qWb f n r w i c = if c < n ∧ w c = -9 ∧ qAy (fun b => decide (w b = nI r) && qHears f b c) i = true then nI (r + 1) else w c := by
  induction i generalizing c with
  | zero =>
    rw [if_neg (fun hh => Bool.false_ne_true hh.2.2)]
    rfl
  | succ i ih =>
    have e1 : qWb f n r w (i + 1) = qWc f r i (qWb f n r w i) n := rfl
    have hi : qWb f n r w i i = nI r ↔ w i = nI r := by
      rw [ih i]
      split
      · next hh =>
        constructor
        · intro e
          exact absurd e (nI_ne (by omega) (by omega) (by omega))
        · intro e
          exact absurd (e.symm.trans hh.2.1) (nI_nm9 (by omega))
      · exact Iff.rfl
    rw [e1, qWc_v hr, ih c]
    by_cases hA : c < n ∧ w c = -9 ∧ qAy (fun b => decide (w b = nI r) && qHears f b c) i = true
    · rw [if_pos hA, if_neg (fun hh => nI_nm9 (show r + 1 < 2 ^ 31 by omega) hh.2.2.1), if_pos ⟨hA.1, hA.2.1, by rw [qAy, hA.2.2]; rfl⟩]
    · rw [if_neg hA]
      by_cases hB : c < n ∧ qWb f n r w i i = nI r ∧ w c = -9 ∧ qHears f i c = true
      · rw [if_pos hB, if_pos ⟨hB.1, hB.2.2.1, by rw [qAy, decide_eq_true (hi.mp hB.2.1), hB.2.2.2]; simp⟩]
      · rw [if_neg hB, if_neg]
        rintro ⟨h1, h2, h3⟩
        rw [qAy, Bool.or_eq_true, Bool.and_eq_true, decide_eq_true_eq] at h3
        rcases h3 with h3 | h3
        · exact hA ⟨h1, h2, h3⟩
        · exact hB ⟨h1, hi.mpr h3.1, h2, h3.2⟩
theorem qW0_v {w : Nat → Int32} {s : Nat} (i b : Nat) (hb : b < i) : qW0 s w i b = if b = s then nI 0 else -9 := by
  induction i with
  | zero => omega
  | succ i ih =>
    have e1 : qW0 s w (i + 1) = va_up (qW0 s w i) i (if i = s then nI 0 else -9) := rfl
    rw [e1]
    by_cases h : b = i
    · subst h
      rw [zu_eq]
    · rw [zu_ne h]
      exact ih (by omega)
theorem qFst_s {p : Nat → Bool} {n : Nat} : qFst p (n + 1) = match qFst p n with
  | some i => some i
  | none => if p n then some n else none := by
  cases h : qFst p n with
  | some i =>
    obtain ⟨h1, h2, h3⟩ := qFst_lt h
    exact qFst_some (by omega) h2 h3
  | none =>
    have h1 := qFst_nlt h
    by_cases hp : p n = true
    · rw [hp]
      exact qFst_some (by omega) hp h1
    · have hp' : p n = false := by simpa using hp
      rw [hp']
      exact qFst_none (fun j hj => by
        rcases Nat.lt_succ_iff_lt_or_eq.mp hj with h9 | rfl
        · exact h1 j h9
        · exact hp')
theorem qRc_mono {f : Nat → Int32} {n a r b : Nat} (h : qRc f n a r b = true) : qRc f n a (r + 1) b = true := by
  rw [qRc_s, qPs, h]
  rfl
theorem qRc_hear {f : Nat → Int32} {n a r b c : Nat} (h : qRc f n a r b = true) (hb : b < n) (hc : qHears f b c = true) : qRc f n a (r + 1) c = true := by
  rw [qRc_s, qPs, qAy_t.mpr ⟨b, hb, by rw [h, hc]; rfl⟩]
  exact Bool.or_true _
/-- the ways are the hops -/
theorem qWf_v {f w : Nat → Int32} {n s : Nat} (hn : n ≤ 6) (hs : s < n) (r : Nat) (hr : r < 900) : ∀ b, b < n → qWf f n (qW0 s w 6) r b = qT (qFst (fun j => qRc f n s j b) (r + 1)) := by
  induction r with
  | zero =>
    intro b hb
    show qW0 s w 6 b = _
    rw [qW0_v 6 b (by omega), qFst_s]
    show _ = qT (if decide (b = s) = true then some 0 else none)
    by_cases h : b = s
    · rw [if_pos h, if_pos (decide_eq_true h)]
      rfl
    · rw [if_neg h, if_neg (by simpa using h)]
      rfl
  | succ r ih =>
    intro c hc
    have ih := ih (by omega)
    have e1 : qWf f n (qW0 s w 6) (r + 1) = qWb f n r (qWf f n (qW0 s w 6) r) n := rfl
    rw [e1, qWb_v (by omega), ih c hc, qFst_s (n := r + 1)]
    cases h : qFst (fun j => qRc f n s j c) (r + 1) with
    | some i =>
      have := qFst_lt h
      rw [if_neg (fun hh => nI_nm9 (show i < 2 ^ 31 by omega) hh.2.1)]
    | none =>
      have h1 := qFst_nlt h
      have key : qAy (fun b => decide (qWf f n (qW0 s w 6) r b = nI r) && qHears f b c) n = qRc f n s (r + 1) c := by
        rw [qRc_s, qPs, h1 r (by omega), Bool.false_or]
        refine qAy_congr (fun b hb => ?_)
        rw [ih b hb]
        cases hh : qHears f b c with
        | false => rw [Bool.and_false, Bool.and_false]
        | true =>
          rw [Bool.and_true, Bool.and_true]
          cases h5 : qFst (fun j => qRc f n s j b) (r + 1) with
          | none =>
            rw [qFst_nlt h5 r (by omega)]
            exact decide_eq_false (fun e => nI_nm9 (show r < 2 ^ 31 by omega) e.symm)
          | some j =>
            obtain ⟨g1, g2, g3⟩ := qFst_lt h5
            by_cases hjr : j = r
            · subst hjr
              rw [show qRc f n s j b = true from g2]
              exact decide_eq_true rfl
            · have g4 := qRc_hear g2 hb hh
              have g5 : qRc f n s (j + 1) c = false := h1 (j + 1) (by omega)
              rw [g4] at g5
              cases g5
      rw [key]
      by_cases hx : qRc f n s (r + 1) c = true
      · rw [if_pos ⟨hc, rfl, hx⟩]
        simp only [hx, if_true]
        rfl
      · rw [if_neg (fun hh => hx hh.2.2)]
        simp only [hx]
        rfl
theorem qWays_v {f w : Nat → Int32} {n s b : Nat} (hn : n ≤ 6) (hs : s < n) (hb : b < n) : qWays f n s w b = qT (qFst (fun j => qRc f n s j b) 6) := by
  have h := qWf_v (f := f) (w := w) hn hs 6 (by decide) b hb
  have h6 := qRc_6 (f := f) hn hs b hb
  rw [qWays, h, qFst_s]
  cases h5 : qFst (fun j => qRc f n s j b) 6 with
  | some i => rfl
  | none =>
    have h7 : qRc f n s 5 b = false := qFst_nlt h5 5 (by decide)
    rw [h7] at h6
    simp only [h6]
    rfl
theorem qWays_9 {f w : Nat → Int32} {n s b : Nat} (hn : n ≤ 6) (hs : s < n) (hb : b < n) : decide (qWays f n s w b = -9) = !qRc f n s 5 b := by
  rw [qWays_v hn hs hb]
  cases h5 : qFst (fun j => qRc f n s j b) 6 with
  | none =>
    have h7 : qRc f n s 5 b = false := qFst_nlt h5 5 (by decide)
    rw [h7]
    rfl
  | some i =>
    obtain ⟨g1, g2, -⟩ := qFst_lt h5
    have h7 : ∀ k, i + k ≤ 5 → qRc f n s (i + k) b = true := by
      intro k
      induction k with
      | zero => intro _; exact g2
      | succ k ih => intro hk; exact qRc_mono (ih (by omega))
    have h8 := h7 (5 - i) (by omega)
    rw [show i + (5 - i) = 5 by omega] at h8
    rw [h8]
    exact decide_eq_false (nI_nm9 (by omega))
/-- seen, count -/
def qGs (f : Nat → Int32) (n i : Nat) : (Nat → Bool) × Nat := qIt (fun a s => if qOn f a && !s.1 a then (fun b => s.1 b || qRc f n a 5 b, s.2 + 1) else s) (fun _ => false, 0) i
theorem qGs_y {f : Nat → Int32} {n i : Nat} (h : (qOn f i && !(qGs f n i).1 i) = true) : qGs f n (i + 1) = (fun b => (qGs f n i).1 b || qRc f n i 5 b, (qGs f n i).2 + 1) := if_pos h
theorem qGs_n {f : Nat → Int32} {n i : Nat} (h : (qOn f i && !(qGs f n i).1 i) = false) : qGs f n (i + 1) = qGs f n i := if_neg (fun h2 => Bool.false_ne_true (h.symm.trans h2))
theorem qSn_v {w : Nat → Int32} {P : Nat → Bool} {n : Nat} (hn : n ≤ 6) : ∀ i, i ≤ n → qSn w (nI (mk P n)) i = nI (mk P n ||| mk (fun b => !decide (w b = -9)) i) := by
  intro i
  induction i with
  | zero =>
    intro _
    show nI (mk P n) = nI (mk P n ||| 0)
    rw [Nat.or_zero]
  | succ i ih =>
    intro hi
    have e1 : qSn w (nI (mk P n)) (i + 1) = qSn w (nI (mk P n)) i ||| (if w i = -9 then nI 0 else nI 1 <<< (nI i &&& 31)) := rfl
    rw [e1, ih (by omega), mk]
    by_cases h : w i = -9
    · rw [if_pos h, if_neg (by simp [h]), Nat.or_zero, nI_or, Nat.or_zero]
    · rw [if_neg h, if_pos (by simp [h]), nI_shl (by omega), nI_or, Nat.or_assoc]
theorem qGr_v {f w : Nat → Int32} {n : Nat} (hn : n ≤ 6) : ∀ i, i ≤ n → (qGr f n w i).1 = nI (mk (qGs f n i).1 n) ∧ (qGr f n w i).2.1 = (qGs f n i).2 := by
  intro i
  induction i with
  | zero =>
    intro _
    refine ⟨?_, rfl⟩
    show nI 0 = nI (mk (fun _ => false) n)
    rw [mk_0.mpr (fun _ _ => rfl)]
  | succ i ih =>
    intro hi
    obtain ⟨h1, h2⟩ := ih (by omega)
    have hb : decide ((qGr f n w i).1 >>> (nI i &&& 31) &&& nI 1 = 0) = !(qGs f n i).1 i := by
      have h64 : mk (qGs f n i).1 n < 64 := zS_31 mk_lt hn
      rw [h1, tb_i (by omega) (by omega), mk_tb, decide_eq_true (show i < n by omega), Bool.true_and]
      cases (qGs f n i).1 i <;> decide
    rw [qGr_s, qG1, hb]
    cases hc : (qOn f i && !(qGs f n i).1 i) with
    | true =>
      rw [qGs_y hc, if_pos rfl]
      refine ⟨?_, by rw [h2]⟩
      show qSn _ (qGr f n w i).1 n = _
      rw [h1, qSn_v hn n (Nat.le_refl n), mk_congr (p := fun b => !decide (qWays f n i (qGr f n w i).2.2 b = -9)) (q := qRc f n i 5) (fun b hb => by rw [qWays_9 hn (by omega) hb, Bool.not_not]), mk_or]
    | false =>
      rw [qGs_n hc, if_neg (by decide)]
      exact ⟨h1, h2⟩
set_option maxRecDepth 100000 in
set_option maxHeartbeats 4000000 in
theorem ct_X6_groupCount {g : zGl} {h : zHp} {b o n K : Nat} {d : Nat → Nat → Int32} {f : Nat → Int32} (hw : zWo o) (hR : zR d o f n K) : zC g mX6_groupCount [.ref (b + o)] (zpT g h b d) (zV (zpT g h b d) (.int (nI (qGs f n n).2))) 0 0 := by
  have hn := zR_n6 hR
  refine zC_ofA (lv := [some (.ref (b + o)), none, none, none]) (by decide) rfl (Nat.le_of_ble_eq_true rfl) ?_
  have loop : ∀ r i, i + r = n → zA g (zZc g mX6_groupCount (zV (zpT g h b d) (.int (nI (qGs f n n).2))) 0 0) 0 0 9 [some (.ref (b + o)), some (.int (nI (mk (fun b => qOn f b && !(qGs f n i).1 b) n))), some (.int (nI (qGs f n i).2)), some (.int (nI i))] [] (zpT g h b d) := by
    intro r
    induction r using Nat.strongRecOn with
    | ind r ih =>
      intro i hi
      have h64 : mk (fun b => qOn f b && !(qGs f n i).1 b) n < 64 := zS_31 mk_lt hn
      refine z_iload_n (q := 10) dX6_groupCount_9 rfl rfl ?_
      refine z_aload_n (q := 11) dX6_groupCount_10 rfl rfl ?_
      refine z_get (q := 14) dX6_groupCount_11 zfX6_50 (by first | exact zT_o hw | exact zT_w hw rfl | exact zT_N (zNo_w hw) | exact zT_n (zNo_w hw) (by decide)) rfl rfl ?_
      refine z_eqi (zR_0 hR) ?_
      refine z_icmp_geN (tg := 44) (q := 17) dX6_groupCount_14 rfl rfl (by omega) (by omega) ?_ ?_
      · intro hc14
        refine z_iload_n (q := 45) dX6_groupCount_44 rfl rfl ?_
        exact z_reti dX6_groupCount_45 rfl (⟨by rw [show i = n by omega], rfl⟩)
      · intro hc14
        refine z_iload_n (q := 18) dX6_groupCount_17 rfl rfl ?_
        refine z_iload_n (q := 19) dX6_groupCount_18 rfl rfl ?_
        refine z_s2 (q := 22) dX6_groupCount_19 zkX6_105 zt_mX7_isIn rfl (Nat.le_of_ble_eq_true rfl) (ct_X7_isIn (by omega) (by omega)) rfl ?_
        refine z_ifb_eq (tg := 38) (q := 25) dX6_groupCount_22 rfl rfl ?_ ?_
        · intro hc22
          rw [mk_tb, show decide (i < n) = true from decide_eq_true (by omega), Bool.true_and] at hc22
          refine z_iincN (q := 41) dX6_groupCount_38 rfl rfl rfl ?_
          refine z_goto (q := 0) (tg := 9) dX6_groupCount_41 rfl ?_
          have e9 := ih (r - 1) (by omega) (i + 1) (by omega)
          first
            | (rw [qGs_n hc22] at e9; exact e9)
            | (rw [qGs_y hc22, show mk (fun b => qOn f b && !((qGs f n i).1 b || qRc f n i 5 b)) n = mk (fun b => (qOn f b && !(qGs f n i).1 b) && !qRc f n i 5 b) n from mk_congr (fun a _ => by rw [Bool.not_or, Bool.and_assoc])] at e9; exact e9)
        · intro hc22
          rw [mk_tb, show decide (i < n) = true from decide_eq_true (by omega), Bool.true_and] at hc22
          refine z_iload_n (q := 26) dX6_groupCount_25 rfl rfl ?_
          refine z_aload_n (q := 27) dX6_groupCount_26 rfl rfl ?_
          refine z_iload_n (q := 28) dX6_groupCount_27 rfl rfl ?_
          refine z_v1 (q := 31) dX6_groupCount_28 zkX6_112 zt_mX6_groupOf rfl (by first | exact zT_o hw | exact zT_w hw rfl | exact zT_N (zNo_w hw) | exact zT_n (zNo_w hw) (by decide)) rfl (Nat.le_of_ble_eq_true rfl) (ct_X6_groupOf hw hR (by omega)) rfl ?_
          refine z_iconst (q := 32) dX6_groupCount_31 zci_m1 rfl ?_
          refine z_ixor (q := 33) dX6_groupCount_32 rfl ?_
          refine z_iand (q := 34) dX6_groupCount_33 rfl ?_
          refine z_eqi mk_andn ?_
          refine z_istore_n (q := 35) dX6_groupCount_34 (Nat.le_of_ble_eq_true rfl) rfl rfl ?_
          refine z_iincN (q := 38) dX6_groupCount_35 rfl rfl rfl ?_
          refine z_iincN (q := 41) dX6_groupCount_38 rfl rfl rfl ?_
          refine z_goto (q := 0) (tg := 9) dX6_groupCount_41 rfl ?_
          have e9 := ih (r - 1) (by omega) (i + 1) (by omega)
          first
            | (rw [qGs_n hc22] at e9; exact e9)
            | (rw [qGs_y hc22, show mk (fun b => qOn f b && !((qGs f n i).1 b || qRc f n i 5 b)) n = mk (fun b => (qOn f b && !(qGs f n i).1 b) && !qRc f n i 5 b) n from mk_congr (fun a _ => by rw [Bool.not_or, Bool.and_assoc])] at e9; exact e9)
  refine z_aload_n (q := 1) dX6_groupCount_0 rfl rfl ?_
  refine z_get (q := 4) dX6_groupCount_1 zfX6_59 (by first | exact zT_o hw | exact zT_w hw rfl | exact zT_N (zNo_w hw) | exact zT_n (zNo_w hw) (by decide)) rfl rfl ?_
  refine z_eqi (zR_mk hR) ?_
  refine z_istore_n (q := 5) dX6_groupCount_4 (Nat.le_of_ble_eq_true rfl) rfl rfl ?_
  refine z_iconst (q := 6) dX6_groupCount_5 zci_0 rfl ?_
  refine z_istore_n (q := 7) dX6_groupCount_6 (Nat.le_of_ble_eq_true rfl) rfl rfl ?_
  refine z_iconst (q := 8) dX6_groupCount_7 zci_0 rfl ?_
  refine z_istore_n (q := 9) dX6_groupCount_8 (Nat.le_of_ble_eq_true rfl) rfl rfl ?_
  have e9 := loop n 0 (by omega)
  rw [show mk (fun b => qOn f b && !(qGs f n 0).1 b) n = mk (qOn f) n from mk_congr (fun a _ => Bool.and_true _)] at e9
  exact e9
