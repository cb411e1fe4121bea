/-! ===== the component: who is reached, groups ===== -/
def qAy (p : Nat → Bool) : Nat → Bool
  | 0 => false
  | n + 1 => qAy p n || p n
theorem qAy_t {p : Nat → Bool} {n : Nat} : qAy p n = true ↔ ∃ i, i < n ∧ p i = true := by
  induction n with
  | zero => simp [qAy]
  | succ n ih =>
    rw [qAy, Bool.or_eq_true, ih]
    constructor
    · rintro (⟨i, h1, h2⟩ | h)
      · exact ⟨i, by omega, h2⟩
      · exact ⟨n, by omega, h⟩
    · rintro ⟨i, h1, h2⟩
      by_cases hi : i = n
      · subst hi
        exact Or.inr h2
      · exact Or.inl ⟨i, by omega, h2⟩
theorem qAy_congr {p q : Nat → Bool} {n : Nat} (h : ∀ i, i < n → p i = q i) : qAy p n = qAy q n := by
  induction n with
  | zero => rfl
  | succ n ih => rw [qAy, qAy, h n (by omega), ih (fun i hi => h i (by omega))]
theorem mk_or {p q : Nat → Bool} {n : Nat} : mk p n ||| mk q n = mk (fun b => p b || q b) n := by
  apply Nat.eq_of_testBit_eq
  intro i
  rw [Nat.testBit_or, mk_tb, mk_tb, mk_tb]
  by_cases h : i < n <;> simp [h]
theorem mk_inj {p q : Nat → Bool} {n : Nat} (h : mk p n = mk q n) : ∀ a, a < n → p a = q a := by
  intro a ha
  have h1 := mk_tb (p := p) (n := n) (i := a)
  rw [h, mk_tb] at h1
  simpa [ha] using h1.symm
/-- a set, and all that hear one of it -/
def qPs (f : Nat → Int32) (n : Nat) (p : Nat → Bool) : Nat → Bool := fun b => p b || qAy (fun c => p c && qHears f c b) n
theorem qPs_congr {f : Nat → Int32} {n : Nat} {p q : Nat → Bool} (h : ∀ a, a < n → p a = q a) : ∀ a, a < n → qPs f n p a = qPs f n q a := by
  intro a ha
  rw [qPs, qPs, h a ha, qAy_congr (q := fun c => q c && qHears f c a) (fun i hi => by rw [h i hi])]
theorem mkP_n {f : Nat → Int32} {n i : Nat} {p : Nat → Bool} (h : p i = false) : mk (fun b => p b || qAy (fun c => p c && qHears f c b) (i + 1)) n = mk (fun b => p b || qAy (fun c => p c && qHears f c b) i) n := by
  refine mk_congr (fun a _ => ?_)
  show (p a || (qAy (fun c => p c && qHears f c a) i || (p i && qHears f i a))) = _
  rw [h, Bool.false_and, Bool.or_false]
theorem mkP_y {f : Nat → Int32} {n i : Nat} {p : Nat → Bool} (h : p i = true) : mk (fun b => p b || qAy (fun c => p c && qHears f c b) (i + 1)) n = mk (fun b => p b || qAy (fun c => p c && qHears f c b) i) n ||| mk (qHears f i) n := by
  rw [mk_or]
  refine mk_congr (fun a _ => ?_)
  show (p a || (qAy (fun c => p c && qHears f c a) i || (p i && qHears f i a))) = _
  rw [h, Bool.true_and, Bool.or_assoc]
theorem mkP_0 {f : Nat → Int32} {n : Nat} {p : Nat → Bool} : mk (fun b => p b || qAy (fun c => p c && qHears f c b) 0) n = mk p n := mk_congr (fun a _ => Bool.or_false _)
set_option maxRecDepth 100000 in
set_option maxHeartbeats 4000000 in
theorem ct_X6_passedOn {g : zGl} {h : zHp} {b o n K : Nat} {d : Nat → Nat → Int32} {f : Nat → Int32} {p : Nat → Bool} (hw : zWo o) (hR : zR d o f n K) : zC g mX6_passedOn [.ref (b + o), .int (nI (mk p n))] (zpT g h b d) (zV (zpT g h b d) (.int (nI (mk (qPs f n p) n)))) 0 0 := by
  have hn := zR_n6 hR
  have h64 : mk p n < 64 := zS_31 mk_lt hn
  refine zC_ofA (lv := [some (.ref (b + o)), some (.int (nI (mk p n))), none, none]) (by decide) rfl (Nat.le_of_ble_eq_true rfl) ?_
  have loop : ∀ r i, i + r = n → zA g (zZc g mX6_passedOn (zV (zpT g h b d) (.int (nI (mk (qPs f n p) n)))) 0 0) 0 0 4 [some (.ref (b + o)), some (.int (nI (mk p n))), some (.int (nI (mk (fun b => p b || qAy (fun c => p c && qHears f c b) i) n))), some (.int (nI i))] [] (zpT g h b d) := by
    intro r
    induction r using Nat.strongRecOn with
    | ind r ih =>
      intro i hi
      refine z_iload_n (q := 5) dX6_passedOn_4 rfl rfl ?_
      refine z_aload_n (q := 6) dX6_passedOn_5 rfl rfl ?_
      refine z_get (q := 9) dX6_passedOn_6 zfX6_50 (by first | exact zT_o hw | exact zT_w hw rfl | exact zT_N (zNo_w hw) | exact zT_n (zNo_w hw) (by decide)) rfl rfl ?_
      refine z_eqi (zR_0 hR) ?_
      refine z_icmp_geN (tg := 34) (q := 12) dX6_passedOn_9 rfl rfl (by omega) (by omega) ?_ ?_
      · intro hc9
        refine z_iload_n (q := 35) dX6_passedOn_34 rfl rfl ?_
        exact z_reti dX6_passedOn_35 rfl (⟨by rw [show i = n by omega]; rfl, rfl⟩)
      · intro hc9
        refine z_iload_n (q := 13) dX6_passedOn_12 rfl rfl ?_
        refine z_iload_n (q := 14) dX6_passedOn_13 rfl rfl ?_
        refine z_s2 (q := 17) dX6_passedOn_14 zkX6_105 zt_mX7_isIn rfl (Nat.le_of_ble_eq_true rfl) (ct_X7_isIn (by omega) (by omega)) rfl ?_
        refine z_ifb_eq (tg := 28) (q := 20) dX6_passedOn_17 rfl rfl ?_ ?_
        · intro hc17
          rw [mk_tb, show decide (i < n) = true from decide_eq_true (by omega), Bool.true_and] at hc17
          refine z_iincN (q := 31) dX6_passedOn_28 rfl rfl rfl ?_
          refine z_goto (q := 0) (tg := 4) dX6_passedOn_31 rfl ?_
          have e9 := ih (r - 1) (by omega) (i + 1) (by omega)
          first
            | (rw [mkP_n hc17] at e9; exact e9)
            | (rw [mkP_y hc17] at e9; exact e9)
        · intro hc17
          rw [mk_tb, show decide (i < n) = true from decide_eq_true (by omega), Bool.true_and] at hc17
          refine z_iload_n (q := 21) dX6_passedOn_20 rfl rfl ?_
          refine z_aload_n (q := 22) dX6_passedOn_21 rfl rfl ?_
          refine z_iload_n (q := 23) dX6_passedOn_22 rfl rfl ?_
          refine z_v1 (q := 26) dX6_passedOn_23 zkX6_108 zt_mX6_heardBy rfl (by first | exact zT_o hw | exact zT_w hw rfl | exact zT_N (zNo_w hw) | exact zT_n (zNo_w hw) (by decide)) rfl (Nat.le_of_ble_eq_true rfl) (ct_X6_heardBy hw hR (by omega)) rfl ?_
          refine z_ior (q := 27) dX6_passedOn_26 rfl ?_
          refine z_eqi (nI_or _ _) ?_
          refine z_istore_n (q := 28) dX6_passedOn_27 (Nat.le_of_ble_eq_true rfl) rfl rfl ?_
          refine z_iincN (q := 31) dX6_passedOn_28 rfl rfl rfl ?_
          refine z_goto (q := 0) (tg := 4) dX6_passedOn_31 rfl ?_
          have e9 := ih (r - 1) (by omega) (i + 1) (by omega)
          first
            | (rw [mkP_n hc17] at e9; exact e9)
            | (rw [mkP_y hc17] at e9; exact e9)
  refine z_iload_n (q := 1) dX6_passedOn_0 rfl rfl ?_
  refine z_istore_n (q := 2) dX6_passedOn_1 (Nat.le_of_ble_eq_true rfl) rfl rfl ?_
  refine z_iconst (q := 3) dX6_passedOn_2 zci_0 rfl ?_
  refine z_istore_n (q := 4) dX6_passedOn_3 (Nat.le_of_ble_eq_true rfl) rfl rfl ?_
  have e9 := loop n 0 (by omega)
  rw [mkP_0] at e9
  exact e9
/-- who is reached from a behind r hops -/
def qRc (f : Nat → Int32) (n a r : Nat) : Nat → Bool := qIt (fun _ p => qPs f n p) (fun b => decide (b = a)) r
theorem qRc_s {f : Nat → Int32} {n a r : Nat} : qRc f n a (r + 1) = qPs f n (qRc f n a r) := rfl
theorem mk_one {a n : Nat} (ha : a < n) : mk (fun b => decide (b = a)) n = 2 ^ a := by
  apply Nat.eq_of_testBit_eq
  intro i
  rw [mk_tb, Nat.testBit_two_pow]
  by_cases h : i = a
  · subst h
    simp [ha]
  · have h2 : ¬ a = i := fun e => h e.symm
    simp [h, h2]
set_option maxRecDepth 100000 in
set_option maxHeartbeats 4000000 in
theorem ct_X6_groupOf {g : zGl} {h : zHp} {b o n K a : Nat} {d : Nat → Nat → Int32} {f : Nat → Int32} (hw : zWo o) (hR : zR d o f n K) (ha : a < n) : zC g mX6_groupOf [.ref (b + o), .int (nI a)] (zpT g h b d) (zV (zpT g h b d) (.int (nI (mk (qRc f n a 5) n)))) 0 0 := by
  have hn := zR_n6 hR
  refine zC_ofA (lv := [some (.ref (b + o)), some (.int (nI a)), none, none]) (by decide) rfl (Nat.le_of_ble_eq_true rfl) ?_
  have loop : ∀ r i, i + r = 5 → zA g (zZc g mX6_groupOf (zV (zpT g h b d) (.int (nI (mk (qRc f n a 5) n)))) 0 0) 0 0 6 [some (.ref (b + o)), some (.int (nI a)), some (.int (nI (mk (qRc f n a i) n))), some (.int (nI (i + 1)))] [] (zpT g h b d) := by
    intro r
    induction r using Nat.strongRecOn with
    | ind r ih =>
      intro i hi
      refine z_iload_n (q := 7) dX6_groupOf_6 rfl rfl ?_
      refine z_bipush (q := 9) dX6_groupOf_7 zcb_6 rfl ?_
      refine z_icmp_geN (tg := 24) (q := 12) dX6_groupOf_9 rfl rfl (by omega) (by omega) ?_ ?_
      · intro hc9
        refine z_iload_n (q := 25) dX6_groupOf_24 rfl rfl ?_
        exact z_reti dX6_groupOf_25 rfl (⟨by rw [show i = 5 by omega], rfl⟩)
      · intro hc9
        refine z_aload_n (q := 13) dX6_groupOf_12 rfl rfl ?_
        refine z_iload_n (q := 14) dX6_groupOf_13 rfl rfl ?_
        refine z_v1 (q := 17) dX6_groupOf_14 zkX6_115 zt_mX6_passedOn rfl (by first | exact zT_o hw | exact zT_w hw rfl | exact zT_N (zNo_w hw) | exact zT_n (zNo_w hw) (by decide)) rfl (Nat.le_of_ble_eq_true rfl) (ct_X6_passedOn hw hR) rfl ?_
        refine z_istore_n (q := 18) dX6_groupOf_17 (Nat.le_of_ble_eq_true rfl) rfl rfl ?_
        refine z_iincN (q := 21) dX6_groupOf_18 rfl rfl rfl ?_
        refine z_goto (q := 0) (tg := 6) dX6_groupOf_21 rfl ?_
        exact ih (r - 1) (by omega) (i + 1) (by omega)
  refine z_iconst (q := 1) dX6_groupOf_0 zci_1 rfl ?_
  refine z_iload_n (q := 2) dX6_groupOf_1 rfl rfl ?_
  refine z_ishl (q := 3) dX6_groupOf_2 rfl ?_
  refine z_eqi (nI_shl (by omega)) ?_
  refine z_eqi (show nI (2 ^ a) = nI (mk (qRc f n a 0) n) from congrArg nI (mk_one ha).symm) ?_
  refine z_istore_n (q := 4) dX6_groupOf_3 (Nat.le_of_ble_eq_true rfl) rfl rfl ?_
  refine z_iconst (q := 5) dX6_groupOf_4 zci_1 rfl ?_
  refine z_istore_n (q := 6) dX6_groupOf_5 (Nat.le_of_ble_eq_true rfl) rfl rfl ?_
  exact loop 5 0 (by omega)
theorem pcN_up : ∀ S T : Fin 64, S.1 ||| T.1 ≠ S.1 → pcN S.1 < pcN (S.1 ||| T.1) := by decide +kernel
theorem pcN_6 : ∀ S : Fin 64, 6 ≤ pcN S.1 → S.1 = 63 := by decide +kernel
theorem or_63 : ∀ T : Fin 64, 63 ||| T.1 = 63 := by decide +kernel
theorem pcN_1 : ∀ a : Fin 6, 1 ≤ pcN (2 ^ a.1) := by decide +kernel
theorem qPs_mk {f : Nat → Int32} {n : Nat} {p : Nat → Bool} : mk (qPs f n p) n = mk p n ||| mk (fun b => qAy (fun c => p c && qHears f c b) n) n := mk_or.symm
theorem qRc_grow {f : Nat → Int32} {n a : Nat} (hn : n ≤ 6) (ha : a < n) (r : Nat) : mk (qRc f n a (r + 1)) n = mk (qRc f n a r) n ∨ r + 1 ≤ pcN (mk (qRc f n a r) n) := by
  induction r with
  | zero =>
    right
    rw [show qRc f n a 0 = fun b => decide (b = a) from rfl, mk_one ha]
    exact pcN_1 ⟨a, by omega⟩
  | succ r ih =>
    by_cases he : mk (qRc f n a (r + 1)) n = mk (qRc f n a r) n
    · left
      rw [qRc_s, mk_congr (qPs_congr (mk_inj he)), ← qRc_s]
    · right
      have h1 := ih.resolve_left he
      rw [qRc_s, qPs_mk] at he ⊢
      have h2 : pcN (mk (qRc f n a r) n) < pcN (mk (qRc f n a r) n ||| mk (fun b => qAy (fun c => qRc f n a r c && qHears f c b) n) n) := pcN_up ⟨mk (qRc f n a r) n, zS_31 mk_lt hn⟩ ⟨mk (fun b => qAy (fun c => qRc f n a r c && qHears f c b) n) n, zS_31 mk_lt hn⟩ he
      omega
/-- nobody is reached by the sixth hop alone -/
theorem qRc_6 {f : Nat → Int32} {n a : Nat} (hn : n ≤ 6) (ha : a < n) : ∀ b, b < n → qRc f n a 6 b = qRc f n a 5 b := by
  apply mk_inj
  rcases qRc_grow (f := f) hn ha 5 with h | h
  · exact h
  · have h1 := pcN_6 ⟨mk (qRc f n a 5) n, zS_31 mk_lt hn⟩ h
    have h3 : mk (qRc f n a 5) n = 63 := h1
    rw [qRc_s, qPs_mk, h3]
    exact or_63 ⟨_, zS_31 mk_lt hn⟩
