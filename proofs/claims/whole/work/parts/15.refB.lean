/-! ===== the reference: rows that are changed, sums, a step ===== -/
theorem zbi_qT {s : Option Nat} : qT s = -9 ↔ s = none ∨ ∃ k, s = some k ∧ nI k = -9 := by
  cases s with
  | none => simp [qT]
  | some k => simp [qT]
theorem qLay_lt {f : Nat → Int32} {p j : Nat} {x y z w : Int32} (h : j < p) : qLay f p x y z w j = f j := by
  have h1 : j ≠ p := by omega
  have h2 : j ≠ p + 1 := by omega
  have h3 : j ≠ p + 2 := by omega
  have h4 : j ≠ p + 3 := by omega
  simp [qLay, va_up, h1, h2, h3, h4]
theorem cpy_up {e f : Nat → Int32} {a t i : Nat} : va_up (va_cpy e f a t i) (t + i) (e (a + i)) = va_cpy e f a t (i + 1) := by
  funext j
  by_cases h : j = t + i
  · subst h
    simp [va_up, va_cpy]
  · simp only [va_up, va_cpy, h, if_false]
    by_cases h2 : t ≤ j ∧ j < t + i
    · rw [if_pos h2, if_pos (by omega)]
    · rw [if_neg h2, if_neg (by omega)]
theorem cpy_0 {e f : Nat → Int32} {a t : Nat} : va_cpy e f a t 0 = f := by
  funext j
  simp only [va_cpy]
  rw [if_neg (by omega)]
set_option maxRecDepth 100000 in
set_option maxHeartbeats 4000000 in
theorem ct_X8_copy {g : zGl} {h : zHp} {r s a t c N N2 : Nat} {e f : Nat → Int32} (hs : h.1 s = some (zI g N2 e)) (hsr : s ≠ r) (hN : N < 2 ^ 31) (hN2 : N2 < 2 ^ 31) (ha : a + c ≤ N2) (ht : t + c ≤ N) : zC g mX8_copy [.ref s, .int (nI a), .ref r, .int (nI t), .int (nI c)] (zup h r (zI g N f)) (zU (zup h r (zI g N (va_cpy e f a t c)))) 0 0 := by
  refine zC_ofA (lv := [some (.ref s), some (.int (nI a)), some (.ref r), some (.int (nI t)), some (.int (nI c)), none]) (by decide) rfl (Nat.le_of_ble_eq_true rfl) ?_
  have loop : ∀ d i, i + d = c → zA g (zZc g mX8_copy (zU (zup h r (zI g N (va_cpy e f a t c)))) 0 0) 0 0 3 [some (.ref s), some (.int (nI a)), some (.ref r), some (.int (nI t)), some (.int (nI c)), some (.int (nI i))] [] (zup h r (zI g N (va_cpy e f a t i))) := by
    intro d
    induction d using Nat.strongRecOn with
    | ind d ih =>
      intro i hi
      refine z_iload (q := 5) dX8_copy_3 rfl rfl ?_
      refine z_iload (q := 7) dX8_copy_5 rfl rfl ?_
      refine z_icmp_geN (tg := 28) (q := 10) dX8_copy_7 rfl rfl (by omega) (by omega) ?_ ?_
      · intro hc7
        exact z_ret dX8_copy_28 rfl (⟨rfl, by rw [show i = c by omega]⟩)
      · intro hc7
        refine z_aload_n (q := 11) dX8_copy_10 rfl rfl ?_
        refine z_iload_n (q := 12) dX8_copy_11 rfl rfl ?_
        refine z_iload (q := 14) dX8_copy_12 rfl rfl ?_
        refine z_iaddN (q := 15) dX8_copy_14 rfl ?_
        refine z_aload_n (q := 16) dX8_copy_15 rfl rfl ?_
        refine z_iload_n (q := 17) dX8_copy_16 rfl rfl ?_
        refine z_iload (q := 19) dX8_copy_17 rfl rfl ?_
        refine z_iaddN (q := 20) dX8_copy_19 rfl ?_
        refine z_iald (q := 21) dX8_copy_20 ((zup_ne hsr).trans hs) (by omega) (by omega) rfl ?_
        refine z_iastU (q := 22) dX8_copy_21 (by omega) (by omega) rfl ?_
        rw [cpy_up]
        refine z_iincN (q := 25) dX8_copy_22 rfl rfl rfl ?_
        refine z_goto (q := 0) (tg := 3) dX8_copy_25 rfl ?_
        exact ih (d - 1) (by omega) (i + 1) (by omega)
  refine z_iconst (q := 1) dX8_copy_0 zci_0 rfl ?_
  refine z_istore (q := 3) dX8_copy_1 (Nat.le_of_ble_eq_true rfl) rfl rfl ?_
  have hl := loop c 0 (by omega)
  rw [cpy_0] at hl
  exact hl
set_option maxRecDepth 100000 in
set_option maxHeartbeats 4000000 in
theorem ct_X8_copySame {g : zGl} {h : zHp} {r a t c N : Nat} {f : Nat → Int32} (hat : t ≤ a) (hN : N < 2 ^ 31) (ha : a + c ≤ N) : zC g mX8_copy [.ref r, .int (nI a), .ref r, .int (nI t), .int (nI c)] (zup h r (zI g N f)) (zU (zup h r (zI g N (va_cpy f f a t c)))) 0 0 := by
  refine zC_ofA (lv := [some (.ref r), some (.int (nI a)), some (.ref r), some (.int (nI t)), some (.int (nI c)), none]) (by decide) rfl (Nat.le_of_ble_eq_true rfl) ?_
  have loop : ∀ d i, i + d = c → zA g (zZc g mX8_copy (zU (zup h r (zI g N (va_cpy f f a t c)))) 0 0) 0 0 3 [some (.ref r), some (.int (nI a)), some (.ref r), some (.int (nI t)), some (.int (nI c)), some (.int (nI i))] [] (zup h r (zI g N (va_cpy f f a t i))) := by
    intro d
    induction d using Nat.strongRecOn with
    | ind d ih =>
      intro i hi
      have hrd : va_cpy f f a t i (a + i) = f (a + i) := by
        simp only [va_cpy]
        rw [if_neg (by omega)]
      refine z_iload (q := 5) dX8_copy_3 rfl rfl ?_
      refine z_iload (q := 7) dX8_copy_5 rfl rfl ?_
      refine z_icmp_geN (tg := 28) (q := 10) dX8_copy_7 rfl rfl (by omega) (by omega) ?_ ?_
      · intro hc7
        exact z_ret dX8_copy_28 rfl (⟨rfl, by rw [show i = c by omega]⟩)
      · intro hc7
        refine z_aload_n (q := 11) dX8_copy_10 rfl rfl ?_
        refine z_iload_n (q := 12) dX8_copy_11 rfl rfl ?_
        refine z_iload (q := 14) dX8_copy_12 rfl rfl ?_
        refine z_iaddN (q := 15) dX8_copy_14 rfl ?_
        refine z_aload_n (q := 16) dX8_copy_15 rfl rfl ?_
        refine z_iload_n (q := 17) dX8_copy_16 rfl rfl ?_
        refine z_iload (q := 19) dX8_copy_17 rfl rfl ?_
        refine z_iaddN (q := 20) dX8_copy_19 rfl ?_
        refine z_iald (q := 21) dX8_copy_20 (zup_at _ _ _) (by omega) (by omega) rfl ?_
        refine z_eqi hrd ?_
        refine z_iastU (q := 22) dX8_copy_21 (by omega) (by omega) rfl ?_
        rw [cpy_up]
        refine z_iincN (q := 25) dX8_copy_22 rfl rfl rfl ?_
        refine z_goto (q := 0) (tg := 3) dX8_copy_25 rfl ?_
        exact ih (d - 1) (by omega) (i + 1) (by omega)
  refine z_iconst (q := 1) dX8_copy_0 zci_0 rfl ?_
  refine z_istore (q := 3) dX8_copy_1 (Nat.le_of_ble_eq_true rfl) rfl rfl ?_
  have hl := loop c 0 (by omega)
  rw [cpy_0] at hl
  exact hl
def qFin (f : Nat → Int32) (K : Nat) : Int32 := qIt (fun t c => c + zbi (qDone f t)) (nI 0) K
def qSum (f : Nat → Int32) (n w : Nat) : Int32 := qIt (fun a c => c + f (4 + 6 * a + w)) (nI 0) n
def qPrg (f : Nat → Int32) (K : Nat) : Int32 := qIt (fun t c => c + f (40 + 4 * t + 3)) (nI 0) K
def qClm (f : Nat → Int32) (n t : Nat) : Int32 := qIt (fun a c => c ||| (if qOn f a && qOwn f a t then nI 1 <<< (nI a &&& 31) else nI 0)) (nI 0) n
def qDbl (f : Nat → Int32) (n K : Nat) : Int32 := qIt (fun t c => c + zbi (!decide (qClm f n t &&& (qClm f n t - nI 1) = 0))) (nI 0) K
def qKnw (f : Nat → Int32) (n t : Nat) : Bool := qIt (fun a b => b && (!qOn f a || decide (f (72 + 4 * (8 * a + t)) = nI 2))) true n
set_option maxRecDepth 100000 in
set_option maxHeartbeats 4000000 in
theorem ct_X8_finished {g : zGl} {h : zHp} {r K : Nat} {f : Nat → Int32} (hr : h.1 r = some (zI g 264 f)) (hK : f 1 = nI K) (hK8 : K ≤ 8) : zC g mX8_finished [.ref r] h (zV h (.int (qFin f K))) 0 0 := by
  refine zC_ofA (lv := [some (.ref r), none, none]) (by decide) rfl (Nat.le_of_ble_eq_true rfl) ?_
  have loop : ∀ d i, i + d = K → zA g (zZc g mX8_finished (zV h (.int (qFin f K))) 0 0) 0 0 4 [some (.ref r), some (.int (qFin f i)), some (.int (nI i))] [] h := by
    intro d
    induction d using Nat.strongRecOn with
    | ind d ih =>
      intro i hi
      refine z_iload_n (q := 5) dX8_finished_4 rfl rfl ?_
      refine z_aload_n (q := 6) dX8_finished_5 rfl rfl ?_
      refine z_iconst (q := 7) dX8_finished_6 zci_1 rfl ?_
      refine z_iald (q := 8) dX8_finished_7 (by assumption) (by omega) (by omega) rfl ?_
      refine z_eqi hK ?_
      refine z_icmp_geN (tg := 33) (q := 11) dX8_finished_8 rfl rfl (by omega) (by omega) ?_ ?_
      · intro hc8
        refine z_iload_n (q := 34) dX8_finished_33 rfl rfl ?_
        exact z_reti dX8_finished_34 rfl (⟨by rw [show i = K by omega], rfl⟩)
      · intro hc8
        refine z_iload_n (q := 12) dX8_finished_11 rfl rfl ?_
        refine z_aload_n (q := 13) dX8_finished_12 rfl rfl ?_
        refine z_iload_n (q := 14) dX8_finished_13 rfl rfl ?_
        refine z_s2 (q := 17) dX8_finished_14 zkX8_107 zt_mX8_isDone rfl (Nat.le_of_ble_eq_true rfl) (ct_X8_isDone (by assumption) (by omega)) rfl ?_
        refine z_ifb_eq (tg := 24) (q := 20) dX8_finished_17 rfl rfl ?_ ?_
        · intro hc17
          have e9 : qFin f (i + 1) = qFin f i + nI 0 := by simp [qFin, qIt, hc17, zbi]
          refine z_iconst (q := 25) dX8_finished_24 zci_0 rfl ?_
          refine z_iadd (q := 26) dX8_finished_25 rfl ?_
          rw [← e9]
          refine z_istore_n (q := 27) dX8_finished_26 (Nat.le_of_ble_eq_true rfl) rfl rfl ?_
          refine z_iincN (q := 30) dX8_finished_27 rfl rfl rfl ?_
          refine z_goto (q := 0) (tg := 4) dX8_finished_30 rfl ?_
          exact ih (d - 1) (by omega) (i + 1) (by omega)
        · intro hc17
          have e9 : qFin f (i + 1) = qFin f i + nI 1 := by simp [qFin, qIt, hc17, zbi]
          refine z_iconst (q := 21) dX8_finished_20 zci_1 rfl ?_
          refine z_goto (q := 0) (tg := 25) dX8_finished_21 rfl ?_
          refine z_iadd (q := 26) dX8_finished_25 rfl ?_
          rw [← e9]
          refine z_istore_n (q := 27) dX8_finished_26 (Nat.le_of_ble_eq_true rfl) rfl rfl ?_
          refine z_iincN (q := 30) dX8_finished_27 rfl rfl rfl ?_
          refine z_goto (q := 0) (tg := 4) dX8_finished_30 rfl ?_
          exact ih (d - 1) (by omega) (i + 1) (by omega)
  refine z_iconst (q := 1) dX8_finished_0 zci_0 rfl ?_
  refine z_istore_n (q := 2) dX8_finished_1 (Nat.le_of_ble_eq_true rfl) rfl rfl ?_
  refine z_iconst (q := 3) dX8_finished_2 zci_0 rfl ?_
  refine z_istore_n (q := 4) dX8_finished_3 (Nat.le_of_ble_eq_true rfl) rfl rfl ?_
  exact loop K 0 (by omega)
set_option maxRecDepth 100000 in
set_option maxHeartbeats 4000000 in
theorem ct_X8_sumOf {g : zGl} {h : zHp} {r n w : Nat} {f : Nat → Int32} (hr : h.1 r = some (zI g 264 f)) (hn : f 0 = nI n) (hn6 : n ≤ 6) (hw : w < 6) : zC g mX8_sumOf [.ref r, .int (nI w)] h (zV h (.int (qSum f n w))) 0 0 := by
  refine zC_ofA (lv := [some (.ref r), some (.int (nI w)), none, none]) (by decide) rfl (Nat.le_of_ble_eq_true rfl) ?_
  have loop : ∀ d i, i + d = n → zA g (zZc g mX8_sumOf (zV h (.int (qSum f n w))) 0 0) 0 0 4 [some (.ref r), some (.int (nI w)), some (.int (qSum f i w)), some (.int (nI i))] [] h := by
    intro d
    induction d using Nat.strongRecOn with
    | ind d ih =>
      intro i hi
      refine z_iload_n (q := 5) dX8_sumOf_4 rfl rfl ?_
      refine z_aload_n (q := 6) dX8_sumOf_5 rfl rfl ?_
      refine z_iconst (q := 7) dX8_sumOf_6 zci_0 rfl ?_
      refine z_iald (q := 8) dX8_sumOf_7 (by assumption) (by omega) (by omega) rfl ?_
      refine z_eqi hn ?_
      refine z_icmp_geN (tg := 28) (q := 11) dX8_sumOf_8 rfl rfl (by omega) (by omega) ?_ ?_
      · intro hc8
        refine z_iload_n (q := 29) dX8_sumOf_28 rfl rfl ?_
        exact z_reti dX8_sumOf_29 rfl (⟨by rw [show i = n by omega], rfl⟩)
      · intro hc8
        refine z_iload_n (q := 12) dX8_sumOf_11 rfl rfl ?_
        refine z_aload_n (q := 13) dX8_sumOf_12 rfl rfl ?_
        refine z_iload_n (q := 14) dX8_sumOf_13 rfl rfl ?_
        refine z_s1 (q := 17) dX8_sumOf_14 zkX8_61 zt_mX8_agentAt rfl (Nat.le_of_ble_eq_true rfl) (ct_X8_agentAt) rfl ?_
        refine z_iload_n (q := 18) dX8_sumOf_17 rfl rfl ?_
        refine z_iaddN (q := 19) dX8_sumOf_18 rfl ?_
        refine z_iald (q := 20) dX8_sumOf_19 (by assumption) (by omega) (by omega) rfl ?_
        refine z_iadd (q := 21) dX8_sumOf_20 rfl ?_
        refine z_istore_n (q := 22) dX8_sumOf_21 (Nat.le_of_ble_eq_true rfl) rfl rfl ?_
        refine z_iincN (q := 25) dX8_sumOf_22 rfl rfl rfl ?_
        refine z_goto (q := 0) (tg := 4) dX8_sumOf_25 rfl ?_
        exact ih (d - 1) (by omega) (i + 1) (by omega)
  refine z_iconst (q := 1) dX8_sumOf_0 zci_0 rfl ?_
  refine z_istore_n (q := 2) dX8_sumOf_1 (Nat.le_of_ble_eq_true rfl) rfl rfl ?_
  refine z_iconst (q := 3) dX8_sumOf_2 zci_0 rfl ?_
  refine z_istore_n (q := 4) dX8_sumOf_3 (Nat.le_of_ble_eq_true rfl) rfl rfl ?_
  exact loop n 0 (by omega)
set_option maxRecDepth 100000 in
set_option maxHeartbeats 4000000 in
theorem ct_X8_progress {g : zGl} {h : zHp} {r K : Nat} {f : Nat → Int32} (hr : h.1 r = some (zI g 264 f)) (hK : f 1 = nI K) (hK8 : K ≤ 8) : zC g mX8_progress [.ref r] h (zV h (.int (qPrg f K))) 0 0 := by
  refine zC_ofA (lv := [some (.ref r), none, none]) (by decide) rfl (Nat.le_of_ble_eq_true rfl) ?_
  have loop : ∀ d i, i + d = K → zA g (zZc g mX8_progress (zV h (.int (qPrg f K))) 0 0) 0 0 4 [some (.ref r), some (.int (qPrg f i)), some (.int (nI i))] [] h := by
    intro d
    induction d using Nat.strongRecOn with
    | ind d ih =>
      intro i hi
      refine z_iload_n (q := 5) dX8_progress_4 rfl rfl ?_
      refine z_aload_n (q := 6) dX8_progress_5 rfl rfl ?_
      refine z_iconst (q := 7) dX8_progress_6 zci_1 rfl ?_
      refine z_iald (q := 8) dX8_progress_7 (by assumption) (by omega) (by omega) rfl ?_
      refine z_eqi hK ?_
      refine z_icmp_geN (tg := 28) (q := 11) dX8_progress_8 rfl rfl (by omega) (by omega) ?_ ?_
      · intro hc8
        refine z_iload_n (q := 29) dX8_progress_28 rfl rfl ?_
        exact z_reti dX8_progress_29 rfl (⟨by rw [show i = K by omega], rfl⟩)
      · intro hc8
        refine z_iload_n (q := 12) dX8_progress_11 rfl rfl ?_
        refine z_aload_n (q := 13) dX8_progress_12 rfl rfl ?_
        refine z_iload_n (q := 14) dX8_progress_13 rfl rfl ?_
        refine z_s1 (q := 17) dX8_progress_14 zkX8_65 zt_mX8_taskAt rfl (Nat.le_of_ble_eq_true rfl) (ct_X8_taskAt) rfl ?_
        refine z_iconst (q := 18) dX8_progress_17 zci_3 rfl ?_
        refine z_iaddN (q := 19) dX8_progress_18 rfl ?_
        refine z_iald (q := 20) dX8_progress_19 (by assumption) (by omega) (by omega) rfl ?_
        refine z_iadd (q := 21) dX8_progress_20 rfl ?_
        refine z_istore_n (q := 22) dX8_progress_21 (Nat.le_of_ble_eq_true rfl) rfl rfl ?_
        refine z_iincN (q := 25) dX8_progress_22 rfl rfl rfl ?_
        refine z_goto (q := 0) (tg := 4) dX8_progress_25 rfl ?_
        exact ih (d - 1) (by omega) (i + 1) (by omega)
  refine z_iconst (q := 1) dX8_progress_0 zci_0 rfl ?_
  refine z_istore_n (q := 2) dX8_progress_1 (Nat.le_of_ble_eq_true rfl) rfl rfl ?_
  refine z_iconst (q := 3) dX8_progress_2 zci_0 rfl ?_
  refine z_istore_n (q := 4) dX8_progress_3 (Nat.le_of_ble_eq_true rfl) rfl rfl ?_
  exact loop K 0 (by omega)
set_option maxRecDepth 100000 in
set_option maxHeartbeats 4000000 in
theorem ct_X8_claimers {g : zGl} {h : zHp} {r n t : Nat} {f : Nat → Int32} (hr : h.1 r = some (zI g 264 f)) (hn : f 0 = nI n) (hn6 : n ≤ 6) (ht : t < 8) : zC g mX8_claimers [.ref r, .int (nI t)] h (zV h (.int (qClm f n t))) 0 0 := by
  refine zC_ofA (lv := [some (.ref r), some (.int (nI t)), none, none]) (by decide) rfl (Nat.le_of_ble_eq_true rfl) ?_
  have loop : ∀ d i, i + d = n → zA g (zZc g mX8_claimers (zV h (.int (qClm f n t))) 0 0) 0 0 4 [some (.ref r), some (.int (nI t)), some (.int (qClm f i t)), some (.int (nI i))] [] h := by
    intro d
    induction d using Nat.strongRecOn with
    | ind d ih =>
      intro i hi
      refine z_iload_n (q := 5) dX8_claimers_4 rfl rfl ?_
      refine z_aload_n (q := 6) dX8_claimers_5 rfl rfl ?_
      refine z_iconst (q := 7) dX8_claimers_6 zci_0 rfl ?_
      refine z_iald (q := 8) dX8_claimers_7 (by assumption) (by omega) (by omega) rfl ?_
      refine z_eqi hn ?_
      refine z_icmp_geN (tg := 44) (q := 11) dX8_claimers_8 rfl rfl (by omega) (by omega) ?_ ?_
      · intro hc8
        refine z_iload_n (q := 45) dX8_claimers_44 rfl rfl ?_
        exact z_reti dX8_claimers_45 rfl (⟨by rw [show i = n by omega], rfl⟩)
      · intro hc8
        refine z_iload_n (q := 12) dX8_claimers_11 rfl rfl ?_
        refine z_aload_n (q := 13) dX8_claimers_12 rfl rfl ?_
        refine z_iload_n (q := 14) dX8_claimers_13 rfl rfl ?_
        refine z_s2 (q := 17) dX8_claimers_14 zkX8_71 zt_mX8_isOn rfl (Nat.le_of_ble_eq_true rfl) (ct_X8_isOn (by assumption) (by omega)) rfl ?_
        refine z_ifb_eq (tg := 35) (q := 20) dX8_claimers_17 rfl rfl ?_ ?_
        · intro hc17
          have e9 : qClm f (i + 1) t = qClm f i t ||| nI 0 := by simp [qClm, qIt, hc17]
          refine z_iconst (q := 36) dX8_claimers_35 zci_0 rfl ?_
          refine z_ior (q := 37) dX8_claimers_36 rfl ?_
          rw [← e9]
          refine z_istore_n (q := 38) dX8_claimers_37 (Nat.le_of_ble_eq_true rfl) rfl rfl ?_
          refine z_iincN (q := 41) dX8_claimers_38 rfl rfl rfl ?_
          refine z_goto (q := 0) (tg := 4) dX8_claimers_41 rfl ?_
          exact ih (d - 1) (by omega) (i + 1) (by omega)
        · intro hc17
          refine z_aload_n (q := 21) dX8_claimers_20 rfl rfl ?_
          refine z_iload_n (q := 22) dX8_claimers_21 rfl rfl ?_
          refine z_iload_n (q := 23) dX8_claimers_22 rfl rfl ?_
          refine z_s3 (q := 26) dX8_claimers_23 zkX8_87 zt_mX8_isOwn rfl (Nat.le_of_ble_eq_true rfl) (ct_X8_isOwn (by assumption) (by omega) (by omega)) rfl ?_
          refine z_ifb_eq (tg := 35) (q := 29) dX8_claimers_26 rfl rfl ?_ ?_
          · intro hc26
            have e9 : qClm f (i + 1) t = qClm f i t ||| nI 0 := by simp [qClm, qIt, hc26]
            refine z_iconst (q := 36) dX8_claimers_35 zci_0 rfl ?_
            refine z_ior (q := 37) dX8_claimers_36 rfl ?_
            rw [← e9]
            refine z_istore_n (q := 38) dX8_claimers_37 (Nat.le_of_ble_eq_true rfl) rfl rfl ?_
            refine z_iincN (q := 41) dX8_claimers_38 rfl rfl rfl ?_
            refine z_goto (q := 0) (tg := 4) dX8_claimers_41 rfl ?_
            exact ih (d - 1) (by omega) (i + 1) (by omega)
          · intro hc26
            have e9 : qClm f (i + 1) t = qClm f i t ||| (nI 1 <<< (nI i &&& 31)) := by simp [qClm, qIt, hc17, hc26]
            refine z_iconst (q := 30) dX8_claimers_29 zci_1 rfl ?_
            refine z_iload_n (q := 31) dX8_claimers_30 rfl rfl ?_
            refine z_ishl (q := 32) dX8_claimers_31 rfl ?_
            refine z_goto (q := 0) (tg := 36) dX8_claimers_32 rfl ?_
            refine z_ior (q := 37) dX8_claimers_36 rfl ?_
            rw [← e9]
            refine z_istore_n (q := 38) dX8_claimers_37 (Nat.le_of_ble_eq_true rfl) rfl rfl ?_
            refine z_iincN (q := 41) dX8_claimers_38 rfl rfl rfl ?_
            refine z_goto (q := 0) (tg := 4) dX8_claimers_41 rfl ?_
            exact ih (d - 1) (by omega) (i + 1) (by omega)
  refine z_iconst (q := 1) dX8_claimers_0 zci_0 rfl ?_
  refine z_istore_n (q := 2) dX8_claimers_1 (Nat.le_of_ble_eq_true rfl) rfl rfl ?_
  refine z_iconst (q := 3) dX8_claimers_2 zci_0 rfl ?_
  refine z_istore_n (q := 4) dX8_claimers_3 (Nat.le_of_ble_eq_true rfl) rfl rfl ?_
  exact loop n 0 (by omega)
set_option maxRecDepth 100000 in
set_option maxHeartbeats 4000000 in
theorem ct_X8_doubles {g : zGl} {h : zHp} {r n K : Nat} {f : Nat → Int32} (hr : h.1 r = some (zI g 264 f)) (hn : f 0 = nI n) (hn6 : n ≤ 6) (hK : f 1 = nI K) (hK8 : K ≤ 8) : zC g mX8_doubles [.ref r] h (zV h (.int (qDbl f n K))) 0 0 := by
  refine zC_ofA (lv := [some (.ref r), none, none, none]) (by decide) rfl (Nat.le_of_ble_eq_true rfl) ?_
  have loop : ∀ d i (x : Option Value), i + d = K → zA g (zZc g mX8_doubles (zV h (.int (qDbl f n K))) 0 0) 0 0 4 [some (.ref r), some (.int (qDbl f n i)), some (.int (nI i)), x] [] h := by
    intro d
    induction d using Nat.strongRecOn with
    | ind d ih =>
      intro i x hi
      refine z_iload_n (q := 5) dX8_doubles_4 rfl rfl ?_
      refine z_aload_n (q := 6) dX8_doubles_5 rfl rfl ?_
      refine z_iconst (q := 7) dX8_doubles_6 zci_1 rfl ?_
      refine z_iald (q := 8) dX8_doubles_7 (by assumption) (by omega) (by omega) rfl ?_
      refine z_eqi hK ?_
      refine z_icmp_geN (tg := 39) (q := 11) dX8_doubles_8 rfl rfl (by omega) (by omega) ?_ ?_
      · intro hc8
        refine z_iload_n (q := 40) dX8_doubles_39 rfl rfl ?_
        exact z_reti dX8_doubles_40 rfl (⟨by rw [show i = K by omega], rfl⟩)
      · intro hc8
        refine z_aload_n (q := 12) dX8_doubles_11 rfl rfl ?_
        refine z_iload_n (q := 13) dX8_doubles_12 rfl rfl ?_
        refine z_s2 (q := 16) dX8_doubles_13 zkX8_167 zt_mX8_claimers rfl (Nat.le_of_ble_eq_true rfl) (ct_X8_claimers (by assumption) (by assumption) (by omega) (by omega)) rfl ?_
        refine z_istore_n (q := 17) dX8_doubles_16 (Nat.le_of_ble_eq_true rfl) rfl rfl ?_
        refine z_iload_n (q := 18) dX8_doubles_17 rfl rfl ?_
        refine z_iload_n (q := 19) dX8_doubles_18 rfl rfl ?_
        refine z_iload_n (q := 20) dX8_doubles_19 rfl rfl ?_
        refine z_iconst (q := 21) dX8_doubles_20 zci_1 rfl ?_
        refine z_isub (q := 22) dX8_doubles_21 rfl ?_
        refine z_iand (q := 23) dX8_doubles_22 rfl ?_
        refine z_if_eq (tg := 30) (q := 26) dX8_doubles_23 rfl rfl ?_ ?_
        · intro hc23
          have e9 : qDbl f n (i + 1) = qDbl f n i + nI 0 := by simp [qDbl, qIt, hc23, zbi]
          refine z_iconst (q := 31) dX8_doubles_30 zci_0 rfl ?_
          refine z_iadd (q := 32) dX8_doubles_31 rfl ?_
          rw [← e9]
          refine z_istore_n (q := 33) dX8_doubles_32 (Nat.le_of_ble_eq_true rfl) rfl rfl ?_
          refine z_iincN (q := 36) dX8_doubles_33 rfl rfl rfl ?_
          refine z_goto (q := 0) (tg := 4) dX8_doubles_36 rfl ?_
          exact ih (d - 1) (by omega) (i + 1) _ (by omega)
        · intro hc23
          have e9 : qDbl f n (i + 1) = qDbl f n i + nI 1 := by simp [qDbl, qIt, hc23, zbi]
          refine z_iconst (q := 27) dX8_doubles_26 zci_1 rfl ?_
          refine z_goto (q := 0) (tg := 31) dX8_doubles_27 rfl ?_
          refine z_iadd (q := 32) dX8_doubles_31 rfl ?_
          rw [← e9]
          refine z_istore_n (q := 33) dX8_doubles_32 (Nat.le_of_ble_eq_true rfl) rfl rfl ?_
          refine z_iincN (q := 36) dX8_doubles_33 rfl rfl rfl ?_
          refine z_goto (q := 0) (tg := 4) dX8_doubles_36 rfl ?_
          exact ih (d - 1) (by omega) (i + 1) _ (by omega)
  refine z_iconst (q := 1) dX8_doubles_0 zci_0 rfl ?_
  refine z_istore_n (q := 2) dX8_doubles_1 (Nat.le_of_ble_eq_true rfl) rfl rfl ?_
  refine z_iconst (q := 3) dX8_doubles_2 zci_0 rfl ?_
  refine z_istore_n (q := 4) dX8_doubles_3 (Nat.le_of_ble_eq_true rfl) rfl rfl ?_
  exact loop K 0 _ (by omega)
set_option maxRecDepth 100000 in
set_option maxHeartbeats 4000000 in
theorem ct_X8_isKnown {g : zGl} {h : zHp} {r n t : Nat} {f : Nat → Int32} (hr : h.1 r = some (zI g 264 f)) (hn : f 0 = nI n) (hn6 : n ≤ 6) (ht : t < 8) : zC g mX8_isKnown [.ref r, .int (nI t)] h (zV h (.int (zbi (qKnw f n t)))) 0 0 := by
  refine zC_ofA (lv := [some (.ref r), some (.int (nI t)), none, none]) (by decide) rfl (Nat.le_of_ble_eq_true rfl) ?_
  have loop : ∀ d i, i + d = n → zA g (zZc g mX8_isKnown (zV h (.int (zbi (qKnw f n t)))) 0 0) 0 0 4 [some (.ref r), some (.int (nI t)), some (.int (zbi (qKnw f i t))), some (.int (nI i))] [] h := by
    intro d
    induction d using Nat.strongRecOn with
    | ind d ih =>
      intro i hi
      refine z_iload_n (q := 5) dX8_isKnown_4 rfl rfl ?_
      refine z_aload_n (q := 6) dX8_isKnown_5 rfl rfl ?_
      refine z_iconst (q := 7) dX8_isKnown_6 zci_0 rfl ?_
      refine z_iald (q := 8) dX8_isKnown_7 (by assumption) (by omega) (by omega) rfl ?_
      refine z_eqi hn ?_
      refine z_icmp_geN (tg := 48) (q := 11) dX8_isKnown_8 rfl rfl (by omega) (by omega) ?_ ?_
      · intro hc8
        refine z_iload_n (q := 49) dX8_isKnown_48 rfl rfl ?_
        exact z_retz dX8_isKnown_49 rfl (zbi_01 _) (⟨by rw [show i = n by omega], rfl⟩)
      · intro hc8
        refine z_iload_n (q := 12) dX8_isKnown_11 rfl rfl ?_
        refine z_ifb_eq (tg := 40) (q := 15) dX8_isKnown_12 rfl rfl ?_ ?_
        · intro hc12
          have e9 : nI 0 = zbi (qKnw f (i + 1) t) := by simp [qKnw, qIt, zbi]; intro z; simp [qKnw, qIt, z] at hc12
          refine z_iconst (q := 41) dX8_isKnown_40 zci_0 rfl ?_
          refine z_eqi e9 ?_
          refine z_istore_n (q := 42) dX8_isKnown_41 (Nat.le_of_ble_eq_true rfl) rfl rfl ?_
          refine z_iincN (q := 45) dX8_isKnown_42 rfl rfl rfl ?_
          refine z_goto (q := 0) (tg := 4) dX8_isKnown_45 rfl ?_
          exact ih (d - 1) (by omega) (i + 1) (by omega)
        · intro hc12
          refine z_aload_n (q := 16) dX8_isKnown_15 rfl rfl ?_
          refine z_iload_n (q := 17) dX8_isKnown_16 rfl rfl ?_
          refine z_s2 (q := 20) dX8_isKnown_17 zkX8_71 zt_mX8_isOn rfl (Nat.le_of_ble_eq_true rfl) (ct_X8_isOn (by assumption) (by omega)) rfl ?_
          refine z_ifb_eq (tg := 36) (q := 23) dX8_isKnown_20 rfl rfl ?_ ?_
          · intro hc20
            have e9 : nI 1 = zbi (qKnw f (i + 1) t) := by rw [show qKnw f (i + 1) t = (qKnw f i t && (!qOn f i || decide (f (72 + 4 * (8 * i + t)) = nI 2))) from rfl, hc12, hc20]; rfl
            refine z_iconst (q := 37) dX8_isKnown_36 zci_1 rfl ?_
            refine z_goto (q := 0) (tg := 41) dX8_isKnown_37 rfl ?_
            refine z_eqi e9 ?_
            refine z_istore_n (q := 42) dX8_isKnown_41 (Nat.le_of_ble_eq_true rfl) rfl rfl ?_
            refine z_iincN (q := 45) dX8_isKnown_42 rfl rfl rfl ?_
            refine z_goto (q := 0) (tg := 4) dX8_isKnown_45 rfl ?_
            exact ih (d - 1) (by omega) (i + 1) (by omega)
          · intro hc20
            refine z_aload_n (q := 24) dX8_isKnown_23 rfl rfl ?_
            refine z_iload_n (q := 25) dX8_isKnown_24 rfl rfl ?_
            refine z_iload_n (q := 26) dX8_isKnown_25 rfl rfl ?_
            refine z_s2 (q := 29) dX8_isKnown_26 zkX8_83 zt_mX8_noteAt rfl (Nat.le_of_ble_eq_true rfl) (ct_X8_noteAt) rfl ?_
            refine z_iconst (q := 30) dX8_isKnown_29 zci_0 rfl ?_
            refine z_iadd0 (q := 31) dX8_isKnown_30 rfl ?_
            refine z_iald (q := 32) dX8_isKnown_31 (by assumption) (by omega) (by omega) rfl ?_
            refine z_iconst (q := 33) dX8_isKnown_32 zci_2 rfl ?_
            refine z_icmp_ne (tg := 40) (q := 36) dX8_isKnown_33 rfl rfl ?_ ?_
            · intro hc33
              have e9 : nI 0 = zbi (qKnw f (i + 1) t) := by rw [show qKnw f (i + 1) t = (qKnw f i t && (!qOn f i || decide (f (72 + 4 * (8 * i + t)) = nI 2))) from rfl, hc12, hc20]; simp [hc33, zbi]
              refine z_iconst (q := 41) dX8_isKnown_40 zci_0 rfl ?_
              refine z_eqi e9 ?_
              refine z_istore_n (q := 42) dX8_isKnown_41 (Nat.le_of_ble_eq_true rfl) rfl rfl ?_
              refine z_iincN (q := 45) dX8_isKnown_42 rfl rfl rfl ?_
              refine z_goto (q := 0) (tg := 4) dX8_isKnown_45 rfl ?_
              exact ih (d - 1) (by omega) (i + 1) (by omega)
            · intro hc33
              have e9 : nI 1 = zbi (qKnw f (i + 1) t) := by rw [show qKnw f (i + 1) t = (qKnw f i t && (!qOn f i || decide (f (72 + 4 * (8 * i + t)) = nI 2))) from rfl, hc12, hc20]; simp [hc33, zbi]
              refine z_iconst (q := 37) dX8_isKnown_36 zci_1 rfl ?_
              refine z_goto (q := 0) (tg := 41) dX8_isKnown_37 rfl ?_
              refine z_eqi e9 ?_
              refine z_istore_n (q := 42) dX8_isKnown_41 (Nat.le_of_ble_eq_true rfl) rfl rfl ?_
              refine z_iincN (q := 45) dX8_isKnown_42 rfl rfl rfl ?_
              refine z_goto (q := 0) (tg := 4) dX8_isKnown_45 rfl ?_
              exact ih (d - 1) (by omega) (i + 1) (by omega)
  refine z_iconst (q := 1) dX8_isKnown_0 zci_1 rfl ?_
  refine z_istore_n (q := 2) dX8_isKnown_1 (Nat.le_of_ble_eq_true rfl) rfl rfl ?_
  refine z_iconst (q := 3) dX8_isKnown_2 zci_0 rfl ?_
  refine z_istore_n (q := 4) dX8_isKnown_3 (Nat.le_of_ble_eq_true rfl) rfl rfl ?_
  exact loop n 0 (by omega)
set_option maxRecDepth 100000 in
set_option maxHeartbeats 4000000 in
theorem ct_X8_countOn {g : zGl} {h : zHp} {r n : Nat} {f : Nat → Int32} (hr : h.1 r = some (zI g 264 f)) (hn : f 0 = nI n) (hn6 : n ≤ 6) : zC g mX8_countOn [.ref r] h (zV h (.int (qSum f n 3))) 0 0 := by
  refine zC_ofA (lv := [some (.ref r)]) (by decide) rfl (Nat.le_of_ble_eq_true rfl) ?_
  refine z_aload_n (q := 1) dX8_countOn_0 rfl rfl ?_
  refine z_iconst (q := 2) dX8_countOn_1 zci_3 rfl ?_
  refine z_s2 (q := 5) dX8_countOn_2 zkX8_156 zt_mX8_sumOf rfl (Nat.le_of_ble_eq_true rfl) (ct_X8_sumOf hr hn hn6 (by omega)) rfl ?_
  exact z_reti dX8_countOn_5 rfl (⟨rfl, rfl⟩)
def qCan (f : Nat → Int32) (K a b : Nat) : Bool := qHears f a b && (qOwnTask f K a).isSome && (qOwnTask f K b).isNone
theorem qT_9 {s : Option Nat} {N : Nat} (hs : ∀ k, s = some k → k < N) (hN : N < 2 ^ 31) : qT s = -9 ↔ s = none := by
  cases s with
  | none => simp [qT]
  | some k =>
    have := hs k rfl
    constructor
    · intro h
      exact absurd h (nI_nm9 (by omega))
    · intro h; cases h
theorem qOwnTask_9 {f : Nat → Int32} {K a : Nat} (hK : K ≤ 8) : qT (qOwnTask f K a) = -9 ↔ qOwnTask f K a = none := qT_9 (N := 8) (fun k hk => by have := (qFst_lt hk).1; omega) (by decide)
set_option maxRecDepth 100000 in
set_option maxHeartbeats 4000000 in
theorem ct_X8_canHandOver {g : zGl} {h : zHp} {r a b K : Nat} {f : Nat → Int32} (hr : h.1 r = some (zI g 264 f)) (ha : a < 6) (hb : b < 6) (hK : f 1 = nI K) (hK8 : K ≤ 8) : zC g mX8_canHandOver [.ref r, .int (nI a), .int (nI b)] h (zV h (.int (zbi (qCan f K a b)))) 0 0 := by
  refine zC_ofA (lv := [some (.ref r), some (.int (nI a)), some (.int (nI b))]) (by decide) rfl (Nat.le_of_ble_eq_true rfl) ?_
  refine z_aload_n (q := 1) dX8_canHandOver_0 rfl rfl ?_
  refine z_iload_n (q := 2) dX8_canHandOver_1 rfl rfl ?_
  refine z_iload_n (q := 3) dX8_canHandOver_2 rfl rfl ?_
  refine z_s3 (q := 6) dX8_canHandOver_3 zkX8_90 zt_mX8_hears rfl (Nat.le_of_ble_eq_true rfl) (ct_X8_hears (by assumption) (by omega) (by omega)) rfl ?_
  refine z_ifb_eq (tg := 33) (q := 9) dX8_canHandOver_6 rfl rfl ?_ ?_
  · intro hc6
    refine z_iconst (q := 34) dX8_canHandOver_33 zci_0 rfl ?_
    exact z_retz dX8_canHandOver_34 rfl (by first | exact Or.inl rfl | exact Or.inr rfl) (⟨by first | (simp [qCan, zbi, hc6]; done) | (simp_all [qCan, zbi, Option.isNone_iff_eq_none, Option.isSome_iff_ne_none, Option.ne_none_iff_exists']), rfl⟩)
  · intro hc6
    refine z_aload_n (q := 10) dX8_canHandOver_9 rfl rfl ?_
    refine z_iload_n (q := 11) dX8_canHandOver_10 rfl rfl ?_
    refine z_s2 (q := 14) dX8_canHandOver_11 zkX8_103 zt_mX8_ownTask rfl (Nat.le_of_ble_eq_true rfl) (ct_X8_ownTask (by assumption) (by omega) (by assumption) (by omega)) rfl ?_
    refine z_bipush (q := 16) dX8_canHandOver_14 zcb_m9 rfl ?_
    refine z_icmp_eq (tg := 33) (q := 19) dX8_canHandOver_16 rfl rfl ?_ ?_
    · intro hc16
      rw [qOwnTask_9 hK8] at hc16
      refine z_iconst (q := 34) dX8_canHandOver_33 zci_0 rfl ?_
      exact z_retz dX8_canHandOver_34 rfl (by first | exact Or.inl rfl | exact Or.inr rfl) (⟨by first | (simp [qCan, zbi, hc6, hc16]; done) | (simp_all [qCan, zbi, Option.isNone_iff_eq_none, Option.isSome_iff_ne_none, Option.ne_none_iff_exists']), rfl⟩)
    · intro hc16
      rw [qOwnTask_9 hK8] at hc16
      refine z_aload_n (q := 20) dX8_canHandOver_19 rfl rfl ?_
      refine z_iload_n (q := 21) dX8_canHandOver_20 rfl rfl ?_
      refine z_s2 (q := 24) dX8_canHandOver_21 zkX8_103 zt_mX8_ownTask rfl (Nat.le_of_ble_eq_true rfl) (ct_X8_ownTask (by assumption) (by omega) (by assumption) (by omega)) rfl ?_
      refine z_bipush (q := 26) dX8_canHandOver_24 zcb_m9 rfl ?_
      refine z_icmp_ne (tg := 33) (q := 29) dX8_canHandOver_26 rfl rfl ?_ ?_
      · intro hc26
        rw [qOwnTask_9 hK8] at hc26
        refine z_iconst (q := 34) dX8_canHandOver_33 zci_0 rfl ?_
        exact z_retz dX8_canHandOver_34 rfl (by first | exact Or.inl rfl | exact Or.inr rfl) (⟨by first | (simp [qCan, zbi, hc6, hc16, hc26]; done) | (simp_all [qCan, zbi, Option.isNone_iff_eq_none, Option.isSome_iff_ne_none, Option.ne_none_iff_exists']), rfl⟩)
      · intro hc26
        rw [qOwnTask_9 hK8] at hc26
        refine z_iconst (q := 30) dX8_canHandOver_29 zci_1 rfl ?_
        refine z_goto (q := 0) (tg := 34) dX8_canHandOver_30 rfl ?_
        exact z_retz dX8_canHandOver_34 rfl (by first | exact Or.inl rfl | exact Or.inr rfl) (⟨by first | (simp [qCan, zbi, hc6, hc16, hc26]; done) | (simp_all [qCan, zbi, Option.isNone_iff_eq_none, Option.isSome_iff_ne_none, Option.ne_none_iff_exists']), rfl⟩)
def qDrop (f : Nat → Int32) (a K : Nat) : (Nat → Int32) × Nat := qIt (fun t s => if decide (s.1 (72 + 4 * (8 * a + t)) = nI 1) && decide (s.1 (72 + 4 * (8 * a + t) + 1) = nI a) then (qLay s.1 (72 + 4 * (8 * a + t)) (nI 0) (nI 0) (nI 0) (nI 0), s.2 + 1) else s) (f, 0) K
theorem qDrop_lt {f : Nat → Int32} {a K j : Nat} (h : j < 72) : (qDrop f a K).1 j = f j := by
  refine qIt_inv (P := fun s : (Nat → Int32) × Nat => s.1 j = f j) rfl ?_
  intro i x _ hx
  split
  · exact (qLay_lt (by omega)).trans hx
  · exact hx
theorem qDrop_cnt {f : Nat → Int32} {a K : Nat} : (qDrop f a K).2 ≤ K := by
  induction K with
  | zero => exact Nat.le_refl 0
  | succ K ih =>
    rw [qDrop, qIt]
    split
    · exact Nat.succ_le_succ ih
    · exact Nat.le_succ_of_le ih
set_option maxRecDepth 100000 in
set_option maxHeartbeats 4000000 in
theorem ct_X8_dropOn {g : zGl} {h : zHp} {r a K : Nat} {f : Nat → Int32} (ha : a < 6) (hK : f 1 = nI K) (hK8 : K ≤ 8) : zC g mX8_dropOn [.ref r, .int (nI a)] (zup h r (zI g 264 f)) (zVU (zup h r (zI g 264 (qDrop f a K).1)) (.int (nI (qDrop f a K).2))) 0 0 := by
  refine zC_ofA (lv := [some (.ref r), some (.int (nI a)), none, none]) (by decide) rfl (Nat.le_of_ble_eq_true rfl) ?_
  have loop : ∀ d i, i + d = K → zA g (zZc g mX8_dropOn (zVU (zup h r (zI g 264 (qDrop f a K).1)) (.int (nI (qDrop f a K).2))) 0 0) 0 0 4 [some (.ref r), some (.int (nI a)), some (.int (nI (qDrop f a i).2)), some (.int (nI i))] [] (zup h r (zI g 264 (qDrop f a i).1)) := by
    intro d
    induction d using Nat.strongRecOn with
    | ind d ih =>
      intro i hi
      have hK2 : (qDrop f a i).1 1 = nI K := (qDrop_lt (by omega)).trans hK
      refine z_iload_n (q := 5) dX8_dropOn_4 rfl rfl ?_
      refine z_aload_n (q := 6) dX8_dropOn_5 rfl rfl ?_
      refine z_iconst (q := 7) dX8_dropOn_6 zci_1 rfl ?_
      refine z_iald (q := 8) dX8_dropOn_7 (zup_at _ _ _) (by omega) (by omega) rfl ?_
      refine z_eqi hK2 ?_
      refine z_icmp_geN (tg := 59) (q := 11) dX8_dropOn_8 rfl rfl (by omega) (by omega) ?_ ?_
      · intro hc8
        refine z_iload_n (q := 60) dX8_dropOn_59 rfl rfl ?_
        exact z_reti dX8_dropOn_60 rfl (⟨by rw [show i = K by omega], by rw [show i = K by omega]⟩)
      · intro hc8
        refine z_aload_n (q := 12) dX8_dropOn_11 rfl rfl ?_
        refine z_iload_n (q := 13) dX8_dropOn_12 rfl rfl ?_
        refine z_iload_n (q := 14) dX8_dropOn_13 rfl rfl ?_
        refine z_s2 (q := 17) dX8_dropOn_14 zkX8_83 zt_mX8_noteAt rfl (Nat.le_of_ble_eq_true rfl) (ct_X8_noteAt) rfl ?_
        refine z_iconst (q := 18) dX8_dropOn_17 zci_0 rfl ?_
        refine z_iadd0 (q := 19) dX8_dropOn_18 rfl ?_
        refine z_iald (q := 20) dX8_dropOn_19 (zup_at _ _ _) (by omega) (by omega) rfl ?_
        refine z_iconst (q := 21) dX8_dropOn_20 zci_1 rfl ?_
        refine z_icmp_ne (tg := 53) (q := 24) dX8_dropOn_21 rfl rfl ?_ ?_
        · intro hc21
          have e9 : qDrop f a (i + 1) = qDrop f a i := by rw [qDrop, qIt, ← qDrop]; simp [hc21]
          refine z_iincN (q := 56) dX8_dropOn_53 rfl rfl rfl ?_
          refine z_goto (q := 0) (tg := 4) dX8_dropOn_56 rfl ?_
          have hl := ih (d - 1) (by omega) (i + 1) (by omega)
          rw [e9] at hl
          exact hl
        · intro hc21
          refine z_aload_n (q := 25) dX8_dropOn_24 rfl rfl ?_
          refine z_iload_n (q := 26) dX8_dropOn_25 rfl rfl ?_
          refine z_iload_n (q := 27) dX8_dropOn_26 rfl rfl ?_
          refine z_s2 (q := 30) dX8_dropOn_27 zkX8_83 zt_mX8_noteAt rfl (Nat.le_of_ble_eq_true rfl) (ct_X8_noteAt) rfl ?_
          refine z_iconst (q := 31) dX8_dropOn_30 zci_1 rfl ?_
          refine z_iaddN (q := 32) dX8_dropOn_31 rfl ?_
          refine z_iald (q := 33) dX8_dropOn_32 (zup_at _ _ _) (by omega) (by omega) rfl ?_
          refine z_iload_n (q := 34) dX8_dropOn_33 rfl rfl ?_
          refine z_icmp_ne (tg := 53) (q := 37) dX8_dropOn_34 rfl rfl ?_ ?_
          · intro hc34
            have e9 : qDrop f a (i + 1) = qDrop f a i := by rw [qDrop, qIt, ← qDrop]; simp [hc34]
            refine z_iincN (q := 56) dX8_dropOn_53 rfl rfl rfl ?_
            refine z_goto (q := 0) (tg := 4) dX8_dropOn_56 rfl ?_
            have hl := ih (d - 1) (by omega) (i + 1) (by omega)
            rw [e9] at hl
            exact hl
          · intro hc34
            have e9 : qDrop f a (i + 1) = (qLay (qDrop f a i).1 (72 + 4 * (8 * a + i)) (nI 0) (nI 0) (nI 0) (nI 0), (qDrop f a i).2 + 1) := by rw [qDrop, qIt, ← qDrop]; simp [hc21, hc34]
            refine z_aload_n (q := 38) dX8_dropOn_37 rfl rfl ?_
            refine z_iload_n (q := 39) dX8_dropOn_38 rfl rfl ?_
            refine z_iload_n (q := 40) dX8_dropOn_39 rfl rfl ?_
            refine z_s2 (q := 43) dX8_dropOn_40 zkX8_83 zt_mX8_noteAt rfl (Nat.le_of_ble_eq_true rfl) (ct_X8_noteAt) rfl ?_
            refine z_iconst (q := 44) dX8_dropOn_43 zci_0 rfl ?_
            refine z_iconst (q := 45) dX8_dropOn_44 zci_0 rfl ?_
            refine z_iconst (q := 46) dX8_dropOn_45 zci_0 rfl ?_
            refine z_iconst (q := 47) dX8_dropOn_46 zci_0 rfl ?_
            refine z_u6 (q := 50) dX8_dropOn_47 zkX8_96 zt_mX8_lay rfl (Nat.le_of_ble_eq_true rfl) (ct_X8_lay (by omega)) rfl ?_
            refine z_iincN (q := 53) dX8_dropOn_50 rfl rfl rfl ?_
            refine z_iincN (q := 56) dX8_dropOn_53 rfl rfl rfl ?_
            refine z_goto (q := 0) (tg := 4) dX8_dropOn_56 rfl ?_
            have hl := ih (d - 1) (by omega) (i + 1) (by omega)
            rw [e9] at hl
            exact hl
  refine z_iconst (q := 1) dX8_dropOn_0 zci_0 rfl ?_
  refine z_istore_n (q := 2) dX8_dropOn_1 (Nat.le_of_ble_eq_true rfl) rfl rfl ?_
  refine z_iconst (q := 3) dX8_dropOn_2 zci_0 rfl ?_
  refine z_istore_n (q := 4) dX8_dropOn_3 (Nat.le_of_ble_eq_true rfl) rfl rfl ?_
  exact loop K 0 (by omega)
