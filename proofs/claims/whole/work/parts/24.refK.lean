/-! ===== the reference: the text ===== -/
theorem z_idivN {g : zGl} {Z : zZt} {k n pc q : Nat} {lv : List (Option Value)} {st : List Value} {h : zHp} {x y : Nat} (hd : decode Z.1.2.1 pc = .ok (.idiv, 1)) (hy : 0 < y) (hx : x < 2 ^ 31) (hy2 : y < 2 ^ 31) (hp : pc + 1 = q) (kk : zA g Z k n q lv (.int (nI (x / y)) :: st) h) : zA g Z k n pc lv (.int (nI y) :: .int (nI x) :: st) h :=
  z_idiv hd (nI_ne0 hy hy2) hp (by rw [pk_div hx hy hy2]; exact kk)
theorem z_iremN {g : zGl} {Z : zZt} {k n pc q : Nat} {lv : List (Option Value)} {st : List Value} {h : zHp} {x y : Nat} (hd : decode Z.1.2.1 pc = .ok (.irem, 1)) (hy : 0 < y) (hx : x < 2 ^ 31) (hy2 : y < 2 ^ 31) (hp : pc + 1 = q) (kk : zA g Z k n q lv (.int (nI (x % y)) :: st) h) : zA g Z k n pc lv (.int (nI y) :: .int (nI x) :: st) h :=
  z_irem hd (nI_ne0 hy hy2) hp (by rw [pk_rem hx hy hy2]; exact kk)
/-- the digit at p, if it is one of lo to hi -/
def qDig (s : Nat → Int32) (L p lo hi : Nat) : Option Nat := if p < L ∧ qBt (s p - nI 48) lo hi = true then some (s p - nI 48).toNatClampNeg else none
theorem qDig_i {s : Nat → Int32} {L p lo hi d : Nat} (h : qDig s L p lo hi = some d) (hh : hi < 2 ^ 31) (hl : lo ≤ hi) : p < L ∧ lo ≤ d ∧ d ≤ hi ∧ s p - nI 48 = nI d ∧ qBt (s p - nI 48) lo hi = true := by
  unfold qDig at h
  split at h
  · next hp =>
    obtain ⟨j, h1, h2, h3⟩ := qBt_t hp.2 hh hl
    rw [h3, nI_clamp (by omega)] at h
    cases h
    exact ⟨hp.1, h1, h2, h3, hp.2⟩
  · cases h
theorem qIn_ii {x : Int32} {lo hi : Nat} (hl : lo < 2 ^ 31) (hh : hi < 2 ^ 31) : qIn x.toInt64 (nI lo).toInt64 (nI hi).toInt64 = qBt x lo hi := by
  refine qIn_bt ?_ ?_ hl hh
  · rw [Int32.toInt_toInt64, nI_toInt hl]
  · rw [Int32.toInt_toInt64, nI_toInt hh]
theorem qBt_9 {lo hi : Nat} (hl : lo < 2 ^ 31) : qBt (-9) lo hi = false := by
  simp only [qBt, Bool.and_eq_false_iff, decide_eq_false_iff_not]
  left
  rw [Int32.le_iff_toInt_le, nI_toInt hl]
  have : (-9 : Int32).toInt = -9 := by decide
  rw [this]
  omega
set_option maxRecDepth 100000 in
set_option maxHeartbeats 4000000 in
theorem ct_X8_digit_s {g : zGl} {h : zHp} {m L p lo hi d : Nat} {s : Nat → Int32} {U : Nat → Nat → Int32} (h1 : U 1 = s) (hL : U 0 2 = nI L) (hL2 : L ≤ 120) (hp : U 0 3 = nI p) (hp2 : p ≤ L) (hl : lo ≤ hi) (hh : hi < 1000) (hd : qDig s L p lo hi = some d) : zC g mX8_digit [.ref m, .int (nI lo), .int (nI hi)] (zpM g h m U) (zVU (zpM g h m (va_up U 0 (va_up (U 0) 3 (nI (p + 1))))) (.int (nI d))) 0 0 := by
  obtain ⟨a1, a2, a3, a4, a5⟩ := qDig_i hd (by omega) hl
  refine zC_ofA (lv := [some (.ref m), some (.int (nI lo)), some (.int (nI hi)), none]) (by decide) rfl (Nat.le_of_ble_eq_true rfl) ?_
  refine z_aload_n (q := 1) dX8_digit_0 rfl rfl ?_
  refine z_get (q := 4) dX8_digit_1 zfX8_130 (by first | exact zpM_0 | exact zpM_a rfl | exact zpM_8) rfl rfl ?_
  refine z_eqi hp ?_
  refine z_aload_n (q := 5) dX8_digit_4 rfl rfl ?_
  refine z_get (q := 8) dX8_digit_5 zfX8_123 (by first | exact zpM_0 | exact zpM_a rfl | exact zpM_8) rfl rfl ?_
  refine z_eqi hL ?_
  refine z_icmp_geN (tg := 26) (q := 11) dX8_digit_8 rfl rfl (by omega) (by omega) ?_ ?_
  · intro hc8
    omega
  · intro hc8
    refine z_aload_n (q := 12) dX8_digit_11 rfl rfl ?_
    refine z_get (q := 15) dX8_digit_12 zfX8_7 (by first | exact zpM_0 | exact zpM_a rfl | exact zpM_8) rfl rfl ?_
    refine z_aload_n (q := 16) dX8_digit_15 rfl rfl ?_
    refine z_get (q := 19) dX8_digit_16 zfX8_130 (by first | exact zpM_0 | exact zpM_a rfl | exact zpM_8) rfl rfl ?_
    refine z_eqi hp ?_
    refine z_iald (q := 20) dX8_digit_19 (by first | exact zpM_0 | exact zpM_a rfl | exact zpM_8) (by omega) (by omega) rfl ?_
    refine z_bipush (q := 22) dX8_digit_20 zcb_48 rfl ?_
    refine z_isub (q := 23) dX8_digit_22 rfl ?_
    rw [h1]
    refine z_goto (q := 0) (tg := 28) dX8_digit_23 rfl ?_
    refine z_istore_n (q := 29) dX8_digit_28 (Nat.le_of_ble_eq_true rfl) rfl rfl ?_
    refine z_iload_n (q := 30) dX8_digit_29 rfl rfl ?_
    refine z_i2l (q := 31) dX8_digit_30 rfl rfl ?_
    refine z_iload_n (q := 32) dX8_digit_31 rfl rfl ?_
    refine z_i2l (q := 33) dX8_digit_32 rfl rfl ?_
    refine z_iload_n (q := 34) dX8_digit_33 rfl rfl ?_
    refine z_i2l (q := 35) dX8_digit_34 rfl rfl ?_
    refine z_s3 (q := 38) dX8_digit_35 zkX8_57 zt_mX8_in rfl (Nat.le_of_ble_eq_true rfl) (ct_X8_in) rfl ?_
    refine z_eqi ((congrArg zbi ((qIn_ii (by omega) (by omega)).trans a5)).trans zbi_t) ?_
    refine z_if_ne (tg := 44) (q := 41) dX8_digit_38 rfl rfl ?_ ?_
    · intro hc38
      refine z_aload_n (q := 45) dX8_digit_44 rfl rfl ?_
      refine z_dup (q := 46) dX8_digit_45 rfl rfl ?_
      refine z_get (q := 49) dX8_digit_46 zfX8_130 (by first | exact zpM_0 | exact zpM_a rfl | exact zpM_8) rfl rfl ?_
      refine z_eqi hp ?_
      refine z_iconst (q := 50) dX8_digit_49 zci_1 rfl ?_
      refine z_iaddN (q := 51) dX8_digit_50 rfl ?_
      refine z_putM (q := 54) dX8_digit_51 zfX8_130 (by decide) rfl ?_
      refine z_iload_n (q := 55) dX8_digit_54 rfl rfl ?_
      exact z_reti dX8_digit_55 rfl (⟨by rw [a4], rfl⟩)
    · intro hc38
      exact absurd hc38 (by decide)
set_option maxRecDepth 100000 in
set_option maxHeartbeats 4000000 in
theorem ct_X8_digit_n {g : zGl} {h : zHp} {m L p lo hi : Nat} {s : Nat → Int32} {U : Nat → Nat → Int32} (h1 : U 1 = s) (hL : U 0 2 = nI L) (hL2 : L ≤ 120) (hp : U 0 3 = nI p) (hp2 : p ≤ L) (hl : lo ≤ hi) (hh : hi < 1000) (hd : qDig s L p lo hi = none) : zC g mX8_digit [.ref m, .int (nI lo), .int (nI hi)] (zpM g h m U) (zVU (zpM g h m U) (.int (-9))) 0 0 := by
  refine zC_ofA (lv := [some (.ref m), some (.int (nI lo)), some (.int (nI hi)), none]) (by decide) rfl (Nat.le_of_ble_eq_true rfl) ?_
  have hno : p < L → qBt (s p - nI 48) lo hi = false := fun z => by
    rcases Bool.eq_false_or_eq_true (qBt (s p - nI 48) lo hi) with e | e
    · rw [qDig, if_pos ⟨z, e⟩] at hd
      cases hd
    · exact e
  by_cases hpl : p < L
  · skip
    refine z_aload_n (q := 1) dX8_digit_0 rfl rfl ?_
    refine z_get (q := 4) dX8_digit_1 zfX8_130 (by first | exact zpM_0 | exact zpM_a rfl | exact zpM_8) rfl rfl ?_
    refine z_eqi hp ?_
    refine z_aload_n (q := 5) dX8_digit_4 rfl rfl ?_
    refine z_get (q := 8) dX8_digit_5 zfX8_123 (by first | exact zpM_0 | exact zpM_a rfl | exact zpM_8) rfl rfl ?_
    refine z_eqi hL ?_
    refine z_icmp_geN (tg := 26) (q := 11) dX8_digit_8 rfl rfl (by omega) (by omega) ?_ ?_
    · intro hc8
      omega
    · intro hc8
      refine z_aload_n (q := 12) dX8_digit_11 rfl rfl ?_
      refine z_get (q := 15) dX8_digit_12 zfX8_7 (by first | exact zpM_0 | exact zpM_a rfl | exact zpM_8) rfl rfl ?_
      refine z_aload_n (q := 16) dX8_digit_15 rfl rfl ?_
      refine z_get (q := 19) dX8_digit_16 zfX8_130 (by first | exact zpM_0 | exact zpM_a rfl | exact zpM_8) rfl rfl ?_
      refine z_eqi hp ?_
      refine z_iald (q := 20) dX8_digit_19 (by first | exact zpM_0 | exact zpM_a rfl | exact zpM_8) (by omega) (by omega) rfl ?_
      refine z_bipush (q := 22) dX8_digit_20 zcb_48 rfl ?_
      refine z_isub (q := 23) dX8_digit_22 rfl ?_
      rw [h1]
      refine z_goto (q := 0) (tg := 28) dX8_digit_23 rfl ?_
      refine z_istore_n (q := 29) dX8_digit_28 (Nat.le_of_ble_eq_true rfl) rfl rfl ?_
      refine z_iload_n (q := 30) dX8_digit_29 rfl rfl ?_
      refine z_i2l (q := 31) dX8_digit_30 rfl rfl ?_
      refine z_iload_n (q := 32) dX8_digit_31 rfl rfl ?_
      refine z_i2l (q := 33) dX8_digit_32 rfl rfl ?_
      refine z_iload_n (q := 34) dX8_digit_33 rfl rfl ?_
      refine z_i2l (q := 35) dX8_digit_34 rfl rfl ?_
      refine z_s3 (q := 38) dX8_digit_35 zkX8_57 zt_mX8_in rfl (Nat.le_of_ble_eq_true rfl) (ct_X8_in) rfl ?_
      refine z_eqi ((congrArg zbi ((qIn_ii (by omega) (by omega)).trans (hno hpl))).trans zbi_f) ?_
      refine z_if_ne (tg := 44) (q := 41) dX8_digit_38 rfl rfl ?_ ?_
      · intro hc38
        exact absurd hc38 (by decide)
      · intro hc38
        refine z_bipush (q := 43) dX8_digit_41 zcb_m9 rfl ?_
        exact z_reti dX8_digit_43 rfl (⟨rfl, rfl⟩)
  · skip
    refine z_aload_n (q := 1) dX8_digit_0 rfl rfl ?_
    refine z_get (q := 4) dX8_digit_1 zfX8_130 (by first | exact zpM_0 | exact zpM_a rfl | exact zpM_8) rfl rfl ?_
    refine z_eqi hp ?_
    refine z_aload_n (q := 5) dX8_digit_4 rfl rfl ?_
    refine z_get (q := 8) dX8_digit_5 zfX8_123 (by first | exact zpM_0 | exact zpM_a rfl | exact zpM_8) rfl rfl ?_
    refine z_eqi hL ?_
    refine z_icmp_geN (tg := 26) (q := 11) dX8_digit_8 rfl rfl (by omega) (by omega) ?_ ?_
    · intro hc8
      refine z_bipush (q := 28) dX8_digit_26 zcb_m9 rfl ?_
      refine z_istore_n (q := 29) dX8_digit_28 (Nat.le_of_ble_eq_true rfl) rfl rfl ?_
      refine z_iload_n (q := 30) dX8_digit_29 rfl rfl ?_
      refine z_i2l (q := 31) dX8_digit_30 rfl rfl ?_
      refine z_iload_n (q := 32) dX8_digit_31 rfl rfl ?_
      refine z_i2l (q := 33) dX8_digit_32 rfl rfl ?_
      refine z_iload_n (q := 34) dX8_digit_33 rfl rfl ?_
      refine z_i2l (q := 35) dX8_digit_34 rfl rfl ?_
      refine z_s3 (q := 38) dX8_digit_35 zkX8_57 zt_mX8_in rfl (Nat.le_of_ble_eq_true rfl) (ct_X8_in) rfl ?_
      refine z_eqi ((congrArg zbi ((qIn_ii (by omega) (by omega)).trans (qBt_9 (by omega)))).trans zbi_f) ?_
      refine z_if_ne (tg := 44) (q := 41) dX8_digit_38 rfl rfl ?_ ?_
      · intro hc38
        exact absurd hc38 (by decide)
      · intro hc38
        refine z_bipush (q := 43) dX8_digit_41 zcb_m9 rfl ?_
        exact z_reti dX8_digit_43 rfl (⟨rfl, rfl⟩)
    · intro hc8
      omega
/-- a number of two digits, and where the reading stands then -/
def qTwo (s : Nat → Int32) (L p lo hi : Nat) : Option Nat × Nat := match qDig s L p (lo / 10) (hi / 10) with
  | none => (none, p)
  | some t => match qDig s L (p + 1) (if t = lo / 10 then lo % 10 else 0) (if t = hi / 10 then hi % 10 else 9) with
    | none => (none, p + 1)
    | some d => (some (10 * t + d), p + 2)
theorem qTwo_le {s : Nat → Int32} {L p lo hi : Nat} (hp : p ≤ L) (hl : lo ≤ hi) (hh : hi < 100) : p ≤ (qTwo s L p lo hi).2 ∧ (qTwo s L p lo hi).2 ≤ L := by
  rcases h1 : qDig s L p (lo / 10) (hi / 10) with _ | t
  · simp only [qTwo, h1]
    exact ⟨Nat.le_refl _, hp⟩
  · have ha := qDig_i h1 (by omega) (by omega)
    rcases h2 : qDig s L (p + 1) (if t = lo / 10 then lo % 10 else 0) (if t = hi / 10 then hi % 10 else 9) with _ | d
    · simp only [qTwo, h1, h2]
      omega
    · have hb := qDig_i h2 (by split <;> omega) (by split <;> split <;> omega)
      simp only [qTwo, h1, h2]
      omega
theorem qTwo_v {s : Nat → Int32} {L p lo hi v : Nat} (hl : lo ≤ hi) (hh : hi < 100) (h : (qTwo s L p lo hi).1 = some v) : lo ≤ v ∧ v ≤ hi ∧ (qTwo s L p lo hi).2 = p + 2 := by
  rcases h1 : qDig s L p (lo / 10) (hi / 10) with _ | t
  · simp [qTwo, h1] at h
  · have ha := qDig_i h1 (by omega) (by omega)
    rcases h2 : qDig s L (p + 1) (if t = lo / 10 then lo % 10 else 0) (if t = hi / 10 then hi % 10 else 9) with _ | d
    · simp [qTwo, h1, h2] at h
    · have hb := qDig_i h2 (by split <;> omega) (by split <;> split <;> omega)
      have e : qTwo s L p lo hi = (some (10 * t + d), p + 2) := by simp only [qTwo, h1, h2]
      rw [e] at h ⊢
      cases h
      obtain ⟨-, b2, b3, -⟩ := hb
      obtain ⟨-, a2, a3, -⟩ := ha
      refine ⟨?_, ?_, rfl⟩
      · split at b2 <;> omega
      · split at b3 <;> omega
set_option maxRecDepth 100000 in
set_option maxHeartbeats 4000000 in
theorem ct_X8_two {g : zGl} {h : zHp} {m L p lo hi : Nat} {s : Nat → Int32} {U : Nat → Nat → Int32} (h1 : U 1 = s) (hL : U 0 2 = nI L) (hL2 : L ≤ 120) (hp : U 0 3 = nI p) (hp2 : p ≤ L) (hl : lo ≤ hi) (hh : hi < 100) : zC g mX8_two [.ref m, .int (nI lo), .int (nI hi)] (zpM g h m U) (zVU (zpM g h m (va_up U 0 (va_up (U 0) 3 (nI (qTwo s L p lo hi).2)))) (.int (qT (qTwo s L p lo hi).1))) 0 0 := by
  refine zC_ofA (lv := [some (.ref m), some (.int (nI lo)), some (.int (nI hi)), none, none]) (by decide) rfl (Nat.le_of_ble_eq_true rfl) ?_
  rcases hd1 : qDig s L p (lo / 10) (hi / 10) with _ | t
  · have e1 : qTwo s L p lo hi = (none, p) := by simp only [qTwo, hd1]
    have e2 : va_up U 0 (va_up (U 0) 3 (nI p)) = U := by rw [← hp, zu_self, zu_self]
    rw [e1]
    simp only [e2]
    refine z_aload_n (q := 1) dX8_two_0 rfl rfl ?_
    refine z_iload_n (q := 2) dX8_two_1 rfl rfl ?_
    refine z_bipush (q := 4) dX8_two_2 zcb_10 rfl ?_
    refine z_idivN (q := 5) dX8_two_4 (by omega) (by omega) (by omega) rfl ?_
    refine z_iload_n (q := 6) dX8_two_5 rfl rfl ?_
    refine z_bipush (q := 8) dX8_two_6 zcb_10 rfl ?_
    refine z_idivN (q := 9) dX8_two_8 (by omega) (by omega) (by omega) rfl ?_
    refine z_x2 (q := 12) dX8_two_9 zkX8_133 zt_mX8_digit rfl (by first | exact zpM_0 | exact zpM_a rfl | exact zpM_8) rfl (Nat.le_of_ble_eq_true rfl) (ct_X8_digit_n h1 hL hL2 hp hp2 (by omega) (by omega) hd1) rfl ?_
    refine z_istore_n (q := 13) dX8_two_12 (Nat.le_of_ble_eq_true rfl) rfl rfl ?_
    refine z_iload_n (q := 14) dX8_two_13 rfl rfl ?_
    refine z_bipush (q := 16) dX8_two_14 zcb_m9 rfl ?_
    refine z_icmp_ne (tg := 24) (q := 19) dX8_two_16 rfl rfl ?_ ?_
    · intro hc16
      exact absurd rfl hc16
    · intro hc16
      refine z_bipush (q := 21) dX8_two_19 zcb_m9 rfl ?_
      refine z_goto (q := 0) (tg := 61) dX8_two_21 rfl ?_
      refine z_istore (q := 63) dX8_two_61 (Nat.le_of_ble_eq_true rfl) rfl rfl ?_
      refine z_iload (q := 65) dX8_two_63 rfl rfl ?_
      refine z_bipush (q := 67) dX8_two_65 zcb_m9 rfl ?_
      refine z_icmp_ne (tg := 75) (q := 70) dX8_two_67 rfl rfl ?_ ?_
      · intro hc67
        exact absurd rfl hc67
      · intro hc67
        refine z_bipush (q := 72) dX8_two_70 zcb_m9 rfl ?_
        refine z_goto (q := 0) (tg := 82) dX8_two_72 rfl ?_
        exact z_reti dX8_two_82 rfl (⟨rfl, rfl⟩)
  · have ha := qDig_i hd1 (by omega) (by omega)
    have after : ∀ lo2 hi2, lo2 = (if t = lo / 10 then lo % 10 else 0) → hi2 = (if t = hi / 10 then hi % 10 else 9) → zA g (zZc g mX8_two (zVU (zpM g h m (va_up U 0 (va_up (U 0) 3 (nI (qTwo s L p lo hi).2)))) (.int (qT (qTwo s L p lo hi).1))) 0 0) 0 0 58 [some (.ref m), some (.int (nI lo)), some (.int (nI hi)), some (.int (nI t)), none] [.int (nI hi2), .int (nI lo2), .ref m] (zpM g h m (va_up U 0 (va_up (U 0) 3 (nI (p + 1))))) := by
      intro lo2 hi2 hlo hhi
      have hlt : lo2 ≤ hi2 ∧ hi2 < 10 := by rw [hlo, hhi]; split <;> split <;> omega
      rcases hd2 : qDig s L (p + 1) lo2 hi2 with _ | d
      · have e1 : qTwo s L p lo hi = (none, p + 1) := by simp only [qTwo, hd1, ← hlo, ← hhi, hd2]
        rw [e1]
        refine z_x2 (q := 61) dX8_two_58 zkX8_133 zt_mX8_digit rfl (by first | exact zpM_0 | exact zpM_a rfl | exact zpM_8) rfl (Nat.le_of_ble_eq_true rfl) (ct_X8_digit_n (p := p + 1) h1 hL hL2 rfl (by omega) (by omega) (by omega) hd2) rfl ?_
        refine z_istore (q := 63) dX8_two_61 (Nat.le_of_ble_eq_true rfl) rfl rfl ?_
        refine z_iload (q := 65) dX8_two_63 rfl rfl ?_
        refine z_bipush (q := 67) dX8_two_65 zcb_m9 rfl ?_
        refine z_icmp_ne (tg := 75) (q := 70) dX8_two_67 rfl rfl ?_ ?_
        · intro hc67
          exact absurd rfl hc67
        · intro hc67
          refine z_bipush (q := 72) dX8_two_70 zcb_m9 rfl ?_
          refine z_goto (q := 0) (tg := 82) dX8_two_72 rfl ?_
          exact z_reti dX8_two_82 rfl (⟨rfl, rfl⟩)
      · have hb := qDig_i hd2 (by omega) (by omega)
        have e1 : qTwo s L p lo hi = (some (10 * t + d), p + 2) := by simp only [qTwo, hd1, ← hlo, ← hhi, hd2]
        rw [e1]
        refine z_x2 (q := 61) dX8_two_58 zkX8_133 zt_mX8_digit rfl (by first | exact zpM_0 | exact zpM_a rfl | exact zpM_8) rfl (Nat.le_of_ble_eq_true rfl) (ct_X8_digit_s (p := p + 1) h1 hL hL2 rfl (by omega) (by omega) (by omega) hd2) rfl ?_
        rw [show va_up (va_up U 0 (va_up (U 0) 3 (nI (p + 1)))) 0 (va_up (va_up U 0 (va_up (U 0) 3 (nI (p + 1))) 0) 3 (nI (p + 1 + 1))) = va_up U 0 (va_up (U 0) 3 (nI (p + 2))) by rw [zu_up, zu_eq, zu_up]]
        refine z_istore (q := 63) dX8_two_61 (Nat.le_of_ble_eq_true rfl) rfl rfl ?_
        refine z_iload (q := 65) dX8_two_63 rfl rfl ?_
        refine z_bipush (q := 67) dX8_two_65 zcb_m9 rfl ?_
        refine z_icmp_ne (tg := 75) (q := 70) dX8_two_67 rfl rfl ?_ ?_
        · intro hc67
          refine z_bipush (q := 77) dX8_two_75 zcb_10 rfl ?_
          refine z_iload_n (q := 78) dX8_two_77 rfl rfl ?_
          refine z_imulN (q := 79) dX8_two_78 rfl ?_
          refine z_iload (q := 81) dX8_two_79 rfl rfl ?_
          refine z_iaddN (q := 82) dX8_two_81 rfl ?_
          exact z_reti dX8_two_82 rfl (⟨rfl, rfl⟩)
        · intro hc67
          exact absurd hc67 (nI_nm9 (by omega))
    refine z_aload_n (q := 1) dX8_two_0 rfl rfl ?_
    refine z_iload_n (q := 2) dX8_two_1 rfl rfl ?_
    refine z_bipush (q := 4) dX8_two_2 zcb_10 rfl ?_
    refine z_idivN (q := 5) dX8_two_4 (by omega) (by omega) (by omega) rfl ?_
    refine z_iload_n (q := 6) dX8_two_5 rfl rfl ?_
    refine z_bipush (q := 8) dX8_two_6 zcb_10 rfl ?_
    refine z_idivN (q := 9) dX8_two_8 (by omega) (by omega) (by omega) rfl ?_
    refine z_x2 (q := 12) dX8_two_9 zkX8_133 zt_mX8_digit rfl (by first | exact zpM_0 | exact zpM_a rfl | exact zpM_8) rfl (Nat.le_of_ble_eq_true rfl) (ct_X8_digit_s h1 hL hL2 hp hp2 (by omega) (by omega) hd1) rfl ?_
    refine z_istore_n (q := 13) dX8_two_12 (Nat.le_of_ble_eq_true rfl) rfl rfl ?_
    refine z_iload_n (q := 14) dX8_two_13 rfl rfl ?_
    refine z_bipush (q := 16) dX8_two_14 zcb_m9 rfl ?_
    refine z_icmp_ne (tg := 24) (q := 19) dX8_two_16 rfl rfl ?_ ?_
    · intro hc16
      refine z_aload_n (q := 25) dX8_two_24 rfl rfl ?_
      refine z_iload_n (q := 26) dX8_two_25 rfl rfl ?_
      refine z_iload_n (q := 27) dX8_two_26 rfl rfl ?_
      refine z_bipush (q := 29) dX8_two_27 zcb_10 rfl ?_
      refine z_idivN (q := 30) dX8_two_29 (by omega) (by omega) (by omega) rfl ?_
      refine z_icmp_neN (tg := 40) (q := 33) dX8_two_30 rfl rfl (by omega) (by omega) ?_ ?_
      · intro hc30
        refine z_iconst (q := 41) dX8_two_40 zci_0 rfl ?_
        refine z_iload_n (q := 42) dX8_two_41 rfl rfl ?_
        refine z_iload_n (q := 43) dX8_two_42 rfl rfl ?_
        refine z_bipush (q := 45) dX8_two_43 zcb_10 rfl ?_
        refine z_idivN (q := 46) dX8_two_45 (by omega) (by omega) (by omega) rfl ?_
        refine z_icmp_neN (tg := 56) (q := 49) dX8_two_46 rfl rfl (by omega) (by omega) ?_ ?_
        · intro hc46
          refine z_bipush (q := 58) dX8_two_56 zcb_9 rfl ?_
          exact after _ _ (by first | (rw [if_pos hc30]; done) | (rw [if_neg hc30]; done)) (by first | (rw [if_pos hc46]; done) | (rw [if_neg hc46]; done))
        · intro hc46
          refine z_iload_n (q := 50) dX8_two_49 rfl rfl ?_
          refine z_bipush (q := 52) dX8_two_50 zcb_10 rfl ?_
          refine z_iremN (q := 53) dX8_two_52 (by omega) (by omega) (by omega) rfl ?_
          refine z_goto (q := 0) (tg := 58) dX8_two_53 rfl ?_
          exact after _ _ (by first | (rw [if_pos hc30]; done) | (rw [if_neg hc30]; done)) (by first | (rw [if_pos hc46]; done) | (rw [if_neg hc46]; done))
      · intro hc30
        refine z_iload_n (q := 34) dX8_two_33 rfl rfl ?_
        refine z_bipush (q := 36) dX8_two_34 zcb_10 rfl ?_
        refine z_iremN (q := 37) dX8_two_36 (by omega) (by omega) (by omega) rfl ?_
        refine z_goto (q := 0) (tg := 41) dX8_two_37 rfl ?_
        refine z_iload_n (q := 42) dX8_two_41 rfl rfl ?_
        refine z_iload_n (q := 43) dX8_two_42 rfl rfl ?_
        refine z_bipush (q := 45) dX8_two_43 zcb_10 rfl ?_
        refine z_idivN (q := 46) dX8_two_45 (by omega) (by omega) (by omega) rfl ?_
        refine z_icmp_neN (tg := 56) (q := 49) dX8_two_46 rfl rfl (by omega) (by omega) ?_ ?_
        · intro hc46
          refine z_bipush (q := 58) dX8_two_56 zcb_9 rfl ?_
          exact after _ _ (by first | (rw [if_pos hc30]; done) | (rw [if_neg hc30]; done)) (by first | (rw [if_pos hc46]; done) | (rw [if_neg hc46]; done))
        · intro hc46
          refine z_iload_n (q := 50) dX8_two_49 rfl rfl ?_
          refine z_bipush (q := 52) dX8_two_50 zcb_10 rfl ?_
          refine z_iremN (q := 53) dX8_two_52 (by omega) (by omega) (by omega) rfl ?_
          refine z_goto (q := 0) (tg := 58) dX8_two_53 rfl ?_
          exact after _ _ (by first | (rw [if_pos hc30]; done) | (rw [if_neg hc30]; done)) (by first | (rw [if_pos hc46]; done) | (rw [if_neg hc46]; done))
    · intro hc16
      exact absurd hc16 (nI_nm9 (by omega))
/-- what an agent's item says, and where the reading stands then -/
def qRA (s : Nat → Int32) (L p : Nat) : Option (Nat × Nat × Nat) × Nat := match qTwo s L p 0 11 with
  | (none, p1) => (none, p1)
  | (some x, p1) => match qTwo s L p1 0 11 with
    | (none, p2) => (none, p2)
    | (some y, p2) => match qTwo s L p2 0 22 with
      | (none, p3) => (none, p3)
      | (some r, p3) => (some (x, y, r), p3)
def qRT (s : Nat → Int32) (L p : Nat) : Option (Nat × Nat × Nat) × Nat := match qTwo s L p 0 11 with
  | (none, p1) => (none, p1)
  | (some x, p1) => match qTwo s L p1 0 11 with
    | (none, p2) => (none, p2)
    | (some y, p2) => match qDig s L p2 1 9 with
      | none => (none, p2)
      | some w => (some (x, y, w), p2 + 1)
def qAddA (R : Nat → Int32) (k x y r : Nat) : Nat → Int32 := va_up (va_up (va_up (va_up (va_up R (4 + 6 * k) (nI x)) (4 + 6 * k + 1) (nI y)) (4 + 6 * k + 2) (nI r)) (4 + 6 * k + 3) (nI 1)) 0 (nI (k + 1))
def qAddT (R : Nat → Int32) (k x y w : Nat) : Nat → Int32 := va_up (va_up (va_up (va_up R (40 + 4 * k) (nI x)) (40 + 4 * k + 1) (nI y)) (40 + 4 * k + 2) (nI w)) 1 (nI (k + 1))
theorem zpM_s3 {g : zGl} {h : zHp} {m : Nat} {U : Nat → Nat → Int32} {x y : Int32} : zpM g h m (va_up (va_up U 0 (va_up (U 0) 3 x)) 0 (va_up (va_up U 0 (va_up (U 0) 3 x) 0) 3 y)) = zpM g h m (va_up U 0 (va_up (U 0) 3 y)) := by rw [zu_up, zu_eq, zu_up]
set_option maxRecDepth 100000 in
set_option maxHeartbeats 4000000 in
theorem ct_X8_readAgent_n {g : zGl} {h : zHp} {m L p q : Nat} {s : Nat → Int32} {U : Nat → Nat → Int32} (h1 : U 1 = s) (hL : U 0 2 = nI L) (hL2 : L ≤ 120) (hp : U 0 3 = nI p) (hp2 : p ≤ L) (hq : qRA s L p = (none, q)) : zC g mX8_readAgent [.ref m] (zpM g h m U) (zVU (zpM g h m (va_up U 0 (va_up (U 0) 3 (nI q)))) (.int (nI 0))) 0 0 := by
  refine zC_ofA (lv := [some (.ref m), none, none, none, none]) (by decide) rfl (Nat.le_of_ble_eq_true rfl) ?_
  have l1 := qTwo_le (s := s) (lo := 0) (hi := 11) hp2 (by omega) (by omega)
  rcases e1 : qTwo s L p 0 11 with ⟨_ | x, p1⟩
  · have eq : q = p1 := by simp only [qRA, e1, Prod.mk.injEq] at hq; exact hq.2.symm
    rw [eq]
    refine z_aload_n (q := 1) dX8_readAgent_0 rfl rfl ?_
    refine z_iconst (q := 2) dX8_readAgent_1 zci_0 rfl ?_
    refine z_bipush (q := 4) dX8_readAgent_2 zcb_11 rfl ?_
    refine z_x2 (q := 7) dX8_readAgent_4 zkX8_136 zt_mX8_two rfl (by first | exact zpM_0 | exact zpM_a rfl | exact zpM_8) rfl (Nat.le_of_ble_eq_true rfl) (ct_X8_two h1 hL hL2 hp hp2 (by omega) (by omega)) rfl ?_
    rw [e1]
    refine z_eqi (show qT none = -9 from rfl) ?_
    refine z_istore_n (q := 8) dX8_readAgent_7 (Nat.le_of_ble_eq_true rfl) rfl rfl ?_
    refine z_iload_n (q := 9) dX8_readAgent_8 rfl rfl ?_
    refine z_bipush (q := 11) dX8_readAgent_9 zcb_m9 rfl ?_
    refine z_icmp_ne (tg := 19) (q := 14) dX8_readAgent_11 rfl rfl ?_ ?_
    · intro hc11
      exact absurd rfl hc11
    · intro hc11
      refine z_bipush (q := 16) dX8_readAgent_14 zcb_m9 rfl ?_
      refine z_goto (q := 0) (tg := 26) dX8_readAgent_16 rfl ?_
      refine z_istore_n (q := 27) dX8_readAgent_26 (Nat.le_of_ble_eq_true rfl) rfl rfl ?_
      refine z_iload_n (q := 28) dX8_readAgent_27 rfl rfl ?_
      refine z_bipush (q := 30) dX8_readAgent_28 zcb_m9 rfl ?_
      refine z_icmp_ne (tg := 38) (q := 33) dX8_readAgent_30 rfl rfl ?_ ?_
      · intro hc30
        exact absurd rfl hc30
      · intro hc30
        refine z_bipush (q := 35) dX8_readAgent_33 zcb_m9 rfl ?_
        refine z_goto (q := 0) (tg := 45) dX8_readAgent_35 rfl ?_
        refine z_istore_n (q := 46) dX8_readAgent_45 (Nat.le_of_ble_eq_true rfl) rfl rfl ?_
        refine z_iload_n (q := 47) dX8_readAgent_46 rfl rfl ?_
        refine z_bipush (q := 49) dX8_readAgent_47 zcb_m9 rfl ?_
        refine z_icmp_ne (tg := 54) (q := 52) dX8_readAgent_49 rfl rfl ?_ ?_
        · intro hc49
          exact absurd rfl hc49
        · intro hc49
          refine z_iconst (q := 53) dX8_readAgent_52 zci_0 rfl ?_
          exact z_retz dX8_readAgent_53 rfl (by first | exact Or.inl rfl | exact Or.inr rfl) (⟨rfl, rfl⟩)
  · rw [e1] at l1
    have l2 := qTwo_le (s := s) (lo := 0) (hi := 11) l1.2 (by omega) (by omega)
    have v1 := (qTwo_v (s := s) (L := L) (p := p) (lo := 0) (hi := 11) (v := x) (by omega) (by omega) (by rw [e1]))
    rcases e2 : qTwo s L p1 0 11 with ⟨_ | y, p2⟩
    · have eq : q = p2 := by simp only [qRA, e1, e2, Prod.mk.injEq] at hq; exact hq.2.symm
      rw [eq]
      refine z_aload_n (q := 1) dX8_readAgent_0 rfl rfl ?_
      refine z_iconst (q := 2) dX8_readAgent_1 zci_0 rfl ?_
      refine z_bipush (q := 4) dX8_readAgent_2 zcb_11 rfl ?_
      refine z_x2 (q := 7) dX8_readAgent_4 zkX8_136 zt_mX8_two rfl (by first | exact zpM_0 | exact zpM_a rfl | exact zpM_8) rfl (Nat.le_of_ble_eq_true rfl) (ct_X8_two h1 hL hL2 hp hp2 (by omega) (by omega)) rfl ?_
      rw [e1]
      refine z_eqi (show qT (some x) = nI x from rfl) ?_
      refine z_istore_n (q := 8) dX8_readAgent_7 (Nat.le_of_ble_eq_true rfl) rfl rfl ?_
      refine z_iload_n (q := 9) dX8_readAgent_8 rfl rfl ?_
      refine z_bipush (q := 11) dX8_readAgent_9 zcb_m9 rfl ?_
      refine z_icmp_ne (tg := 19) (q := 14) dX8_readAgent_11 rfl rfl ?_ ?_
      · intro hc11
        refine z_aload_n (q := 20) dX8_readAgent_19 rfl rfl ?_
        refine z_iconst (q := 21) dX8_readAgent_20 zci_0 rfl ?_
        refine z_bipush (q := 23) dX8_readAgent_21 zcb_11 rfl ?_
        refine z_x2 (q := 26) dX8_readAgent_23 zkX8_136 zt_mX8_two rfl (by first | exact zpM_0 | exact zpM_a rfl | exact zpM_8) rfl (Nat.le_of_ble_eq_true rfl) (ct_X8_two (p := p1) h1 hL hL2 rfl l1.2 (by omega) (by omega)) rfl ?_
        rw [e2, zpM_s3]
        refine z_eqi (show qT none = -9 from rfl) ?_
        refine z_istore_n (q := 27) dX8_readAgent_26 (Nat.le_of_ble_eq_true rfl) rfl rfl ?_
        refine z_iload_n (q := 28) dX8_readAgent_27 rfl rfl ?_
        refine z_bipush (q := 30) dX8_readAgent_28 zcb_m9 rfl ?_
        refine z_icmp_ne (tg := 38) (q := 33) dX8_readAgent_30 rfl rfl ?_ ?_
        · intro hc30
          exact absurd rfl hc30
        · intro hc30
          refine z_bipush (q := 35) dX8_readAgent_33 zcb_m9 rfl ?_
          refine z_goto (q := 0) (tg := 45) dX8_readAgent_35 rfl ?_
          refine z_istore_n (q := 46) dX8_readAgent_45 (Nat.le_of_ble_eq_true rfl) rfl rfl ?_
          refine z_iload_n (q := 47) dX8_readAgent_46 rfl rfl ?_
          refine z_bipush (q := 49) dX8_readAgent_47 zcb_m9 rfl ?_
          refine z_icmp_ne (tg := 54) (q := 52) dX8_readAgent_49 rfl rfl ?_ ?_
          · intro hc49
            exact absurd rfl hc49
          · intro hc49
            refine z_iconst (q := 53) dX8_readAgent_52 zci_0 rfl ?_
            exact z_retz dX8_readAgent_53 rfl (by first | exact Or.inl rfl | exact Or.inr rfl) (⟨rfl, rfl⟩)
      · intro hc11
        exact absurd hc11 (nI_nm9 (by omega))
    · rw [e2] at l2
      have l3 := qTwo_le (s := s) (lo := 0) (hi := 22) l2.2 (by omega) (by omega)
      have v2 := (qTwo_v (s := s) (L := L) (p := p1) (lo := 0) (hi := 11) (v := y) (by omega) (by omega) (by rw [e2]))
      rcases e3 : qTwo s L p2 0 22 with ⟨_ | r, p3⟩
      · have eq : q = p3 := by simp only [qRA, e1, e2, e3, Prod.mk.injEq] at hq; exact hq.2.symm
        rw [eq]
        refine z_aload_n (q := 1) dX8_readAgent_0 rfl rfl ?_
        refine z_iconst (q := 2) dX8_readAgent_1 zci_0 rfl ?_
        refine z_bipush (q := 4) dX8_readAgent_2 zcb_11 rfl ?_
        refine z_x2 (q := 7) dX8_readAgent_4 zkX8_136 zt_mX8_two rfl (by first | exact zpM_0 | exact zpM_a rfl | exact zpM_8) rfl (Nat.le_of_ble_eq_true rfl) (ct_X8_two h1 hL hL2 hp hp2 (by omega) (by omega)) rfl ?_
        rw [e1]
        refine z_eqi (show qT (some x) = nI x from rfl) ?_
        refine z_istore_n (q := 8) dX8_readAgent_7 (Nat.le_of_ble_eq_true rfl) rfl rfl ?_
        refine z_iload_n (q := 9) dX8_readAgent_8 rfl rfl ?_
        refine z_bipush (q := 11) dX8_readAgent_9 zcb_m9 rfl ?_
        refine z_icmp_ne (tg := 19) (q := 14) dX8_readAgent_11 rfl rfl ?_ ?_
        · intro hc11
          refine z_aload_n (q := 20) dX8_readAgent_19 rfl rfl ?_
          refine z_iconst (q := 21) dX8_readAgent_20 zci_0 rfl ?_
          refine z_bipush (q := 23) dX8_readAgent_21 zcb_11 rfl ?_
          refine z_x2 (q := 26) dX8_readAgent_23 zkX8_136 zt_mX8_two rfl (by first | exact zpM_0 | exact zpM_a rfl | exact zpM_8) rfl (Nat.le_of_ble_eq_true rfl) (ct_X8_two (p := p1) h1 hL hL2 rfl l1.2 (by omega) (by omega)) rfl ?_
          rw [e2, zpM_s3]
          refine z_eqi (show qT (some y) = nI y from rfl) ?_
          refine z_istore_n (q := 27) dX8_readAgent_26 (Nat.le_of_ble_eq_true rfl) rfl rfl ?_
          refine z_iload_n (q := 28) dX8_readAgent_27 rfl rfl ?_
          refine z_bipush (q := 30) dX8_readAgent_28 zcb_m9 rfl ?_
          refine z_icmp_ne (tg := 38) (q := 33) dX8_readAgent_30 rfl rfl ?_ ?_
          · intro hc30
            refine z_aload_n (q := 39) dX8_readAgent_38 rfl rfl ?_
            refine z_iconst (q := 40) dX8_readAgent_39 zci_0 rfl ?_
            refine z_bipush (q := 42) dX8_readAgent_40 zcb_22 rfl ?_
            refine z_x2 (q := 45) dX8_readAgent_42 zkX8_136 zt_mX8_two rfl (by first | exact zpM_0 | exact zpM_a rfl | exact zpM_8) rfl (Nat.le_of_ble_eq_true rfl) (ct_X8_two (p := p2) h1 hL hL2 rfl l2.2 (by omega) (by omega)) rfl ?_
            rw [e3, zpM_s3]
            refine z_eqi (show qT none = -9 from rfl) ?_
            refine z_istore_n (q := 46) dX8_readAgent_45 (Nat.le_of_ble_eq_true rfl) rfl rfl ?_
            refine z_iload_n (q := 47) dX8_readAgent_46 rfl rfl ?_
            refine z_bipush (q := 49) dX8_readAgent_47 zcb_m9 rfl ?_
            refine z_icmp_ne (tg := 54) (q := 52) dX8_readAgent_49 rfl rfl ?_ ?_
            · intro hc49
              exact absurd rfl hc49
            · intro hc49
              refine z_iconst (q := 53) dX8_readAgent_52 zci_0 rfl ?_
              exact z_retz dX8_readAgent_53 rfl (by first | exact Or.inl rfl | exact Or.inr rfl) (⟨rfl, rfl⟩)
          · intro hc30
            exact absurd hc30 (nI_nm9 (by omega))
        · intro hc11
          exact absurd hc11 (nI_nm9 (by omega))
      · simp only [qRA, e1, e2, e3, Prod.mk.injEq] at hq
        cases hq.1
