/-! ===== the reference: ranges of arguments, ways, groups ===== -/
def qIn (v a b : Int64) : Bool := decide (a ≤ v) && decide (v ≤ b)
/-- lo ≤ x ≤ hi -/
def qBt (x : Int32) (lo hi : Nat) : Bool := decide (nI lo ≤ x) && decide (x ≤ nI hi)
/-- 0 ≤ x < n -/
def qHas (x : Int32) (n : Nat) : Bool := decide (nI 0 ≤ x) && decide (x < nI n)
theorem qIn_bt {x : Int32} {lo hi : Nat} {a b : Int64} (ha : a.toInt = lo) (hb : b.toInt = hi) (hl : lo < 2 ^ 31) (hh : hi < 2 ^ 31) : qIn x.toInt64 a b = qBt x lo hi := by
  simp only [qIn, qBt, Int64.le_iff_toInt_le, Int32.le_iff_toInt_le, Int32.toInt_toInt64, ha, hb, nI_toInt hl, nI_toInt hh]
theorem qIn_has {x : Int32} {n : Nat} {a : Int64} (ha : a.toInt = 0) (hn : n ≤ 8) : qIn x.toInt64 a (nI n - nI 1).toInt64 = qHas x n := by
  have h1 : (nI n - nI 1).toInt = (n : Int) - 1 := by
    rcases (show n = 0 ∨ n = 1 ∨ n = 2 ∨ n = 3 ∨ n = 4 ∨ n = 5 ∨ n = 6 ∨ n = 7 ∨ n = 8 by omega) with rfl | rfl | rfl | rfl | rfl | rfl | rfl | rfl | rfl <;> decide
  simp only [qIn, qHas, Int64.le_iff_toInt_le, Int32.le_iff_toInt_le, Int32.lt_iff_toInt_lt, Int32.toInt_toInt64, ha, h1, nI_toInt (show 0 < 2 ^ 31 by decide), nI_toInt (show n < 2 ^ 31 by omega)]
  congr 1
  simp only [decide_eq_decide]
  omega
theorem qBt_t {x : Int32} {lo hi : Nat} (h : qBt x lo hi = true) (hh : hi < 2 ^ 31) (hl : lo ≤ hi) : ∃ j, lo ≤ j ∧ j ≤ hi ∧ x = nI j := by
  simp only [qBt, Bool.and_eq_true, decide_eq_true_eq] at h
  have h1 := Int32.le_iff_toInt_le.mp h.1
  have h2 := Int32.le_iff_toInt_le.mp h.2
  rw [nI_toInt (by omega)] at h1 h2
  refine ⟨x.toInt.toNat, by omega, by omega, ?_⟩
  apply Int32.toInt_inj.mp
  rw [nI_toInt (by omega)]
  omega
theorem qBt_i {lo hi j : Nat} (h1 : lo ≤ j) (h2 : j ≤ hi) (hh : hi < 2 ^ 31) : qBt (nI j) lo hi = true := by
  simp only [qBt, Bool.and_eq_true, decide_eq_true_eq]
  exact ⟨(nI_leI (by omega) (by omega)).mpr h1, (nI_leI (by omega) (by omega)).mpr h2⟩
theorem qHas_t {x : Int32} {n : Nat} (h : qHas x n = true) (hh : n < 2 ^ 31) : ∃ j, j < n ∧ x = nI j := by
  simp only [qHas, Bool.and_eq_true, decide_eq_true_eq] at h
  have h1 := Int32.le_iff_toInt_le.mp h.1
  have h2 := Int32.lt_iff_toInt_lt.mp h.2
  rw [nI_toInt (by omega)] at h1 h2
  refine ⟨x.toInt.toNat, by omega, ?_⟩
  apply Int32.toInt_inj.mp
  rw [nI_toInt (by omega)]
  omega
theorem qHas_i {n j : Nat} (h1 : j < n) (hh : n < 2 ^ 31) : qHas (nI j) n = true := by
  simp only [qHas, Bool.and_eq_true, decide_eq_true_eq]
  exact ⟨(nI_leI (by omega) (by omega)).mpr (Nat.zero_le _), (nI_ltI (by omega) (by omega)).mpr h1⟩
set_option maxRecDepth 100000 in
set_option maxHeartbeats 4000000 in
theorem ct_X8_in {g : zGl} {h : zHp} {v a b : Int64} : zC g mX8_in [.long v, .long a, .long b] h (zV h (.int (zbi (qIn v a b)))) 0 0 := by
  refine zC_ofA (lv := [some (.long v), none, some (.long a), none, some (.long b), none]) (by decide) rfl (Nat.le_of_ble_eq_true rfl) ?_
  refine z_lload_n (q := 1) dX8_in_0 rfl rfl ?_
  refine z_lload_n (q := 2) dX8_in_1 rfl rfl ?_
  refine z_lcmp (q := 3) dX8_in_2 rfl ?_
  refine z_if_lt (tg := 17) (q := 6) dX8_in_3 rfl rfl ?_ ?_
  · intro hc3
    rw [lg_cmp_lt] at hc3
    have hd3 : ¬ a ≤ v := Int64.not_le.mpr hc3
    refine z_iconst (q := 18) dX8_in_17 zci_0 rfl ?_
    exact z_retz dX8_in_18 rfl (by first | exact Or.inl rfl | exact Or.inr rfl) (zVf (by first | (simp [qIn, hd3, Int64.not_le, hc3]; done) | simp_all [qIn, hd3, Int64.not_le]))
  · intro hc3
    rw [lg_cmp_lt] at hc3
    have hd3 : a ≤ v := Int64.not_lt.mp hc3
    refine z_lload_n (q := 7) dX8_in_6 rfl rfl ?_
    refine z_lload (q := 9) dX8_in_7 rfl rfl ?_
    refine z_lcmp (q := 10) dX8_in_9 rfl ?_
    refine z_if_gt (tg := 17) (q := 13) dX8_in_10 rfl rfl ?_ ?_
    · intro hc10
      rw [lg_cmp_gt] at hc10
      have hd10 : ¬ v ≤ b := Int64.not_le.mpr hc10
      refine z_iconst (q := 18) dX8_in_17 zci_0 rfl ?_
      exact z_retz dX8_in_18 rfl (by first | exact Or.inl rfl | exact Or.inr rfl) (zVf (by first | (simp [qIn, hd3, Int64.not_le, hc3, hc10]; done) | simp_all [qIn, hd3, Int64.not_le]))
    · intro hc10
      rw [lg_cmp_gt] at hc10
      have hd10 : v ≤ b := Int64.not_lt.mp hc10
      refine z_iconst (q := 14) dX8_in_13 zci_1 rfl ?_
      refine z_goto (q := 0) (tg := 18) dX8_in_14 rfl ?_
      exact z_retz dX8_in_18 rfl (by first | exact Or.inl rfl | exact Or.inr rfl) (zVt (by first | (simp [qIn, hd3, Int64.not_le, hc3, hc10]; done) | simp_all [qIn, hd3, Int64.not_le]))
set_option maxRecDepth 100000 in
set_option maxHeartbeats 4000000 in
theorem ct_X8_refused {g : zGl} {h : zHp} {m : Nat} {x : Int32} {u : Nat → Nat → Int32} : zC g mX8_refused [.ref m, .int x] (zpM g h m u) (zVU (zpM g h m (va_up u 0 (va_up (u 0) 0 x))) (.int (zbi (!decide (x ≤ 0))))) 0 0 := by
  refine zC_ofA (lv := [some (.ref m), some (.int x)]) (by decide) rfl (Nat.le_of_ble_eq_true rfl) ?_
  refine z_aload_n (q := 1) dX8_refused_0 rfl rfl ?_
  refine z_iload_n (q := 2) dX8_refused_1 rfl rfl ?_
  refine z_putM (q := 5) dX8_refused_2 zfX8_44 (by decide) rfl ?_
  refine z_iload_n (q := 6) dX8_refused_5 rfl rfl ?_
  refine z_if_le (tg := 13) (q := 9) dX8_refused_6 rfl rfl ?_ ?_
  · intro hc6
    refine z_iconst (q := 14) dX8_refused_13 zci_0 rfl ?_
    exact z_retz dX8_refused_14 rfl (by first | exact Or.inl rfl | exact Or.inr rfl) (⟨by simp [hc6, zbi], rfl⟩)
  · intro hc6
    refine z_iconst (q := 10) dX8_refused_9 zci_1 rfl ?_
    refine z_goto (q := 0) (tg := 14) dX8_refused_10 rfl ?_
    exact z_retz dX8_refused_14 rfl (by first | exact Or.inl rfl | exact Or.inr rfl) (⟨by simp [hc6, zbi], rfl⟩)
set_option maxRecDepth 100000 in
set_option maxHeartbeats 4000000 in
theorem ct_X8_thrown {g : zGl} {h : zHp} {m : Nat} {u : Nat → Nat → Int32} : zC g mX8_thrown [.ref m] (zpM g h m u) (zV (zpM g h m u) (.int (u 0 0))) 0 0 := by
  refine zC_ofA (lv := [some (.ref m)]) (by decide) rfl (Nat.le_of_ble_eq_true rfl) ?_
  refine z_aload_n (q := 1) dX8_thrown_0 rfl rfl ?_
  refine z_get (q := 4) dX8_thrown_1 zfX8_44 (by first | exact zpM_0 | exact zpM_a rfl) rfl rfl ?_
  exact z_reti dX8_thrown_4 rfl (⟨rfl, rfl⟩)
set_option maxRecDepth 100000 in
set_option maxHeartbeats 4000000 in
theorem ct_X8_isAgent {g : zGl} {h : zHp} {m n : Nat} {x : Int32} {u : Nat → Nat → Int32} (hn : u 3 0 = nI n) (hn6 : n ≤ 6) : zC g mX8_isAgent [.ref m, .int x] (zpM g h m u) (zV (zpM g h m u) (.int (zbi (qHas x n)))) 0 0 := by
  refine zC_ofA (lv := [some (.ref m), some (.int x)]) (by decide) rfl (Nat.le_of_ble_eq_true rfl) ?_
  refine z_iload_n (q := 1) dX8_isAgent_0 rfl rfl ?_
  refine z_i2l (q := 2) dX8_isAgent_1 rfl rfl ?_
  refine z_lconst (q := 3) (v := 0) dX8_isAgent_2 (by decide) rfl ?_
  refine z_aload_n (q := 4) dX8_isAgent_3 rfl rfl ?_
  refine z_get (q := 7) dX8_isAgent_4 zfX8_16 (by first | exact zpM_0 | exact zpM_a rfl) rfl rfl ?_
  refine z_iconst (q := 8) dX8_isAgent_7 zci_0 rfl ?_
  refine z_iald (q := 9) dX8_isAgent_8 (by first | exact zpM_0 | exact zpM_a rfl) (by omega) (by omega) rfl ?_
  refine z_eqi hn ?_
  refine z_iconst (q := 10) dX8_isAgent_9 zci_1 rfl ?_
  refine z_isub (q := 11) dX8_isAgent_10 rfl ?_
  refine z_i2l (q := 12) dX8_isAgent_11 rfl rfl ?_
  refine z_s3 (q := 15) dX8_isAgent_12 zkX8_57 zt_mX8_in rfl (Nat.le_of_ble_eq_true rfl) (ct_X8_in) rfl ?_
  exact z_retz dX8_isAgent_15 rfl (zbi_01 _) (⟨by rw [qIn_has (by decide) (by omega)], rfl⟩)
set_option maxRecDepth 100000 in
set_option maxHeartbeats 4000000 in
theorem ct_X8_isTask {g : zGl} {h : zHp} {m K : Nat} {x : Int32} {u : Nat → Nat → Int32} (hK : u 3 1 = nI K) (hK8 : K ≤ 8) : zC g mX8_isTask [.ref m, .int x] (zpM g h m u) (zV (zpM g h m u) (.int (zbi (qHas x K)))) 0 0 := by
  refine zC_ofA (lv := [some (.ref m), some (.int x)]) (by decide) rfl (Nat.le_of_ble_eq_true rfl) ?_
  refine z_iload_n (q := 1) dX8_isTask_0 rfl rfl ?_
  refine z_i2l (q := 2) dX8_isTask_1 rfl rfl ?_
  refine z_lconst (q := 3) (v := 0) dX8_isTask_2 (by decide) rfl ?_
  refine z_aload_n (q := 4) dX8_isTask_3 rfl rfl ?_
  refine z_get (q := 7) dX8_isTask_4 zfX8_16 (by first | exact zpM_0 | exact zpM_a rfl) rfl rfl ?_
  refine z_iconst (q := 8) dX8_isTask_7 zci_1 rfl ?_
  refine z_iald (q := 9) dX8_isTask_8 (by first | exact zpM_0 | exact zpM_a rfl) (by omega) (by omega) rfl ?_
  refine z_eqi hK ?_
  refine z_iconst (q := 10) dX8_isTask_9 zci_1 rfl ?_
  refine z_isub (q := 11) dX8_isTask_10 rfl ?_
  refine z_i2l (q := 12) dX8_isTask_11 rfl rfl ?_
  refine z_s3 (q := 15) dX8_isTask_12 zkX8_57 zt_mX8_in rfl (Nat.le_of_ble_eq_true rfl) (ct_X8_in) rfl ?_
  exact z_retz dX8_isTask_15 rfl (zbi_01 _) (⟨by rw [qIn_has (by decide) (by omega)], rfl⟩)
/-- ways: how far each is from s -/
def qW0 (s : Nat) (w : Nat → Int32) (i : Nat) : Nat → Int32 := qIt (fun b w => va_up w b (if b = s then nI 0 else -9)) w i
def qWc (f : Nat → Int32) (r b : Nat) (w : Nat → Int32) (i : Nat) : Nat → Int32 := qIt (fun c w => if w b = nI r then va_up w c (if w c = -9 ∧ qHears f b c = true then nI (r + 1) else w c) else w) w i
def qWb (f : Nat → Int32) (n r : Nat) (w : Nat → Int32) (i : Nat) : Nat → Int32 := qIt (fun b w => qWc f r b w n) w i
def qWf (f : Nat → Int32) (n : Nat) (w : Nat → Int32) (i : Nat) : Nat → Int32 := qIt (fun r w => qWb f n r w n) w i
def qWays (f : Nat → Int32) (n s : Nat) (w : Nat → Int32) : Nat → Int32 := qWf f n (qW0 s w 6) 6
theorem qWc_s {f w : Nat → Int32} {r b i : Nat} : qWc f r b w (i + 1) = if qWc f r b w i b = nI r then va_up (qWc f r b w i) i (if qWc f r b w i i = -9 ∧ qHears f b i = true then nI (r + 1) else qWc f r b w i i) else qWc f r b w i := rfl
theorem qWc_off {f w : Nat → Int32} {r b i : Nat} (h : ¬ qWc f r b w i b = nI r) (d : Nat) : qWc f r b w (i + d) = qWc f r b w i := by
  induction d with
  | zero => rfl
  | succ d ih =>
    rw [show i + (d + 1) = (i + d) + 1 by omega, qWc_s, ih, if_neg h]
set_option maxRecDepth 100000 in
set_option maxHeartbeats 4000000 in
theorem ct_X8_layWays {g : zGl} {H : zHp} {m r s n : Nat} {v f w : Nat → Int32} (h0 : H.1 m = some (.inr (8, zMf m v))) (hr : H.1 r = some (zI g 264 f)) (hr9 : r ≠ m + 9) (hn : f 0 = nI n) (hn6 : n ≤ 6) (hs : s < 6) : zC g mX8_layWays [.ref m, .ref r, .int (nI s)] (zup H (m + 9) (zI g 6 w)) (zU (zup H (m + 9) (zI g 6 (qWays f n s w)))) 0 0 := by
  refine zC_ofA (lv := [some (.ref m), some (.ref r), some (.int (nI s)), none, none, none]) (by decide) rfl (Nat.le_of_ble_eq_true rfl) ?_
  have o0 : ∀ F, (zup H (m + 9) (zI g 6 F)).1 m = some (.inr (8, zMf m v)) := fun F => by
    rw [zup_ne (by omega)]; exact h0
  have oR : ∀ F, (zup H (m + 9) (zI g 6 F)).1 r = some (zI g 264 f) := fun F => by
    rw [zup_ne hr9]; exact hr
  have loopC : ∀ (W : Nat → Int32) (q b : Nat), q < 6 → b < n → (∀ x, zA g (zZc g mX8_layWays (zU (zup H (m + 9) (zI g 6 (qWays f n s w)))) 0 0) 0 0 121 [some (.ref m), some (.ref r), some (.int (nI s)), some (.int (nI q)), some (.int (nI b)), x] [] (zup H (m + 9) (zI g 6 (qWc f q b W n)))) →
      ∀ d i, i + d = n → zA g (zZc g mX8_layWays (zU (zup H (m + 9) (zI g 6 (qWays f n s w)))) 0 0) 0 0 53 [some (.ref m), some (.ref r), some (.int (nI s)), some (.int (nI q)), some (.int (nI b)), some (.int (nI i))] [] (zup H (m + 9) (zI g 6 (qWc f q b W i))) := by
    intro W q b hq hb after d
    induction d using Nat.strongRecOn with
    | ind d ih =>
      intro i hi
      refine z_iload (q := 55) dX8_layWays_53 rfl rfl ?_
      refine z_aload_n (q := 56) dX8_layWays_55 rfl rfl ?_
      refine z_iconst (q := 57) dX8_layWays_56 zci_0 rfl ?_
      refine z_iald (q := 58) dX8_layWays_57 (by first | exact zup_at _ _ _ | exact o0 _ | exact oR _) (by omega) (by omega) rfl ?_
      refine z_eqi hn ?_
      refine z_icmp_geN (tg := 121) (q := 61) dX8_layWays_58 rfl rfl (by omega) (by omega) ?_ ?_
      · intro hc58
        have e8 : i = n := by omega
        subst e8
        exact after _
      · intro hc58
        refine z_aload_n (q := 62) dX8_layWays_61 rfl rfl ?_
        refine z_get (q := 65) dX8_layWays_62 zfX8_35 (by first | exact zup_at _ _ _ | exact o0 _ | exact oR _) rfl rfl ?_
        refine z_iload (q := 67) dX8_layWays_65 rfl rfl ?_
        refine z_iald (q := 68) dX8_layWays_67 (by first | exact zup_at _ _ _ | exact o0 _ | exact oR _) (by omega) (by omega) rfl ?_
        refine z_iload_n (q := 69) dX8_layWays_68 rfl rfl ?_
        refine z_icmp_ne (tg := 121) (q := 72) dX8_layWays_69 rfl rfl ?_ ?_
        · intro hc69
          rw [← qWc_off hc69 d, hi]
          exact after _
        · intro hc69
          refine z_aload_n (q := 73) dX8_layWays_72 rfl rfl ?_
          refine z_get (q := 76) dX8_layWays_73 zfX8_35 (by first | exact zup_at _ _ _ | exact o0 _ | exact oR _) rfl rfl ?_
          refine z_iload (q := 78) dX8_layWays_76 rfl rfl ?_
          refine z_aload_n (q := 79) dX8_layWays_78 rfl rfl ?_
          refine z_get (q := 82) dX8_layWays_79 zfX8_35 (by first | exact zup_at _ _ _ | exact o0 _ | exact oR _) rfl rfl ?_
          refine z_iload (q := 84) dX8_layWays_82 rfl rfl ?_
          refine z_iald (q := 85) dX8_layWays_84 (by first | exact zup_at _ _ _ | exact o0 _ | exact oR _) (by omega) (by omega) rfl ?_
          refine z_bipush (q := 87) dX8_layWays_85 zcb_m9 rfl ?_
          refine z_icmp_ne (tg := 107) (q := 90) dX8_layWays_87 rfl rfl ?_ ?_
          · intro hc87
            have e9 : qWc f q b W (i + 1) = va_up (qWc f q b W i) i (qWc f q b W i i) := by rw [qWc_s, if_pos hc69, if_neg (fun z => hc87 z.1)]
            refine z_aload_n (q := 108) dX8_layWays_107 rfl rfl ?_
            refine z_get (q := 111) dX8_layWays_108 zfX8_35 (by first | exact zup_at _ _ _ | exact o0 _ | exact oR _) rfl rfl ?_
            refine z_iload (q := 113) dX8_layWays_111 rfl rfl ?_
            refine z_iald (q := 114) dX8_layWays_113 (by first | exact zup_at _ _ _ | exact o0 _ | exact oR _) (by omega) (by omega) rfl ?_
            refine z_iastU (q := 115) dX8_layWays_114 (by omega) (by omega) rfl ?_
            rw [← e9]
            refine z_iincN (q := 118) dX8_layWays_115 rfl rfl rfl ?_
            refine z_goto (q := 0) (tg := 53) dX8_layWays_118 rfl ?_
            exact ih (d - 1) (by omega) (i + 1) (by omega)
          · intro hc87
            refine z_aload_n (q := 91) dX8_layWays_90 rfl rfl ?_
            refine z_iload (q := 93) dX8_layWays_91 rfl rfl ?_
            refine z_iload (q := 95) dX8_layWays_93 rfl rfl ?_
            refine z_s3 (q := 98) dX8_layWays_95 zkX8_90 zt_mX8_hears rfl (Nat.le_of_ble_eq_true rfl) (ct_X8_hears (by first | exact zup_at _ _ _ | exact o0 _ | exact oR _) (by omega) (by omega)) rfl ?_
            refine z_ifb_eq (tg := 107) (q := 101) dX8_layWays_98 rfl rfl ?_ ?_
            · intro hc98
              have e9 : qWc f q b W (i + 1) = va_up (qWc f q b W i) i (qWc f q b W i i) := by rw [qWc_s, if_pos hc69, if_neg (fun z => by rw [hc98] at z; exact absurd z.2 (by decide))]
              refine z_aload_n (q := 108) dX8_layWays_107 rfl rfl ?_
              refine z_get (q := 111) dX8_layWays_108 zfX8_35 (by first | exact zup_at _ _ _ | exact o0 _ | exact oR _) rfl rfl ?_
              refine z_iload (q := 113) dX8_layWays_111 rfl rfl ?_
              refine z_iald (q := 114) dX8_layWays_113 (by first | exact zup_at _ _ _ | exact o0 _ | exact oR _) (by omega) (by omega) rfl ?_
              refine z_iastU (q := 115) dX8_layWays_114 (by omega) (by omega) rfl ?_
              rw [← e9]
              refine z_iincN (q := 118) dX8_layWays_115 rfl rfl rfl ?_
              refine z_goto (q := 0) (tg := 53) dX8_layWays_118 rfl ?_
              exact ih (d - 1) (by omega) (i + 1) (by omega)
            · intro hc98
              have e9 : qWc f q b W (i + 1) = va_up (qWc f q b W i) i (nI (q + 1)) := by rw [qWc_s, if_pos hc69, if_pos ⟨hc87, hc98⟩]
              refine z_iload_n (q := 102) dX8_layWays_101 rfl rfl ?_
              refine z_iconst (q := 103) dX8_layWays_102 zci_1 rfl ?_
              refine z_iaddN (q := 104) dX8_layWays_103 rfl ?_
              refine z_goto (q := 0) (tg := 114) dX8_layWays_104 rfl ?_
              refine z_iastU (q := 115) dX8_layWays_114 (by omega) (by omega) rfl ?_
              rw [← e9]
              refine z_iincN (q := 118) dX8_layWays_115 rfl rfl rfl ?_
              refine z_goto (q := 0) (tg := 53) dX8_layWays_118 rfl ?_
              exact ih (d - 1) (by omega) (i + 1) (by omega)
  have loopB : ∀ (W : Nat → Int32) (q : Nat), q < 6 → (∀ x y, zA g (zZc g mX8_layWays (zU (zup H (m + 9) (zI g 6 (qWays f n s w)))) 0 0) 0 0 127 [some (.ref m), some (.ref r), some (.int (nI s)), some (.int (nI q)), x, y] [] (zup H (m + 9) (zI g 6 (qWb f n q W n)))) →
      ∀ d i y, i + d = n → zA g (zZc g mX8_layWays (zU (zup H (m + 9) (zI g 6 (qWays f n s w)))) 0 0) 0 0 42 [some (.ref m), some (.ref r), some (.int (nI s)), some (.int (nI q)), some (.int (nI i)), y] [] (zup H (m + 9) (zI g 6 (qWb f n q W i))) := by
    intro W q hq after d
    induction d using Nat.strongRecOn with
    | ind d ih =>
      intro i y hi
      have step : ∀ x, zA g (zZc g mX8_layWays (zU (zup H (m + 9) (zI g 6 (qWays f n s w)))) 0 0) 0 0 121 [some (.ref m), some (.ref r), some (.int (nI s)), some (.int (nI q)), some (.int (nI i)), x] [] (zup H (m + 9) (zI g 6 (qWb f n q W (i + 1)))) ∨ ¬ i < n := by
        intro x
        by_cases hin : i < n
        · left
          refine z_iincN (q := 124) dX8_layWays_121 rfl rfl rfl ?_
          refine z_goto (q := 0) (tg := 42) dX8_layWays_124 rfl ?_
          exact ih (d - 1) (by omega) (i + 1) _ (by omega)
        · exact Or.inr hin
      refine z_iload (q := 44) dX8_layWays_42 rfl rfl ?_
      refine z_aload_n (q := 45) dX8_layWays_44 rfl rfl ?_
      refine z_iconst (q := 46) dX8_layWays_45 zci_0 rfl ?_
      refine z_iald (q := 47) dX8_layWays_46 (by first | exact zup_at _ _ _ | exact o0 _ | exact oR _) (by omega) (by omega) rfl ?_
      refine z_eqi hn ?_
      refine z_icmp_geN (tg := 127) (q := 50) dX8_layWays_47 rfl rfl (by omega) (by omega) ?_ ?_
      · intro hc47
        have e8 : i = n := by omega
        subst e8
        exact after _ _
      · intro hc47
        refine z_iconst (q := 51) dX8_layWays_50 zci_0 rfl ?_
        refine z_istore (q := 53) dX8_layWays_51 (Nat.le_of_ble_eq_true rfl) rfl rfl ?_
        exact loopC _ q i hq hc47 (fun x => (step x).resolve_right (fun z => z hc47)) n 0 (by omega)
  have loopF : ∀ d i x y, i + d = 6 → zA g (zZc g mX8_layWays (zU (zup H (m + 9) (zI g 6 (qWays f n s w)))) 0 0) 0 0 33 [some (.ref m), some (.ref r), some (.int (nI s)), some (.int (nI i)), x, y] [] (zup H (m + 9) (zI g 6 (qWf f n (qW0 s w 6) i))) := by
    intro d
    induction d using Nat.strongRecOn with
    | ind d ih =>
      intro i x y hi
      have step : ∀ x y, zA g (zZc g mX8_layWays (zU (zup H (m + 9) (zI g 6 (qWays f n s w)))) 0 0) 0 0 127 [some (.ref m), some (.ref r), some (.int (nI s)), some (.int (nI i)), x, y] [] (zup H (m + 9) (zI g 6 (qWf f n (qW0 s w 6) (i + 1)))) ∨ ¬ i < 6 := by
        intro x y
        by_cases hin : i < 6
        · left
          refine z_iincN (q := 130) dX8_layWays_127 rfl rfl rfl ?_
          refine z_goto (q := 0) (tg := 33) dX8_layWays_130 rfl ?_
          exact ih (d - 1) (by omega) (i + 1) _ _ (by omega)
        · exact Or.inr hin
      refine z_iload_n (q := 34) dX8_layWays_33 rfl rfl ?_
      refine z_bipush (q := 36) dX8_layWays_34 zcb_6 rfl ?_
      refine z_icmp_geN (tg := 133) (q := 39) dX8_layWays_36 rfl rfl (by omega) (by omega) ?_ ?_
      · intro hc36
        exact z_ret dX8_layWays_133 rfl (⟨rfl, by rw [show i = 6 by omega]; rfl⟩)
      · intro hc36
        refine z_iconst (q := 40) dX8_layWays_39 zci_0 rfl ?_
        refine z_istore (q := 42) dX8_layWays_40 (Nat.le_of_ble_eq_true rfl) rfl rfl ?_
        exact loopB _ i hc36 (fun x y => (step x y).resolve_right (fun z => z hc36)) n 0 _ (by omega)
  have loop0 : ∀ d i x y, i + d = 6 → zA g (zZc g mX8_layWays (zU (zup H (m + 9) (zI g 6 (qWays f n s w)))) 0 0) 0 0 2 [some (.ref m), some (.ref r), some (.int (nI s)), some (.int (nI i)), x, y] [] (zup H (m + 9) (zI g 6 (qW0 s w i))) := by
    intro d
    induction d using Nat.strongRecOn with
    | ind d ih =>
      intro i x y hi
      refine z_iload_n (q := 3) dX8_layWays_2 rfl rfl ?_
      refine z_bipush (q := 5) dX8_layWays_3 zcb_6 rfl ?_
      refine z_icmp_geN (tg := 31) (q := 8) dX8_layWays_5 rfl rfl (by omega) (by omega) ?_ ?_
      · intro hc5
        have e8 : i = 6 := by omega
        subst e8
        refine z_iconst (q := 32) dX8_layWays_31 zci_0 rfl ?_
        refine z_istore_n (q := 33) dX8_layWays_32 (Nat.le_of_ble_eq_true rfl) rfl rfl ?_
        exact loopF 6 0 _ _ (by omega)
      · intro hc5
        refine z_aload_n (q := 9) dX8_layWays_8 rfl rfl ?_
        refine z_get (q := 12) dX8_layWays_9 zfX8_35 (by first | exact zup_at _ _ _ | exact o0 _ | exact oR _) rfl rfl ?_
        refine z_iload_n (q := 13) dX8_layWays_12 rfl rfl ?_
        refine z_iload_n (q := 14) dX8_layWays_13 rfl rfl ?_
        refine z_iload_n (q := 15) dX8_layWays_14 rfl rfl ?_
        refine z_icmp_neN (tg := 22) (q := 18) dX8_layWays_15 rfl rfl (by omega) (by omega) ?_ ?_
        · intro hc15
          have e9 : qW0 s w (i + 1) = va_up (qW0 s w i) i (-9) := by rw [qW0, qIt, ← qW0, if_neg hc15]
          refine z_bipush (q := 24) dX8_layWays_22 zcb_m9 rfl ?_
          refine z_iastU (q := 25) dX8_layWays_24 (by omega) (by omega) rfl ?_
          rw [← e9]
          refine z_iincN (q := 28) dX8_layWays_25 rfl rfl rfl ?_
          refine z_goto (q := 0) (tg := 2) dX8_layWays_28 rfl ?_
          exact ih (d - 1) (by omega) (i + 1) _ _ (by omega)
        · intro hc15
          have e9 : qW0 s w (i + 1) = va_up (qW0 s w i) i (nI 0) := by rw [qW0, qIt, ← qW0, if_pos hc15]
          refine z_iconst (q := 19) dX8_layWays_18 zci_0 rfl ?_
          refine z_goto (q := 0) (tg := 24) dX8_layWays_19 rfl ?_
          refine z_iastU (q := 25) dX8_layWays_24 (by omega) (by omega) rfl ?_
          rw [← e9]
          refine z_iincN (q := 28) dX8_layWays_25 rfl rfl rfl ?_
          refine z_goto (q := 0) (tg := 2) dX8_layWays_28 rfl ?_
          exact ih (d - 1) (by omega) (i + 1) _ _ (by omega)
  refine z_iconst (q := 1) dX8_layWays_0 zci_0 rfl ?_
  refine z_istore_n (q := 2) dX8_layWays_1 (Nat.le_of_ble_eq_true rfl) rfl rfl ?_
  exact loop0 6 0 _ _ (by omega)
def qSn (w : Nat → Int32) (x : Int32) (n : Nat) : Int32 := qIt (fun b c => c ||| (if w b = -9 then nI 0 else nI 1 <<< (nI b &&& 31))) x n
/-- seen, count, ways -/
def qG1 (f : Nat → Int32) (n a : Nat) (s : Int32 × Nat × (Nat → Int32)) : Int32 × Nat × (Nat → Int32) :=
  if qOn f a && decide (s.1 >>> (nI a &&& 31) &&& nI 1 = 0) then (qSn (qWays f n a s.2.2) s.1 n, s.2.1 + 1, qWays f n a s.2.2) else s
def qGr (f : Nat → Int32) (n : Nat) (w : Nat → Int32) (i : Nat) : Int32 × Nat × (Nat → Int32) := qIt (fun a s => qG1 f n a s) (nI 0, 0, w) i
theorem qGr_s {f w : Nat → Int32} {n i : Nat} : qGr f n w (i + 1) = qG1 f n i (qGr f n w i) := rfl
theorem qGr_le {f w : Nat → Int32} {n i : Nat} : (qGr f n w i).2.1 ≤ i := by
  induction i with
  | zero => exact Nat.le_refl 0
  | succ i ih =>
    rw [qGr_s, qG1]
    split
    · exact Nat.succ_le_succ ih
    · exact Nat.le_succ_of_le ih
set_option maxRecDepth 100000 in
set_option maxHeartbeats 4000000 in
theorem ct_X8_groupsOf {g : zGl} {H : zHp} {m r n : Nat} {v f w : Nat → Int32} (h0 : H.1 m = some (.inr (8, zMf m v))) (hr : H.1 r = some (zI g 264 f)) (hr9 : r ≠ m + 9) (hn : f 0 = nI n) (hn6 : n ≤ 6) : zC g mX8_groupsOf [.ref m, .ref r] (zup H (m + 9) (zI g 6 w)) (zVU (zup H (m + 9) (zI g 6 (qGr f n w n).2.2)) (.int (nI (qGr f n w n).2.1))) 0 0 := by
  refine zC_ofA (lv := [some (.ref m), some (.ref r), none, none, none, none]) (by decide) rfl (Nat.le_of_ble_eq_true rfl) ?_
  have o0 : ∀ F, (zup H (m + 9) (zI g 6 F)).1 m = some (.inr (8, zMf m v)) := fun F => by
    rw [zup_ne (by omega)]; exact h0
  have oR : ∀ F, (zup H (m + 9) (zI g 6 F)).1 r = some (zI g 264 f) := fun F => by
    rw [zup_ne hr9]; exact hr
  have loopB : ∀ (W : Nat → Int32) (x : Int32) (a c : Nat), a < n → (∀ y, zA g (zZc g mX8_groupsOf (zVU (zup H (m + 9) (zI g 6 (qGr f n w n).2.2)) (.int (nI (qGr f n w n).2.1))) 0 0) 0 0 83 [some (.ref m), some (.ref r), some (.int (qSn W x n)), some (.int (nI c)), some (.int (nI a)), y] [] (zup H (m + 9) (zI g 6 W))) →
      ∀ d i, i + d = n → zA g (zZc g mX8_groupsOf (zVU (zup H (m + 9) (zI g 6 (qGr f n w n).2.2)) (.int (nI (qGr f n w n).2.1))) 0 0) 0 0 46 [some (.ref m), some (.ref r), some (.int (qSn W x i)), some (.int (nI c)), some (.int (nI a)), some (.int (nI i))] [] (zup H (m + 9) (zI g 6 W)) := by
    intro W x a c ha after d
    induction d using Nat.strongRecOn with
    | ind d ih =>
      intro i hi
      refine z_iload (q := 48) dX8_groupsOf_46 rfl rfl ?_
      refine z_aload_n (q := 49) dX8_groupsOf_48 rfl rfl ?_
      refine z_iconst (q := 50) dX8_groupsOf_49 zci_0 rfl ?_
      refine z_iald (q := 51) dX8_groupsOf_50 (by first | exact zup_at _ _ _ | exact o0 _ | exact oR _) (by omega) (by omega) rfl ?_
      refine z_eqi hn ?_
      refine z_icmp_geN (tg := 83) (q := 54) dX8_groupsOf_51 rfl rfl (by omega) (by omega) ?_ ?_
      · intro hc51
        have e8 : i = n := by omega
        subst e8
        exact after _
      · intro hc51
        refine z_iload_n (q := 55) dX8_groupsOf_54 rfl rfl ?_
        refine z_aload_n (q := 56) dX8_groupsOf_55 rfl rfl ?_
        refine z_get (q := 59) dX8_groupsOf_56 zfX8_35 (by first | exact zup_at _ _ _ | exact o0 _ | exact oR _) rfl rfl ?_
        refine z_iload (q := 61) dX8_groupsOf_59 rfl rfl ?_
        refine z_iald (q := 62) dX8_groupsOf_61 (by first | exact zup_at _ _ _ | exact o0 _ | exact oR _) (by omega) (by omega) rfl ?_
        refine z_bipush (q := 64) dX8_groupsOf_62 zcb_m9 rfl ?_
        refine z_icmp_ne (tg := 71) (q := 67) dX8_groupsOf_64 rfl rfl ?_ ?_
        · intro hc64
          have e9 : qSn W x (i + 1) = qSn W x i ||| (nI 1 <<< (nI i &&& 31)) := by rw [qSn, qIt, ← qSn, if_neg hc64]
          refine z_iconst (q := 72) dX8_groupsOf_71 zci_1 rfl ?_
          refine z_iload (q := 74) dX8_groupsOf_72 rfl rfl ?_
          refine z_ishl (q := 75) dX8_groupsOf_74 rfl ?_
          refine z_ior (q := 76) dX8_groupsOf_75 rfl ?_
          rw [← e9]
          refine z_istore_n (q := 77) dX8_groupsOf_76 (Nat.le_of_ble_eq_true rfl) rfl rfl ?_
          refine z_iincN (q := 80) dX8_groupsOf_77 rfl rfl rfl ?_
          refine z_goto (q := 0) (tg := 46) dX8_groupsOf_80 rfl ?_
          exact ih (d - 1) (by omega) (i + 1) (by omega)
        · intro hc64
          have e9 : qSn W x (i + 1) = qSn W x i ||| nI 0 := by rw [qSn, qIt, ← qSn, if_pos hc64]
          refine z_iconst (q := 68) dX8_groupsOf_67 zci_0 rfl ?_
          refine z_goto (q := 0) (tg := 75) dX8_groupsOf_68 rfl ?_
          refine z_ior (q := 76) dX8_groupsOf_75 rfl ?_
          rw [← e9]
          refine z_istore_n (q := 77) dX8_groupsOf_76 (Nat.le_of_ble_eq_true rfl) rfl rfl ?_
          refine z_iincN (q := 80) dX8_groupsOf_77 rfl rfl rfl ?_
          refine z_goto (q := 0) (tg := 46) dX8_groupsOf_80 rfl ?_
          exact ih (d - 1) (by omega) (i + 1) (by omega)
  have loopA : ∀ d i y, i + d = n → zA g (zZc g mX8_groupsOf (zVU (zup H (m + 9) (zI g 6 (qGr f n w n).2.2)) (.int (nI (qGr f n w n).2.1))) 0 0) 0 0 7 [some (.ref m), some (.ref r), some (.int (qGr f n w i).1), some (.int (nI (qGr f n w i).2.1)), some (.int (nI i)), y] [] (zup H (m + 9) (zI g 6 (qGr f n w i).2.2)) := by
    intro d
    induction d using Nat.strongRecOn with
    | ind d ih =>
      intro i y hi
      refine z_iload (q := 9) dX8_groupsOf_7 rfl rfl ?_
      refine z_aload_n (q := 10) dX8_groupsOf_9 rfl rfl ?_
      refine z_iconst (q := 11) dX8_groupsOf_10 zci_0 rfl ?_
      refine z_iald (q := 12) dX8_groupsOf_11 (by first | exact zup_at _ _ _ | exact o0 _ | exact oR _) (by omega) (by omega) rfl ?_
      refine z_eqi hn ?_
      refine z_icmp_geN (tg := 89) (q := 15) dX8_groupsOf_12 rfl rfl (by omega) (by omega) ?_ ?_
      · intro hc12
        refine z_iload_n (q := 90) dX8_groupsOf_89 rfl rfl ?_
        exact z_reti dX8_groupsOf_90 rfl (⟨by rw [show i = n by omega], by rw [show i = n by omega]⟩)
      · intro hc12
        refine z_aload_n (q := 16) dX8_groupsOf_15 rfl rfl ?_
        refine z_iload (q := 18) dX8_groupsOf_16 rfl rfl ?_
        refine z_s2 (q := 21) dX8_groupsOf_18 zkX8_71 zt_mX8_isOn rfl (Nat.le_of_ble_eq_true rfl) (ct_X8_isOn (by first | exact zup_at _ _ _ | exact o0 _ | exact oR _) (by omega)) rfl ?_
        refine z_ifb_eq (tg := 83) (q := 24) dX8_groupsOf_21 rfl rfl ?_ ?_
        · intro hc21
          have e9 : qGr f n w (i + 1) = qGr f n w i := by rw [qGr_s, qG1, if_neg (by simp [hc21])]
          refine z_iincN (q := 86) dX8_groupsOf_83 rfl rfl rfl ?_
          refine z_goto (q := 0) (tg := 7) dX8_groupsOf_86 rfl ?_
          have hl := ih (d - 1) (by omega) (i + 1) y (by omega)
          rw [e9] at hl
          exact hl
        · intro hc21
          refine z_iload_n (q := 25) dX8_groupsOf_24 rfl rfl ?_
          refine z_iload (q := 27) dX8_groupsOf_25 rfl rfl ?_
          refine z_ishr (q := 28) dX8_groupsOf_27 rfl ?_
          refine z_iconst (q := 29) dX8_groupsOf_28 zci_1 rfl ?_
          refine z_iand (q := 30) dX8_groupsOf_29 rfl ?_
          refine z_if_ne (tg := 83) (q := 33) dX8_groupsOf_30 rfl rfl ?_ ?_
          · intro hc30
            have e9 : qGr f n w (i + 1) = qGr f n w i := by rw [qGr_s, qG1, if_neg (by simp [hc30])]
            refine z_iincN (q := 86) dX8_groupsOf_83 rfl rfl rfl ?_
            refine z_goto (q := 0) (tg := 7) dX8_groupsOf_86 rfl ?_
            have hl := ih (d - 1) (by omega) (i + 1) y (by omega)
            rw [e9] at hl
            exact hl
          · intro hc30
            have e9 : qGr f n w (i + 1) = (qSn (qWays f n i (qGr f n w i).2.2) (qGr f n w i).1 n, (qGr f n w i).2.1 + 1, qWays f n i (qGr f n w i).2.2) := by rw [qGr_s, qG1, if_pos (by simp [hc21, hc30])]
            refine z_iincN (q := 36) dX8_groupsOf_33 rfl rfl rfl ?_
            refine z_aload_n (q := 37) dX8_groupsOf_36 rfl rfl ?_
            refine z_aload_n (q := 38) dX8_groupsOf_37 rfl rfl ?_
            refine z_iload (q := 40) dX8_groupsOf_38 rfl rfl ?_
            refine z_w2 (q := 43) dX8_groupsOf_40 zkX8_202 zt_mX8_layWays rfl (by first | exact zup_at _ _ _ | exact o0 _ | exact oR _) rfl (Nat.le_of_ble_eq_true rfl) (ct_X8_layWays h0 hr hr9 hn hn6 (by omega)) rfl ?_
            refine z_iconst (q := 44) dX8_groupsOf_43 zci_0 rfl ?_
            refine z_istore (q := 46) dX8_groupsOf_44 (Nat.le_of_ble_eq_true rfl) rfl rfl ?_
            refine loopB _ _ i _ hc12 (fun y => ?_) n 0 (by omega)
            have hl := ih (d - 1) (by omega) (i + 1) y (by omega)
            rw [e9] at hl
            refine z_iincN (q := 86) dX8_groupsOf_83 rfl rfl rfl ?_
            refine z_goto (q := 0) (tg := 7) dX8_groupsOf_86 rfl ?_
            exact hl
  refine z_iconst (q := 1) dX8_groupsOf_0 zci_0 rfl ?_
  refine z_istore_n (q := 2) dX8_groupsOf_1 (Nat.le_of_ble_eq_true rfl) rfl rfl ?_
  refine z_iconst (q := 3) dX8_groupsOf_2 zci_0 rfl ?_
  refine z_istore_n (q := 4) dX8_groupsOf_3 (Nat.le_of_ble_eq_true rfl) rfl rfl ?_
  refine z_iconst (q := 5) dX8_groupsOf_4 zci_0 rfl ?_
  refine z_istore (q := 7) dX8_groupsOf_5 (Nat.le_of_ble_eq_true rfl) rfl rfl ?_
  exact loopA n 0 _ (by omega)
