/-! ===== the reference: scripts, simulations ===== -/
theorem nI_sub {a b : Nat} (h : b ≤ a) : nI a - nI b = nI (a - b) := by
  have h1 : nI a = nI (a - b) + nI b := by rw [nI_add]; congr 1; omega
  rw [h1, Int32.add_sub_cancel]
theorem lN_m (a b : Nat) : lN a * lN b = lN (a * b) := (Int64.ofNat_mul a b).symm
set_option maxRecDepth 100000 in
set_option maxHeartbeats 4000000 in
theorem ct_X8_tenTo {g : zGl} {h : zHp} {k : Nat} (hk : k < 1000) : zC g mX8_tenTo [.int (nI k)] h (zV h (.long (lN (10 ^ k)))) 0 0 := by
  refine zC_ofA (lv := [some (.int (nI k)), none, none, none]) (by decide) rfl (Nat.le_of_ble_eq_true rfl) ?_
  have loop : ∀ d i, i + d = k → zA g (zZc g mX8_tenTo (zV h (.long (lN (10 ^ k)))) 0 0) 0 0 4 [some (.int (nI k)), some (.long (lN (10 ^ i))), none, some (.int (nI i))] [] h := by
    intro d
    induction d using Nat.strongRecOn with
    | ind d ih =>
      intro i hi
      refine z_iload_n (q := 5) dX8_tenTo_4 rfl rfl ?_
      refine z_iload_n (q := 6) dX8_tenTo_5 rfl rfl ?_
      refine z_icmp_geN (tg := 21) (q := 9) dX8_tenTo_6 rfl rfl (by omega) (by omega) ?_ ?_
      · intro hc6
        refine z_lload_n (q := 22) dX8_tenTo_21 rfl rfl ?_
        exact z_retl dX8_tenTo_22 rfl (⟨by rw [show i = k by omega], rfl⟩)
      · intro hc6
        refine z_lload_n (q := 10) dX8_tenTo_9 rfl rfl ?_
        refine z_ldc2 (q := 13) dX8_tenTo_10 zqX8_48 rfl ?_
        refine z_lmul (q := 14) dX8_tenTo_13 rfl ?_
        refine z_eql (show lN (10 ^ i) * 10 = lN (10 ^ (i + 1)) from (lN_m (10 ^ i) 10).trans rfl) ?_
        refine z_lstore_n (q := 15) dX8_tenTo_14 (Nat.le_of_ble_eq_true rfl) rfl rfl ?_
        refine z_iincN (q := 18) dX8_tenTo_15 rfl rfl rfl ?_
        refine z_goto (q := 0) (tg := 4) dX8_tenTo_18 rfl ?_
        exact ih (d - 1) (by omega) (i + 1) (by omega)
  refine z_lconst (q := 1) (v := 1) dX8_tenTo_0 (by decide) rfl ?_
  refine z_lstore_n (q := 2) dX8_tenTo_1 (Nat.le_of_ble_eq_true rfl) rfl rfl ?_
  refine z_iconst (q := 3) dX8_tenTo_2 zci_0 rfl ?_
  refine z_istore_n (q := 4) dX8_tenTo_3 (Nat.le_of_ble_eq_true rfl) rfl rfl ?_
  exact loop k 0 (by omega)
/-- a command of a script on the row f: does it succeed, and the row then -/
def qCmd (f : Nat → Int32) (n K G : Nat) : Bool × (Nat → Int32) :=
  if G / 10000 = 1 then (if G / 1000 % 10 = 0 ∧ G / 100 % 10 = 0 ∧ ¬ G % 100 = 0 then (true, qSteps f n K (G % 100)) else (false, f))
  else if G / 10000 = 2 then (if G / 1000 % 10 < n ∧ G / 100 % 10 = 0 ∧ G % 100 ≤ 22 then (true, va_up f (4 + 6 * (G / 1000 % 10) + 2) (nI (G % 100))) else (false, f))
  else if G / 10000 = 3 then (if G / 1000 % 10 < n ∧ G % 1000 = 0 then (true, qTog f (G / 1000 % 10)) else (false, f))
  else if G / 10000 = 4 then (if G / 1000 % 10 < n ∧ G / 100 % 10 < n ∧ ¬ G / 1000 % 10 = G / 100 % 10 ∧ G % 100 = 0 ∧ qCan f K (G / 1000 % 10) (G / 100 % 10) = true then (true, match qOwnTask f K (G / 1000 % 10) with
      | some t => qHand f (G / 1000 % 10) (G / 100 % 10) t
      | none => f) else (false, f))
  else if G / 10000 = 5 then (if G / 1000 % 10 < n ∧ G % 1000 = 0 then (true, (qDrop f (G / 1000 % 10) K).1) else (false, f))
  else if G / 10000 = 6 then (decide (G / 1000 % 10 = 0 ∧ G % 1000 < 10 ∧ qFin f K = nI (G % 1000)), f)
  else if G / 10000 = 7 then (decide (G / 1000 % 10 < n ∧ G % 1000 < 10 ∧ qT (qOwnTask f K (G / 1000 % 10)) = nI (G % 1000)), f)
  else if G / 10000 = 8 then (decide (G / 1000 % 10 = 0 ∧ G % 1000 < 10 ∧ qDbl f n K = nI (G % 1000)), f)
  else if G / 10000 = 9 then (decide (G / 1000 % 10 = 0 ∧ G / 100 % 10 = 0 ∧ qSum f n 5 ≤ nI (G % 100)), f)
  else (false, f)
def zCM (g : zGl) (h : zHp) (m : Nat) (u : Nat → Nat → Int32) (a : Bool × (Nat → Int32)) : Option Value → zHp → Prop := fun v h' => v = some (.int (zbi a.1)) ∧ ∃ U, h' = zpM g h m U ∧ zSc u U ∧ U 0 0 = u 0 0 ∧ U 4 = a.2
theorem zCM_t {g : zGl} {h : zHp} {m : Nat} {u U : Nat → Nat → Int32} {a : Bool × (Nat → Int32)} {f : Nat → Int32} (ha : a = (true, f)) (hS : zSc u U) (h0 : U 0 0 = u 0 0) (h4 : U 4 = f) : zCM g h m u a (some (.int (nI 1))) (zpM g h m U) := by
  subst ha
  exact ⟨rfl, U, rfl, hS, h0, h4⟩
theorem zCM_f {g : zGl} {h : zHp} {m : Nat} {u U : Nat → Nat → Int32} {a : Bool × (Nat → Int32)} {f : Nat → Int32} (ha : a = (false, f)) (hS : zSc u U) (h0 : U 0 0 = u 0 0) (h4 : U 4 = f) : zCM g h m u a (some (.int (nI 0))) (zpM g h m U) := by
  subst ha
  exact ⟨rfl, U, rfl, hS, h0, h4⟩
theorem qHas_d {a n : Nat} (ha : a < 2 ^ 31) (hn : n < 2 ^ 31) : qHas (nI a) n = decide (a < n) := by
  simp only [qHas, nI_leI (show 0 < 2 ^ 31 by decide) ha, nI_ltI ha hn, Nat.zero_le, decide_true, Bool.true_and]
set_option maxRecDepth 100000 in
set_option maxHeartbeats 4000000 in
theorem ct_X8_command {g : zGl} {h : zHp} {m n K G : Nat} {f : Nat → Int32} {u : Nat → Nat → Int32} (hn : u 3 0 = nI n) (hn6 : n ≤ 6) (h4 : u 4 = f) (hn4 : f 0 = nI n) (hK : f 1 = nI K) (hK8 : K ≤ 8) (hG : G < 100000) : zC g mX8_command [.ref m, .int (nI G)] (zpM g h m u) (zCM g h m u (qCmd f n K G)) 0 0 := by
  subst h4
  refine zC_ofA (lv := [some (.ref m), some (.int (nI G)), none, none, none, none, none, none]) (by decide) rfl (Nat.le_of_ble_eq_true rfl) ?_
  rcases (show G / 10000 = 0 ∨ G / 10000 = 1 ∨ G / 10000 = 2 ∨ G / 10000 = 3 ∨ G / 10000 = 4 ∨ G / 10000 = 5 ∨ G / 10000 = 6 ∨ G / 10000 = 7 ∨ G / 10000 = 8 ∨ G / 10000 = 9 by omega) with hw | hw | hw | hw | hw | hw | hw | hw | hw | hw
  · skip
    refine z_iload_n (q := 1) dX8_command_0 rfl rfl ?_
    refine z_sipush (q := 4) dX8_command_1 zcs_10000 rfl ?_
    refine z_idivN (q := 5) dX8_command_4 (by omega) (by omega) (by omega) rfl ?_
    refine z_istore_n (q := 6) dX8_command_5 (Nat.le_of_ble_eq_true rfl) rfl rfl ?_
    refine z_iload_n (q := 7) dX8_command_6 rfl rfl ?_
    refine z_sipush (q := 10) dX8_command_7 zcs_1000 rfl ?_
    refine z_idivN (q := 11) dX8_command_10 (by omega) (by omega) (by omega) rfl ?_
    refine z_bipush (q := 13) dX8_command_11 zcb_10 rfl ?_
    refine z_iremN (q := 14) dX8_command_13 (by omega) (by omega) (by omega) rfl ?_
    refine z_istore_n (q := 15) dX8_command_14 (Nat.le_of_ble_eq_true rfl) rfl rfl ?_
    refine z_iload_n (q := 16) dX8_command_15 rfl rfl ?_
    refine z_bipush (q := 18) dX8_command_16 zcb_100 rfl ?_
    refine z_idivN (q := 19) dX8_command_18 (by omega) (by omega) (by omega) rfl ?_
    refine z_bipush (q := 21) dX8_command_19 zcb_10 rfl ?_
    refine z_iremN (q := 22) dX8_command_21 (by omega) (by omega) (by omega) rfl ?_
    refine z_istore (q := 24) dX8_command_22 (Nat.le_of_ble_eq_true rfl) rfl rfl ?_
    refine z_iload_n (q := 25) dX8_command_24 rfl rfl ?_
    refine z_sipush (q := 28) dX8_command_25 zcs_1000 rfl ?_
    refine z_iremN (q := 29) dX8_command_28 (by omega) (by omega) (by omega) rfl ?_
    refine z_istore (q := 31) dX8_command_29 (Nat.le_of_ble_eq_true rfl) rfl rfl ?_
    refine z_iload_n (q := 32) dX8_command_31 rfl rfl ?_
    refine z_bipush (q := 34) dX8_command_32 zcb_100 rfl ?_
    refine z_iremN (q := 35) dX8_command_34 (by omega) (by omega) (by omega) rfl ?_
    refine z_istore (q := 37) dX8_command_35 (Nat.le_of_ble_eq_true rfl) rfl rfl ?_
    refine z_iload_n (q := 38) dX8_command_37 rfl rfl ?_
    refine z_eqi (congrArg nI hw) ?_
    refine z_tableOut (q := 0) (tg := 410) dX8_command_38 (by decide) rfl ?_
    refine z_iconst (q := 411) dX8_command_410 zci_0 rfl ?_
    exact z_retz dX8_command_411 rfl (by first | exact Or.inl rfl | exact Or.inr rfl) (zCM_f (by simp [qCmd, hw]) zSc_r rfl rfl)
  · have loop : ∀ d i U, i + d = G % 100 → zSc u U → U 0 0 = u 0 0 → U 4 = qSteps (u 4) n K i → G / 1000 % 10 = 0 → G / 100 % 10 = 0 → ¬ G % 100 = 0 → zA g (zZc g mX8_command (zCM g h m u (qCmd (u 4) n K G)) 0 0) 0 0 107 [some (.ref m), some (.int (nI G)), some (.int (nI (G / 10000))), some (.int (nI (G / 1000 % 10))), some (.int (nI (G / 100 % 10))), some (.int (nI (G % 1000))), some (.int (nI (G % 100))), some (.int (nI i))] [] (zpM g h m U) := by
      intro d
      induction d using Nat.strongRecOn with
      | ind d ih =>
        intro i U hi hS h00 h4 c1 c2 c3
        have hn' : U 4 0 = nI n := by rw [h4, qSteps_0]; exact hn4
        have hK' : U 4 1 = nI K := by rw [h4, qSteps_1]; exact hK
        refine z_iload (q := 109) dX8_command_107 rfl rfl ?_
        refine z_iload (q := 111) dX8_command_109 rfl rfl ?_
        refine z_icmp_geN (tg := 128) (q := 114) dX8_command_111 rfl rfl (by omega) (by omega) ?_ ?_
        · intro hc111
          refine z_iconst (q := 129) dX8_command_128 zci_1 rfl ?_
          exact z_retz dX8_command_129 rfl (by first | exact Or.inl rfl | exact Or.inr rfl) (zCM_t (f := qSteps (u 4) n K (G % 100)) (by simp [qCmd, hw, c1, c2, c3]) hS h00 (by rw [h4, show i = G % 100 by omega]))
        · intro hc111
          refine z_aload_n (q := 115) dX8_command_114 rfl rfl ?_
          refine z_aload_n (q := 116) dX8_command_115 rfl rfl ?_
          refine z_get (q := 119) dX8_command_116 zfX8_19 (by first | exact zpM_0 | exact zpM_a rfl | exact zpM_8) rfl rfl ?_
          refine z_w1 (q := 122) dX8_command_119 zkX8_177 zt_mX8_stepOn rfl (by first | exact zpM_0 | exact zpM_a rfl | exact zpM_8) rfl (Nat.le_of_ble_eq_true rfl) (ct_M_stepOn (Or.inr rfl) hn' hn6 hK' hK8) rfl ?_
          refine z_iincN (q := 125) dX8_command_122 rfl rfl rfl ?_
          refine z_goto (q := 0) (tg := 107) dX8_command_125 rfl ?_
          exact ih (d - 1) (by omega) (i + 1) _ (by omega) (zSc_st hS) h00 (by rw [zu_eq, h4]; rfl) c1 c2 c3
    refine z_iload_n (q := 1) dX8_command_0 rfl rfl ?_
    refine z_sipush (q := 4) dX8_command_1 zcs_10000 rfl ?_
    refine z_idivN (q := 5) dX8_command_4 (by omega) (by omega) (by omega) rfl ?_
    refine z_istore_n (q := 6) dX8_command_5 (Nat.le_of_ble_eq_true rfl) rfl rfl ?_
    refine z_iload_n (q := 7) dX8_command_6 rfl rfl ?_
    refine z_sipush (q := 10) dX8_command_7 zcs_1000 rfl ?_
    refine z_idivN (q := 11) dX8_command_10 (by omega) (by omega) (by omega) rfl ?_
    refine z_bipush (q := 13) dX8_command_11 zcb_10 rfl ?_
    refine z_iremN (q := 14) dX8_command_13 (by omega) (by omega) (by omega) rfl ?_
    refine z_istore_n (q := 15) dX8_command_14 (Nat.le_of_ble_eq_true rfl) rfl rfl ?_
    refine z_iload_n (q := 16) dX8_command_15 rfl rfl ?_
    refine z_bipush (q := 18) dX8_command_16 zcb_100 rfl ?_
    refine z_idivN (q := 19) dX8_command_18 (by omega) (by omega) (by omega) rfl ?_
    refine z_bipush (q := 21) dX8_command_19 zcb_10 rfl ?_
    refine z_iremN (q := 22) dX8_command_21 (by omega) (by omega) (by omega) rfl ?_
    refine z_istore (q := 24) dX8_command_22 (Nat.le_of_ble_eq_true rfl) rfl rfl ?_
    refine z_iload_n (q := 25) dX8_command_24 rfl rfl ?_
    refine z_sipush (q := 28) dX8_command_25 zcs_1000 rfl ?_
    refine z_iremN (q := 29) dX8_command_28 (by omega) (by omega) (by omega) rfl ?_
    refine z_istore (q := 31) dX8_command_29 (Nat.le_of_ble_eq_true rfl) rfl rfl ?_
    refine z_iload_n (q := 32) dX8_command_31 rfl rfl ?_
    refine z_bipush (q := 34) dX8_command_32 zcb_100 rfl ?_
    refine z_iremN (q := 35) dX8_command_34 (by omega) (by omega) (by omega) rfl ?_
    refine z_istore (q := 37) dX8_command_35 (Nat.le_of_ble_eq_true rfl) rfl rfl ?_
    refine z_iload_n (q := 38) dX8_command_37 rfl rfl ?_
    refine z_eqi (congrArg nI hw) ?_
    refine z_tableIn (q := 0) (tg := 88) dX8_command_38 (by decide) (by decide) rfl rfl ?_
    refine z_iload_n (q := 89) dX8_command_88 rfl rfl ?_
    refine z_if_ne (tg := 102) (q := 92) dX8_command_89 rfl rfl ?_ ?_
    · intro hc89
      rw [nI_z (by omega)] at hc89
      refine z_iconst (q := 103) dX8_command_102 zci_0 rfl ?_
      exact z_retz dX8_command_103 rfl (by first | exact Or.inl rfl | exact Or.inr rfl) (zCM_f (by simp [qCmd, hw]; omega) zSc_r rfl rfl)
    · intro hc89
      rw [nI_z (by omega)] at hc89
      refine z_iload (q := 94) dX8_command_92 rfl rfl ?_
      refine z_if_ne (tg := 102) (q := 97) dX8_command_94 rfl rfl ?_ ?_
      · intro hc94
        rw [nI_z (by omega)] at hc94
        refine z_iconst (q := 103) dX8_command_102 zci_0 rfl ?_
        exact z_retz dX8_command_103 rfl (by first | exact Or.inl rfl | exact Or.inr rfl) (zCM_f (by simp [qCmd, hw]; omega) zSc_r rfl rfl)
      · intro hc94
        rw [nI_z (by omega)] at hc94
        refine z_iload (q := 99) dX8_command_97 rfl rfl ?_
        refine z_if_ne (tg := 104) (q := 102) dX8_command_99 rfl rfl ?_ ?_
        · intro hc99
          rw [nI_z (by omega)] at hc99
          refine z_iconst (q := 105) dX8_command_104 zci_0 rfl ?_
          refine z_istore (q := 107) dX8_command_105 (Nat.le_of_ble_eq_true rfl) rfl rfl ?_
          exact loop (G % 100) 0 _ (by omega) zSc_r rfl rfl hc89 hc94 hc99
        · intro hc99
          rw [nI_z (by omega)] at hc99
          refine z_iconst (q := 103) dX8_command_102 zci_0 rfl ?_
          exact z_retz dX8_command_103 rfl (by first | exact Or.inl rfl | exact Or.inr rfl) (zCM_f (by simp [qCmd, hw]; omega) zSc_r rfl rfl)
  · skip
    refine z_iload_n (q := 1) dX8_command_0 rfl rfl ?_
    refine z_sipush (q := 4) dX8_command_1 zcs_10000 rfl ?_
    refine z_idivN (q := 5) dX8_command_4 (by omega) (by omega) (by omega) rfl ?_
    refine z_istore_n (q := 6) dX8_command_5 (Nat.le_of_ble_eq_true rfl) rfl rfl ?_
    refine z_iload_n (q := 7) dX8_command_6 rfl rfl ?_
    refine z_sipush (q := 10) dX8_command_7 zcs_1000 rfl ?_
    refine z_idivN (q := 11) dX8_command_10 (by omega) (by omega) (by omega) rfl ?_
    refine z_bipush (q := 13) dX8_command_11 zcb_10 rfl ?_
    refine z_iremN (q := 14) dX8_command_13 (by omega) (by omega) (by omega) rfl ?_
    refine z_istore_n (q := 15) dX8_command_14 (Nat.le_of_ble_eq_true rfl) rfl rfl ?_
    refine z_iload_n (q := 16) dX8_command_15 rfl rfl ?_
    refine z_bipush (q := 18) dX8_command_16 zcb_100 rfl ?_
    refine z_idivN (q := 19) dX8_command_18 (by omega) (by omega) (by omega) rfl ?_
    refine z_bipush (q := 21) dX8_command_19 zcb_10 rfl ?_
    refine z_iremN (q := 22) dX8_command_21 (by omega) (by omega) (by omega) rfl ?_
    refine z_istore (q := 24) dX8_command_22 (Nat.le_of_ble_eq_true rfl) rfl rfl ?_
    refine z_iload_n (q := 25) dX8_command_24 rfl rfl ?_
    refine z_sipush (q := 28) dX8_command_25 zcs_1000 rfl ?_
    refine z_iremN (q := 29) dX8_command_28 (by omega) (by omega) (by omega) rfl ?_
    refine z_istore (q := 31) dX8_command_29 (Nat.le_of_ble_eq_true rfl) rfl rfl ?_
    refine z_iload_n (q := 32) dX8_command_31 rfl rfl ?_
    refine z_bipush (q := 34) dX8_command_32 zcb_100 rfl ?_
    refine z_iremN (q := 35) dX8_command_34 (by omega) (by omega) (by omega) rfl ?_
    refine z_istore (q := 37) dX8_command_35 (Nat.le_of_ble_eq_true rfl) rfl rfl ?_
    refine z_iload_n (q := 38) dX8_command_37 rfl rfl ?_
    refine z_eqi (congrArg nI hw) ?_
    refine z_tableIn (q := 0) (tg := 130) dX8_command_38 (by decide) (by decide) rfl rfl ?_
    refine z_aload_n (q := 131) dX8_command_130 rfl rfl ?_
    refine z_iload_n (q := 132) dX8_command_131 rfl rfl ?_
    refine z_v1 (q := 135) dX8_command_132 zkX8_159 zt_mX8_isAgent rfl (by first | exact zpM_0 | exact zpM_a rfl | exact zpM_8) rfl (Nat.le_of_ble_eq_true rfl) (ct_X8_isAgent hn hn6) rfl ?_
    refine z_ifb_eq (tg := 150) (q := 138) dX8_command_135 rfl rfl ?_ ?_
    · intro hc135
      rw [qHas_d (by omega) (by omega), decide_eq_false_iff_not] at hc135
      refine z_iconst (q := 151) dX8_command_150 zci_0 rfl ?_
      exact z_retz dX8_command_151 rfl (by first | exact Or.inl rfl | exact Or.inr rfl) (zCM_f (by simp [qCmd, hw]; omega) zSc_r rfl rfl)
    · intro hc135
      rw [qHas_d (by omega) (by omega), decide_eq_true_eq] at hc135
      refine z_iload (q := 140) dX8_command_138 rfl rfl ?_
      refine z_if_ne (tg := 150) (q := 143) dX8_command_140 rfl rfl ?_ ?_
      · intro hc140
        rw [nI_z (by omega)] at hc140
        refine z_iconst (q := 151) dX8_command_150 zci_0 rfl ?_
        exact z_retz dX8_command_151 rfl (by first | exact Or.inl rfl | exact Or.inr rfl) (zCM_f (by simp [qCmd, hw]; omega) zSc_r rfl rfl)
      · intro hc140
        rw [nI_z (by omega)] at hc140
        refine z_iload (q := 145) dX8_command_143 rfl rfl ?_
        refine z_bipush (q := 147) dX8_command_145 zcb_22 rfl ?_
        refine z_icmp_leN (tg := 152) (q := 150) dX8_command_147 rfl rfl (by omega) (by omega) ?_ ?_
        · intro hc147
          refine z_aload_n (q := 153) dX8_command_152 rfl rfl ?_
          refine z_get (q := 156) dX8_command_153 zfX8_19 (by first | exact zpM_0 | exact zpM_a rfl | exact zpM_8) rfl rfl ?_
          refine z_iload_n (q := 157) dX8_command_156 rfl rfl ?_
          refine z_s1 (q := 160) dX8_command_157 zkX8_61 zt_mX8_agentAt rfl (Nat.le_of_ble_eq_true rfl) (ct_X8_agentAt) rfl ?_
          refine z_iconst (q := 161) dX8_command_160 zci_2 rfl ?_
          refine z_iaddN (q := 162) dX8_command_161 rfl ?_
          refine z_iload (q := 164) dX8_command_162 rfl rfl ?_
          refine z_iastM (q := 165) dX8_command_164 rfl (by omega) rfl ?_
          refine z_iconst (q := 166) dX8_command_165 zci_1 rfl ?_
          exact z_retz dX8_command_166 rfl (by first | exact Or.inl rfl | exact Or.inr rfl) (zCM_t (f := va_up (u 4) (4 + 6 * (G / 1000 % 10) + 2) (nI (G % 100))) (by simp [qCmd, hw, hc135, hc140, hc147]) (zSc_w (by decide)).1 rfl (zu_eq _ _ _))
        · intro hc147
          refine z_iconst (q := 151) dX8_command_150 zci_0 rfl ?_
          exact z_retz dX8_command_151 rfl (by first | exact Or.inl rfl | exact Or.inr rfl) (zCM_f (by simp [qCmd, hw]; omega) zSc_r rfl rfl)
  · skip
    refine z_iload_n (q := 1) dX8_command_0 rfl rfl ?_
    refine z_sipush (q := 4) dX8_command_1 zcs_10000 rfl ?_
    refine z_idivN (q := 5) dX8_command_4 (by omega) (by omega) (by omega) rfl ?_
    refine z_istore_n (q := 6) dX8_command_5 (Nat.le_of_ble_eq_true rfl) rfl rfl ?_
    refine z_iload_n (q := 7) dX8_command_6 rfl rfl ?_
    refine z_sipush (q := 10) dX8_command_7 zcs_1000 rfl ?_
    refine z_idivN (q := 11) dX8_command_10 (by omega) (by omega) (by omega) rfl ?_
    refine z_bipush (q := 13) dX8_command_11 zcb_10 rfl ?_
    refine z_iremN (q := 14) dX8_command_13 (by omega) (by omega) (by omega) rfl ?_
    refine z_istore_n (q := 15) dX8_command_14 (Nat.le_of_ble_eq_true rfl) rfl rfl ?_
    refine z_iload_n (q := 16) dX8_command_15 rfl rfl ?_
    refine z_bipush (q := 18) dX8_command_16 zcb_100 rfl ?_
    refine z_idivN (q := 19) dX8_command_18 (by omega) (by omega) (by omega) rfl ?_
    refine z_bipush (q := 21) dX8_command_19 zcb_10 rfl ?_
    refine z_iremN (q := 22) dX8_command_21 (by omega) (by omega) (by omega) rfl ?_
    refine z_istore (q := 24) dX8_command_22 (Nat.le_of_ble_eq_true rfl) rfl rfl ?_
    refine z_iload_n (q := 25) dX8_command_24 rfl rfl ?_
    refine z_sipush (q := 28) dX8_command_25 zcs_1000 rfl ?_
    refine z_iremN (q := 29) dX8_command_28 (by omega) (by omega) (by omega) rfl ?_
    refine z_istore (q := 31) dX8_command_29 (Nat.le_of_ble_eq_true rfl) rfl rfl ?_
    refine z_iload_n (q := 32) dX8_command_31 rfl rfl ?_
    refine z_bipush (q := 34) dX8_command_32 zcb_100 rfl ?_
    refine z_iremN (q := 35) dX8_command_34 (by omega) (by omega) (by omega) rfl ?_
    refine z_istore (q := 37) dX8_command_35 (Nat.le_of_ble_eq_true rfl) rfl rfl ?_
    refine z_iload_n (q := 38) dX8_command_37 rfl rfl ?_
    refine z_eqi (congrArg nI hw) ?_
    refine z_tableIn (q := 0) (tg := 167) dX8_command_38 (by decide) (by decide) rfl rfl ?_
    refine z_aload_n (q := 168) dX8_command_167 rfl rfl ?_
    refine z_iload_n (q := 169) dX8_command_168 rfl rfl ?_
    refine z_v1 (q := 172) dX8_command_169 zkX8_159 zt_mX8_isAgent rfl (by first | exact zpM_0 | exact zpM_a rfl | exact zpM_8) rfl (Nat.le_of_ble_eq_true rfl) (ct_X8_isAgent hn hn6) rfl ?_
    refine z_ifb_eq (tg := 180) (q := 175) dX8_command_172 rfl rfl ?_ ?_
    · intro hc172
      rw [qHas_d (by omega) (by omega), decide_eq_false_iff_not] at hc172
      refine z_iconst (q := 181) dX8_command_180 zci_0 rfl ?_
      exact z_retz dX8_command_181 rfl (by first | exact Or.inl rfl | exact Or.inr rfl) (zCM_f (by simp [qCmd, hw]; omega) zSc_r rfl rfl)
    · intro hc172
      rw [qHas_d (by omega) (by omega), decide_eq_true_eq] at hc172
      refine z_iload (q := 177) dX8_command_175 rfl rfl ?_
      refine z_if_eq (tg := 182) (q := 180) dX8_command_177 rfl rfl ?_ ?_
      · intro hc177
        rw [nI_z (by omega)] at hc177
        refine z_aload_n (q := 183) dX8_command_182 rfl rfl ?_
        refine z_get (q := 186) dX8_command_183 zfX8_19 (by first | exact zpM_0 | exact zpM_a rfl | exact zpM_8) rfl rfl ?_
        refine z_iload_n (q := 187) dX8_command_186 rfl rfl ?_
        refine z_s1 (q := 190) dX8_command_187 zkX8_61 zt_mX8_agentAt rfl (Nat.le_of_ble_eq_true rfl) (ct_X8_agentAt) rfl ?_
        refine z_iconst (q := 191) dX8_command_190 zci_3 rfl ?_
        refine z_iaddN (q := 192) dX8_command_191 rfl ?_
        refine z_iconst (q := 193) dX8_command_192 zci_1 rfl ?_
        refine z_aload_n (q := 194) dX8_command_193 rfl rfl ?_
        refine z_get (q := 197) dX8_command_194 zfX8_19 (by first | exact zpM_0 | exact zpM_a rfl | exact zpM_8) rfl rfl ?_
        refine z_iload_n (q := 198) dX8_command_197 rfl rfl ?_
        refine z_s1 (q := 201) dX8_command_198 zkX8_61 zt_mX8_agentAt rfl (Nat.le_of_ble_eq_true rfl) (ct_X8_agentAt) rfl ?_
        refine z_iconst (q := 202) dX8_command_201 zci_3 rfl ?_
        refine z_iaddN (q := 203) dX8_command_202 rfl ?_
        refine z_iald (q := 204) dX8_command_203 (by first | exact zpM_0 | exact zpM_a rfl | exact zpM_8) (by omega) (by omega) rfl ?_
        refine z_isub (q := 205) dX8_command_204 rfl ?_
        refine z_iastM (q := 206) dX8_command_205 rfl (by omega) rfl ?_
        refine z_iconst (q := 207) dX8_command_206 zci_1 rfl ?_
        exact z_retz dX8_command_207 rfl (by first | exact Or.inl rfl | exact Or.inr rfl) (zCM_t (f := qTog (u 4) (G / 1000 % 10)) (by simp [qCmd, hw, hc172, hc177]) (zSc_w (by decide)).1 rfl (zu_eq _ _ _))
      · intro hc177
        rw [nI_z (by omega)] at hc177
        refine z_iconst (q := 181) dX8_command_180 zci_0 rfl ?_
        exact z_retz dX8_command_181 rfl (by first | exact Or.inl rfl | exact Or.inr rfl) (zCM_f (by simp [qCmd, hw]; omega) zSc_r rfl rfl)
  · skip
    refine z_iload_n (q := 1) dX8_command_0 rfl rfl ?_
    refine z_sipush (q := 4) dX8_command_1 zcs_10000 rfl ?_
    refine z_idivN (q := 5) dX8_command_4 (by omega) (by omega) (by omega) rfl ?_
    refine z_istore_n (q := 6) dX8_command_5 (Nat.le_of_ble_eq_true rfl) rfl rfl ?_
    refine z_iload_n (q := 7) dX8_command_6 rfl rfl ?_
    refine z_sipush (q := 10) dX8_command_7 zcs_1000 rfl ?_
    refine z_idivN (q := 11) dX8_command_10 (by omega) (by omega) (by omega) rfl ?_
    refine z_bipush (q := 13) dX8_command_11 zcb_10 rfl ?_
    refine z_iremN (q := 14) dX8_command_13 (by omega) (by omega) (by omega) rfl ?_
    refine z_istore_n (q := 15) dX8_command_14 (Nat.le_of_ble_eq_true rfl) rfl rfl ?_
    refine z_iload_n (q := 16) dX8_command_15 rfl rfl ?_
    refine z_bipush (q := 18) dX8_command_16 zcb_100 rfl ?_
    refine z_idivN (q := 19) dX8_command_18 (by omega) (by omega) (by omega) rfl ?_
    refine z_bipush (q := 21) dX8_command_19 zcb_10 rfl ?_
    refine z_iremN (q := 22) dX8_command_21 (by omega) (by omega) (by omega) rfl ?_
    refine z_istore (q := 24) dX8_command_22 (Nat.le_of_ble_eq_true rfl) rfl rfl ?_
    refine z_iload_n (q := 25) dX8_command_24 rfl rfl ?_
    refine z_sipush (q := 28) dX8_command_25 zcs_1000 rfl ?_
    refine z_iremN (q := 29) dX8_command_28 (by omega) (by omega) (by omega) rfl ?_
    refine z_istore (q := 31) dX8_command_29 (Nat.le_of_ble_eq_true rfl) rfl rfl ?_
    refine z_iload_n (q := 32) dX8_command_31 rfl rfl ?_
    refine z_bipush (q := 34) dX8_command_32 zcb_100 rfl ?_
    refine z_iremN (q := 35) dX8_command_34 (by omega) (by omega) (by omega) rfl ?_
    refine z_istore (q := 37) dX8_command_35 (Nat.le_of_ble_eq_true rfl) rfl rfl ?_
    refine z_iload_n (q := 38) dX8_command_37 rfl rfl ?_
    refine z_eqi (congrArg nI hw) ?_
    refine z_tableIn (q := 0) (tg := 208) dX8_command_38 (by decide) (by decide) rfl rfl ?_
    refine z_aload_n (q := 209) dX8_command_208 rfl rfl ?_
    refine z_iload_n (q := 210) dX8_command_209 rfl rfl ?_
    refine z_v1 (q := 213) dX8_command_210 zkX8_159 zt_mX8_isAgent rfl (by first | exact zpM_0 | exact zpM_a rfl | exact zpM_8) rfl (Nat.le_of_ble_eq_true rfl) (ct_X8_isAgent hn hn6) rfl ?_
    refine z_ifb_eq (tg := 249) (q := 216) dX8_command_213 rfl rfl ?_ ?_
    · intro hc213
      rw [qHas_d (by omega) (by omega), decide_eq_false_iff_not] at hc213
      refine z_iconst (q := 250) dX8_command_249 zci_0 rfl ?_
      exact z_retz dX8_command_250 rfl (by first | exact Or.inl rfl | exact Or.inr rfl) (zCM_f (by first | (simp [qCmd, hw, hc213]; done) | (simp [qCmd, hw]; omega)) zSc_r rfl rfl)
    · intro hc213
      rw [qHas_d (by omega) (by omega), decide_eq_true_eq] at hc213
      refine z_aload_n (q := 217) dX8_command_216 rfl rfl ?_
      refine z_iload (q := 219) dX8_command_217 rfl rfl ?_
      refine z_v1 (q := 222) dX8_command_219 zkX8_159 zt_mX8_isAgent rfl (by first | exact zpM_0 | exact zpM_a rfl | exact zpM_8) rfl (Nat.le_of_ble_eq_true rfl) (ct_X8_isAgent hn hn6) rfl ?_
      refine z_ifb_eq (tg := 249) (q := 225) dX8_command_222 rfl rfl ?_ ?_
      · intro hc222
        rw [qHas_d (by omega) (by omega), decide_eq_false_iff_not] at hc222
        refine z_iconst (q := 250) dX8_command_249 zci_0 rfl ?_
        exact z_retz dX8_command_250 rfl (by first | exact Or.inl rfl | exact Or.inr rfl) (zCM_f (by first | (simp [qCmd, hw, hc213, hc222]; done) | (simp [qCmd, hw]; omega)) zSc_r rfl rfl)
      · intro hc222
        rw [qHas_d (by omega) (by omega), decide_eq_true_eq] at hc222
        refine z_iload_n (q := 226) dX8_command_225 rfl rfl ?_
        refine z_iload (q := 228) dX8_command_226 rfl rfl ?_
        refine z_icmp_eqN (tg := 249) (q := 231) dX8_command_228 rfl rfl (by omega) (by omega) ?_ ?_
        · intro hc228
          refine z_iconst (q := 250) dX8_command_249 zci_0 rfl ?_
          exact z_retz dX8_command_250 rfl (by first | exact Or.inl rfl | exact Or.inr rfl) (zCM_f (by first | (simp [qCmd, hw, hc213, hc222, hc228]; done) | (simp [qCmd, hw]; omega)) zSc_r rfl rfl)
        · intro hc228
          refine z_iload (q := 233) dX8_command_231 rfl rfl ?_
          refine z_if_ne (tg := 249) (q := 236) dX8_command_233 rfl rfl ?_ ?_
          · intro hc233
            rw [nI_z (by omega)] at hc233
            refine z_iconst (q := 250) dX8_command_249 zci_0 rfl ?_
            exact z_retz dX8_command_250 rfl (by first | exact Or.inl rfl | exact Or.inr rfl) (zCM_f (by first | (simp [qCmd, hw, hc213, hc222, hc228, hc233]; done) | (simp [qCmd, hw]; omega)) zSc_r rfl rfl)
          · intro hc233
            rw [nI_z (by omega)] at hc233
            refine z_aload_n (q := 237) dX8_command_236 rfl rfl ?_
            refine z_get (q := 240) dX8_command_237 zfX8_19 (by first | exact zpM_0 | exact zpM_a rfl | exact zpM_8) rfl rfl ?_
            refine z_iload_n (q := 241) dX8_command_240 rfl rfl ?_
            refine z_iload (q := 243) dX8_command_241 rfl rfl ?_
            refine z_s3 (q := 246) dX8_command_243 zkX8_191 zt_mX8_canHandOver rfl (Nat.le_of_ble_eq_true rfl) (ct_X8_canHandOver (zpM_a rfl) (by omega) (by omega) hK hK8) rfl ?_
            refine z_ifb_ne (tg := 251) (q := 249) dX8_command_246 rfl rfl ?_ ?_
            · intro hc246
              obtain ⟨t, ht⟩ : ∃ t, qOwnTask (u 4) K (G / 1000 % 10) = some t := by
                simp only [qCan, Bool.and_eq_true, Option.isSome_iff_exists] at hc246
                exact hc246.1.2
              refine z_aload_n (q := 252) dX8_command_251 rfl rfl ?_
              refine z_get (q := 255) dX8_command_252 zfX8_19 (by first | exact zpM_0 | exact zpM_a rfl | exact zpM_8) rfl rfl ?_
              refine z_iload_n (q := 256) dX8_command_255 rfl rfl ?_
              refine z_iload (q := 258) dX8_command_256 rfl rfl ?_
              refine z_t3 (q := 261) dX8_command_258 zkX8_194 zt_mX8_handOn rfl (Nat.le_of_ble_eq_true rfl) (zM_V (c := 4) rfl (ct_X8_handOn (by omega) (by omega) hK hK8 ht)) rfl ?_
              refine z_pop (q := 262) dX8_command_261 rfl rfl ?_
              refine z_iconst (q := 263) dX8_command_262 zci_1 rfl ?_
              exact z_retz dX8_command_263 rfl (by first | exact Or.inl rfl | exact Or.inr rfl) (zCM_t (f := qHand (u 4) (G / 1000 % 10) (G / 100 % 10) t) (by simp [qCmd, hw, hc213, hc222, hc228, hc233, hc246, ht]) (zSc_w (by decide)).1 rfl (zu_eq _ _ _))
            · intro hc246
              refine z_iconst (q := 250) dX8_command_249 zci_0 rfl ?_
              exact z_retz dX8_command_250 rfl (by first | exact Or.inl rfl | exact Or.inr rfl) (zCM_f (by first | (simp [qCmd, hw, hc213, hc222, hc228, hc233, hc246]; done) | (simp [qCmd, hw]; omega)) zSc_r rfl rfl)
  · skip
    refine z_iload_n (q := 1) dX8_command_0 rfl rfl ?_
    refine z_sipush (q := 4) dX8_command_1 zcs_10000 rfl ?_
    refine z_idivN (q := 5) dX8_command_4 (by omega) (by omega) (by omega) rfl ?_
    refine z_istore_n (q := 6) dX8_command_5 (Nat.le_of_ble_eq_true rfl) rfl rfl ?_
    refine z_iload_n (q := 7) dX8_command_6 rfl rfl ?_
    refine z_sipush (q := 10) dX8_command_7 zcs_1000 rfl ?_
    refine z_idivN (q := 11) dX8_command_10 (by omega) (by omega) (by omega) rfl ?_
    refine z_bipush (q := 13) dX8_command_11 zcb_10 rfl ?_
    refine z_iremN (q := 14) dX8_command_13 (by omega) (by omega) (by omega) rfl ?_
    refine z_istore_n (q := 15) dX8_command_14 (Nat.le_of_ble_eq_true rfl) rfl rfl ?_
    refine z_iload_n (q := 16) dX8_command_15 rfl rfl ?_
    refine z_bipush (q := 18) dX8_command_16 zcb_100 rfl ?_
    refine z_idivN (q := 19) dX8_command_18 (by omega) (by omega) (by omega) rfl ?_
    refine z_bipush (q := 21) dX8_command_19 zcb_10 rfl ?_
    refine z_iremN (q := 22) dX8_command_21 (by omega) (by omega) (by omega) rfl ?_
    refine z_istore (q := 24) dX8_command_22 (Nat.le_of_ble_eq_true rfl) rfl rfl ?_
    refine z_iload_n (q := 25) dX8_command_24 rfl rfl ?_
    refine z_sipush (q := 28) dX8_command_25 zcs_1000 rfl ?_
    refine z_iremN (q := 29) dX8_command_28 (by omega) (by omega) (by omega) rfl ?_
    refine z_istore (q := 31) dX8_command_29 (Nat.le_of_ble_eq_true rfl) rfl rfl ?_
    refine z_iload_n (q := 32) dX8_command_31 rfl rfl ?_
    refine z_bipush (q := 34) dX8_command_32 zcb_100 rfl ?_
    refine z_iremN (q := 35) dX8_command_34 (by omega) (by omega) (by omega) rfl ?_
    refine z_istore (q := 37) dX8_command_35 (Nat.le_of_ble_eq_true rfl) rfl rfl ?_
    refine z_iload_n (q := 38) dX8_command_37 rfl rfl ?_
    refine z_eqi (congrArg nI hw) ?_
    refine z_tableIn (q := 0) (tg := 264) dX8_command_38 (by decide) (by decide) rfl rfl ?_
    refine z_aload_n (q := 265) dX8_command_264 rfl rfl ?_
    refine z_iload_n (q := 266) dX8_command_265 rfl rfl ?_
    refine z_v1 (q := 269) dX8_command_266 zkX8_159 zt_mX8_isAgent rfl (by first | exact zpM_0 | exact zpM_a rfl | exact zpM_8) rfl (Nat.le_of_ble_eq_true rfl) (ct_X8_isAgent hn hn6) rfl ?_
    refine z_ifb_eq (tg := 277) (q := 272) dX8_command_269 rfl rfl ?_ ?_
    · intro hc269
      rw [qHas_d (by omega) (by omega), decide_eq_false_iff_not] at hc269
      refine z_iconst (q := 278) dX8_command_277 zci_0 rfl ?_
      exact z_retz dX8_command_278 rfl (by first | exact Or.inl rfl | exact Or.inr rfl) (zCM_f (by simp [qCmd, hw]; omega) zSc_r rfl rfl)
    · intro hc269
      rw [qHas_d (by omega) (by omega), decide_eq_true_eq] at hc269
      refine z_iload (q := 274) dX8_command_272 rfl rfl ?_
      refine z_if_eq (tg := 279) (q := 277) dX8_command_274 rfl rfl ?_ ?_
      · intro hc274
        rw [nI_z (by omega)] at hc274
        refine z_aload_n (q := 280) dX8_command_279 rfl rfl ?_
        refine z_get (q := 283) dX8_command_280 zfX8_19 (by first | exact zpM_0 | exact zpM_a rfl | exact zpM_8) rfl rfl ?_
        refine z_iload_n (q := 284) dX8_command_283 rfl rfl ?_
        refine z_t2 (q := 287) dX8_command_284 zkX8_197 zt_mX8_dropOn rfl (Nat.le_of_ble_eq_true rfl) (zM_V (c := 4) rfl (ct_X8_dropOn (K := K) (by omega) hK hK8)) rfl ?_
        refine z_pop (q := 288) dX8_command_287 rfl rfl ?_
        refine z_iconst (q := 289) dX8_command_288 zci_1 rfl ?_
        exact z_retz dX8_command_289 rfl (by first | exact Or.inl rfl | exact Or.inr rfl) (zCM_t (f := (qDrop (u 4) (G / 1000 % 10) K).1) (by simp [qCmd, hw, hc269, hc274]) (zSc_w (by decide)).1 rfl (zu_eq _ _ _))
      · intro hc274
        rw [nI_z (by omega)] at hc274
        refine z_iconst (q := 278) dX8_command_277 zci_0 rfl ?_
        exact z_retz dX8_command_278 rfl (by first | exact Or.inl rfl | exact Or.inr rfl) (zCM_f (by simp [qCmd, hw]; omega) zSc_r rfl rfl)
  · skip
    refine z_iload_n (q := 1) dX8_command_0 rfl rfl ?_
    refine z_sipush (q := 4) dX8_command_1 zcs_10000 rfl ?_
    refine z_idivN (q := 5) dX8_command_4 (by omega) (by omega) (by omega) rfl ?_
    refine z_istore_n (q := 6) dX8_command_5 (Nat.le_of_ble_eq_true rfl) rfl rfl ?_
    refine z_iload_n (q := 7) dX8_command_6 rfl rfl ?_
    refine z_sipush (q := 10) dX8_command_7 zcs_1000 rfl ?_
    refine z_idivN (q := 11) dX8_command_10 (by omega) (by omega) (by omega) rfl ?_
    refine z_bipush (q := 13) dX8_command_11 zcb_10 rfl ?_
    refine z_iremN (q := 14) dX8_command_13 (by omega) (by omega) (by omega) rfl ?_
    refine z_istore_n (q := 15) dX8_command_14 (Nat.le_of_ble_eq_true rfl) rfl rfl ?_
    refine z_iload_n (q := 16) dX8_command_15 rfl rfl ?_
    refine z_bipush (q := 18) dX8_command_16 zcb_100 rfl ?_
    refine z_idivN (q := 19) dX8_command_18 (by omega) (by omega) (by omega) rfl ?_
    refine z_bipush (q := 21) dX8_command_19 zcb_10 rfl ?_
    refine z_iremN (q := 22) dX8_command_21 (by omega) (by omega) (by omega) rfl ?_
    refine z_istore (q := 24) dX8_command_22 (Nat.le_of_ble_eq_true rfl) rfl rfl ?_
    refine z_iload_n (q := 25) dX8_command_24 rfl rfl ?_
    refine z_sipush (q := 28) dX8_command_25 zcs_1000 rfl ?_
    refine z_iremN (q := 29) dX8_command_28 (by omega) (by omega) (by omega) rfl ?_
    refine z_istore (q := 31) dX8_command_29 (Nat.le_of_ble_eq_true rfl) rfl rfl ?_
    refine z_iload_n (q := 32) dX8_command_31 rfl rfl ?_
    refine z_bipush (q := 34) dX8_command_32 zcb_100 rfl ?_
    refine z_iremN (q := 35) dX8_command_34 (by omega) (by omega) (by omega) rfl ?_
    refine z_istore (q := 37) dX8_command_35 (Nat.le_of_ble_eq_true rfl) rfl rfl ?_
    refine z_iload_n (q := 38) dX8_command_37 rfl rfl ?_
    refine z_eqi (congrArg nI hw) ?_
    refine z_tableIn (q := 0) (tg := 290) dX8_command_38 (by decide) (by decide) rfl rfl ?_
    refine z_iload_n (q := 291) dX8_command_290 rfl rfl ?_
    refine z_if_ne (tg := 317) (q := 294) dX8_command_291 rfl rfl ?_ ?_
    · intro hc291
      rw [nI_z (by omega)] at hc291
      refine z_iconst (q := 318) dX8_command_317 zci_0 rfl ?_
      exact z_retz dX8_command_318 rfl (by first | exact Or.inl rfl | exact Or.inr rfl) (by first | exact zCM_t (f := u 4) (by simp [qCmd, hw, hc291]) zSc_r rfl rfl | exact zCM_f (f := u 4) (by first | (simp [qCmd, hw, hc291]; done) | (simp [qCmd, hw]; omega)) zSc_r rfl rfl)
    · intro hc291
      rw [nI_z (by omega)] at hc291
      refine z_iload (q := 296) dX8_command_294 rfl rfl ?_
      refine z_bipush (q := 298) dX8_command_296 zcb_10 rfl ?_
      refine z_icmp_geN (tg := 317) (q := 301) dX8_command_298 rfl rfl (by omega) (by omega) ?_ ?_
      · intro hc298
        refine z_iconst (q := 318) dX8_command_317 zci_0 rfl ?_
        exact z_retz dX8_command_318 rfl (by first | exact Or.inl rfl | exact Or.inr rfl) (by first | exact zCM_t (f := u 4) (by simp [qCmd, hw, hc291, hc298]) zSc_r rfl rfl | exact zCM_f (f := u 4) (by first | (simp [qCmd, hw, hc291, hc298]; done) | (simp [qCmd, hw]; omega)) zSc_r rfl rfl)
      · intro hc298
        refine z_aload_n (q := 302) dX8_command_301 rfl rfl ?_
        refine z_get (q := 305) dX8_command_302 zfX8_19 (by first | exact zpM_0 | exact zpM_a rfl | exact zpM_8) rfl rfl ?_
        refine z_s1 (q := 308) dX8_command_305 zkX8_152 zt_mX8_finished rfl (Nat.le_of_ble_eq_true rfl) (ct_X8_finished (by first | exact zpM_0 | exact zpM_a rfl | exact zpM_8) (by assumption) (by omega)) rfl ?_
        refine z_iload (q := 310) dX8_command_308 rfl rfl ?_
        refine z_icmp_ne (tg := 317) (q := 313) dX8_command_310 rfl rfl ?_ ?_
        · intro hc310
          refine z_iconst (q := 318) dX8_command_317 zci_0 rfl ?_
          exact z_retz dX8_command_318 rfl (by first | exact Or.inl rfl | exact Or.inr rfl) (by first | exact zCM_t (f := u 4) (by simp [qCmd, hw, hc291, hc298, hc310]) zSc_r rfl rfl | exact zCM_f (f := u 4) (by first | (simp [qCmd, hw, hc291, hc298, hc310]; done) | (simp [qCmd, hw]; omega)) zSc_r rfl rfl)
        · intro hc310
          refine z_iconst (q := 314) dX8_command_313 zci_1 rfl ?_
          refine z_goto (q := 0) (tg := 318) dX8_command_314 rfl ?_
          exact z_retz dX8_command_318 rfl (by first | exact Or.inl rfl | exact Or.inr rfl) (by first | exact zCM_t (f := u 4) (by simp [qCmd, hw, hc291, hc298, hc310]) zSc_r rfl rfl | exact zCM_f (f := u 4) (by first | (simp [qCmd, hw, hc291, hc298, hc310]; done) | (simp [qCmd, hw]; omega)) zSc_r rfl rfl)
  · skip
    refine z_iload_n (q := 1) dX8_command_0 rfl rfl ?_
    refine z_sipush (q := 4) dX8_command_1 zcs_10000 rfl ?_
    refine z_idivN (q := 5) dX8_command_4 (by omega) (by omega) (by omega) rfl ?_
    refine z_istore_n (q := 6) dX8_command_5 (Nat.le_of_ble_eq_true rfl) rfl rfl ?_
    refine z_iload_n (q := 7) dX8_command_6 rfl rfl ?_
    refine z_sipush (q := 10) dX8_command_7 zcs_1000 rfl ?_
    refine z_idivN (q := 11) dX8_command_10 (by omega) (by omega) (by omega) rfl ?_
    refine z_bipush (q := 13) dX8_command_11 zcb_10 rfl ?_
    refine z_iremN (q := 14) dX8_command_13 (by omega) (by omega) (by omega) rfl ?_
    refine z_istore_n (q := 15) dX8_command_14 (Nat.le_of_ble_eq_true rfl) rfl rfl ?_
    refine z_iload_n (q := 16) dX8_command_15 rfl rfl ?_
    refine z_bipush (q := 18) dX8_command_16 zcb_100 rfl ?_
    refine z_idivN (q := 19) dX8_command_18 (by omega) (by omega) (by omega) rfl ?_
    refine z_bipush (q := 21) dX8_command_19 zcb_10 rfl ?_
    refine z_iremN (q := 22) dX8_command_21 (by omega) (by omega) (by omega) rfl ?_
    refine z_istore (q := 24) dX8_command_22 (Nat.le_of_ble_eq_true rfl) rfl rfl ?_
    refine z_iload_n (q := 25) dX8_command_24 rfl rfl ?_
    refine z_sipush (q := 28) dX8_command_25 zcs_1000 rfl ?_
    refine z_iremN (q := 29) dX8_command_28 (by omega) (by omega) (by omega) rfl ?_
    refine z_istore (q := 31) dX8_command_29 (Nat.le_of_ble_eq_true rfl) rfl rfl ?_
    refine z_iload_n (q := 32) dX8_command_31 rfl rfl ?_
    refine z_bipush (q := 34) dX8_command_32 zcb_100 rfl ?_
    refine z_iremN (q := 35) dX8_command_34 (by omega) (by omega) (by omega) rfl ?_
    refine z_istore (q := 37) dX8_command_35 (Nat.le_of_ble_eq_true rfl) rfl rfl ?_
    refine z_iload_n (q := 38) dX8_command_37 rfl rfl ?_
    refine z_eqi (congrArg nI hw) ?_
    refine z_tableIn (q := 0) (tg := 319) dX8_command_38 (by decide) (by decide) rfl rfl ?_
    refine z_aload_n (q := 320) dX8_command_319 rfl rfl ?_
    refine z_iload_n (q := 321) dX8_command_320 rfl rfl ?_
    refine z_v1 (q := 324) dX8_command_321 zkX8_159 zt_mX8_isAgent rfl (by first | exact zpM_0 | exact zpM_a rfl | exact zpM_8) rfl (Nat.le_of_ble_eq_true rfl) (ct_X8_isAgent hn hn6) rfl ?_
    refine z_ifb_eq (tg := 351) (q := 327) dX8_command_324 rfl rfl ?_ ?_
    · intro hc324
      rw [qHas_d (by omega) (by omega), decide_eq_false_iff_not] at hc324
      refine z_iconst (q := 352) dX8_command_351 zci_0 rfl ?_
      exact z_retz dX8_command_352 rfl (by first | exact Or.inl rfl | exact Or.inr rfl) (by first | exact zCM_t (f := u 4) (by simp [qCmd, hw, hc324]) zSc_r rfl rfl | exact zCM_f (f := u 4) (by first | (simp [qCmd, hw, hc324]; done) | (simp [qCmd, hw]; omega)) zSc_r rfl rfl)
    · intro hc324
      rw [qHas_d (by omega) (by omega), decide_eq_true_eq] at hc324
      refine z_iload (q := 329) dX8_command_327 rfl rfl ?_
      refine z_bipush (q := 331) dX8_command_329 zcb_10 rfl ?_
      refine z_icmp_geN (tg := 351) (q := 334) dX8_command_331 rfl rfl (by omega) (by omega) ?_ ?_
      · intro hc331
        refine z_iconst (q := 352) dX8_command_351 zci_0 rfl ?_
        exact z_retz dX8_command_352 rfl (by first | exact Or.inl rfl | exact Or.inr rfl) (by first | exact zCM_t (f := u 4) (by simp [qCmd, hw, hc324, hc331]) zSc_r rfl rfl | exact zCM_f (f := u 4) (by first | (simp [qCmd, hw, hc324, hc331]; done) | (simp [qCmd, hw]; omega)) zSc_r rfl rfl)
      · intro hc331
        refine z_aload_n (q := 335) dX8_command_334 rfl rfl ?_
        refine z_get (q := 338) dX8_command_335 zfX8_19 (by first | exact zpM_0 | exact zpM_a rfl | exact zpM_8) rfl rfl ?_
        refine z_iload_n (q := 339) dX8_command_338 rfl rfl ?_
        refine z_s2 (q := 342) dX8_command_339 zkX8_103 zt_mX8_ownTask rfl (Nat.le_of_ble_eq_true rfl) (ct_X8_ownTask (by first | exact zpM_0 | exact zpM_a rfl | exact zpM_8) (by omega) (by assumption) (by omega)) rfl ?_
        refine z_iload (q := 344) dX8_command_342 rfl rfl ?_
        refine z_icmp_ne (tg := 351) (q := 347) dX8_command_344 rfl rfl ?_ ?_
        · intro hc344
          refine z_iconst (q := 352) dX8_command_351 zci_0 rfl ?_
          exact z_retz dX8_command_352 rfl (by first | exact Or.inl rfl | exact Or.inr rfl) (by first | exact zCM_t (f := u 4) (by simp [qCmd, hw, hc324, hc331, hc344]) zSc_r rfl rfl | exact zCM_f (f := u 4) (by first | (simp [qCmd, hw, hc324, hc331, hc344]; done) | (simp [qCmd, hw]; omega)) zSc_r rfl rfl)
        · intro hc344
          refine z_iconst (q := 348) dX8_command_347 zci_1 rfl ?_
          refine z_goto (q := 0) (tg := 352) dX8_command_348 rfl ?_
          exact z_retz dX8_command_352 rfl (by first | exact Or.inl rfl | exact Or.inr rfl) (by first | exact zCM_t (f := u 4) (by simp [qCmd, hw, hc324, hc331, hc344]) zSc_r rfl rfl | exact zCM_f (f := u 4) (by first | (simp [qCmd, hw, hc324, hc331, hc344]; done) | (simp [qCmd, hw]; omega)) zSc_r rfl rfl)
  · skip
    refine z_iload_n (q := 1) dX8_command_0 rfl rfl ?_
    refine z_sipush (q := 4) dX8_command_1 zcs_10000 rfl ?_
    refine z_idivN (q := 5) dX8_command_4 (by omega) (by omega) (by omega) rfl ?_
    refine z_istore_n (q := 6) dX8_command_5 (Nat.le_of_ble_eq_true rfl) rfl rfl ?_
    refine z_iload_n (q := 7) dX8_command_6 rfl rfl ?_
    refine z_sipush (q := 10) dX8_command_7 zcs_1000 rfl ?_
    refine z_idivN (q := 11) dX8_command_10 (by omega) (by omega) (by omega) rfl ?_
    refine z_bipush (q := 13) dX8_command_11 zcb_10 rfl ?_
    refine z_iremN (q := 14) dX8_command_13 (by omega) (by omega) (by omega) rfl ?_
    refine z_istore_n (q := 15) dX8_command_14 (Nat.le_of_ble_eq_true rfl) rfl rfl ?_
    refine z_iload_n (q := 16) dX8_command_15 rfl rfl ?_
    refine z_bipush (q := 18) dX8_command_16 zcb_100 rfl ?_
    refine z_idivN (q := 19) dX8_command_18 (by omega) (by omega) (by omega) rfl ?_
    refine z_bipush (q := 21) dX8_command_19 zcb_10 rfl ?_
    refine z_iremN (q := 22) dX8_command_21 (by omega) (by omega) (by omega) rfl ?_
    refine z_istore (q := 24) dX8_command_22 (Nat.le_of_ble_eq_true rfl) rfl rfl ?_
    refine z_iload_n (q := 25) dX8_command_24 rfl rfl ?_
    refine z_sipush (q := 28) dX8_command_25 zcs_1000 rfl ?_
    refine z_iremN (q := 29) dX8_command_28 (by omega) (by omega) (by omega) rfl ?_
    refine z_istore (q := 31) dX8_command_29 (Nat.le_of_ble_eq_true rfl) rfl rfl ?_
    refine z_iload_n (q := 32) dX8_command_31 rfl rfl ?_
    refine z_bipush (q := 34) dX8_command_32 zcb_100 rfl ?_
    refine z_iremN (q := 35) dX8_command_34 (by omega) (by omega) (by omega) rfl ?_
    refine z_istore (q := 37) dX8_command_35 (Nat.le_of_ble_eq_true rfl) rfl rfl ?_
    refine z_iload_n (q := 38) dX8_command_37 rfl rfl ?_
    refine z_eqi (congrArg nI hw) ?_
    refine z_tableIn (q := 0) (tg := 353) dX8_command_38 (by decide) (by decide) rfl rfl ?_
    refine z_iload_n (q := 354) dX8_command_353 rfl rfl ?_
    refine z_if_ne (tg := 380) (q := 357) dX8_command_354 rfl rfl ?_ ?_
    · intro hc354
      rw [nI_z (by omega)] at hc354
      refine z_iconst (q := 381) dX8_command_380 zci_0 rfl ?_
      exact z_retz dX8_command_381 rfl (by first | exact Or.inl rfl | exact Or.inr rfl) (by first | exact zCM_t (f := u 4) (by simp [qCmd, hw, hc354]) zSc_r rfl rfl | exact zCM_f (f := u 4) (by first | (simp [qCmd, hw, hc354]; done) | (simp [qCmd, hw]; omega)) zSc_r rfl rfl)
    · intro hc354
      rw [nI_z (by omega)] at hc354
      refine z_iload (q := 359) dX8_command_357 rfl rfl ?_
      refine z_bipush (q := 361) dX8_command_359 zcb_10 rfl ?_
      refine z_icmp_geN (tg := 380) (q := 364) dX8_command_361 rfl rfl (by omega) (by omega) ?_ ?_
      · intro hc361
        refine z_iconst (q := 381) dX8_command_380 zci_0 rfl ?_
        exact z_retz dX8_command_381 rfl (by first | exact Or.inl rfl | exact Or.inr rfl) (by first | exact zCM_t (f := u 4) (by simp [qCmd, hw, hc354, hc361]) zSc_r rfl rfl | exact zCM_f (f := u 4) (by first | (simp [qCmd, hw, hc354, hc361]; done) | (simp [qCmd, hw]; omega)) zSc_r rfl rfl)
      · intro hc361
        refine z_aload_n (q := 365) dX8_command_364 rfl rfl ?_
        refine z_get (q := 368) dX8_command_365 zfX8_19 (by first | exact zpM_0 | exact zpM_a rfl | exact zpM_8) rfl rfl ?_
        refine z_s1 (q := 371) dX8_command_368 zkX8_213 zt_mX8_doubles rfl (Nat.le_of_ble_eq_true rfl) (ct_X8_doubles (by first | exact zpM_0 | exact zpM_a rfl | exact zpM_8) (by assumption) (by omega) (by assumption) (by omega)) rfl ?_
        refine z_iload (q := 373) dX8_command_371 rfl rfl ?_
        refine z_icmp_ne (tg := 380) (q := 376) dX8_command_373 rfl rfl ?_ ?_
        · intro hc373
          refine z_iconst (q := 381) dX8_command_380 zci_0 rfl ?_
          exact z_retz dX8_command_381 rfl (by first | exact Or.inl rfl | exact Or.inr rfl) (by first | exact zCM_t (f := u 4) (by simp [qCmd, hw, hc354, hc361, hc373]) zSc_r rfl rfl | exact zCM_f (f := u 4) (by first | (simp [qCmd, hw, hc354, hc361, hc373]; done) | (simp [qCmd, hw]; omega)) zSc_r rfl rfl)
        · intro hc373
          refine z_iconst (q := 377) dX8_command_376 zci_1 rfl ?_
          refine z_goto (q := 0) (tg := 381) dX8_command_377 rfl ?_
          exact z_retz dX8_command_381 rfl (by first | exact Or.inl rfl | exact Or.inr rfl) (by first | exact zCM_t (f := u 4) (by simp [qCmd, hw, hc354, hc361, hc373]) zSc_r rfl rfl | exact zCM_f (f := u 4) (by first | (simp [qCmd, hw, hc354, hc361, hc373]; done) | (simp [qCmd, hw]; omega)) zSc_r rfl rfl)
  · skip
    refine z_iload_n (q := 1) dX8_command_0 rfl rfl ?_
    refine z_sipush (q := 4) dX8_command_1 zcs_10000 rfl ?_
    refine z_idivN (q := 5) dX8_command_4 (by omega) (by omega) (by omega) rfl ?_
    refine z_istore_n (q := 6) dX8_command_5 (Nat.le_of_ble_eq_true rfl) rfl rfl ?_
    refine z_iload_n (q := 7) dX8_command_6 rfl rfl ?_
    refine z_sipush (q := 10) dX8_command_7 zcs_1000 rfl ?_
    refine z_idivN (q := 11) dX8_command_10 (by omega) (by omega) (by omega) rfl ?_
    refine z_bipush (q := 13) dX8_command_11 zcb_10 rfl ?_
    refine z_iremN (q := 14) dX8_command_13 (by omega) (by omega) (by omega) rfl ?_
    refine z_istore_n (q := 15) dX8_command_14 (Nat.le_of_ble_eq_true rfl) rfl rfl ?_
    refine z_iload_n (q := 16) dX8_command_15 rfl rfl ?_
    refine z_bipush (q := 18) dX8_command_16 zcb_100 rfl ?_
    refine z_idivN (q := 19) dX8_command_18 (by omega) (by omega) (by omega) rfl ?_
    refine z_bipush (q := 21) dX8_command_19 zcb_10 rfl ?_
    refine z_iremN (q := 22) dX8_command_21 (by omega) (by omega) (by omega) rfl ?_
    refine z_istore (q := 24) dX8_command_22 (Nat.le_of_ble_eq_true rfl) rfl rfl ?_
    refine z_iload_n (q := 25) dX8_command_24 rfl rfl ?_
    refine z_sipush (q := 28) dX8_command_25 zcs_1000 rfl ?_
    refine z_iremN (q := 29) dX8_command_28 (by omega) (by omega) (by omega) rfl ?_
    refine z_istore (q := 31) dX8_command_29 (Nat.le_of_ble_eq_true rfl) rfl rfl ?_
    refine z_iload_n (q := 32) dX8_command_31 rfl rfl ?_
    refine z_bipush (q := 34) dX8_command_32 zcb_100 rfl ?_
    refine z_iremN (q := 35) dX8_command_34 (by omega) (by omega) (by omega) rfl ?_
    refine z_istore (q := 37) dX8_command_35 (Nat.le_of_ble_eq_true rfl) rfl rfl ?_
    refine z_iload_n (q := 38) dX8_command_37 rfl rfl ?_
    refine z_eqi (congrArg nI hw) ?_
    refine z_tableIn (q := 0) (tg := 382) dX8_command_38 (by decide) (by decide) rfl rfl ?_
    refine z_iload_n (q := 383) dX8_command_382 rfl rfl ?_
    refine z_if_ne (tg := 408) (q := 386) dX8_command_383 rfl rfl ?_ ?_
    · intro hc383
      rw [nI_z (by omega)] at hc383
      refine z_iconst (q := 409) dX8_command_408 zci_0 rfl ?_
      exact z_retz dX8_command_409 rfl (by first | exact Or.inl rfl | exact Or.inr rfl) (by first | exact zCM_t (f := u 4) (by simp [qCmd, hw, hc383]) zSc_r rfl rfl | exact zCM_f (f := u 4) (by first | (simp [qCmd, hw, hc383]; done) | (simp [qCmd, hw]; omega)) zSc_r rfl rfl)
    · intro hc383
      rw [nI_z (by omega)] at hc383
      refine z_iload (q := 388) dX8_command_386 rfl rfl ?_
      refine z_if_ne (tg := 408) (q := 391) dX8_command_388 rfl rfl ?_ ?_
      · intro hc388
        rw [nI_z (by omega)] at hc388
        refine z_iconst (q := 409) dX8_command_408 zci_0 rfl ?_
        exact z_retz dX8_command_409 rfl (by first | exact Or.inl rfl | exact Or.inr rfl) (by first | exact zCM_t (f := u 4) (by simp [qCmd, hw, hc383, hc388]) zSc_r rfl rfl | exact zCM_f (f := u 4) (by first | (simp [qCmd, hw, hc383, hc388]; done) | (simp [qCmd, hw]; omega)) zSc_r rfl rfl)
      · intro hc388
        rw [nI_z (by omega)] at hc388
        refine z_aload_n (q := 392) dX8_command_391 rfl rfl ?_
        refine z_get (q := 395) dX8_command_392 zfX8_19 (by first | exact zpM_0 | exact zpM_a rfl | exact zpM_8) rfl rfl ?_
        refine z_iconst (q := 396) dX8_command_395 zci_5 rfl ?_
        refine z_s2 (q := 399) dX8_command_396 zkX8_156 zt_mX8_sumOf rfl (Nat.le_of_ble_eq_true rfl) (ct_X8_sumOf (by first | exact zpM_0 | exact zpM_a rfl | exact zpM_8) (by assumption) (by omega) (by omega)) rfl ?_
        refine z_iload (q := 401) dX8_command_399 rfl rfl ?_
        refine z_icmp_gt (tg := 408) (q := 404) dX8_command_401 rfl rfl ?_ ?_
        · intro hc401
          rw [← Int32.not_le] at hc401
          refine z_iconst (q := 409) dX8_command_408 zci_0 rfl ?_
          exact z_retz dX8_command_409 rfl (by first | exact Or.inl rfl | exact Or.inr rfl) (by first | exact zCM_t (f := u 4) (by simp [qCmd, hw, hc383, hc388, hc401]) zSc_r rfl rfl | exact zCM_f (f := u 4) (by first | (simp [qCmd, hw, hc383, hc388, hc401]; done) | (simp [qCmd, hw]; omega)) zSc_r rfl rfl)
        · intro hc401
          rw [Int32.not_lt] at hc401
          refine z_iconst (q := 405) dX8_command_404 zci_1 rfl ?_
          refine z_goto (q := 0) (tg := 409) dX8_command_405 rfl ?_
          exact z_retz dX8_command_409 rfl (by first | exact Or.inl rfl | exact Or.inr rfl) (by first | exact zCM_t (f := u 4) (by simp [qCmd, hw, hc383, hc388, hc401]) zSc_r rfl rfl | exact zCM_f (f := u 4) (by first | (simp [qCmd, hw, hc383, hc388, hc401]; done) | (simp [qCmd, hw]; omega)) zSc_r rfl rfl)
