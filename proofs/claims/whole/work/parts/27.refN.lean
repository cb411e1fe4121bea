/-! ===== the reference: scripts and simulations as a whole ===== -/
theorem qHand_lt {f : Nat → Int32} {a b t j : Nat} (h : j < 72) : qHand f a b t j = f j := by
  simp only [qHand, qLay]
  simp [va_up, show ∀ k, ¬ j = 72 + k by omega, show ∀ k l, ¬ j = 72 + k + l by omega]
theorem qCmd_lt {f : Nat → Int32} {n K G j : Nat} (h : j < 2) : (qCmd f n K G).2 j = f j := by
  unfold qCmd
  have hs : ∀ i, qSteps f n K i j = f j := fun i => by
    rcases (show j = 0 ∨ j = 1 by omega) with rfl | rfl
    · exact qSteps_0
    · exact qSteps_1
  repeat' split
  all_goals first
    | rfl
    | exact hs _
    | exact qTog_lt (by omega)
    | exact qHand_lt (by omega)
    | exact qDrop_lt (by omega)
    | exact zu_ne (by omega)
theorem lN_toI (x : Nat) : (lN x).toInt32 = nI x := by
  apply Int32.toBitVec_inj.mp
  simp [lN, nI]
def qG (x Z k : Nat) : Nat := Z / 10 ^ (5 * (x - 1 - k)) % 100000
def qScr (f : Nat → Int32) (n K x Z i : Nat) : Nat → Int32 := qIt (fun k r => (qCmd r n K (qG x Z k)).2) f i
theorem qScr_s {f : Nat → Int32} {n K x Z i : Nat} : qScr f n K x Z (i + 1) = (qCmd (qScr f n K x Z i) n K (qG x Z i)).2 := rfl
theorem qScr_lt {f : Nat → Int32} {n K x Z i j : Nat} (h : j < 2) : qScr f n K x Z i j = f j := qIt_inv (fun (r : Nat → Int32) => r j = f j) rfl (fun _ _ _ hr => (qCmd_lt h).trans hr)
def qRun (f : Nat → Int32) (n K x Z : Nat) : Int32 := qT (qFst (fun k => !(qCmd (qScr f n K x Z k) n K (qG x Z k)).1) x)
set_option maxRecDepth 100000 in
set_option maxHeartbeats 4000000 in
theorem ct_X8_runScript1 {g : zGl} {h : zHp} {m : Nat} {x : Int32} {z : Int64} {u : Nat → Nat → Int32} (hv : qBt x 1 3 = false) : zC g mX8_runScript [.ref m, .int x, .long z] (zpM g h m u) (zMP g h m u (nI 1) (nI 0)) 0 0 := by
  refine zC_ofA (lv := [some (.ref m), some (.int x), some (.long z), none, none]) (by decide) rfl (Nat.le_of_ble_eq_true rfl) ?_
  refine z_aload_n (q := 1) dX8_runScript_0 rfl rfl ?_
  refine z_iload_n (q := 2) dX8_runScript_1 rfl rfl ?_
  refine z_i2l (q := 3) dX8_runScript_2 rfl rfl ?_
  refine z_lconst (q := 4) (v := 1) dX8_runScript_3 (by decide) rfl ?_
  refine z_ldc2 (q := 7) dX8_runScript_4 zqX8_170 rfl ?_
  refine z_s3 (q := 10) dX8_runScript_7 zkX8_57 zt_mX8_in rfl (Nat.le_of_ble_eq_true rfl) (ct_X8_in) rfl ?_
  refine z_eqi ((congrArg zbi ((qIn_bt (by decide) (by decide) (by decide) (by decide)).trans hv)).trans zbi_f) ?_
  refine z_if_eq (tg := 33) (q := 13) dX8_runScript_10 rfl rfl ?_ ?_
  · intro hc10
    refine z_iconst (q := 34) dX8_runScript_33 zci_1 rfl ?_
    refine z_x1 (q := 37) dX8_runScript_34 zkX8_126 zt_mX8_refused rfl (by first | exact zpM_0 | exact zpM_a rfl | exact zpM_8) rfl (Nat.le_of_ble_eq_true rfl) (ct_X8_refused) rfl ?_
    refine z_eqi (show zbi (!decide (nI 1 ≤ 0)) = nI 1 by decide) ?_
    refine z_if_eq (tg := 42) (q := 40) dX8_runScript_37 rfl rfl ?_ ?_
    · intro hc37
      exact absurd hc37 (by decide)
    · intro hc37
      refine z_iconst (q := 41) dX8_runScript_40 zci_0 rfl ?_
      exact z_reti dX8_runScript_41 rfl (zMP_i rfl zSc_rf rfl)
  · intro hc10
    exact absurd hc10 (by decide)
set_option maxRecDepth 100000 in
set_option maxHeartbeats 4000000 in
theorem ct_X8_runScript2 {g : zGl} {h : zHp} {m x : Nat} {z : Int64} {u : Nat → Nat → Int32} (h1 : 1 ≤ x) (h2 : x ≤ 3) (hz : qIn z 0 (lN (10 ^ (5 * x)) - 1) = false) : zC g mX8_runScript [.ref m, .int (nI x), .long z] (zpM g h m u) (zMP g h m u (nI 1) (nI 0)) 0 0 := by
  have hv : qBt (nI x) 1 3 = true := qBt_i h1 h2 (by decide)
  refine zC_ofA (lv := [some (.ref m), some (.int (nI x)), some (.long z), none, none]) (by decide) rfl (Nat.le_of_ble_eq_true rfl) ?_
  refine z_aload_n (q := 1) dX8_runScript_0 rfl rfl ?_
  refine z_iload_n (q := 2) dX8_runScript_1 rfl rfl ?_
  refine z_i2l (q := 3) dX8_runScript_2 rfl rfl ?_
  refine z_lconst (q := 4) (v := 1) dX8_runScript_3 (by decide) rfl ?_
  refine z_ldc2 (q := 7) dX8_runScript_4 zqX8_170 rfl ?_
  refine z_s3 (q := 10) dX8_runScript_7 zkX8_57 zt_mX8_in rfl (Nat.le_of_ble_eq_true rfl) (ct_X8_in) rfl ?_
  refine z_eqi ((congrArg zbi ((qIn_bt (by decide) (by decide) (by decide) (by decide)).trans hv)).trans zbi_t) ?_
  refine z_if_eq (tg := 33) (q := 13) dX8_runScript_10 rfl rfl ?_ ?_
  · intro hc10
    exact absurd hc10 (by decide)
  · intro hc10
    refine z_lload_n (q := 14) dX8_runScript_13 rfl rfl ?_
    refine z_lconst (q := 15) (v := 0) dX8_runScript_14 (by decide) rfl ?_
    refine z_iconst (q := 16) dX8_runScript_15 zci_5 rfl ?_
    refine z_iload_n (q := 17) dX8_runScript_16 rfl rfl ?_
    refine z_imulN (q := 18) dX8_runScript_17 rfl ?_
    refine z_s1 (q := 21) dX8_runScript_18 zkX8_231 zt_mX8_tenTo rfl (Nat.le_of_ble_eq_true rfl) (ct_X8_tenTo (by omega)) rfl ?_
    refine z_lconst (q := 22) (v := 1) dX8_runScript_21 (by decide) rfl ?_
    refine z_lsub (q := 23) dX8_runScript_22 rfl ?_
    refine z_s3 (q := 26) dX8_runScript_23 zkX8_57 zt_mX8_in rfl (Nat.le_of_ble_eq_true rfl) (ct_X8_in) rfl ?_
    refine z_eqi ((congrArg zbi (hz)).trans zbi_f) ?_
    refine z_if_eq (tg := 33) (q := 29) dX8_runScript_26 rfl rfl ?_ ?_
    · intro hc26
      refine z_iconst (q := 34) dX8_runScript_33 zci_1 rfl ?_
      refine z_x1 (q := 37) dX8_runScript_34 zkX8_126 zt_mX8_refused rfl (by first | exact zpM_0 | exact zpM_a rfl | exact zpM_8) rfl (Nat.le_of_ble_eq_true rfl) (ct_X8_refused) rfl ?_
      refine z_eqi (show zbi (!decide (nI 1 ≤ 0)) = nI 1 by decide) ?_
      refine z_if_eq (tg := 42) (q := 40) dX8_runScript_37 rfl rfl ?_ ?_
      · intro hc37
        exact absurd hc37 (by decide)
      · intro hc37
        refine z_iconst (q := 41) dX8_runScript_40 zci_0 rfl ?_
        exact z_reti dX8_runScript_41 rfl (zMP_i rfl zSc_rf rfl)
    · intro hc26
      exact absurd hc26 (by decide)
theorem lN_ne0 {b : Nat} (h0 : 0 < b) (hb : b < 2 ^ 63) : ¬ lN b = 0 := by
  intro h
  have h2 := congrArg Int64.toInt h
  rw [show (lN b).toInt = (b : Int) from lg_ofNat_toInt hb] at h2
  have h3 : (0 : Int64).toInt = 0 := by decide
  rw [h3] at h2
  omega
theorem qG_le {x Z k : Nat} : qG x Z k < 100000 := Nat.mod_lt _ (by decide)
set_option maxRecDepth 100000 in
set_option maxHeartbeats 4000000 in
theorem ct_X8_runScript0 {g : zGl} {h : zHp} {m n K x Y : Nat} {u : Nat → Nat → Int32} (hn : u 3 0 = nI n) (hn6 : n ≤ 6) (hK : u 3 1 = nI K) (hK8 : K ≤ 8) (h1 : 1 ≤ x) (h2 : x ≤ 3) (hY : Y < 10 ^ 15) (hz : qIn (lN Y) 0 (lN (10 ^ (5 * x)) - 1) = true) : zC g mX8_runScript [.ref m, .int (nI x), .long (lN Y)] (zpM g h m u) (zMP g h m u (nI 0) (qRun (u 3) n K x Y)) 0 0 := by
  have hv : qBt (nI x) 1 3 = true := qBt_i h1 h2 (by decide)
  refine zC_ofA (lv := [some (.ref m), some (.int (nI x)), some (.long (lN Y)), none, none]) (by decide) rfl (Nat.le_of_ble_eq_true rfl) ?_
  have loop : ∀ d i U, i + d = x → (∀ j, j < i → (!(qCmd (qScr (u 3) n K x Y j) n K (qG x Y j)).1) = false) → zSc u U → U 0 0 = nI 0 → U 4 = qScr (u 3) n K x Y i → zA g (zZc g mX8_runScript (zMP g h m u (nI 0) (qRun (u 3) n K x Y)) 0 0) 0 0 61 [some (.ref m), some (.int (nI x)), some (.long (lN Y)), none, some (.int (nI i))] [] (zpM g h m U) := by
    intro d
    induction d using Nat.strongRecOn with
    | ind d ih =>
      intro i U hi hj hS hrf h4
      have hn3 : U 3 0 = nI n := by rw [hS.2.1]; exact hn
      have hn' : qScr (u 3) n K x Y i 0 = nI n := by rw [qScr_lt (by omega)]; exact hn
      have hK' : qScr (u 3) n K x Y i 1 = nI K := by rw [qScr_lt (by omega)]; exact hK
      have hp : 0 < 10 ^ (5 * (x - 1 - i)) := Nat.pos_of_ne_zero (by simp)
      have hp2 : 10 ^ (5 * (x - 1 - i)) ≤ 10 ^ 15 := Nat.pow_le_pow_right (by decide) (by omega)
      refine z_iload (q := 63) dX8_runScript_61 rfl rfl ?_
      refine z_iload_n (q := 64) dX8_runScript_63 rfl rfl ?_
      refine z_icmp_geN (tg := 101) (q := 67) dX8_runScript_64 rfl rfl (by omega) (by omega) ?_ ?_
      · intro hc64
        refine z_bipush (q := 103) dX8_runScript_101 zcb_m9 rfl ?_
        exact z_reti dX8_runScript_103 rfl (zMP_i (by rw [qRun, qFst_none (fun j hj2 => hj j (by omega))]; rfl) hS hrf)
      · intro hc64
        refine z_aload_n (q := 68) dX8_runScript_67 rfl rfl ?_
        refine z_lload_n (q := 69) dX8_runScript_68 rfl rfl ?_
        refine z_iconst (q := 70) dX8_runScript_69 zci_5 rfl ?_
        refine z_iload_n (q := 71) dX8_runScript_70 rfl rfl ?_
        refine z_iconst (q := 72) dX8_runScript_71 zci_1 rfl ?_
        refine z_isub (q := 73) dX8_runScript_72 rfl ?_
        refine z_eqi (nI_sub (by omega)) ?_
        refine z_iload (q := 75) dX8_runScript_73 rfl rfl ?_
        refine z_isub (q := 76) dX8_runScript_75 rfl ?_
        refine z_eqi (nI_sub (by omega)) ?_
        refine z_imulN (q := 77) dX8_runScript_76 rfl ?_
        refine z_s1 (q := 80) dX8_runScript_77 zkX8_231 zt_mX8_tenTo rfl (Nat.le_of_ble_eq_true rfl) (ct_X8_tenTo (by omega)) rfl ?_
        refine z_ldiv (q := 81) dX8_runScript_80 (lN_ne0 hp (by omega)) rfl ?_
        refine z_eql (pk_lDiv (by omega) hp (by omega)) ?_
        refine z_ldc2 (q := 84) dX8_runScript_81 zqX8_235 rfl ?_
        refine z_lrem (q := 85) dX8_runScript_84 (by decide) rfl ?_
        refine z_eql (pk_lRem (b := 100000) (Nat.lt_of_le_of_lt (Nat.div_le_self _ _) (by omega)) (by decide) (by decide)) ?_
        refine z_l2i (q := 86) dX8_runScript_85 rfl rfl ?_
        refine z_eqi (show _ = nI (qG x Y i) from lN_toI _) ?_
        refine z_V1 (q := 89) dX8_runScript_86 zkX8_237 zt_mX8_command rfl (by first | exact zpM_0 | exact zpM_a rfl | exact zpM_8) rfl (Nat.le_of_ble_eq_true rfl) (ct_X8_command hn3 hn6 h4 hn' hK' hK8 qG_le) (Nat.zero_le _) (Nat.zero_le _) rfl ?_
        rintro _ _ ⟨rfl, V, rfl, hSV, hV0, hV4⟩
        refine z_ifb_ne (tg := 95) (q := 92) dX8_runScript_89 rfl rfl ?_ ?_
        · intro hc89
          refine z_iincN (q := 98) dX8_runScript_95 rfl rfl rfl ?_
          refine z_goto (q := 0) (tg := 61) dX8_runScript_98 rfl ?_
          refine ih (d - 1) (by omega) (i + 1) V (by omega) (fun j hj2 => ?_) (zSc_t hS hSV) (hV0.trans hrf) hV4
          rcases Nat.lt_succ_iff_lt_or_eq.mp hj2 with h9 | rfl
          · exact hj j h9
          · rw [hc89]; rfl
        · intro hc89
          refine z_iload (q := 94) dX8_runScript_92 rfl rfl ?_
          exact z_reti dX8_runScript_94 rfl (zMP_i (by rw [qRun, qFst_some (i := i) (by omega) (by simp [hc89]) hj]; rfl) (zSc_t hS hSV) (hV0.trans hrf))
  refine z_aload_n (q := 1) dX8_runScript_0 rfl rfl ?_
  refine z_iload_n (q := 2) dX8_runScript_1 rfl rfl ?_
  refine z_i2l (q := 3) dX8_runScript_2 rfl rfl ?_
  refine z_lconst (q := 4) (v := 1) dX8_runScript_3 (by decide) rfl ?_
  refine z_ldc2 (q := 7) dX8_runScript_4 zqX8_170 rfl ?_
  refine z_s3 (q := 10) dX8_runScript_7 zkX8_57 zt_mX8_in rfl (Nat.le_of_ble_eq_true rfl) (ct_X8_in) rfl ?_
  refine z_eqi ((congrArg zbi ((qIn_bt (by decide) (by decide) (by decide) (by decide)).trans hv)).trans zbi_t) ?_
  refine z_if_eq (tg := 33) (q := 13) dX8_runScript_10 rfl rfl ?_ ?_
  · intro hc10
    exact absurd hc10 (by decide)
  · intro hc10
    refine z_lload_n (q := 14) dX8_runScript_13 rfl rfl ?_
    refine z_lconst (q := 15) (v := 0) dX8_runScript_14 (by decide) rfl ?_
    refine z_iconst (q := 16) dX8_runScript_15 zci_5 rfl ?_
    refine z_iload_n (q := 17) dX8_runScript_16 rfl rfl ?_
    refine z_imulN (q := 18) dX8_runScript_17 rfl ?_
    refine z_s1 (q := 21) dX8_runScript_18 zkX8_231 zt_mX8_tenTo rfl (Nat.le_of_ble_eq_true rfl) (ct_X8_tenTo (by omega)) rfl ?_
    refine z_lconst (q := 22) (v := 1) dX8_runScript_21 (by decide) rfl ?_
    refine z_lsub (q := 23) dX8_runScript_22 rfl ?_
    refine z_s3 (q := 26) dX8_runScript_23 zkX8_57 zt_mX8_in rfl (Nat.le_of_ble_eq_true rfl) (ct_X8_in) rfl ?_
    refine z_eqi ((congrArg zbi (hz)).trans zbi_t) ?_
    refine z_if_eq (tg := 33) (q := 29) dX8_runScript_26 rfl rfl ?_ ?_
    · intro hc26
      exact absurd hc26 (by decide)
    · intro hc26
      refine z_iconst (q := 30) dX8_runScript_29 zci_0 rfl ?_
      refine z_goto (q := 0) (tg := 34) dX8_runScript_30 rfl ?_
      refine z_x1 (q := 37) dX8_runScript_34 zkX8_126 zt_mX8_refused rfl (by first | exact zpM_0 | exact zpM_a rfl | exact zpM_8) rfl (Nat.le_of_ble_eq_true rfl) (ct_X8_refused) rfl ?_
      refine z_eqi (show zbi (!decide (nI 0 ≤ 0)) = nI 0 by decide) ?_
      refine z_if_eq (tg := 42) (q := 40) dX8_runScript_37 rfl rfl ?_ ?_
      · intro hc37
        generalize hU : va_up u 0 (va_up (u 0) 0 (nI 0)) = U
        have hS : zSc u U := by subst hU; exact zSc_rf
        have hrf : U 0 0 = nI 0 := by subst hU; rfl
        have h3 : U 3 = u 3 := hS.2.1
        refine z_aload_n (q := 43) dX8_runScript_42 rfl rfl ?_
        refine z_get (q := 46) dX8_runScript_43 zfX8_16 (by first | exact zpM_0 | exact zpM_a rfl | exact zpM_8) rfl rfl ?_
        refine z_iconst (q := 47) dX8_runScript_46 zci_0 rfl ?_
        refine z_aload_n (q := 48) dX8_runScript_47 rfl rfl ?_
        refine z_get (q := 51) dX8_runScript_48 zfX8_19 (by first | exact zpM_0 | exact zpM_a rfl | exact zpM_8) rfl rfl ?_
        refine z_iconst (q := 52) dX8_runScript_51 zci_0 rfl ?_
        refine z_sipush (q := 55) dX8_runScript_52 zcs_264 rfl ?_
        refine z_u5 (q := 58) dX8_runScript_55 zkX8_53 zt_mX8_copy rfl (Nat.le_of_ble_eq_true rfl) (ct_M_copy (c := 3) (d := 4) rfl rfl (by decide) (by omega) (by omega)) rfl ?_
        refine z_try h3 ?_
        refine z_iconst (q := 59) dX8_runScript_58 zci_0 rfl ?_
        refine z_istore (q := 61) dX8_runScript_59 (Nat.le_of_ble_eq_true rfl) rfl rfl ?_
        exact loop x 0 _ (by omega) (fun j hj => absurd hj (Nat.not_lt_zero j)) (zSc_t hS (zSc_w (c := 4) (by decide)).1) hrf (zu_eq _ _ _)
      · intro hc37
        exact absurd hc37 (by decide)
/-- the next seed, and what is taken of it -/
def qNx (X : Int64) : Int64 := X * 6364136223846793005 + 1442695040888963407
def qRh (X : Int64) : Nat := (X.toUInt64 >>> 33).toNat
theorem qRh_lt {X : Int64} : qRh X < 2 ^ 31 := by
  have h : X.toUInt64.toNat < 2 ^ 64 := UInt64.toNat_lt _
  simp only [qRh, UInt64.toNat_shiftRight, Nat.shiftRight_eq_div_pow]
  have h3 : (33 : UInt64).toNat % 64 = 33 := by decide
  rw [h3]
  omega
theorem qRh_i {X : Int64} : ((X.toUInt64 >>> ((nI 33).toInt64.toUInt64 &&& Int64.toUInt64 63)).toInt64).toInt32 = nI (qRh X) := by
  have h1 : (nI 33).toInt64.toUInt64 &&& Int64.toUInt64 63 = 33 := by decide
  rw [h1, qRh]
  generalize X.toUInt64 >>> 33 = y
  apply Int32.toBitVec_inj.mp
  apply BitVec.eq_of_toNat_eq
  simp [nI, BitVec.signExtend_eq_setWidth_of_le]
def qDis (f : Nat → Int32) (n r : Nat) : Nat → Int32 :=
  if n = 0 then f
  else if r % 8 = 0 then qTog f (r / 8 % n)
  else if r % 8 = 1 then va_up f (4 + 6 * (r / 8 % n) + 2) (nI (r / 64 % 23))
  else if r % 8 = 2 then va_up (va_up f (4 + 6 * (r / 8 % n)) (nI (r / 64 % 12))) (4 + 6 * (r / 8 % n) + 1) (nI (r / 1024 % 12))
  else f
theorem qDis_0 {f : Nat → Int32} {n r : Nat} (h1 : ¬ n = 0) (h2 : r % 8 = 0) : qDis f n r = qTog f (r / 8 % n) := by simp [qDis, h1, h2]
theorem qDis_1 {f : Nat → Int32} {n r : Nat} (h1 : ¬ n = 0) (h2 : r % 8 = 1) : qDis f n r = va_up f (4 + 6 * (r / 8 % n) + 2) (nI (r / 64 % 23)) := by simp [qDis, h1, h2]
theorem qDis_2 {f : Nat → Int32} {n r : Nat} (h1 : ¬ n = 0) (h2 : r % 8 = 2) : qDis f n r = va_up (va_up f (4 + 6 * (r / 8 % n)) (nI (r / 64 % 12))) (4 + 6 * (r / 8 % n) + 1) (nI (r / 1024 % 12)) := by simp [qDis, h1, h2]
theorem qDis_3 {f : Nat → Int32} {n r : Nat} (h1 : ¬ n = 0) (h2 : ¬ r % 8 = 0) (h3 : ¬ r % 8 = 1) (h4 : ¬ r % 8 = 2) : qDis f n r = f := by simp [qDis, h1, h2, h3, h4]
theorem qDis_lt {f : Nat → Int32} {n r j : Nat} (h : j < 4) : qDis f n r j = f j := by
  unfold qDis
  repeat' split
  all_goals first
    | rfl
    | exact qTog_lt h
    | exact zu_ne (by omega)
    | exact (zu_ne (by omega)).trans (zu_ne (by omega))
def qSim (f : Nat → Int32) (n K : Nat) (X : Int64) (i : Nat) : Int64 × (Nat → Int32) := qIt (fun _ s => (qNx s.1, qStep (qDis s.2 n (qRh (qNx s.1))) n K)) (X, f) i
theorem qSim_lt {f : Nat → Int32} {n K i j : Nat} {X : Int64} (h : j = 0 ∨ j = 1) : (qSim f n K X i).2 j = f j := by
  refine qIt_inv (fun (s : Int64 × (Nat → Int32)) => s.2 j = f j) rfl (fun _ s _ hs => ?_)
  have e : ∀ r : Nat → Int32, qStep r n K j = r j := fun r => by
    rcases h with rfl | rfl
    · exact qSteps_0 (i := 1)
    · exact qSteps_1 (i := 1)
  exact (e _).trans ((qDis_lt (by omega)).trans hs)
set_option maxRecDepth 100000 in
set_option maxHeartbeats 4000000 in
theorem ct_X8_simulate1 {g : zGl} {h : zHp} {m : Nat} {x : Int32} {X : Int64} {u : Nat → Nat → Int32} (hv : qBt x 1 60 = false) : zC g mX8_simulate [.ref m, .long X, .int x] (zpM g h m u) (zMP g h m u (nI 1) (nI 0)) 0 0 := by
  refine zC_ofA (lv := [some (.ref m), some (.long X), none, some (.int x), none, none, none, none, none]) (by decide) rfl (Nat.le_of_ble_eq_true rfl) ?_
  refine z_aload_n (q := 1) dX8_simulate_0 rfl rfl ?_
  refine z_iload_n (q := 2) dX8_simulate_1 rfl rfl ?_
  refine z_i2l (q := 3) dX8_simulate_2 rfl rfl ?_
  refine z_lconst (q := 4) (v := 1) dX8_simulate_3 (by decide) rfl ?_
  refine z_ldc2 (q := 7) dX8_simulate_4 zqX8_240 rfl ?_
  refine z_s3 (q := 10) dX8_simulate_7 zkX8_57 zt_mX8_in rfl (Nat.le_of_ble_eq_true rfl) (ct_X8_in) rfl ?_
  refine z_eqi ((congrArg zbi ((qIn_bt (by decide) (by decide) (by decide) (by decide)).trans hv)).trans zbi_f) ?_
  refine z_if_eq (tg := 17) (q := 13) dX8_simulate_10 rfl rfl ?_ ?_
  · intro hc10
    refine z_iconst (q := 18) dX8_simulate_17 zci_1 rfl ?_
    refine z_x1 (q := 21) dX8_simulate_18 zkX8_126 zt_mX8_refused rfl (by first | exact zpM_0 | exact zpM_a rfl | exact zpM_8) rfl (Nat.le_of_ble_eq_true rfl) (ct_X8_refused) rfl ?_
    refine z_eqi (show zbi (!decide (nI 1 ≤ 0)) = nI 1 by decide) ?_
    refine z_if_eq (tg := 26) (q := 24) dX8_simulate_21 rfl rfl ?_ ?_
    · intro hc21
      exact absurd hc21 (by decide)
    · intro hc21
      refine z_iconst (q := 25) dX8_simulate_24 zci_0 rfl ?_
      exact z_reti dX8_simulate_25 rfl (zMP_i rfl zSc_rf rfl)
  · intro hc10
    exact absurd hc10 (by decide)
set_option maxRecDepth 100000 in
set_option maxHeartbeats 4000000 in
theorem ct_X8_simulate0 {g : zGl} {h : zHp} {m n K x : Nat} {X : Int64} {u : Nat → Nat → Int32} (hn : u 3 0 = nI n) (hn6 : n ≤ 6) (hK : u 3 1 = nI K) (hK8 : K ≤ 8) (h1 : 1 ≤ x) (h2 : x ≤ 60) : zC g mX8_simulate [.ref m, .long X, .int (nI x)] (zpM g h m u) (zMP g h m u (nI 0) (qPrg (qSim (u 3) n K X x).2 K + nI 100 * qSum (qSim (u 3) n K X x).2 n 5)) 0 0 := by
  have hv : qBt (nI x) 1 60 = true := qBt_i h1 h2 (by decide)
  refine zC_ofA (lv := [some (.ref m), some (.long X), none, some (.int (nI x)), none, none, none, none, none]) (by decide) rfl (Nat.le_of_ble_eq_true rfl) ?_
  have loop : ∀ d i U l7 l8, i + d = x → zSc u U → U 0 0 = nI 0 → U 4 = (qSim (u 3) n K X i).2 → zA g (zZc g mX8_simulate (zMP g h m u (nI 0) (qPrg (qSim (u 3) n K X x).2 K + nI 100 * qSum (qSim (u 3) n K X x).2 n 5)) 0 0) 0 0 48 [some (.ref m), some (.long X), none, some (.int (nI x)), some (.long (qSim (u 3) n K X i).1), none, some (.int (nI i)), l7, l8] [] (zpM g h m U) := by
    intro d
    induction d using Nat.strongRecOn with
    | ind d ih =>
      intro i U l7 l8 hi hS hrf h4
      have hn' : U 4 0 = nI n := by rw [h4, qSim_lt (by omega)]; exact hn
      have hK' : U 4 1 = nI K := by rw [h4, qSim_lt (by omega)]; exact hK
      obtain ⟨y, hy⟩ : ∃ y, qNx (qSim (u 3) n K X i).1 = y := ⟨_, rfl⟩
      have hr := qRh_lt (X := y)
      obtain ⟨r, hr2⟩ : ∃ r, qRh y = r := ⟨_, rfl⟩
      have hi2 : qSim (u 3) n K X (i + 1) = (y, qStep (qDis (qSim (u 3) n K X i).2 n r) n K) := by
        rw [← hr2, ← hy]; rfl
      have fin : ∀ V l8, i < x → zSc u V → V 0 0 = nI 0 → V 4 = qDis (U 4) n r → zA g (zZc g mX8_simulate (zMP g h m u (nI 0) (qPrg (qSim (u 3) n K X x).2 K + nI 100 * qSum (qSim (u 3) n K X x).2 n 5)) 0 0) 0 0 204 [some (.ref m), some (.long X), none, some (.int (nI x)), some (.long y), none, some (.int (nI i)), some (.int (nI r)), l8] [] (zpM g h m V) := by
        intro V l8 hix hSV hV0 hV4
        have hnV : V 4 0 = nI n := by rw [hV4, qDis_lt (by omega)]; exact hn'
        have hKV : V 4 1 = nI K := by rw [hV4, qDis_lt (by omega)]; exact hK'
        have ih2 := ih (d - 1) (by omega) (i + 1)
        rw [hi2] at ih2
        refine z_aload_n (q := 205) dX8_simulate_204 rfl rfl ?_
        refine z_aload_n (q := 206) dX8_simulate_205 rfl rfl ?_
        refine z_get (q := 209) dX8_simulate_206 zfX8_19 (by first | exact zpM_0 | exact zpM_a rfl | exact zpM_8) rfl rfl ?_
        refine z_w1 (q := 212) dX8_simulate_209 zkX8_177 zt_mX8_stepOn rfl (by first | exact zpM_0 | exact zpM_a rfl | exact zpM_8) rfl (Nat.le_of_ble_eq_true rfl) (ct_M_stepOn (Or.inr rfl) hnV hn6 hKV hK8) rfl ?_
        refine z_iincN (q := 215) dX8_simulate_212 rfl rfl rfl ?_
        refine z_goto (q := 0) (tg := 48) dX8_simulate_215 rfl ?_
        exact ih2 _ _ _ (by omega) (zSc_st hSV) hV0 (by rw [zu_eq, hV4, h4])
      refine z_iload (q := 50) dX8_simulate_48 rfl rfl ?_
      refine z_iload_n (q := 51) dX8_simulate_50 rfl rfl ?_
      refine z_icmp_geN (tg := 218) (q := 54) dX8_simulate_51 rfl rfl (by omega) (by omega) ?_ ?_
      · intro hc51
        refine z_aload_n (q := 219) dX8_simulate_218 rfl rfl ?_
        refine z_get (q := 222) dX8_simulate_219 zfX8_19 (by first | exact zpM_0 | exact zpM_a rfl | exact zpM_8) rfl rfl ?_
        refine z_s1 (q := 225) dX8_simulate_222 zkX8_221 zt_mX8_progress rfl (Nat.le_of_ble_eq_true rfl) (ct_X8_progress (by first | exact zpM_0 | exact zpM_a rfl | exact zpM_8) (by assumption) (by omega)) rfl ?_
        refine z_bipush (q := 227) dX8_simulate_225 zcb_100 rfl ?_
        refine z_aload_n (q := 228) dX8_simulate_227 rfl rfl ?_
        refine z_get (q := 231) dX8_simulate_228 zfX8_19 (by first | exact zpM_0 | exact zpM_a rfl | exact zpM_8) rfl rfl ?_
        refine z_iconst (q := 232) dX8_simulate_231 zci_5 rfl ?_
        refine z_s2 (q := 235) dX8_simulate_232 zkX8_156 zt_mX8_sumOf rfl (Nat.le_of_ble_eq_true rfl) (ct_X8_sumOf (by first | exact zpM_0 | exact zpM_a rfl | exact zpM_8) (by assumption) (by omega) (by omega)) rfl ?_
        refine z_imul (q := 236) dX8_simulate_235 rfl ?_
        refine z_iadd (q := 237) dX8_simulate_236 rfl ?_
        exact z_reti dX8_simulate_237 rfl (zMP_i (by rw [h4, show i = x by omega]) hS hrf)
      · intro hc51
        refine z_lload (q := 56) dX8_simulate_54 rfl rfl ?_
        refine z_ldc2 (q := 59) dX8_simulate_56 zqX8_242 rfl ?_
        refine z_lmul (q := 60) dX8_simulate_59 rfl ?_
        refine z_ldc2 (q := 63) dX8_simulate_60 zqX8_244 rfl ?_
        refine z_ladd (q := 64) dX8_simulate_63 rfl ?_
        refine z_eql hy ?_
        refine z_lstore (q := 66) dX8_simulate_64 (Nat.le_of_ble_eq_true rfl) rfl rfl ?_
        refine z_lload (q := 68) dX8_simulate_66 rfl rfl ?_
        refine z_bipush (q := 70) dX8_simulate_68 zcb_33 rfl ?_
        refine z_lushr (q := 71) dX8_simulate_70 rfl rfl ?_
        refine z_l2i (q := 72) dX8_simulate_71 rfl rfl ?_
        refine z_eqi (qRh_i.trans (congrArg nI hr2)) ?_
        refine z_istore (q := 74) dX8_simulate_72 (Nat.le_of_ble_eq_true rfl) rfl rfl ?_
        refine z_aload_n (q := 75) dX8_simulate_74 rfl rfl ?_
        refine z_get (q := 78) dX8_simulate_75 zfX8_19 (by first | exact zpM_0 | exact zpM_a rfl | exact zpM_8) rfl rfl ?_
        refine z_iconst (q := 79) dX8_simulate_78 zci_0 rfl ?_
        refine z_iald (q := 80) dX8_simulate_79 (by first | exact zpM_0 | exact zpM_a rfl | exact zpM_8) (by omega) (by omega) rfl ?_
        refine z_eqi hn' ?_
        refine z_if_le (tg := 204) (q := 83) dX8_simulate_80 rfl rfl ?_ ?_
        · intro hc80
          have hz : n = 0 := by
            have h9 := (nI_leI (show n < 2 ^ 31 by omega) (show 0 < 2 ^ 31 by decide)).mp hc80
            omega
          exact fin _ _ (by omega) hS hrf (by rw [qDis, if_pos hz])
        · intro hc80
          have hz : 0 < n := by
            have h9 := mt (nI_leI (show n < 2 ^ 31 by omega) (show 0 < 2 ^ 31 by decide)).mpr hc80
            omega
          have hz1 : ¬ n = 0 := by omega
          have hrn : r / 8 % n < n := Nat.mod_lt _ hz
          refine z_iload (q := 85) dX8_simulate_83 rfl rfl ?_
          refine z_bipush (q := 87) dX8_simulate_85 zcb_8 rfl ?_
          refine z_idivN (q := 88) dX8_simulate_87 (by omega) (by omega) (by omega) rfl ?_
          refine z_aload_n (q := 89) dX8_simulate_88 rfl rfl ?_
          refine z_get (q := 92) dX8_simulate_89 zfX8_19 (by first | exact zpM_0 | exact zpM_a rfl | exact zpM_8) rfl rfl ?_
          refine z_iconst (q := 93) dX8_simulate_92 zci_0 rfl ?_
          refine z_iald (q := 94) dX8_simulate_93 (by first | exact zpM_0 | exact zpM_a rfl | exact zpM_8) (by omega) (by omega) rfl ?_
          refine z_eqi hn' ?_
          refine z_iremN (q := 95) dX8_simulate_94 (by omega) (by omega) (by omega) rfl ?_
          refine z_s1 (q := 98) dX8_simulate_95 zkX8_61 zt_mX8_agentAt rfl (Nat.le_of_ble_eq_true rfl) (ct_X8_agentAt) rfl ?_
          refine z_istore (q := 100) dX8_simulate_98 (Nat.le_of_ble_eq_true rfl) rfl rfl ?_
          refine z_iload (q := 102) dX8_simulate_100 rfl rfl ?_
          refine z_bipush (q := 104) dX8_simulate_102 zcb_8 rfl ?_
          refine z_iremN (q := 105) dX8_simulate_104 (by omega) (by omega) (by omega) rfl ?_
          refine z_if_ne (tg := 131) (q := 108) dX8_simulate_105 rfl rfl ?_ ?_
          · intro hc105
            rw [nI_z (by omega)] at hc105
            refine z_iload (q := 133) dX8_simulate_131 rfl rfl ?_
            refine z_bipush (q := 135) dX8_simulate_133 zcb_8 rfl ?_
            refine z_iremN (q := 136) dX8_simulate_135 (by omega) (by omega) (by omega) rfl ?_
            refine z_iconst (q := 137) dX8_simulate_136 zci_1 rfl ?_
            refine z_icmp_neN (tg := 160) (q := 140) dX8_simulate_137 rfl rfl (by omega) (by omega) ?_ ?_
            · intro hc137
              refine z_iload (q := 162) dX8_simulate_160 rfl rfl ?_
              refine z_bipush (q := 164) dX8_simulate_162 zcb_8 rfl ?_
              refine z_iremN (q := 165) dX8_simulate_164 (by omega) (by omega) (by omega) rfl ?_
              refine z_iconst (q := 166) dX8_simulate_165 zci_2 rfl ?_
              refine z_icmp_neN (tg := 204) (q := 169) dX8_simulate_166 rfl rfl (by omega) (by omega) ?_ ?_
              · intro hc166
                first
                  | exact fin _ _ (by omega) (zSc_t hS (zSc_w (c := 4) (by decide)).1) hrf ((zu_eq _ _ _).trans (qDis_0 hz1 hc105).symm)
                  | exact fin _ _ (by omega) (zSc_t hS (zSc_w (c := 4) (by decide)).1) hrf ((zu_eq _ _ _).trans (qDis_1 hz1 hc137).symm)
                  | exact fin _ _ (by omega) (zSc_t hS (zSc_t (zSc_w (c := 4) (by decide)).1 (zSc_w (c := 4) (by decide)).1)) hrf ((zu_eq _ _ _).trans (qDis_2 hz1 hc166).symm)
                  | exact fin _ _ (by omega) hS hrf (qDis_3 hz1 hc105 hc137 hc166).symm
              · intro hc166
                refine z_aload_n (q := 170) dX8_simulate_169 rfl rfl ?_
                refine z_get (q := 173) dX8_simulate_170 zfX8_19 (by first | exact zpM_0 | exact zpM_a rfl | exact zpM_8) rfl rfl ?_
                refine z_iload (q := 175) dX8_simulate_173 rfl rfl ?_
                refine z_iconst (q := 176) dX8_simulate_175 zci_0 rfl ?_
                refine z_iadd0 (q := 177) dX8_simulate_176 rfl ?_
                refine z_iload (q := 179) dX8_simulate_177 rfl rfl ?_
                refine z_bipush (q := 181) dX8_simulate_179 zcb_64 rfl ?_
                refine z_idivN (q := 182) dX8_simulate_181 (by omega) (by omega) (by omega) rfl ?_
                refine z_bipush (q := 184) dX8_simulate_182 zcb_12 rfl ?_
                refine z_iremN (q := 185) dX8_simulate_184 (by omega) (by omega) (by omega) rfl ?_
                refine z_iastM (q := 186) dX8_simulate_185 rfl (by omega) rfl ?_
                refine z_aload_n (q := 187) dX8_simulate_186 rfl rfl ?_
                refine z_get (q := 190) dX8_simulate_187 zfX8_19 (by first | exact zpM_0 | exact zpM_a rfl | exact zpM_8) rfl rfl ?_
                refine z_iload (q := 192) dX8_simulate_190 rfl rfl ?_
                refine z_iconst (q := 193) dX8_simulate_192 zci_1 rfl ?_
                refine z_iaddN (q := 194) dX8_simulate_193 rfl ?_
                refine z_iload (q := 196) dX8_simulate_194 rfl rfl ?_
                refine z_sipush (q := 199) dX8_simulate_196 zcs_1024 rfl ?_
                refine z_idivN (q := 200) dX8_simulate_199 (by omega) (by omega) (by omega) rfl ?_
                refine z_bipush (q := 202) dX8_simulate_200 zcb_12 rfl ?_
                refine z_iremN (q := 203) dX8_simulate_202 (by omega) (by omega) (by omega) rfl ?_
                refine z_iastM (q := 204) dX8_simulate_203 rfl (by omega) rfl ?_
                first
                  | exact fin _ _ (by omega) (zSc_t hS (zSc_w (c := 4) (by decide)).1) hrf ((zu_eq _ _ _).trans (qDis_0 hz1 hc105).symm)
                  | exact fin _ _ (by omega) (zSc_t hS (zSc_w (c := 4) (by decide)).1) hrf ((zu_eq _ _ _).trans (qDis_1 hz1 hc137).symm)
                  | exact fin _ _ (by omega) (zSc_t hS (zSc_t (zSc_w (c := 4) (by decide)).1 (zSc_w (c := 4) (by decide)).1)) hrf ((zu_eq _ _ _).trans (qDis_2 hz1 hc166).symm)
                  | exact fin _ _ (by omega) hS hrf (qDis_3 hz1 hc105 hc137 hc166).symm
            · intro hc137
              refine z_aload_n (q := 141) dX8_simulate_140 rfl rfl ?_
              refine z_get (q := 144) dX8_simulate_141 zfX8_19 (by first | exact zpM_0 | exact zpM_a rfl | exact zpM_8) rfl rfl ?_
              refine z_iload (q := 146) dX8_simulate_144 rfl rfl ?_
              refine z_iconst (q := 147) dX8_simulate_146 zci_2 rfl ?_
              refine z_iaddN (q := 148) dX8_simulate_147 rfl ?_
              refine z_iload (q := 150) dX8_simulate_148 rfl rfl ?_
              refine z_bipush (q := 152) dX8_simulate_150 zcb_64 rfl ?_
              refine z_idivN (q := 153) dX8_simulate_152 (by omega) (by omega) (by omega) rfl ?_
              refine z_bipush (q := 155) dX8_simulate_153 zcb_23 rfl ?_
              refine z_iremN (q := 156) dX8_simulate_155 (by omega) (by omega) (by omega) rfl ?_
              refine z_iastM (q := 157) dX8_simulate_156 rfl (by omega) rfl ?_
              refine z_goto (q := 0) (tg := 204) dX8_simulate_157 rfl ?_
              first
                | exact fin _ _ (by omega) (zSc_t hS (zSc_w (c := 4) (by decide)).1) hrf ((zu_eq _ _ _).trans (qDis_0 hz1 hc105).symm)
                | exact fin _ _ (by omega) (zSc_t hS (zSc_w (c := 4) (by decide)).1) hrf ((zu_eq _ _ _).trans (qDis_1 hz1 hc137).symm)
                | exact fin _ _ (by omega) (zSc_t hS (zSc_t (zSc_w (c := 4) (by decide)).1 (zSc_w (c := 4) (by decide)).1)) hrf ((zu_eq _ _ _).trans (qDis_2 hz1 hc166).symm)
                | exact fin _ _ (by omega) hS hrf (qDis_3 hz1 hc105 hc137 hc166).symm
          · intro hc105
            rw [nI_z (by omega)] at hc105
            refine z_aload_n (q := 109) dX8_simulate_108 rfl rfl ?_
            refine z_get (q := 112) dX8_simulate_109 zfX8_19 (by first | exact zpM_0 | exact zpM_a rfl | exact zpM_8) rfl rfl ?_
            refine z_iload (q := 114) dX8_simulate_112 rfl rfl ?_
            refine z_iconst (q := 115) dX8_simulate_114 zci_3 rfl ?_
            refine z_iaddN (q := 116) dX8_simulate_115 rfl ?_
            refine z_iconst (q := 117) dX8_simulate_116 zci_1 rfl ?_
            refine z_aload_n (q := 118) dX8_simulate_117 rfl rfl ?_
            refine z_get (q := 121) dX8_simulate_118 zfX8_19 (by first | exact zpM_0 | exact zpM_a rfl | exact zpM_8) rfl rfl ?_
            refine z_iload (q := 123) dX8_simulate_121 rfl rfl ?_
            refine z_iconst (q := 124) dX8_simulate_123 zci_3 rfl ?_
            refine z_iaddN (q := 125) dX8_simulate_124 rfl ?_
            refine z_iald (q := 126) dX8_simulate_125 (by first | exact zpM_0 | exact zpM_a rfl | exact zpM_8) (by omega) (by omega) rfl ?_
            refine z_isub (q := 127) dX8_simulate_126 rfl ?_
            refine z_iastM (q := 128) dX8_simulate_127 rfl (by omega) rfl ?_
            refine z_goto (q := 0) (tg := 204) dX8_simulate_128 rfl ?_
            first
              | exact fin _ _ (by omega) (zSc_t hS (zSc_w (c := 4) (by decide)).1) hrf ((zu_eq _ _ _).trans (qDis_0 hz1 hc105).symm)
              | exact fin _ _ (by omega) (zSc_t hS (zSc_w (c := 4) (by decide)).1) hrf ((zu_eq _ _ _).trans (qDis_1 hz1 hc137).symm)
              | exact fin _ _ (by omega) (zSc_t hS (zSc_t (zSc_w (c := 4) (by decide)).1 (zSc_w (c := 4) (by decide)).1)) hrf ((zu_eq _ _ _).trans (qDis_2 hz1 hc166).symm)
              | exact fin _ _ (by omega) hS hrf (qDis_3 hz1 hc105 hc137 hc166).symm
  refine z_aload_n (q := 1) dX8_simulate_0 rfl rfl ?_
  refine z_iload_n (q := 2) dX8_simulate_1 rfl rfl ?_
  refine z_i2l (q := 3) dX8_simulate_2 rfl rfl ?_
  refine z_lconst (q := 4) (v := 1) dX8_simulate_3 (by decide) rfl ?_
  refine z_ldc2 (q := 7) dX8_simulate_4 zqX8_240 rfl ?_
  refine z_s3 (q := 10) dX8_simulate_7 zkX8_57 zt_mX8_in rfl (Nat.le_of_ble_eq_true rfl) (ct_X8_in) rfl ?_
  refine z_eqi ((congrArg zbi ((qIn_bt (by decide) (by decide) (by decide) (by decide)).trans hv)).trans zbi_t) ?_
  refine z_if_eq (tg := 17) (q := 13) dX8_simulate_10 rfl rfl ?_ ?_
  · intro hc10
    exact absurd hc10 (by decide)
  · intro hc10
    refine z_iconst (q := 14) dX8_simulate_13 zci_0 rfl ?_
    refine z_goto (q := 0) (tg := 18) dX8_simulate_14 rfl ?_
    refine z_x1 (q := 21) dX8_simulate_18 zkX8_126 zt_mX8_refused rfl (by first | exact zpM_0 | exact zpM_a rfl | exact zpM_8) rfl (Nat.le_of_ble_eq_true rfl) (ct_X8_refused) rfl ?_
    refine z_eqi (show zbi (!decide (nI 0 ≤ 0)) = nI 0 by decide) ?_
    refine z_if_eq (tg := 26) (q := 24) dX8_simulate_21 rfl rfl ?_ ?_
    · intro hc21
      generalize hU : va_up u 0 (va_up (u 0) 0 (nI 0)) = U
      have hS : zSc u U := by subst hU; exact zSc_rf
      have hrf : U 0 0 = nI 0 := by subst hU; rfl
      have h3 : U 3 = u 3 := hS.2.1
      refine z_aload_n (q := 27) dX8_simulate_26 rfl rfl ?_
      refine z_get (q := 30) dX8_simulate_27 zfX8_16 (by first | exact zpM_0 | exact zpM_a rfl | exact zpM_8) rfl rfl ?_
      refine z_iconst (q := 31) dX8_simulate_30 zci_0 rfl ?_
      refine z_aload_n (q := 32) dX8_simulate_31 rfl rfl ?_
      refine z_get (q := 35) dX8_simulate_32 zfX8_19 (by first | exact zpM_0 | exact zpM_a rfl | exact zpM_8) rfl rfl ?_
      refine z_iconst (q := 36) dX8_simulate_35 zci_0 rfl ?_
      refine z_sipush (q := 39) dX8_simulate_36 zcs_264 rfl ?_
      refine z_u5 (q := 42) dX8_simulate_39 zkX8_53 zt_mX8_copy rfl (Nat.le_of_ble_eq_true rfl) (ct_M_copy (c := 3) (d := 4) rfl rfl (by decide) (by omega) (by omega)) rfl ?_
      refine z_try h3 ?_
      refine z_lload_n (q := 43) dX8_simulate_42 rfl rfl ?_
      refine z_lstore (q := 45) dX8_simulate_43 (Nat.le_of_ble_eq_true rfl) rfl rfl ?_
      refine z_iconst (q := 46) dX8_simulate_45 zci_0 rfl ?_
      refine z_istore (q := 48) dX8_simulate_46 (Nat.le_of_ble_eq_true rfl) rfl rfl ?_
      exact loop x 0 _ _ _ (by omega) (zSc_t hS (zSc_w (c := 4) (by decide)).1) hrf (zu_eq _ _ _)
    · intro hc21
      exact absurd hc21 (by decide)
