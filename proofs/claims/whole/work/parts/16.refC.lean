/-! ===== the reference: handing over, ranges, claims, work ===== -/
def qHand (f : Nat → Int32) (a b t : Nat) : Nat → Int32 :=
  qLay (qLay f (72 + 4 * (8 * a + t)) (nI 1) (nI b) (qFar f b t) (f 2 + f 3)) (72 + 4 * (8 * b + t)) (nI 1) (nI b) (qFar (qLay f (72 + 4 * (8 * a + t)) (nI 1) (nI b) (qFar f b t) (f 2 + f 3)) b t) (f 2 + f 3)
set_option maxRecDepth 100000 in
set_option maxHeartbeats 4000000 in
theorem ct_X8_handOn {g : zGl} {h : zHp} {r a b t K : Nat} {f : Nat → Int32} (ha : a < 6) (hb : b < 6) (hK : f 1 = nI K) (hK8 : K ≤ 8) (hs : qOwnTask f K a = some t) : zC g mX8_handOn [.ref r, .int (nI a), .int (nI b)] (zup h r (zI g 264 f)) (zVU (zup h r (zI g 264 (qHand f a b t))) (.int (nI t))) 0 0 := by
  have ht : t < 8 := by have := (qFst_lt hs).1; omega
  refine zC_ofA (lv := [some (.ref r), some (.int (nI a)), some (.int (nI b)), none, none]) (by decide) rfl (Nat.le_of_ble_eq_true rfl) ?_
  refine z_aload_n (q := 1) dX8_handOn_0 rfl rfl ?_
  refine z_iload_n (q := 2) dX8_handOn_1 rfl rfl ?_
  refine z_s2 (q := 5) dX8_handOn_2 zkX8_103 zt_mX8_ownTask rfl (Nat.le_of_ble_eq_true rfl) (ct_X8_ownTask (by first | assumption | exact zup_at _ _ _) (by omega) (by assumption) (by omega)) rfl ?_
  refine z_eqi (show qT (qOwnTask f K a) = nI t by rw [hs]; rfl) ?_
  refine z_istore_n (q := 6) dX8_handOn_5 (Nat.le_of_ble_eq_true rfl) rfl rfl ?_
  refine z_aload_n (q := 7) dX8_handOn_6 rfl rfl ?_
  refine z_iconst (q := 8) dX8_handOn_7 zci_2 rfl ?_
  refine z_iald (q := 9) dX8_handOn_8 (by first | assumption | exact zup_at _ _ _) (by omega) (by omega) rfl ?_
  refine z_aload_n (q := 10) dX8_handOn_9 rfl rfl ?_
  refine z_iconst (q := 11) dX8_handOn_10 zci_3 rfl ?_
  refine z_iald (q := 12) dX8_handOn_11 (by first | assumption | exact zup_at _ _ _) (by omega) (by omega) rfl ?_
  refine z_iadd (q := 13) dX8_handOn_12 rfl ?_
  refine z_istore (q := 15) dX8_handOn_13 (Nat.le_of_ble_eq_true rfl) rfl rfl ?_
  refine z_aload_n (q := 16) dX8_handOn_15 rfl rfl ?_
  refine z_iload_n (q := 17) dX8_handOn_16 rfl rfl ?_
  refine z_iload_n (q := 18) dX8_handOn_17 rfl rfl ?_
  refine z_s2 (q := 21) dX8_handOn_18 zkX8_83 zt_mX8_noteAt rfl (Nat.le_of_ble_eq_true rfl) (ct_X8_noteAt) rfl ?_
  refine z_iconst (q := 22) dX8_handOn_21 zci_1 rfl ?_
  refine z_iload_n (q := 23) dX8_handOn_22 rfl rfl ?_
  refine z_aload_n (q := 24) dX8_handOn_23 rfl rfl ?_
  refine z_iload_n (q := 25) dX8_handOn_24 rfl rfl ?_
  refine z_iload_n (q := 26) dX8_handOn_25 rfl rfl ?_
  refine z_s3 (q := 29) dX8_handOn_26 zkX8_100 zt_mX8_far rfl (Nat.le_of_ble_eq_true rfl) (ct_X8_far (by first | assumption | exact zup_at _ _ _) (by omega) (by omega)) rfl ?_
  refine z_iload (q := 31) dX8_handOn_29 rfl rfl ?_
  refine z_u6 (q := 34) dX8_handOn_31 zkX8_96 zt_mX8_lay rfl (Nat.le_of_ble_eq_true rfl) (ct_X8_lay (by omega)) rfl ?_
  refine z_aload_n (q := 35) dX8_handOn_34 rfl rfl ?_
  refine z_iload_n (q := 36) dX8_handOn_35 rfl rfl ?_
  refine z_iload_n (q := 37) dX8_handOn_36 rfl rfl ?_
  refine z_s2 (q := 40) dX8_handOn_37 zkX8_83 zt_mX8_noteAt rfl (Nat.le_of_ble_eq_true rfl) (ct_X8_noteAt) rfl ?_
  refine z_iconst (q := 41) dX8_handOn_40 zci_1 rfl ?_
  refine z_iload_n (q := 42) dX8_handOn_41 rfl rfl ?_
  refine z_aload_n (q := 43) dX8_handOn_42 rfl rfl ?_
  refine z_iload_n (q := 44) dX8_handOn_43 rfl rfl ?_
  refine z_iload_n (q := 45) dX8_handOn_44 rfl rfl ?_
  refine z_s3 (q := 48) dX8_handOn_45 zkX8_100 zt_mX8_far rfl (Nat.le_of_ble_eq_true rfl) (ct_X8_far (by first | assumption | exact zup_at _ _ _) (by omega) (by omega)) rfl ?_
  refine z_iload (q := 50) dX8_handOn_48 rfl rfl ?_
  refine z_u6 (q := 53) dX8_handOn_50 zkX8_96 zt_mX8_lay rfl (Nat.le_of_ble_eq_true rfl) (ct_X8_lay (by omega)) rfl ?_
  refine z_iload_n (q := 54) dX8_handOn_53 rfl rfl ?_
  exact z_reti dX8_handOn_54 rfl (⟨rfl, rfl⟩)
def qRng (f : Nat → Int32) (n : Nat) (x : Int32) : Nat → Int32 := qIt (fun a f => va_up f (4 + 6 * a + 2) x) f n
theorem qRng_lt {f : Nat → Int32} {n j : Nat} {x : Int32} (h : j < 4) : qRng f n x j = f j := by
  refine qIt_inv (P := fun s : Nat → Int32 => s j = f j) rfl ?_
  intro i y _ hy
  exact (zu_ne (by omega)).trans hy
set_option maxRecDepth 100000 in
set_option maxHeartbeats 4000000 in
theorem ct_X8_setRanges {g : zGl} {h : zHp} {m r n : Nat} {x : Int32} {f : Nat → Int32} (hn : f 0 = nI n) (hn6 : n ≤ 6) : zC g mX8_setRanges [.ref m, .ref r, .int x] (zup h r (zI g 264 f)) (zU (zup h r (zI g 264 (qRng f n x)))) 0 0 := by
  refine zC_ofA (lv := [some (.ref m), some (.ref r), some (.int x), none]) (by decide) rfl (Nat.le_of_ble_eq_true rfl) ?_
  have loop : ∀ d i, i + d = n → zA g (zZc g mX8_setRanges (zU (zup h r (zI g 264 (qRng f n x)))) 0 0) 0 0 2 [some (.ref m), some (.ref r), some (.int x), some (.int (nI i))] [] (zup h r (zI g 264 (qRng f i x))) := by
    intro d
    induction d using Nat.strongRecOn with
    | ind d ih =>
      intro i hi
      have hn2 : qRng f i x 0 = nI n := (qRng_lt (by omega)).trans hn
      refine z_iload_n (q := 3) dX8_setRanges_2 rfl rfl ?_
      refine z_aload_n (q := 4) dX8_setRanges_3 rfl rfl ?_
      refine z_iconst (q := 5) dX8_setRanges_4 zci_0 rfl ?_
      refine z_iald (q := 6) dX8_setRanges_5 (by first | assumption | exact zup_at _ _ _) (by omega) (by omega) rfl ?_
      refine z_eqi hn2 ?_
      refine z_icmp_geN (tg := 24) (q := 9) dX8_setRanges_6 rfl rfl (by omega) (by omega) ?_ ?_
      · intro hc6
        exact z_ret dX8_setRanges_24 rfl (⟨rfl, by rw [show i = n by omega]⟩)
      · intro hc6
        refine z_aload_n (q := 10) dX8_setRanges_9 rfl rfl ?_
        refine z_iload_n (q := 11) dX8_setRanges_10 rfl rfl ?_
        refine z_s1 (q := 14) dX8_setRanges_11 zkX8_61 zt_mX8_agentAt rfl (Nat.le_of_ble_eq_true rfl) (ct_X8_agentAt) rfl ?_
        refine z_iconst (q := 15) dX8_setRanges_14 zci_2 rfl ?_
        refine z_iaddN (q := 16) dX8_setRanges_15 rfl ?_
        refine z_iload_n (q := 17) dX8_setRanges_16 rfl rfl ?_
        refine z_iastU (q := 18) dX8_setRanges_17 (by omega) (by omega) rfl ?_
        refine z_iincN (q := 21) dX8_setRanges_18 rfl rfl rfl ?_
        refine z_goto (q := 0) (tg := 2) dX8_setRanges_21 rfl ?_
        exact ih (d - 1) (by omega) (i + 1) (by omega)
  refine z_iconst (q := 1) dX8_setRanges_0 zci_0 rfl ?_
  refine z_istore_n (q := 2) dX8_setRanges_1 (Nat.le_of_ble_eq_true rfl) rfl rfl ?_
  exact loop n 0 (by omega)
/-- the nearest of those that fit, the smallest among several -/
def qNear (p : Nat → Bool) (d : Nat → Int32) (K : Nat) : Option Nat := qIt (fun t s => if p t && (match s with
  | none => true
  | some k => !decide (d k ≤ d t)) then some t else s) none K
theorem qNear_s {p : Nat → Bool} {d : Nat → Int32} {i : Nat} : qNear p d (i + 1) = if p i && (match qNear p d i with
  | none => true
  | some k => !decide (d k ≤ d i)) then some i else qNear p d i := rfl
theorem qNear_lt {p : Nat → Bool} {d : Nat → Int32} {K k : Nat} (h : qNear p d K = some k) : k < K ∧ p k = true := by
  induction K with
  | zero => simp [qNear, qIt] at h
  | succ K ih =>
    rw [qNear_s] at h
    by_cases hp : (p K && (match qNear p d K with
      | none => true
      | some k => !decide (d k ≤ d K))) = true
    · rw [if_pos hp] at h
      cases h
      simp only [Bool.and_eq_true] at hp
      exact ⟨Nat.lt_succ_self _, hp.1⟩
    · rw [if_neg hp] at h
      obtain ⟨h1, h2⟩ := ih h
      exact ⟨Nat.lt_succ_of_lt h1, h2⟩
def qKeep (f : Nat → Int32) (a k K : Nat) : Nat → Int32 := qIt (fun t f => if qOwn f a t && !decide (t = k) then qLay f (72 + 4 * (8 * a + t)) (nI 0) (nI 0) (nI 0) (nI 0) else f) f K
theorem qKeep_lt {f : Nat → Int32} {a k K j : Nat} (h : j < 72) : qKeep f a k K j = f j := by
  refine qIt_inv (P := fun s : Nat → Int32 => s j = f j) rfl ?_
  intro i x _ hx
  split
  · exact (qLay_lt (by omega)).trans hx
  · exact hx
def qFree (f : Nat → Int32) (a : Nat) : Nat → Bool := fun t => decide (f (72 + 4 * (8 * a + t)) = 0)
def qClaim (f : Nat → Int32) (K a : Nat) : Nat → Int32 := match qNear (qOwn f a) (qFar f a) K with
  | some k => qLay (qKeep f a k K) (72 + 4 * (8 * a + k)) (nI 1) (nI a) (qFar (qKeep f a k K) a k) (f 2 + f 3)
  | none => match qNear (qFree f a) (qFar f a) K with
    | some k => qLay f (72 + 4 * (8 * a + k)) (nI 1) (nI a) (qFar f a k) (f 2 + f 3)
    | none => f
theorem qClaim_lt {f : Nat → Int32} {K a j : Nat} (h : j < 72) : qClaim f K a j = f j := by
  rcases h1 : qNear (qOwn f a) (qFar f a) K with _ | k
  · rcases h2 : qNear (qFree f a) (qFar f a) K with _ | k
    · simp only [qClaim, h1, h2]
    · simp only [qClaim, h1, h2]
      exact qLay_lt (by omega)
  · simp only [qClaim, h1]
    exact (qLay_lt (by omega)).trans (qKeep_lt h)
set_option maxRecDepth 100000 in
set_option maxHeartbeats 4000000 in
theorem ct_X8_claim {g : zGl} {h : zHp} {r a K : Nat} {f : Nat → Int32} (ha : a < 6) (hK : f 1 = nI K) (hK8 : K ≤ 8) : zC g mX8_claim [.ref r, .int (nI a)] (zup h r (zI g 264 f)) (zU (zup h r (zI g 264 (qClaim f K a)))) 0 0 := by
  refine zC_ofA (lv := [some (.ref r), some (.int (nI a)), none, none, none, none]) (by decide) rfl (Nat.le_of_ble_eq_true rfl) ?_
  have loop3 : ∀ d i (s : Option Nat), i + d = K → qNear (qOwn f a) (qFar f a) K = none → s = qNear (qFree f a) (qFar f a) i → zA g (zZc g mX8_claim (zU (zup h r (zI g 264 (qClaim f K a)))) 0 0) 0 0 146 [some (.ref r), some (.int (nI a)), some (.int (f 2 + f 3)), some (.int (-9)), some (.int (qT s)), some (.int (nI i))] [] (zup h r (zI g 264 f)) := by
    intro d
    induction d using Nat.strongRecOn with
    | ind d ih =>
      intro i s hi hno hs
      rcases s with _ | k
      · show zA g (zZc g mX8_claim (zU (zup h r (zI g 264 (qClaim f K a)))) 0 0) 0 0 146 [some (.ref r), some (.int (nI a)), some (.int (f 2 + f 3)), some (.int (-9)), some (.int (-9)), some (.int (nI i))] [] (zup h r (zI g 264 f))
        refine z_iload (q := 148) dX8_claim_146 rfl rfl ?_
        refine z_aload_n (q := 149) dX8_claim_148 rfl rfl ?_
        refine z_iconst (q := 150) dX8_claim_149 zci_1 rfl ?_
        refine z_iald (q := 151) dX8_claim_150 (by first | assumption | exact zup_at _ _ _) (by omega) (by omega) rfl ?_
        refine z_eqi hK ?_
        refine z_icmp_geN (tg := 206) (q := 154) dX8_claim_151 rfl rfl (by omega) (by omega) ?_ ?_
        · intro hc151
          refine z_iload (q := 208) dX8_claim_206 rfl rfl ?_
          refine z_bipush (q := 210) dX8_claim_208 zcb_m9 rfl ?_
          refine z_icmp_eq (tg := 233) (q := 213) dX8_claim_210 rfl rfl ?_ ?_
          · intro hc210
            exact z_ret dX8_claim_233 rfl (⟨rfl, by rw [show i = K by omega] at hs; simp [qClaim, hno, ← hs]⟩)
          · intro hc210
            exact absurd rfl hc210
        · intro hc151
          refine z_aload_n (q := 155) dX8_claim_154 rfl rfl ?_
          refine z_iload_n (q := 156) dX8_claim_155 rfl rfl ?_
          refine z_iload (q := 158) dX8_claim_156 rfl rfl ?_
          refine z_s2 (q := 161) dX8_claim_158 zkX8_83 zt_mX8_noteAt rfl (Nat.le_of_ble_eq_true rfl) (ct_X8_noteAt) rfl ?_
          refine z_iconst (q := 162) dX8_claim_161 zci_0 rfl ?_
          refine z_iadd0 (q := 163) dX8_claim_162 rfl ?_
          refine z_iald (q := 164) dX8_claim_163 (by first | assumption | exact zup_at _ _ _) (by omega) (by omega) rfl ?_
          refine z_if_ne (tg := 196) (q := 167) dX8_claim_164 rfl rfl ?_ ?_
          · intro hc164
            have e9 : none = qNear (qFree f a) (qFar f a) (i + 1) := by rw [qNear_s, ← hs]; simp [qFree, hc164]
            refine z_iload (q := 198) dX8_claim_196 rfl rfl ?_
            refine z_istore (q := 200) dX8_claim_198 (Nat.le_of_ble_eq_true rfl) rfl rfl ?_
            refine z_iincN (q := 203) dX8_claim_200 rfl rfl rfl ?_
            refine z_goto (q := 0) (tg := 146) dX8_claim_203 rfl ?_
            exact ih (d - 1) (by omega) (i + 1) _ (by omega) hno e9
          · intro hc164
            have e9 : some i = qNear (qFree f a) (qFar f a) (i + 1) := by rw [qNear_s, ← hs]; simp [qFree, hc164]
            refine z_iload (q := 169) dX8_claim_167 rfl rfl ?_
            refine z_bipush (q := 171) dX8_claim_169 zcb_m9 rfl ?_
            refine z_icmp_eq (tg := 191) (q := 174) dX8_claim_171 rfl rfl ?_ ?_
            · intro hc171
              refine z_iload (q := 193) dX8_claim_191 rfl rfl ?_
              refine z_goto (q := 0) (tg := 198) dX8_claim_193 rfl ?_
              refine z_istore (q := 200) dX8_claim_198 (Nat.le_of_ble_eq_true rfl) rfl rfl ?_
              refine z_iincN (q := 203) dX8_claim_200 rfl rfl rfl ?_
              refine z_goto (q := 0) (tg := 146) dX8_claim_203 rfl ?_
              exact ih (d - 1) (by omega) (i + 1) _ (by omega) hno e9
            · intro hc171
              exact absurd rfl hc171
      · have hk := (qNear_lt hs.symm).1
        show zA g (zZc g mX8_claim (zU (zup h r (zI g 264 (qClaim f K a)))) 0 0) 0 0 146 [some (.ref r), some (.int (nI a)), some (.int (f 2 + f 3)), some (.int (-9)), some (.int (nI k)), some (.int (nI i))] [] (zup h r (zI g 264 f))
        refine z_iload (q := 148) dX8_claim_146 rfl rfl ?_
        refine z_aload_n (q := 149) dX8_claim_148 rfl rfl ?_
        refine z_iconst (q := 150) dX8_claim_149 zci_1 rfl ?_
        refine z_iald (q := 151) dX8_claim_150 (by first | assumption | exact zup_at _ _ _) (by omega) (by omega) rfl ?_
        refine z_eqi hK ?_
        refine z_icmp_geN (tg := 206) (q := 154) dX8_claim_151 rfl rfl (by omega) (by omega) ?_ ?_
        · intro hc151
          refine z_iload (q := 208) dX8_claim_206 rfl rfl ?_
          refine z_bipush (q := 210) dX8_claim_208 zcb_m9 rfl ?_
          refine z_icmp_eq (tg := 233) (q := 213) dX8_claim_210 rfl rfl ?_ ?_
          · intro hc210
            exact absurd hc210 (nI_nm9 (by omega))
          · intro hc210
            refine z_aload_n (q := 214) dX8_claim_213 rfl rfl ?_
            refine z_iload_n (q := 215) dX8_claim_214 rfl rfl ?_
            refine z_iload (q := 217) dX8_claim_215 rfl rfl ?_
            refine z_s2 (q := 220) dX8_claim_217 zkX8_83 zt_mX8_noteAt rfl (Nat.le_of_ble_eq_true rfl) (ct_X8_noteAt) rfl ?_
            refine z_iconst (q := 221) dX8_claim_220 zci_1 rfl ?_
            refine z_iload_n (q := 222) dX8_claim_221 rfl rfl ?_
            refine z_aload_n (q := 223) dX8_claim_222 rfl rfl ?_
            refine z_iload_n (q := 224) dX8_claim_223 rfl rfl ?_
            refine z_iload (q := 226) dX8_claim_224 rfl rfl ?_
            refine z_s3 (q := 229) dX8_claim_226 zkX8_100 zt_mX8_far rfl (Nat.le_of_ble_eq_true rfl) (ct_X8_far (by first | assumption | exact zup_at _ _ _) (by omega) (by omega)) rfl ?_
            refine z_iload_n (q := 230) dX8_claim_229 rfl rfl ?_
            refine z_u6 (q := 233) dX8_claim_230 zkX8_96 zt_mX8_lay rfl (Nat.le_of_ble_eq_true rfl) (ct_X8_lay (by omega)) rfl ?_
            exact z_ret dX8_claim_233 rfl (⟨rfl, by rw [show i = K by omega] at hs; simp [qClaim, hno, ← hs]⟩)
        · intro hc151
          refine z_aload_n (q := 155) dX8_claim_154 rfl rfl ?_
          refine z_iload_n (q := 156) dX8_claim_155 rfl rfl ?_
          refine z_iload (q := 158) dX8_claim_156 rfl rfl ?_
          refine z_s2 (q := 161) dX8_claim_158 zkX8_83 zt_mX8_noteAt rfl (Nat.le_of_ble_eq_true rfl) (ct_X8_noteAt) rfl ?_
          refine z_iconst (q := 162) dX8_claim_161 zci_0 rfl ?_
          refine z_iadd0 (q := 163) dX8_claim_162 rfl ?_
          refine z_iald (q := 164) dX8_claim_163 (by first | assumption | exact zup_at _ _ _) (by omega) (by omega) rfl ?_
          refine z_if_ne (tg := 196) (q := 167) dX8_claim_164 rfl rfl ?_ ?_
          · intro hc164
            have e9 : some k = qNear (qFree f a) (qFar f a) (i + 1) := by rw [qNear_s, ← hs]; simp [qFree, hc164]
            refine z_iload (q := 198) dX8_claim_196 rfl rfl ?_
            refine z_istore (q := 200) dX8_claim_198 (Nat.le_of_ble_eq_true rfl) rfl rfl ?_
            refine z_iincN (q := 203) dX8_claim_200 rfl rfl rfl ?_
            refine z_goto (q := 0) (tg := 146) dX8_claim_203 rfl ?_
            exact ih (d - 1) (by omega) (i + 1) _ (by omega) hno e9
          · intro hc164
            refine z_iload (q := 169) dX8_claim_167 rfl rfl ?_
            refine z_bipush (q := 171) dX8_claim_169 zcb_m9 rfl ?_
            refine z_icmp_eq (tg := 191) (q := 174) dX8_claim_171 rfl rfl ?_ ?_
            · intro hc171
              exact absurd hc171 (nI_nm9 (by omega))
            · intro hc171
              refine z_aload_n (q := 175) dX8_claim_174 rfl rfl ?_
              refine z_iload_n (q := 176) dX8_claim_175 rfl rfl ?_
              refine z_iload (q := 178) dX8_claim_176 rfl rfl ?_
              refine z_s3 (q := 181) dX8_claim_178 zkX8_100 zt_mX8_far rfl (Nat.le_of_ble_eq_true rfl) (ct_X8_far (by first | assumption | exact zup_at _ _ _) (by omega) (by omega)) rfl ?_
              refine z_aload_n (q := 182) dX8_claim_181 rfl rfl ?_
              refine z_iload_n (q := 183) dX8_claim_182 rfl rfl ?_
              refine z_iload (q := 185) dX8_claim_183 rfl rfl ?_
              refine z_s3 (q := 188) dX8_claim_185 zkX8_100 zt_mX8_far rfl (Nat.le_of_ble_eq_true rfl) (ct_X8_far (by first | assumption | exact zup_at _ _ _) (by omega) (by omega)) rfl ?_
              refine z_icmp_ge (tg := 196) (q := 191) dX8_claim_188 rfl rfl ?_ ?_
              · intro hc188
                have e9 : some k = qNear (qFree f a) (qFar f a) (i + 1) := by rw [qNear_s, ← hs]; simp [qFree, hc164, hc188]
                refine z_iload (q := 198) dX8_claim_196 rfl rfl ?_
                refine z_istore (q := 200) dX8_claim_198 (Nat.le_of_ble_eq_true rfl) rfl rfl ?_
                refine z_iincN (q := 203) dX8_claim_200 rfl rfl rfl ?_
                refine z_goto (q := 0) (tg := 146) dX8_claim_203 rfl ?_
                exact ih (d - 1) (by omega) (i + 1) _ (by omega) hno e9
              · intro hc188
                have e9 : some i = qNear (qFree f a) (qFar f a) (i + 1) := by rw [qNear_s, ← hs]; simp [qFree, hc164, hc188]
                refine z_iload (q := 193) dX8_claim_191 rfl rfl ?_
                refine z_goto (q := 0) (tg := 198) dX8_claim_193 rfl ?_
                refine z_istore (q := 200) dX8_claim_198 (Nat.le_of_ble_eq_true rfl) rfl rfl ?_
                refine z_iincN (q := 203) dX8_claim_200 rfl rfl rfl ?_
                refine z_goto (q := 0) (tg := 146) dX8_claim_203 rfl ?_
                exact ih (d - 1) (by omega) (i + 1) _ (by omega) hno e9
  have loop2 : ∀ d i k, i + d = K → k < K → qNear (qOwn f a) (qFar f a) K = some k → zA g (zZc g mX8_claim (zU (zup h r (zI g 264 (qClaim f K a)))) 0 0) 0 0 76 [some (.ref r), some (.int (nI a)), some (.int (f 2 + f 3)), some (.int (nI k)), some (.int (nI i)), none] [] (zup h r (zI g 264 (qKeep f a k i))) := by
    intro d
    induction d using Nat.strongRecOn with
    | ind d ih =>
      intro i k hi hk hs
      have hK2 : qKeep f a k i 1 = nI K := (qKeep_lt (by omega)).trans hK
      refine z_iload (q := 78) dX8_claim_76 rfl rfl ?_
      refine z_aload_n (q := 79) dX8_claim_78 rfl rfl ?_
      refine z_iconst (q := 80) dX8_claim_79 zci_1 rfl ?_
      refine z_iald (q := 81) dX8_claim_80 (by first | assumption | exact zup_at _ _ _) (by omega) (by omega) rfl ?_
      refine z_eqi hK2 ?_
      refine z_icmp_geN (tg := 120) (q := 84) dX8_claim_81 rfl rfl (by omega) (by omega) ?_ ?_
      · intro hc81
        refine z_aload_n (q := 121) dX8_claim_120 rfl rfl ?_
        refine z_iload_n (q := 122) dX8_claim_121 rfl rfl ?_
        refine z_iload_n (q := 123) dX8_claim_122 rfl rfl ?_
        refine z_s2 (q := 126) dX8_claim_123 zkX8_83 zt_mX8_noteAt rfl (Nat.le_of_ble_eq_true rfl) (ct_X8_noteAt) rfl ?_
        refine z_iconst (q := 127) dX8_claim_126 zci_1 rfl ?_
        refine z_iload_n (q := 128) dX8_claim_127 rfl rfl ?_
        refine z_aload_n (q := 129) dX8_claim_128 rfl rfl ?_
        refine z_iload_n (q := 130) dX8_claim_129 rfl rfl ?_
        refine z_iload_n (q := 131) dX8_claim_130 rfl rfl ?_
        refine z_s3 (q := 134) dX8_claim_131 zkX8_100 zt_mX8_far rfl (Nat.le_of_ble_eq_true rfl) (ct_X8_far (by first | assumption | exact zup_at _ _ _) (by omega) (by omega)) rfl ?_
        refine z_iload_n (q := 135) dX8_claim_134 rfl rfl ?_
        refine z_u6 (q := 138) dX8_claim_135 zkX8_96 zt_mX8_lay rfl (Nat.le_of_ble_eq_true rfl) (ct_X8_lay (by omega)) rfl ?_
        exact z_ret dX8_claim_138 rfl (⟨rfl, by rw [show i = K by omega]; simp [qClaim, hs]⟩)
      · intro hc81
        refine z_aload_n (q := 85) dX8_claim_84 rfl rfl ?_
        refine z_iload_n (q := 86) dX8_claim_85 rfl rfl ?_
        refine z_iload (q := 88) dX8_claim_86 rfl rfl ?_
        refine z_s3 (q := 91) dX8_claim_88 zkX8_87 zt_mX8_isOwn rfl (Nat.le_of_ble_eq_true rfl) (ct_X8_isOwn (by first | assumption | exact zup_at _ _ _) (by omega) (by omega)) rfl ?_
        refine z_ifb_eq (tg := 114) (q := 94) dX8_claim_91 rfl rfl ?_ ?_
        · intro hc91
          have e9 : qKeep f a k (i + 1) = qKeep f a k i := by rw [qKeep, qIt, ← qKeep]; simp [hc91]
          refine z_iincN (q := 117) dX8_claim_114 rfl rfl rfl ?_
          refine z_goto (q := 0) (tg := 76) dX8_claim_117 rfl ?_
          have hl := ih (d - 1) (by omega) (i + 1) k (by omega) hk hs
          rw [e9] at hl
          exact hl
        · intro hc91
          refine z_iload (q := 96) dX8_claim_94 rfl rfl ?_
          refine z_iload_n (q := 97) dX8_claim_96 rfl rfl ?_
          refine z_icmp_eqN (tg := 114) (q := 100) dX8_claim_97 rfl rfl (by omega) (by omega) ?_ ?_
          · intro hc97
            have e9 : qKeep f a k (i + 1) = qKeep f a k i := by rw [qKeep, qIt, ← qKeep]; simp [hc97]
            refine z_iincN (q := 117) dX8_claim_114 rfl rfl rfl ?_
            refine z_goto (q := 0) (tg := 76) dX8_claim_117 rfl ?_
            have hl := ih (d - 1) (by omega) (i + 1) k (by omega) hk hs
            rw [e9] at hl
            exact hl
          · intro hc97
            have e9 : qKeep f a k (i + 1) = qLay (qKeep f a k i) (72 + 4 * (8 * a + i)) (nI 0) (nI 0) (nI 0) (nI 0) := by rw [qKeep, qIt, ← qKeep]; simp [hc91, hc97]
            refine z_aload_n (q := 101) dX8_claim_100 rfl rfl ?_
            refine z_iload_n (q := 102) dX8_claim_101 rfl rfl ?_
            refine z_iload (q := 104) dX8_claim_102 rfl rfl ?_
            refine z_s2 (q := 107) dX8_claim_104 zkX8_83 zt_mX8_noteAt rfl (Nat.le_of_ble_eq_true rfl) (ct_X8_noteAt) rfl ?_
            refine z_iconst (q := 108) dX8_claim_107 zci_0 rfl ?_
            refine z_iconst (q := 109) dX8_claim_108 zci_0 rfl ?_
            refine z_iconst (q := 110) dX8_claim_109 zci_0 rfl ?_
            refine z_iconst (q := 111) dX8_claim_110 zci_0 rfl ?_
            refine z_u6 (q := 114) dX8_claim_111 zkX8_96 zt_mX8_lay rfl (Nat.le_of_ble_eq_true rfl) (ct_X8_lay (by omega)) rfl ?_
            refine z_iincN (q := 117) dX8_claim_114 rfl rfl rfl ?_
            refine z_goto (q := 0) (tg := 76) dX8_claim_117 rfl ?_
            have hl := ih (d - 1) (by omega) (i + 1) k (by omega) hk hs
            rw [e9] at hl
            exact hl
  have loop1 : ∀ d i (s : Option Nat), i + d = K → s = qNear (qOwn f a) (qFar f a) i → zA g (zZc g mX8_claim (zU (zup h r (zI g 264 (qClaim f K a)))) 0 0) 0 0 14 [some (.ref r), some (.int (nI a)), some (.int (f 2 + f 3)), some (.int (qT s)), some (.int (nI i)), none] [] (zup h r (zI g 264 f)) := by
    intro d
    induction d using Nat.strongRecOn with
    | ind d ih =>
      intro i s hi hs
      rcases s with _ | k
      · show zA g (zZc g mX8_claim (zU (zup h r (zI g 264 (qClaim f K a)))) 0 0) 0 0 14 [some (.ref r), some (.int (nI a)), some (.int (f 2 + f 3)), some (.int (-9)), some (.int (nI i)), none] [] (zup h r (zI g 264 f))
        refine z_iload (q := 16) dX8_claim_14 rfl rfl ?_
        refine z_aload_n (q := 17) dX8_claim_16 rfl rfl ?_
        refine z_iconst (q := 18) dX8_claim_17 zci_1 rfl ?_
        refine z_iald (q := 19) dX8_claim_18 (by first | assumption | exact zup_at _ _ _) (by omega) (by omega) rfl ?_
        refine z_eqi hK ?_
        refine z_icmp_geN (tg := 67) (q := 22) dX8_claim_19 rfl rfl (by omega) (by omega) ?_ ?_
        · intro hc19
          refine z_iload_n (q := 68) dX8_claim_67 rfl rfl ?_
          refine z_bipush (q := 70) dX8_claim_68 zcb_m9 rfl ?_
          refine z_icmp_eq (tg := 139) (q := 73) dX8_claim_70 rfl rfl ?_ ?_
          · intro hc70
            refine z_bipush (q := 141) dX8_claim_139 zcb_m9 rfl ?_
            refine z_istore (q := 143) dX8_claim_141 (Nat.le_of_ble_eq_true rfl) rfl rfl ?_
            refine z_iconst (q := 144) dX8_claim_143 zci_0 rfl ?_
            refine z_istore (q := 146) dX8_claim_144 (Nat.le_of_ble_eq_true rfl) rfl rfl ?_
            exact loop3 K 0 none (by omega) (by rw [show i = K by omega] at hs; exact hs.symm) rfl
          · intro hc70
            exact absurd rfl hc70
        · intro hc19
          refine z_aload_n (q := 23) dX8_claim_22 rfl rfl ?_
          refine z_iload_n (q := 24) dX8_claim_23 rfl rfl ?_
          refine z_iload (q := 26) dX8_claim_24 rfl rfl ?_
          refine z_s3 (q := 29) dX8_claim_26 zkX8_87 zt_mX8_isOwn rfl (Nat.le_of_ble_eq_true rfl) (ct_X8_isOwn (by first | assumption | exact zup_at _ _ _) (by omega) (by omega)) rfl ?_
          refine z_ifb_eq (tg := 59) (q := 32) dX8_claim_29 rfl rfl ?_ ?_
          · intro hc29
            have e9 : none = qNear (qOwn f a) (qFar f a) (i + 1) := by rw [qNear_s, ← hs]; simp [hc29]
            refine z_iload_n (q := 60) dX8_claim_59 rfl rfl ?_
            refine z_istore_n (q := 61) dX8_claim_60 (Nat.le_of_ble_eq_true rfl) rfl rfl ?_
            refine z_iincN (q := 64) dX8_claim_61 rfl rfl rfl ?_
            refine z_goto (q := 0) (tg := 14) dX8_claim_64 rfl ?_
            exact ih (d - 1) (by omega) (i + 1) _ (by omega) e9
          · intro hc29
            have e9 : some i = qNear (qOwn f a) (qFar f a) (i + 1) := by rw [qNear_s, ← hs]; simp [hc29]
            refine z_iload_n (q := 33) dX8_claim_32 rfl rfl ?_
            refine z_bipush (q := 35) dX8_claim_33 zcb_m9 rfl ?_
            refine z_icmp_eq (tg := 54) (q := 38) dX8_claim_35 rfl rfl ?_ ?_
            · intro hc35
              refine z_iload (q := 56) dX8_claim_54 rfl rfl ?_
              refine z_goto (q := 0) (tg := 60) dX8_claim_56 rfl ?_
              refine z_istore_n (q := 61) dX8_claim_60 (Nat.le_of_ble_eq_true rfl) rfl rfl ?_
              refine z_iincN (q := 64) dX8_claim_61 rfl rfl rfl ?_
              refine z_goto (q := 0) (tg := 14) dX8_claim_64 rfl ?_
              exact ih (d - 1) (by omega) (i + 1) _ (by omega) e9
            · intro hc35
              exact absurd rfl hc35
      · have hk := (qNear_lt hs.symm).1
        show zA g (zZc g mX8_claim (zU (zup h r (zI g 264 (qClaim f K a)))) 0 0) 0 0 14 [some (.ref r), some (.int (nI a)), some (.int (f 2 + f 3)), some (.int (nI k)), some (.int (nI i)), none] [] (zup h r (zI g 264 f))
        refine z_iload (q := 16) dX8_claim_14 rfl rfl ?_
        refine z_aload_n (q := 17) dX8_claim_16 rfl rfl ?_
        refine z_iconst (q := 18) dX8_claim_17 zci_1 rfl ?_
        refine z_iald (q := 19) dX8_claim_18 (by first | assumption | exact zup_at _ _ _) (by omega) (by omega) rfl ?_
        refine z_eqi hK ?_
        refine z_icmp_geN (tg := 67) (q := 22) dX8_claim_19 rfl rfl (by omega) (by omega) ?_ ?_
        · intro hc19
          refine z_iload_n (q := 68) dX8_claim_67 rfl rfl ?_
          refine z_bipush (q := 70) dX8_claim_68 zcb_m9 rfl ?_
          refine z_icmp_eq (tg := 139) (q := 73) dX8_claim_70 rfl rfl ?_ ?_
          · intro hc70
            exact absurd hc70 (nI_nm9 (by omega))
          · intro hc70
            refine z_iconst (q := 74) dX8_claim_73 zci_0 rfl ?_
            refine z_istore (q := 76) dX8_claim_74 (Nat.le_of_ble_eq_true rfl) rfl rfl ?_
            exact loop2 K 0 k (by omega) (by omega) (by rw [show i = K by omega] at hs; exact hs.symm)
        · intro hc19
          refine z_aload_n (q := 23) dX8_claim_22 rfl rfl ?_
          refine z_iload_n (q := 24) dX8_claim_23 rfl rfl ?_
          refine z_iload (q := 26) dX8_claim_24 rfl rfl ?_
          refine z_s3 (q := 29) dX8_claim_26 zkX8_87 zt_mX8_isOwn rfl (Nat.le_of_ble_eq_true rfl) (ct_X8_isOwn (by first | assumption | exact zup_at _ _ _) (by omega) (by omega)) rfl ?_
          refine z_ifb_eq (tg := 59) (q := 32) dX8_claim_29 rfl rfl ?_ ?_
          · intro hc29
            have e9 : some k = qNear (qOwn f a) (qFar f a) (i + 1) := by rw [qNear_s, ← hs]; simp [hc29]
            refine z_iload_n (q := 60) dX8_claim_59 rfl rfl ?_
            refine z_istore_n (q := 61) dX8_claim_60 (Nat.le_of_ble_eq_true rfl) rfl rfl ?_
            refine z_iincN (q := 64) dX8_claim_61 rfl rfl rfl ?_
            refine z_goto (q := 0) (tg := 14) dX8_claim_64 rfl ?_
            exact ih (d - 1) (by omega) (i + 1) _ (by omega) e9
          · intro hc29
            refine z_iload_n (q := 33) dX8_claim_32 rfl rfl ?_
            refine z_bipush (q := 35) dX8_claim_33 zcb_m9 rfl ?_
            refine z_icmp_eq (tg := 54) (q := 38) dX8_claim_35 rfl rfl ?_ ?_
            · intro hc35
              exact absurd hc35 (nI_nm9 (by omega))
            · intro hc35
              refine z_aload_n (q := 39) dX8_claim_38 rfl rfl ?_
              refine z_iload_n (q := 40) dX8_claim_39 rfl rfl ?_
              refine z_iload (q := 42) dX8_claim_40 rfl rfl ?_
              refine z_s3 (q := 45) dX8_claim_42 zkX8_100 zt_mX8_far rfl (Nat.le_of_ble_eq_true rfl) (ct_X8_far (by first | assumption | exact zup_at _ _ _) (by omega) (by omega)) rfl ?_
              refine z_aload_n (q := 46) dX8_claim_45 rfl rfl ?_
              refine z_iload_n (q := 47) dX8_claim_46 rfl rfl ?_
              refine z_iload_n (q := 48) dX8_claim_47 rfl rfl ?_
              refine z_s3 (q := 51) dX8_claim_48 zkX8_100 zt_mX8_far rfl (Nat.le_of_ble_eq_true rfl) (ct_X8_far (by first | assumption | exact zup_at _ _ _) (by omega) (by omega)) rfl ?_
              refine z_icmp_ge (tg := 59) (q := 54) dX8_claim_51 rfl rfl ?_ ?_
              · intro hc51
                have e9 : some k = qNear (qOwn f a) (qFar f a) (i + 1) := by rw [qNear_s, ← hs]; simp [hc29, hc51]
                refine z_iload_n (q := 60) dX8_claim_59 rfl rfl ?_
                refine z_istore_n (q := 61) dX8_claim_60 (Nat.le_of_ble_eq_true rfl) rfl rfl ?_
                refine z_iincN (q := 64) dX8_claim_61 rfl rfl rfl ?_
                refine z_goto (q := 0) (tg := 14) dX8_claim_64 rfl ?_
                exact ih (d - 1) (by omega) (i + 1) _ (by omega) e9
              · intro hc51
                have e9 : some i = qNear (qOwn f a) (qFar f a) (i + 1) := by rw [qNear_s, ← hs]; simp [hc29, hc51]
                refine z_iload (q := 56) dX8_claim_54 rfl rfl ?_
                refine z_goto (q := 0) (tg := 60) dX8_claim_56 rfl ?_
                refine z_istore_n (q := 61) dX8_claim_60 (Nat.le_of_ble_eq_true rfl) rfl rfl ?_
                refine z_iincN (q := 64) dX8_claim_61 rfl rfl rfl ?_
                refine z_goto (q := 0) (tg := 14) dX8_claim_64 rfl ?_
                exact ih (d - 1) (by omega) (i + 1) _ (by omega) e9
  refine z_aload_n (q := 1) dX8_claim_0 rfl rfl ?_
  refine z_iconst (q := 2) dX8_claim_1 zci_2 rfl ?_
  refine z_iald (q := 3) dX8_claim_2 (by first | assumption | exact zup_at _ _ _) (by omega) (by omega) rfl ?_
  refine z_aload_n (q := 4) dX8_claim_3 rfl rfl ?_
  refine z_iconst (q := 5) dX8_claim_4 zci_3 rfl ?_
  refine z_iald (q := 6) dX8_claim_5 (by first | assumption | exact zup_at _ _ _) (by omega) (by omega) rfl ?_
  refine z_iadd (q := 7) dX8_claim_6 rfl ?_
  refine z_istore_n (q := 8) dX8_claim_7 (Nat.le_of_ble_eq_true rfl) rfl rfl ?_
  refine z_bipush (q := 10) dX8_claim_8 zcb_m9 rfl ?_
  refine z_istore_n (q := 11) dX8_claim_10 (Nat.le_of_ble_eq_true rfl) rfl rfl ?_
  refine z_iconst (q := 12) dX8_claim_11 zci_0 rfl ?_
  refine z_istore (q := 14) dX8_claim_12 (Nat.le_of_ble_eq_true rfl) rfl rfl ?_
  exact loop1 K 0 none (by omega) rfl
def qGo (f : Nat → Int32) (a t : Nat) : Nat → Int32 :=
  if f (4 + 6 * a) = f (40 + 4 * t) then va_up (va_up f (4 + 6 * a + 1) (f (4 + 6 * a + 1) + (if f (40 + 4 * t + 1) ≤ f (4 + 6 * a + 1) then -1 else nI 1))) (4 + 6 * a + 4) (va_up f (4 + 6 * a + 1) (f (4 + 6 * a + 1) + (if f (40 + 4 * t + 1) ≤ f (4 + 6 * a + 1) then -1 else nI 1)) (4 + 6 * a + 4) + nI 1)
  else va_up (va_up f (4 + 6 * a) (f (4 + 6 * a) + (if f (40 + 4 * t) ≤ f (4 + 6 * a) then -1 else nI 1))) (4 + 6 * a + 4) (va_up f (4 + 6 * a) (f (4 + 6 * a) + (if f (40 + 4 * t) ≤ f (4 + 6 * a) then -1 else nI 1)) (4 + 6 * a + 4) + nI 1)
def qDo (f : Nat → Int32) (a t : Nat) : Nat → Int32 := if qDone f t then va_up f (4 + 6 * a + 5) (f (4 + 6 * a + 5) + nI 1) else va_up f (40 + 4 * t + 3) (f (40 + 4 * t + 3) + nI 1)
def qWork (f : Nat → Int32) (K a : Nat) : Nat → Int32 := match qOwnTask f K a with
  | none => f
  | some t => if qFar f a t ≤ 0 then (if qDone (qDo f a t) t then qLay (qDo f a t) (72 + 4 * (8 * a + t)) (nI 2) (nI 0) (nI 0) (nI 0) else qDo f a t) else qGo f a t
theorem qDo_lt {f : Nat → Int32} {a t j : Nat} (h : j < 4) : qDo f a t j = f j := by
  unfold qDo
  split <;> exact zu_ne (by omega)
theorem qGo_lt {f : Nat → Int32} {a t j : Nat} (h : j < 4) : qGo f a t j = f j := by
  unfold qGo
  split <;> exact (zu_ne (by omega)).trans (zu_ne (by omega))
theorem qWork_lt {f : Nat → Int32} {K a j : Nat} (h : j < 4) : qWork f K a j = f j := by
  rcases h1 : qOwnTask f K a with _ | t
  · simp only [qWork, h1]
  · simp only [qWork, h1]
    split
    · split
      · exact (qLay_lt (by omega)).trans (qDo_lt h)
      · exact qDo_lt h
    · exact qGo_lt h
set_option maxRecDepth 100000 in
set_option maxHeartbeats 4000000 in
theorem ct_X8_work {g : zGl} {h : zHp} {r a K : Nat} {f : Nat → Int32} (ha : a < 6) (hK : f 1 = nI K) (hK8 : K ≤ 8) : zC g mX8_work [.ref r, .int (nI a)] (zup h r (zI g 264 f)) (zU (zup h r (zI g 264 (qWork f K a)))) 0 0 := by
  refine zC_ofA (lv := [some (.ref r), some (.int (nI a)), none, none, none, none]) (by decide) rfl (Nat.le_of_ble_eq_true rfl) ?_
  rcases hs : qOwnTask f K a with _ | t
  · have hq : qWork f K a = f := by simp [qWork, hs]
    rw [hq]
    refine z_aload_n (q := 1) dX8_work_0 rfl rfl ?_
    refine z_iload_n (q := 2) dX8_work_1 rfl rfl ?_
    refine z_s2 (q := 5) dX8_work_2 zkX8_103 zt_mX8_ownTask rfl (Nat.le_of_ble_eq_true rfl) (ct_X8_ownTask (by first | assumption | exact zup_at _ _ _) (by omega) (by assumption) (by omega)) rfl ?_
    refine z_eqi (show qT (qOwnTask f K a) = -9 by rw [hs]; rfl) ?_
    refine z_istore_n (q := 6) dX8_work_5 (Nat.le_of_ble_eq_true rfl) rfl rfl ?_
    refine z_iload_n (q := 7) dX8_work_6 rfl rfl ?_
    refine z_bipush (q := 9) dX8_work_7 zcb_m9 rfl ?_
    refine z_icmp_ne (tg := 13) (q := 12) dX8_work_9 rfl rfl ?_ ?_
    · intro hc9
      exact absurd rfl hc9
    · intro hc9
      exact z_ret dX8_work_12 rfl (⟨rfl, rfl⟩)
  · have ht : t < 8 := by have := (qFst_lt hs).1; omega
    refine z_aload_n (q := 1) dX8_work_0 rfl rfl ?_
    refine z_iload_n (q := 2) dX8_work_1 rfl rfl ?_
    refine z_s2 (q := 5) dX8_work_2 zkX8_103 zt_mX8_ownTask rfl (Nat.le_of_ble_eq_true rfl) (ct_X8_ownTask (by first | assumption | exact zup_at _ _ _) (by omega) (by assumption) (by omega)) rfl ?_
    refine z_eqi (show qT (qOwnTask f K a) = nI t by rw [hs]; rfl) ?_
    refine z_istore_n (q := 6) dX8_work_5 (Nat.le_of_ble_eq_true rfl) rfl rfl ?_
    refine z_iload_n (q := 7) dX8_work_6 rfl rfl ?_
    refine z_bipush (q := 9) dX8_work_7 zcb_m9 rfl ?_
    refine z_icmp_ne (tg := 13) (q := 12) dX8_work_9 rfl rfl ?_ ?_
    · intro hc9
      refine z_iload_n (q := 14) dX8_work_13 rfl rfl ?_
      refine z_s1 (q := 17) dX8_work_14 zkX8_61 zt_mX8_agentAt rfl (Nat.le_of_ble_eq_true rfl) (ct_X8_agentAt) rfl ?_
      refine z_istore_n (q := 18) dX8_work_17 (Nat.le_of_ble_eq_true rfl) rfl rfl ?_
      refine z_iload_n (q := 19) dX8_work_18 rfl rfl ?_
      refine z_s1 (q := 22) dX8_work_19 zkX8_65 zt_mX8_taskAt rfl (Nat.le_of_ble_eq_true rfl) (ct_X8_taskAt) rfl ?_
      refine z_istore (q := 24) dX8_work_22 (Nat.le_of_ble_eq_true rfl) rfl rfl ?_
      refine z_aload_n (q := 25) dX8_work_24 rfl rfl ?_
      refine z_iload_n (q := 26) dX8_work_25 rfl rfl ?_
      refine z_iload_n (q := 27) dX8_work_26 rfl rfl ?_
      refine z_s3 (q := 30) dX8_work_27 zkX8_100 zt_mX8_far rfl (Nat.le_of_ble_eq_true rfl) (ct_X8_far (by first | assumption | exact zup_at _ _ _) (by omega) (by omega)) rfl ?_
      refine z_if_le (tg := 94) (q := 33) dX8_work_30 rfl rfl ?_ ?_
      · intro hc30
        refine z_aload_n (q := 95) dX8_work_94 rfl rfl ?_
        refine z_iload_n (q := 96) dX8_work_95 rfl rfl ?_
        refine z_s2 (q := 99) dX8_work_96 zkX8_107 zt_mX8_isDone rfl (Nat.le_of_ble_eq_true rfl) (ct_X8_isDone (by first | assumption | exact zup_at _ _ _) (by omega)) rfl ?_
        refine z_ifb_eq (tg := 114) (q := 102) dX8_work_99 rfl rfl ?_ ?_
        · intro hc99
          have e8 : qDo f a t = va_up f (40 + 4 * t + 3) (f (40 + 4 * t + 3) + nI 1) := by simp [qDo, hc99]
          refine z_aload_n (q := 115) dX8_work_114 rfl rfl ?_
          refine z_iload (q := 117) dX8_work_115 rfl rfl ?_
          refine z_iconst (q := 118) dX8_work_117 zci_3 rfl ?_
          refine z_iaddN (q := 119) dX8_work_118 rfl ?_
          refine z_dup2 (q := 120) dX8_work_119 rfl rfl rfl ?_
          refine z_iald (q := 121) dX8_work_120 (by first | assumption | exact zup_at _ _ _) (by omega) (by omega) rfl ?_
          refine z_iconst (q := 122) dX8_work_121 zci_1 rfl ?_
          refine z_iadd (q := 123) dX8_work_122 rfl ?_
          refine z_iastU (q := 124) dX8_work_123 (by omega) (by omega) rfl ?_
          rw [← e8]
          refine z_aload_n (q := 125) dX8_work_124 rfl rfl ?_
          refine z_iload_n (q := 126) dX8_work_125 rfl rfl ?_
          refine z_s2 (q := 129) dX8_work_126 zkX8_107 zt_mX8_isDone rfl (Nat.le_of_ble_eq_true rfl) (ct_X8_isDone (by first | assumption | exact zup_at _ _ _) (by omega)) rfl ?_
          refine z_ifb_eq (tg := 145) (q := 132) dX8_work_129 rfl rfl ?_ ?_
          · intro hc129
            exact z_ret dX8_work_145 rfl (⟨rfl, by simp [qWork, hs, hc30, hc129]⟩)
          · intro hc129
            refine z_aload_n (q := 133) dX8_work_132 rfl rfl ?_
            refine z_iload_n (q := 134) dX8_work_133 rfl rfl ?_
            refine z_iload_n (q := 135) dX8_work_134 rfl rfl ?_
            refine z_s2 (q := 138) dX8_work_135 zkX8_83 zt_mX8_noteAt rfl (Nat.le_of_ble_eq_true rfl) (ct_X8_noteAt) rfl ?_
            refine z_iconst (q := 139) dX8_work_138 zci_2 rfl ?_
            refine z_iconst (q := 140) dX8_work_139 zci_0 rfl ?_
            refine z_iconst (q := 141) dX8_work_140 zci_0 rfl ?_
            refine z_iconst (q := 142) dX8_work_141 zci_0 rfl ?_
            refine z_u6 (q := 145) dX8_work_142 zkX8_96 zt_mX8_lay rfl (Nat.le_of_ble_eq_true rfl) (ct_X8_lay (by omega)) rfl ?_
            exact z_ret dX8_work_145 rfl (⟨rfl, by simp [qWork, hs, hc30, hc129]⟩)
        · intro hc99
          have e8 : qDo f a t = va_up f (4 + 6 * a + 5) (f (4 + 6 * a + 5) + nI 1) := by simp [qDo, hc99]
          refine z_aload_n (q := 103) dX8_work_102 rfl rfl ?_
          refine z_iload_n (q := 104) dX8_work_103 rfl rfl ?_
          refine z_iconst (q := 105) dX8_work_104 zci_5 rfl ?_
          refine z_iaddN (q := 106) dX8_work_105 rfl ?_
          refine z_dup2 (q := 107) dX8_work_106 rfl rfl rfl ?_
          refine z_iald (q := 108) dX8_work_107 (by first | assumption | exact zup_at _ _ _) (by omega) (by omega) rfl ?_
          refine z_iconst (q := 109) dX8_work_108 zci_1 rfl ?_
          refine z_iadd (q := 110) dX8_work_109 rfl ?_
          refine z_iastU (q := 111) dX8_work_110 (by omega) (by omega) rfl ?_
          refine z_goto (q := 0) (tg := 124) dX8_work_111 rfl ?_
          rw [← e8]
          refine z_aload_n (q := 125) dX8_work_124 rfl rfl ?_
          refine z_iload_n (q := 126) dX8_work_125 rfl rfl ?_
          refine z_s2 (q := 129) dX8_work_126 zkX8_107 zt_mX8_isDone rfl (Nat.le_of_ble_eq_true rfl) (ct_X8_isDone (by first | assumption | exact zup_at _ _ _) (by omega)) rfl ?_
          refine z_ifb_eq (tg := 145) (q := 132) dX8_work_129 rfl rfl ?_ ?_
          · intro hc129
            exact z_ret dX8_work_145 rfl (⟨rfl, by simp [qWork, hs, hc30, hc129]⟩)
          · intro hc129
            refine z_aload_n (q := 133) dX8_work_132 rfl rfl ?_
            refine z_iload_n (q := 134) dX8_work_133 rfl rfl ?_
            refine z_iload_n (q := 135) dX8_work_134 rfl rfl ?_
            refine z_s2 (q := 138) dX8_work_135 zkX8_83 zt_mX8_noteAt rfl (Nat.le_of_ble_eq_true rfl) (ct_X8_noteAt) rfl ?_
            refine z_iconst (q := 139) dX8_work_138 zci_2 rfl ?_
            refine z_iconst (q := 140) dX8_work_139 zci_0 rfl ?_
            refine z_iconst (q := 141) dX8_work_140 zci_0 rfl ?_
            refine z_iconst (q := 142) dX8_work_141 zci_0 rfl ?_
            refine z_u6 (q := 145) dX8_work_142 zkX8_96 zt_mX8_lay rfl (Nat.le_of_ble_eq_true rfl) (ct_X8_lay (by omega)) rfl ?_
            exact z_ret dX8_work_145 rfl (⟨rfl, by simp [qWork, hs, hc30, hc129]⟩)
      · intro hc30
        refine z_aload_n (q := 34) dX8_work_33 rfl rfl ?_
        refine z_iload_n (q := 35) dX8_work_34 rfl rfl ?_
        refine z_iconst (q := 36) dX8_work_35 zci_0 rfl ?_
        refine z_iadd0 (q := 37) dX8_work_36 rfl ?_
        refine z_iald (q := 38) dX8_work_37 (by first | assumption | exact zup_at _ _ _) (by omega) (by omega) rfl ?_
        refine z_aload_n (q := 39) dX8_work_38 rfl rfl ?_
        refine z_iload (q := 41) dX8_work_39 rfl rfl ?_
        refine z_iconst (q := 42) dX8_work_41 zci_0 rfl ?_
        refine z_iadd0 (q := 43) dX8_work_42 rfl ?_
        refine z_iald (q := 44) dX8_work_43 (by first | assumption | exact zup_at _ _ _) (by omega) (by omega) rfl ?_
        refine z_icmp_eq (tg := 51) (q := 47) dX8_work_44 rfl rfl ?_ ?_
        · intro hc44
          refine z_iconst (q := 52) dX8_work_51 zci_1 rfl ?_
          refine z_istore (q := 54) dX8_work_52 (Nat.le_of_ble_eq_true rfl) rfl rfl ?_
          refine z_aload_n (q := 55) dX8_work_54 rfl rfl ?_
          refine z_iload_n (q := 56) dX8_work_55 rfl rfl ?_
          refine z_iload (q := 58) dX8_work_56 rfl rfl ?_
          refine z_iaddN (q := 59) dX8_work_58 rfl ?_
          refine z_dup2 (q := 60) dX8_work_59 rfl rfl rfl ?_
          refine z_iald (q := 61) dX8_work_60 (by first | assumption | exact zup_at _ _ _) (by omega) (by omega) rfl ?_
          refine z_aload_n (q := 62) dX8_work_61 rfl rfl ?_
          refine z_iload (q := 64) dX8_work_62 rfl rfl ?_
          refine z_iload (q := 66) dX8_work_64 rfl rfl ?_
          refine z_iaddN (q := 67) dX8_work_66 rfl ?_
          refine z_iald (q := 68) dX8_work_67 (by first | assumption | exact zup_at _ _ _) (by omega) (by omega) rfl ?_
          refine z_aload_n (q := 69) dX8_work_68 rfl rfl ?_
          refine z_iload_n (q := 70) dX8_work_69 rfl rfl ?_
          refine z_iload (q := 72) dX8_work_70 rfl rfl ?_
          refine z_iaddN (q := 73) dX8_work_72 rfl ?_
          refine z_iald (q := 74) dX8_work_73 (by first | assumption | exact zup_at _ _ _) (by omega) (by omega) rfl ?_
          refine z_icmp_le (tg := 81) (q := 77) dX8_work_74 rfl rfl ?_ ?_
          · intro hc74
            have e9 : qWork f K a = qGo f a t := by simp [qWork, hs, hc30]
            refine z_iconst (q := 82) dX8_work_81 zci_m1 rfl ?_
            refine z_iadd (q := 83) dX8_work_82 rfl ?_
            refine z_iastU (q := 84) dX8_work_83 (by omega) (by omega) rfl ?_
            refine z_aload_n (q := 85) dX8_work_84 rfl rfl ?_
            refine z_iload_n (q := 86) dX8_work_85 rfl rfl ?_
            refine z_iconst (q := 87) dX8_work_86 zci_4 rfl ?_
            refine z_iaddN (q := 88) dX8_work_87 rfl ?_
            refine z_dup2 (q := 89) dX8_work_88 rfl rfl rfl ?_
            refine z_iald (q := 90) dX8_work_89 (by first | assumption | exact zup_at _ _ _) (by omega) (by omega) rfl ?_
            refine z_iconst (q := 91) dX8_work_90 zci_1 rfl ?_
            refine z_iadd (q := 92) dX8_work_91 rfl ?_
            refine z_iastU (q := 93) dX8_work_92 (by omega) (by omega) rfl ?_
            exact z_ret dX8_work_93 rfl (⟨rfl, by rw [e9]; simp [qGo, hc44, hc74]⟩)
          · intro hc74
            have e9 : qWork f K a = qGo f a t := by simp [qWork, hs, hc30]
            refine z_iconst (q := 78) dX8_work_77 zci_1 rfl ?_
            refine z_goto (q := 0) (tg := 82) dX8_work_78 rfl ?_
            refine z_iadd (q := 83) dX8_work_82 rfl ?_
            refine z_iastU (q := 84) dX8_work_83 (by omega) (by omega) rfl ?_
            refine z_aload_n (q := 85) dX8_work_84 rfl rfl ?_
            refine z_iload_n (q := 86) dX8_work_85 rfl rfl ?_
            refine z_iconst (q := 87) dX8_work_86 zci_4 rfl ?_
            refine z_iaddN (q := 88) dX8_work_87 rfl ?_
            refine z_dup2 (q := 89) dX8_work_88 rfl rfl rfl ?_
            refine z_iald (q := 90) dX8_work_89 (by first | assumption | exact zup_at _ _ _) (by omega) (by omega) rfl ?_
            refine z_iconst (q := 91) dX8_work_90 zci_1 rfl ?_
            refine z_iadd (q := 92) dX8_work_91 rfl ?_
            refine z_iastU (q := 93) dX8_work_92 (by omega) (by omega) rfl ?_
            exact z_ret dX8_work_93 rfl (⟨rfl, by rw [e9]; simp [qGo, hc44, hc74]⟩)
        · intro hc44
          refine z_iconst (q := 48) dX8_work_47 zci_0 rfl ?_
          refine z_goto (q := 0) (tg := 52) dX8_work_48 rfl ?_
          refine z_istore (q := 54) dX8_work_52 (Nat.le_of_ble_eq_true rfl) rfl rfl ?_
          refine z_aload_n (q := 55) dX8_work_54 rfl rfl ?_
          refine z_iload_n (q := 56) dX8_work_55 rfl rfl ?_
          refine z_iload (q := 58) dX8_work_56 rfl rfl ?_
          refine z_iadd0 (q := 59) dX8_work_58 rfl ?_
          refine z_dup2 (q := 60) dX8_work_59 rfl rfl rfl ?_
          refine z_iald (q := 61) dX8_work_60 (by first | assumption | exact zup_at _ _ _) (by omega) (by omega) rfl ?_
          refine z_aload_n (q := 62) dX8_work_61 rfl rfl ?_
          refine z_iload (q := 64) dX8_work_62 rfl rfl ?_
          refine z_iload (q := 66) dX8_work_64 rfl rfl ?_
          refine z_iadd0 (q := 67) dX8_work_66 rfl ?_
          refine z_iald (q := 68) dX8_work_67 (by first | assumption | exact zup_at _ _ _) (by omega) (by omega) rfl ?_
          refine z_aload_n (q := 69) dX8_work_68 rfl rfl ?_
          refine z_iload_n (q := 70) dX8_work_69 rfl rfl ?_
          refine z_iload (q := 72) dX8_work_70 rfl rfl ?_
          refine z_iadd0 (q := 73) dX8_work_72 rfl ?_
          refine z_iald (q := 74) dX8_work_73 (by first | assumption | exact zup_at _ _ _) (by omega) (by omega) rfl ?_
          refine z_icmp_le (tg := 81) (q := 77) dX8_work_74 rfl rfl ?_ ?_
          · intro hc74
            have e9 : qWork f K a = qGo f a t := by simp [qWork, hs, hc30]
            refine z_iconst (q := 82) dX8_work_81 zci_m1 rfl ?_
            refine z_iadd (q := 83) dX8_work_82 rfl ?_
            refine z_iastU (q := 84) dX8_work_83 (by omega) (by omega) rfl ?_
            refine z_aload_n (q := 85) dX8_work_84 rfl rfl ?_
            refine z_iload_n (q := 86) dX8_work_85 rfl rfl ?_
            refine z_iconst (q := 87) dX8_work_86 zci_4 rfl ?_
            refine z_iaddN (q := 88) dX8_work_87 rfl ?_
            refine z_dup2 (q := 89) dX8_work_88 rfl rfl rfl ?_
            refine z_iald (q := 90) dX8_work_89 (by first | assumption | exact zup_at _ _ _) (by omega) (by omega) rfl ?_
            refine z_iconst (q := 91) dX8_work_90 zci_1 rfl ?_
            refine z_iadd (q := 92) dX8_work_91 rfl ?_
            refine z_iastU (q := 93) dX8_work_92 (by omega) (by omega) rfl ?_
            exact z_ret dX8_work_93 rfl (⟨rfl, by rw [e9]; simp [qGo, hc44, hc74]⟩)
          · intro hc74
            have e9 : qWork f K a = qGo f a t := by simp [qWork, hs, hc30]
            refine z_iconst (q := 78) dX8_work_77 zci_1 rfl ?_
            refine z_goto (q := 0) (tg := 82) dX8_work_78 rfl ?_
            refine z_iadd (q := 83) dX8_work_82 rfl ?_
            refine z_iastU (q := 84) dX8_work_83 (by omega) (by omega) rfl ?_
            refine z_aload_n (q := 85) dX8_work_84 rfl rfl ?_
            refine z_iload_n (q := 86) dX8_work_85 rfl rfl ?_
            refine z_iconst (q := 87) dX8_work_86 zci_4 rfl ?_
            refine z_iaddN (q := 88) dX8_work_87 rfl ?_
            refine z_dup2 (q := 89) dX8_work_88 rfl rfl rfl ?_
            refine z_iald (q := 90) dX8_work_89 (by first | assumption | exact zup_at _ _ _) (by omega) (by omega) rfl ?_
            refine z_iconst (q := 91) dX8_work_90 zci_1 rfl ?_
            refine z_iadd (q := 92) dX8_work_91 rfl ?_
            refine z_iastU (q := 93) dX8_work_92 (by omega) (by omega) rfl ?_
            exact z_ret dX8_work_93 rfl (⟨rfl, by rw [e9]; simp [qGo, hc44, hc74]⟩)
    · intro hc9
      exact absurd hc9 (nI_nm9 (by omega))
