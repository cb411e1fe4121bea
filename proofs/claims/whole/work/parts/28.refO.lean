/-! ===== the reference: the best share ===== -/
theorem nI_sh : ∀ c : Fin 31, ((nI c &&& 31).toBitVec.smod 32).toNat = c.1 := by decide +kernel
theorem nI_shl {c : Nat} (hc : c < 31) : nI 1 <<< (nI c &&& 31) = nI (2 ^ c) := by
  rw [pk_shlN (nI c &&& 31) c (nI_sh ⟨c, hc⟩) (by rw [Nat.one_mul]; exact Nat.pow_lt_pow_right (by decide) (by omega)), Nat.one_mul]
theorem nI_shr {M c : Nat} (hM : M < 2 ^ 31) (hc : c < 31) : nI M >>> (nI c &&& 31) = nI (M / 2 ^ c) := pk_shrN hM (nI c &&& 31) c (nI_sh ⟨c, hc⟩)
theorem nI_and (a b : Nat) : nI a &&& nI b = nI (a &&& b) := by
  apply Int32.toBitVec_inj.mp
  simp [nI, BitVec.ofNat_and]
theorem nI_or (a b : Nat) : nI a ||| nI b = nI (a ||| b) := by
  apply Int32.toBitVec_inj.mp
  simp [nI, BitVec.ofNat_or]
theorem nI_and1 (a : Nat) : nI a &&& nI 1 = nI (a % 2) := by rw [nI_and, Nat.and_one_is_mod]
theorem nI_clr {M c : Nat} (h : M.testBit c = false) : nI (M ||| 2 ^ c) &&& (nI (2 ^ c) ^^^ (-1)) = nI M := by
  apply Int32.toBitVec_inj.mp
  apply BitVec.eq_of_getLsbD_eq
  intro i hi
  have h1 : (-1 : Int32).toBitVec = BitVec.allOnes 32 := by decide
  simp only [nI, Int32.toBitVec_and, Int32.toBitVec_xor, h1, Int32.toBitVec_ofNat', BitVec.getLsbD_and, BitVec.getLsbD_xor, BitVec.getLsbD_allOnes, BitVec.getLsbD_ofNat, hi, decide_true, Bool.true_and, Nat.testBit_or, Nat.testBit_two_pow, Bool.xor_true]
  by_cases hc : c = i
  · subst hc
    simp [h]
  · simp [hc]
theorem dec_i {a : Nat} : nI (a + 1) + Int32.ofInt (-1) = nI a := by
  rw [← nI_add]
  have h : nI 1 + Int32.ofInt (-1) = 0 := by decide
  rw [Int32.add_assoc, h, Int32.add_zero]
def qGet (f : Nat → Int32) (K a c M : Nat) : Bool := qOn f a && decide (c < K) && !qDone f c && !(M.testBit c)
set_option maxRecDepth 100000 in
set_option maxHeartbeats 4000000 in
theorem ct_X8_canGet {g : zGl} {h : zHp} {m K a c M : Nat} {f : Nat → Int32} {u : Nat → Nat → Int32} (h3 : u 3 = f) (hK : f 1 = nI K) (hK8 : K ≤ 8) (ha : a < 6) (hc : c < 8) (hM : M < 256) : zC g mX8_canGet [.ref m, .int (nI a), .int (nI c), .int (nI M)] (zpM g h m u) (zV (zpM g h m u) (.int (zbi (qGet f K a c M)))) 0 0 := by
  subst h3
  have hb : M.testBit c = decide (M / 2 ^ c % 2 = 1) := Nat.testBit_eq_decide_div_mod_eq
  refine zC_ofA (lv := [some (.ref m), some (.int (nI a)), some (.int (nI c)), some (.int (nI M))]) (by decide) rfl (Nat.le_of_ble_eq_true rfl) ?_
  have hb1 : True := trivial
  have hcK : True := trivial
  refine z_aload_n (q := 1) dX8_canGet_0 rfl rfl ?_
  refine z_get (q := 4) dX8_canGet_1 zfX8_16 (by first | exact zpM_0 | exact zpM_a rfl | exact zpM_8) rfl rfl ?_
  refine z_iload_n (q := 5) dX8_canGet_4 rfl rfl ?_
  refine z_s2 (q := 8) dX8_canGet_5 zkX8_71 zt_mX8_isOn rfl (Nat.le_of_ble_eq_true rfl) (ct_X8_isOn (by first | exact zpM_0 | exact zpM_a rfl | exact zpM_8) (by omega)) rfl ?_
  refine z_ifb_eq (tg := 44) (q := 11) dX8_canGet_8 rfl rfl ?_ ?_
  · intro hc8
    refine z_iconst (q := 45) dX8_canGet_44 zci_0 rfl ?_
    exact z_retz dX8_canGet_45 rfl (by first | exact Or.inl rfl | exact Or.inr rfl) (by first | exact zVt (by simp [qGet, hc8, hb1]; done) | exact zVf (by first | (simp [qGet, hcK]; done) | (simp [qGet, hc8, hb1]; done)))
  · intro hc8
    refine z_iload_n (q := 12) dX8_canGet_11 rfl rfl ?_
    refine z_aload_n (q := 13) dX8_canGet_12 rfl rfl ?_
    refine z_get (q := 16) dX8_canGet_13 zfX8_16 (by first | exact zpM_0 | exact zpM_a rfl | exact zpM_8) rfl rfl ?_
    refine z_iconst (q := 17) dX8_canGet_16 zci_1 rfl ?_
    refine z_iald (q := 18) dX8_canGet_17 (by first | exact zpM_0 | exact zpM_a rfl | exact zpM_8) (by omega) (by omega) rfl ?_
    refine z_eqi hK ?_
    refine z_icmp_geN (tg := 44) (q := 21) dX8_canGet_18 rfl rfl (by omega) (by omega) ?_ ?_
    · intro hc18
      have hcK : ¬ c < K := by omega
      refine z_iconst (q := 45) dX8_canGet_44 zci_0 rfl ?_
      exact z_retz dX8_canGet_45 rfl (by first | exact Or.inl rfl | exact Or.inr rfl) (by first | exact zVt (by simp [qGet, hc8, hc18, hb1]; done) | exact zVf (by first | (simp [qGet, hcK]; done) | (simp [qGet, hc8, hc18, hb1]; done)))
    · intro hc18
      have hcK := hc18
      refine z_aload_n (q := 22) dX8_canGet_21 rfl rfl ?_
      refine z_get (q := 25) dX8_canGet_22 zfX8_16 (by first | exact zpM_0 | exact zpM_a rfl | exact zpM_8) rfl rfl ?_
      refine z_iload_n (q := 26) dX8_canGet_25 rfl rfl ?_
      refine z_s2 (q := 29) dX8_canGet_26 zkX8_107 zt_mX8_isDone rfl (Nat.le_of_ble_eq_true rfl) (ct_X8_isDone (by first | exact zpM_0 | exact zpM_a rfl | exact zpM_8) (by omega)) rfl ?_
      refine z_ifb_ne (tg := 44) (q := 32) dX8_canGet_29 rfl rfl ?_ ?_
      · intro hc29
        refine z_iconst (q := 45) dX8_canGet_44 zci_0 rfl ?_
        exact z_retz dX8_canGet_45 rfl (by first | exact Or.inl rfl | exact Or.inr rfl) (by first | exact zVt (by simp [qGet, hc8, hc18, hc29, hb1]; done) | exact zVf (by first | (simp [qGet, hcK]; done) | (simp [qGet, hc8, hc18, hc29, hb1]; done)))
      · intro hc29
        refine z_iload_n (q := 33) dX8_canGet_32 rfl rfl ?_
        refine z_iload_n (q := 34) dX8_canGet_33 rfl rfl ?_
        refine z_ishr (q := 35) dX8_canGet_34 rfl ?_
        refine z_eqi (nI_shr (by omega) (by omega)) ?_
        refine z_iconst (q := 36) dX8_canGet_35 zci_1 rfl ?_
        refine z_iand (q := 37) dX8_canGet_36 rfl ?_
        refine z_eqi (nI_and1 _) ?_
        refine z_if_ne (tg := 44) (q := 40) dX8_canGet_37 rfl rfl ?_ ?_
        · intro hc37
          rw [nI_z (by omega)] at hc37
          have hb1 : M.testBit c = true := by rw [hb]; simp; omega
          refine z_iconst (q := 45) dX8_canGet_44 zci_0 rfl ?_
          exact z_retz dX8_canGet_45 rfl (by first | exact Or.inl rfl | exact Or.inr rfl) (by first | exact zVt (by simp [qGet, hc8, hc18, hc29, hc37, hb1]; done) | exact zVf (by first | (simp [qGet, hcK]; done) | (simp [qGet, hc8, hc18, hc29, hc37, hb1]; done)))
        · intro hc37
          rw [nI_z (by omega)] at hc37
          have hb1 : M.testBit c = false := by rw [hb]; simp; omega
          refine z_iconst (q := 41) dX8_canGet_40 zci_1 rfl ?_
          refine z_goto (q := 0) (tg := 45) dX8_canGet_41 rfl ?_
          exact z_retz dX8_canGet_45 rfl (by first | exact Or.inl rfl | exact Or.inr rfl) (by first | exact zVt (by simp [qGet, hc8, hc18, hc29, hc37, hb1]; done) | exact zVf (by first | (simp [qGet, hcK]; done) | (simp [qGet, hc8, hc18, hc29, hc37, hb1]; done)))
/-- a share that is whole, held against the best so far -/
def qHb (B : Int32 × Int32 × (Nat → Int32)) (k : Nat) (d : Int32) (s : Nat → Int32) : Int32 × Int32 × (Nat → Int32) := if B.1 < nI k ∨ (nI k = B.1 ∧ d < B.2.1) then (nI k, d, s) else B
def qEx (f : Nat → Int32) (K : Nat) : Nat → Nat → Nat → Nat → Int32 → (Nat → Int32) → Int32 × Int32 × (Nat → Int32) → Int32 × Int32 × (Nat → Int32)
  | 0, _, _, k, d, s, B => qHb B k d s
  | e + 1, a, M, k, d, s, B => qIt (fun c B => if c = 8 then qEx f K e (a + 1) M k d (va_up s a (nI 8)) B else if qGet f K a c M then qEx f K e (a + 1) (M ||| 2 ^ c) (k + 1) (d + qFar f a c) (va_up s a (nI c)) B else B) B 9
def qSh (f : Nat → Int32) (n K : Nat) (b0 : Nat → Int32) : Int32 × Int32 × (Nat → Int32) := qEx f K n 0 0 0 (nI 0) (fun _ => -1) (-1, nI 0, b0)
def zMH (g : zGl) (h : zHp) (m : Nat) (u : Nat → Nat → Int32) (r : Int32 × Int32 × (Nat → Int32)) : Option Value → zHp → Prop := fun v h' => v = some (.int r.2.1) ∧ ∃ U, h' = zpM g h m U ∧ zSc u U ∧ U 0 0 = u 0 0 ∧ U 11 = r.2.2
set_option maxRecDepth 100000 in
set_option maxHeartbeats 4000000 in
theorem ct_X8_share {g : zGl} {h : zHp} {m n K : Nat} {u : Nat → Nat → Int32} (hn : u 3 0 = nI n) (hn6 : n ≤ 6) (hK : u 3 1 = nI K) (hK8 : K ≤ 8) : zC g mX8_share [.ref m] (zpM g h m u) (zMH g h m u (qSh (u 3) n K (u 11))) 0 0 := by
  refine zC_ofA (lv := [some (.ref m), none, none, none, none, none, none]) (by decide) rfl (Nat.le_of_ble_eq_true rfl) ?_
  have enter : ∀ e a M k d s B U, a + e = n → M < 256 → k ≤ a → (∀ j, a ≤ j → s j = -1) → zSc u U → U 0 0 = u 0 0 → U 10 = s → U 11 = B.2.2 →
      (∀ U', zSc u U' → U' 0 0 = u 0 0 → U' 10 = s → U' 11 = (qEx (u 3) K e a M k d s B).2.2 → zA g (zZc g mX8_share (zMH g h m u (qSh (u 3) n K (u 11))) 0 0) 0 0 36 [some (.ref m), some (.int (qEx (u 3) K e a M k d s B).1), some (.int (qEx (u 3) K e a M k d s B).2.1), some (.int (nI a + Int32.ofInt (-1))), some (.int (nI M)), some (.int (nI k)), some (.int d)] [] (zpM g h m U')) →
      zA g (zZc g mX8_share (zMH g h m u (qSh (u 3) n K (u 11))) 0 0) 0 0 36 [some (.ref m), some (.int B.1), some (.int B.2.1), some (.int (nI a)), some (.int (nI M)), some (.int (nI k)), some (.int d)] [] (zpM g h m U) := by
    intro e
    induction e with
    | zero =>
      intro a M k d s B U ha hM hk hs hS h00 h10 h11 kk
      have hn' : U 3 0 = nI n := by rw [hS.2.1]; exact hn
      have hT : (B.1 < nI k ∨ (nI k = B.1 ∧ d < B.2.1)) → qEx (u 3) K 0 a M k d s B = (nI k, d, s) := fun hc => if_pos hc
      have hF : ¬ (B.1 < nI k ∨ (nI k = B.1 ∧ d < B.2.1)) → qEx (u 3) K 0 a M k d s B = B := fun hc => if_neg hc
      refine z_iload_n (q := 37) dX8_share_36 rfl rfl ?_
      refine z_if_lt (tg := 275) (q := 40) dX8_share_37 rfl rfl ?_ ?_
      · intro hc37
        exact absurd hc37 (nI_pos (by omega))
      · intro hc37
        refine z_iload_n (q := 41) dX8_share_40 rfl rfl ?_
        refine z_aload_n (q := 42) dX8_share_41 rfl rfl ?_
        refine z_get (q := 45) dX8_share_42 zfX8_16 (by first | exact zpM_0 | exact zpM_a rfl | exact zpM_8) rfl rfl ?_
        refine z_iconst (q := 46) dX8_share_45 zci_0 rfl ?_
        refine z_iald (q := 47) dX8_share_46 (by first | exact zpM_0 | exact zpM_a rfl | exact zpM_8) (by omega) (by omega) rfl ?_
        refine z_eqi hn' ?_
        refine z_icmp_neN (tg := 95) (q := 50) dX8_share_47 rfl rfl (by omega) (by omega) ?_ ?_
        · intro hc47
          omega
        · intro hc47
          refine z_iload (q := 52) dX8_share_50 rfl rfl ?_
          refine z_iload_n (q := 53) dX8_share_52 rfl rfl ?_
          refine z_icmp_gt (tg := 68) (q := 56) dX8_share_53 rfl rfl ?_ ?_
          · intro hc53
            refine z_iload (q := 70) dX8_share_68 rfl rfl ?_
            refine z_istore_n (q := 71) dX8_share_70 (Nat.le_of_ble_eq_true rfl) rfl rfl ?_
            refine z_iload (q := 73) dX8_share_71 rfl rfl ?_
            refine z_istore_n (q := 74) dX8_share_73 (Nat.le_of_ble_eq_true rfl) rfl rfl ?_
            refine z_aload_n (q := 75) dX8_share_74 rfl rfl ?_
            refine z_get (q := 78) dX8_share_75 zfX8_38 (by first | exact zpM_0 | exact zpM_a rfl | exact zpM_8) rfl rfl ?_
            refine z_iconst (q := 79) dX8_share_78 zci_0 rfl ?_
            refine z_aload_n (q := 80) dX8_share_79 rfl rfl ?_
            refine z_get (q := 83) dX8_share_80 zfX8_41 (by first | exact zpM_0 | exact zpM_a rfl | exact zpM_8) rfl rfl ?_
            refine z_iconst (q := 84) dX8_share_83 zci_0 rfl ?_
            refine z_bipush (q := 86) dX8_share_84 zcb_6 rfl ?_
            refine z_u5 (q := 89) dX8_share_86 zkX8_53 zt_mX8_copy rfl (Nat.le_of_ble_eq_true rfl) (ct_M_copy (c := 10) (d := 11) rfl rfl (by decide) (by omega) (by omega)) rfl ?_
            refine z_cgM (c := 11) (N := 6) (f := s) rfl (fun j hj => by rw [zu_eq, h10]; exact cpy_all j hj) ?_
            rw [zu_up]
            refine z_iinc (q := 92) dX8_share_89 rfl rfl rfl rfl ?_
            refine z_goto (q := 0) (tg := 36) dX8_share_92 rfl ?_
            first
              | (have e9 := hT (by first | exact Or.inl hc53 | exact Or.inr ⟨hc59, hL⟩)
                 rw [e9] at kk
                 exact kk _ (zSc_t hS (zSc_w (c := 11) (by decide)).1) h00 h10 (zu_eq _ _ _))
              | (have e9 := hF (by first | exact fun h9 => h9.elim hc53 (fun h8 => hc59 h8.1) | exact fun h9 => h9.elim hc53 (fun h8 => hL h8.2))
                 rw [e9] at kk
                 exact kk _ hS h00 h10 h11)
          · intro hc53
            refine z_iload (q := 58) dX8_share_56 rfl rfl ?_
            refine z_iload_n (q := 59) dX8_share_58 rfl rfl ?_
            refine z_icmp_ne (tg := 89) (q := 62) dX8_share_59 rfl rfl ?_ ?_
            · intro hc59
              refine z_iinc (q := 92) dX8_share_89 rfl rfl rfl rfl ?_
              refine z_goto (q := 0) (tg := 36) dX8_share_92 rfl ?_
              first
                | (have e9 := hT (by first | exact Or.inl hc53 | exact Or.inr ⟨hc59, hL⟩)
                   rw [e9] at kk
                   exact kk _ (zSc_t hS (zSc_w (c := 11) (by decide)).1) h00 h10 (zu_eq _ _ _))
                | (have e9 := hF (by first | exact fun h9 => h9.elim hc53 (fun h8 => hc59 h8.1) | exact fun h9 => h9.elim hc53 (fun h8 => hL h8.2))
                   rw [e9] at kk
                   exact kk _ hS h00 h10 h11)
            · intro hc59
              refine z_iload (q := 64) dX8_share_62 rfl rfl ?_
              refine z_iload_n (q := 65) dX8_share_64 rfl rfl ?_
              refine z_icmp_ge (tg := 89) (q := 68) dX8_share_65 rfl rfl ?_ ?_
              · intro hc65
                have hL : ¬ d < B.2.1 := Int32.not_lt.mpr hc65
                refine z_iinc (q := 92) dX8_share_89 rfl rfl rfl rfl ?_
                refine z_goto (q := 0) (tg := 36) dX8_share_92 rfl ?_
                first
                  | (have e9 := hT (by first | exact Or.inl hc53 | exact Or.inr ⟨hc59, hL⟩)
                     rw [e9] at kk
                     exact kk _ (zSc_t hS (zSc_w (c := 11) (by decide)).1) h00 h10 (zu_eq _ _ _))
                  | (have e9 := hF (by first | exact fun h9 => h9.elim hc53 (fun h8 => hc59 h8.1) | exact fun h9 => h9.elim hc53 (fun h8 => hL h8.2))
                     rw [e9] at kk
                     exact kk _ hS h00 h10 h11)
              · intro hc65
                have hL : d < B.2.1 := Int32.not_le.mp hc65
                refine z_iload (q := 70) dX8_share_68 rfl rfl ?_
                refine z_istore_n (q := 71) dX8_share_70 (Nat.le_of_ble_eq_true rfl) rfl rfl ?_
                refine z_iload (q := 73) dX8_share_71 rfl rfl ?_
                refine z_istore_n (q := 74) dX8_share_73 (Nat.le_of_ble_eq_true rfl) rfl rfl ?_
                refine z_aload_n (q := 75) dX8_share_74 rfl rfl ?_
                refine z_get (q := 78) dX8_share_75 zfX8_38 (by first | exact zpM_0 | exact zpM_a rfl | exact zpM_8) rfl rfl ?_
                refine z_iconst (q := 79) dX8_share_78 zci_0 rfl ?_
                refine z_aload_n (q := 80) dX8_share_79 rfl rfl ?_
                refine z_get (q := 83) dX8_share_80 zfX8_41 (by first | exact zpM_0 | exact zpM_a rfl | exact zpM_8) rfl rfl ?_
                refine z_iconst (q := 84) dX8_share_83 zci_0 rfl ?_
                refine z_bipush (q := 86) dX8_share_84 zcb_6 rfl ?_
                refine z_u5 (q := 89) dX8_share_86 zkX8_53 zt_mX8_copy rfl (Nat.le_of_ble_eq_true rfl) (ct_M_copy (c := 10) (d := 11) rfl rfl (by decide) (by omega) (by omega)) rfl ?_
                refine z_cgM (c := 11) (N := 6) (f := s) rfl (fun j hj => by rw [zu_eq, h10]; exact cpy_all j hj) ?_
                rw [zu_up]
                refine z_iinc (q := 92) dX8_share_89 rfl rfl rfl rfl ?_
                refine z_goto (q := 0) (tg := 36) dX8_share_92 rfl ?_
                first
                  | (have e9 := hT (by first | exact Or.inl hc53 | exact Or.inr ⟨hc59, hL⟩)
                     rw [e9] at kk
                     exact kk _ (zSc_t hS (zSc_w (c := 11) (by decide)).1) h00 h10 (zu_eq _ _ _))
                  | (have e9 := hF (by first | exact fun h9 => h9.elim hc53 (fun h8 => hc59 h8.1) | exact fun h9 => h9.elim hc53 (fun h8 => hL h8.2))
                     rw [e9] at kk
                     exact kk _ hS h00 h10 h11)
    | succ e ihe =>
      intro a M k d s B0 U0 ha hM hk hs hS0 h000 h100 h110 kk
      obtain ⟨G, hG⟩ : ∃ G : Nat → Int32 × Int32 × (Nat → Int32), G = fun c => qIt (fun c B => if c = 8 then qEx (u 3) K e (a + 1) M k d (va_up s a (nI 8)) B else if qGet (u 3) K a c M then qEx (u 3) K e (a + 1) (M ||| 2 ^ c) (k + 1) (d + qFar (u 3) a c) (va_up s a (nI c)) B else B) B0 c := ⟨_, rfl⟩
      have hG9 : qEx (u 3) K (e + 1) a M k d s B0 = G 9 := by rw [hG]; rfl
      have hG0 : G 0 = B0 := by rw [hG]; rfl
      have hG8 : qEx (u 3) K e (a + 1) M k d (va_up s a (nI 8)) (G 8) = G 9 := by rw [hG]; rfl
      have hGy : ∀ c, c < 8 → qGet (u 3) K a c M = true → qEx (u 3) K e (a + 1) (M ||| 2 ^ c) (k + 1) (d + qFar (u 3) a c) (va_up s a (nI c)) (G c) = G (c + 1) := by
        intro c hc hq
        rw [hG]
        exact ((if_neg (by omega)).trans (if_pos hq)).symm
      have hGn : ∀ c, c < 8 → qGet (u 3) K a c M = false → G c = G (c + 1) := by
        intro c hc hq
        rw [hG]
        exact ((if_neg (by omega)).trans (if_neg (by rw [hq]; decide))).symm
      rw [hG9] at kk
      have scan : ∀ r c U, c + r = 9 → zSc u U → U 0 0 = u 0 0 → U 10 = va_up s a (nI c) → U 11 = (G c).2.2 → zA g (zZc g mX8_share (zMH g h m u (qSh (u 3) n K (u 11))) 0 0) 0 0 159 [some (.ref m), some (.int (G c).1), some (.int (G c).2.1), some (.int (nI a)), some (.int (nI M)), some (.int (nI k)), some (.int d)] [] (zpM g h m U) := by
        intro r
        induction r using Nat.strongRecOn with
        | ind r ih =>
          intro c U hc hS h00 h10 h11
          have hsa : U 10 a = nI c := by rw [h10, zu_eq]
          have h3 : U 3 = u 3 := hS.2.1
          have hs' : ∀ x j, a + 1 ≤ j → va_up s a (nI x) j = -1 := fun x j hj => by rw [zu_ne (by omega)]; exact hs j (by omega)
          have low : c < 8 → qGet (u 3) K a c M = true → zA g (zZc g mX8_share (zMH g h m u (qSh (u 3) n K (u 11))) 0 0) 0 0 36 [some (.ref m), some (.int (G c).1), some (.int (G c).2.1), some (.int (nI (a + 1))), some (.int (nI (M ||| 2 ^ c))), some (.int (nI (k + 1))), some (.int (d + qFar (u 3) a c))] [] (zpM g h m U) := by
            intro hc8 hq
            have hbit : M.testBit c = false := by simpa [qGet] using (Bool.and_eq_true_iff.mp hq).2
            have hM' : M ||| 2 ^ c < 256 := Nat.or_lt_two_pow (n := 8) hM (Nat.pow_lt_pow_right (a := 2) (by decide) hc8)
            have hv : qBt (nI c) 0 7 = true := qBt_i (by omega) (by omega) (by decide)
            refine ihe (a + 1) (M ||| 2 ^ c) (k + 1) (d + qFar (u 3) a c) (va_up s a (nI c)) (G c) U (by omega) hM' (by omega) (hs' c) hS h00 h10 h11 ?_
            intro V hSV hV0 hV10 hV11
            rw [hGy c hc8 hq] at hV11 ⊢
            rw [dec_i]
            have hsv : V 10 a = nI c := by rw [hV10, zu_eq]
            have hnV : V 3 0 = nI n := by rw [hSV.2.1]; exact hn
            have h3V : V 3 = u 3 := hSV.2.1
            refine z_iload_n (q := 37) dX8_share_36 rfl rfl ?_
            refine z_if_lt (tg := 275) (q := 40) dX8_share_37 rfl rfl ?_ ?_
            · intro hc37
              exact absurd hc37 (nI_pos (by omega))
            · intro hc37
              refine z_iload_n (q := 41) dX8_share_40 rfl rfl ?_
              refine z_aload_n (q := 42) dX8_share_41 rfl rfl ?_
              refine z_get (q := 45) dX8_share_42 zfX8_16 (by first | exact zpM_0 | exact zpM_a rfl | exact zpM_8) rfl rfl ?_
              refine z_iconst (q := 46) dX8_share_45 zci_0 rfl ?_
              refine z_iald (q := 47) dX8_share_46 (by first | exact zpM_0 | exact zpM_a rfl | exact zpM_8) (by omega) (by omega) rfl ?_
              refine z_eqi hnV ?_
              refine z_icmp_neN (tg := 95) (q := 50) dX8_share_47 rfl rfl (by omega) (by omega) ?_ ?_
              · intro hc47
                refine z_aload_n (q := 96) dX8_share_95 rfl rfl ?_
                refine z_get (q := 99) dX8_share_96 zfX8_38 (by first | exact zpM_0 | exact zpM_a rfl | exact zpM_8) rfl rfl ?_
                refine z_iload_n (q := 100) dX8_share_99 rfl rfl ?_
                refine z_iald (q := 101) dX8_share_100 (by first | exact zpM_0 | exact zpM_a rfl | exact zpM_8) (by omega) (by omega) rfl ?_
                refine z_eqi hsv ?_
                refine z_i2l (q := 102) dX8_share_101 rfl rfl ?_
                refine z_lconst (q := 103) (v := 0) dX8_share_102 (by decide) rfl ?_
                refine z_ldc2 (q := 106) dX8_share_103 zqX8_150 rfl ?_
                refine z_s3 (q := 109) dX8_share_106 zkX8_57 zt_mX8_in rfl (Nat.le_of_ble_eq_true rfl) (ct_X8_in) rfl ?_
                refine z_eqi ((congrArg zbi ((qIn_bt (by decide) (by decide) (by decide) (by decide)).trans hv)).trans zbi_t) ?_
                refine z_if_eq (tg := 149) (q := 112) dX8_share_109 rfl rfl ?_ ?_
                · intro hc109
                  exact absurd hc109 (by decide)
                · intro hc109
                  refine z_iload (q := 114) dX8_share_112 rfl rfl ?_
                  refine z_iconst (q := 115) dX8_share_114 zci_1 rfl ?_
                  refine z_aload_n (q := 116) dX8_share_115 rfl rfl ?_
                  refine z_get (q := 119) dX8_share_116 zfX8_38 (by first | exact zpM_0 | exact zpM_a rfl | exact zpM_8) rfl rfl ?_
                  refine z_iload_n (q := 120) dX8_share_119 rfl rfl ?_
                  refine z_iald (q := 121) dX8_share_120 (by first | exact zpM_0 | exact zpM_a rfl | exact zpM_8) (by omega) (by omega) rfl ?_
                  refine z_eqi hsv ?_
                  refine z_ishl (q := 122) dX8_share_121 rfl ?_
                  refine z_eqi (nI_shl (by omega)) ?_
                  refine z_iconst (q := 123) dX8_share_122 zci_m1 rfl ?_
                  refine z_ixor (q := 124) dX8_share_123 rfl ?_
                  refine z_iand (q := 125) dX8_share_124 rfl ?_
                  refine z_eqi (nI_clr hbit) ?_
                  refine z_istore (q := 127) dX8_share_125 (Nat.le_of_ble_eq_true rfl) rfl rfl ?_
                  refine z_iinc (q := 130) (v := nI k) dX8_share_127 rfl dec_i rfl rfl ?_
                  refine z_iload (q := 132) dX8_share_130 rfl rfl ?_
                  refine z_aload_n (q := 133) dX8_share_132 rfl rfl ?_
                  refine z_get (q := 136) dX8_share_133 zfX8_16 (by first | exact zpM_0 | exact zpM_a rfl | exact zpM_8) rfl rfl ?_
                  refine z_iload_n (q := 137) dX8_share_136 rfl rfl ?_
                  refine z_aload_n (q := 138) dX8_share_137 rfl rfl ?_
                  refine z_get (q := 141) dX8_share_138 zfX8_38 (by first | exact zpM_0 | exact zpM_a rfl | exact zpM_8) rfl rfl ?_
                  refine z_iload_n (q := 142) dX8_share_141 rfl rfl ?_
                  refine z_iald (q := 143) dX8_share_142 (by first | exact zpM_0 | exact zpM_a rfl | exact zpM_8) (by omega) (by omega) rfl ?_
                  refine z_eqi hsv ?_
                  refine z_s3 (q := 146) dX8_share_143 zkX8_100 zt_mX8_far rfl (Nat.le_of_ble_eq_true rfl) (ct_X8_far (by first | exact zpM_0 | exact zpM_a rfl | exact zpM_8) (by omega) (by omega)) rfl ?_
                  refine z_eqi (congrArg (fun f => qFar f a c) h3V) ?_
                  refine z_isub (q := 147) dX8_share_146 rfl ?_
                  refine z_eqi (Int32.add_sub_cancel _ _) ?_
                  refine z_istore (q := 149) dX8_share_147 (Nat.le_of_ble_eq_true rfl) rfl rfl ?_
                  refine z_aload_n (q := 150) dX8_share_149 rfl rfl ?_
                  refine z_get (q := 153) dX8_share_150 zfX8_38 (by first | exact zpM_0 | exact zpM_a rfl | exact zpM_8) rfl rfl ?_
                  refine z_iload_n (q := 154) dX8_share_153 rfl rfl ?_
                  refine z_dup2 (q := 155) dX8_share_154 rfl rfl rfl ?_
                  refine z_iald (q := 156) dX8_share_155 (by first | exact zpM_0 | exact zpM_a rfl | exact zpM_8) (by omega) (by omega) rfl ?_
                  refine z_eqi hsv ?_
                  refine z_iconst (q := 157) dX8_share_156 zci_1 rfl ?_
                  refine z_iaddN (q := 158) dX8_share_157 rfl ?_
                  refine z_iastM (q := 159) dX8_share_158 rfl (by omega) rfl ?_
                  exact ih (r - 1) (by omega) (c + 1) _ (by omega) (zSc_t hSV (zSc_w (c := 10) (by decide)).1) hV0 (by rw [zu_eq, hV10, zu_up]) hV11
              · intro hc47
                omega
          have top : c = 8 → zA g (zZc g mX8_share (zMH g h m u (qSh (u 3) n K (u 11))) 0 0) 0 0 36 [some (.ref m), some (.int (G c).1), some (.int (G c).2.1), some (.int (nI (a + 1))), some (.int (nI M)), some (.int (nI k)), some (.int d)] [] (zpM g h m U) := by
            intro hc8
            subst hc8
            have hv : qBt (nI 8) 0 7 = false := by decide
            refine ihe (a + 1) M k d (va_up s a (nI 8)) (G 8) U (by omega) hM (by omega) (hs' 8) hS h00 h10 h11 ?_
            intro V hSV hV0 hV10 hV11
            rw [hG8] at hV11 ⊢
            rw [dec_i]
            have hsv : V 10 a = nI 8 := by rw [hV10, zu_eq]
            have hnV : V 3 0 = nI n := by rw [hSV.2.1]; exact hn
            refine z_iload_n (q := 37) dX8_share_36 rfl rfl ?_
            refine z_if_lt (tg := 275) (q := 40) dX8_share_37 rfl rfl ?_ ?_
            · intro hc37
              exact absurd hc37 (nI_pos (by omega))
            · intro hc37
              refine z_iload_n (q := 41) dX8_share_40 rfl rfl ?_
              refine z_aload_n (q := 42) dX8_share_41 rfl rfl ?_
              refine z_get (q := 45) dX8_share_42 zfX8_16 (by first | exact zpM_0 | exact zpM_a rfl | exact zpM_8) rfl rfl ?_
              refine z_iconst (q := 46) dX8_share_45 zci_0 rfl ?_
              refine z_iald (q := 47) dX8_share_46 (by first | exact zpM_0 | exact zpM_a rfl | exact zpM_8) (by omega) (by omega) rfl ?_
              refine z_eqi hnV ?_
              refine z_icmp_neN (tg := 95) (q := 50) dX8_share_47 rfl rfl (by omega) (by omega) ?_ ?_
              · intro hc47
                refine z_aload_n (q := 96) dX8_share_95 rfl rfl ?_
                refine z_get (q := 99) dX8_share_96 zfX8_38 (by first | exact zpM_0 | exact zpM_a rfl | exact zpM_8) rfl rfl ?_
                refine z_iload_n (q := 100) dX8_share_99 rfl rfl ?_
                refine z_iald (q := 101) dX8_share_100 (by first | exact zpM_0 | exact zpM_a rfl | exact zpM_8) (by omega) (by omega) rfl ?_
                refine z_eqi hsv ?_
                refine z_i2l (q := 102) dX8_share_101 rfl rfl ?_
                refine z_lconst (q := 103) (v := 0) dX8_share_102 (by decide) rfl ?_
                refine z_ldc2 (q := 106) dX8_share_103 zqX8_150 rfl ?_
                refine z_s3 (q := 109) dX8_share_106 zkX8_57 zt_mX8_in rfl (Nat.le_of_ble_eq_true rfl) (ct_X8_in) rfl ?_
                refine z_eqi ((congrArg zbi ((qIn_bt (by decide) (by decide) (by decide) (by decide)).trans hv)).trans zbi_f) ?_
                refine z_if_eq (tg := 149) (q := 112) dX8_share_109 rfl rfl ?_ ?_
                · intro hc109
                  refine z_aload_n (q := 150) dX8_share_149 rfl rfl ?_
                  refine z_get (q := 153) dX8_share_150 zfX8_38 (by first | exact zpM_0 | exact zpM_a rfl | exact zpM_8) rfl rfl ?_
                  refine z_iload_n (q := 154) dX8_share_153 rfl rfl ?_
                  refine z_dup2 (q := 155) dX8_share_154 rfl rfl rfl ?_
                  refine z_iald (q := 156) dX8_share_155 (by first | exact zpM_0 | exact zpM_a rfl | exact zpM_8) (by omega) (by omega) rfl ?_
                  refine z_eqi hsv ?_
                  refine z_iconst (q := 157) dX8_share_156 zci_1 rfl ?_
                  refine z_iaddN (q := 158) dX8_share_157 rfl ?_
                  refine z_iastM (q := 159) dX8_share_158 rfl (by omega) rfl ?_
                  exact ih (r - 1) (by omega) 9 _ (by omega) (zSc_t hSV (zSc_w (c := 10) (by decide)).1) hV0 (by rw [zu_eq, hV10, zu_up]) hV11
                · intro hc109
                  exact absurd hc109 (by decide)
              · intro hc47
                omega
          have lo9 : c < 8 → qGet (u 3) K a c M = true → zA g (zZc g mX8_share (zMH g h m u (qSh (u 3) n K (u 11))) 0 0) 0 0 199 [some (.ref m), some (.int (G c).1), some (.int (G c).2.1), some (.int (nI a)), some (.int (nI M)), some (.int (nI k)), some (.int d)] [] (zpM g h m U) := by
            intro hc8 hq
            refine z_aload_n (q := 200) dX8_share_199 rfl rfl ?_
            refine z_get (q := 203) dX8_share_200 zfX8_38 (by first | exact zpM_0 | exact zpM_a rfl | exact zpM_8) rfl rfl ?_
            refine z_iload_n (q := 204) dX8_share_203 rfl rfl ?_
            refine z_iald (q := 205) dX8_share_204 (by first | exact zpM_0 | exact zpM_a rfl | exact zpM_8) (by omega) (by omega) rfl ?_
            refine z_eqi hsa ?_
            refine z_bipush (q := 207) dX8_share_205 zcb_8 rfl ?_
            refine z_icmp_leN (tg := 223) (q := 210) dX8_share_207 rfl rfl (by omega) (by omega) ?_ ?_
            · intro hc207
              refine z_aload_n (q := 224) dX8_share_223 rfl rfl ?_
              refine z_get (q := 227) dX8_share_224 zfX8_38 (by first | exact zpM_0 | exact zpM_a rfl | exact zpM_8) rfl rfl ?_
              refine z_iload_n (q := 228) dX8_share_227 rfl rfl ?_
              refine z_iald (q := 229) dX8_share_228 (by first | exact zpM_0 | exact zpM_a rfl | exact zpM_8) (by omega) (by omega) rfl ?_
              refine z_eqi hsa ?_
              refine z_bipush (q := 231) dX8_share_229 zcb_8 rfl ?_
              refine z_icmp_geN (tg := 269) (q := 234) dX8_share_231 rfl rfl (by omega) (by omega) ?_ ?_
              · intro hc231
                omega
              · intro hc231
                refine z_iload (q := 236) dX8_share_234 rfl rfl ?_
                refine z_iconst (q := 237) dX8_share_236 zci_1 rfl ?_
                refine z_aload_n (q := 238) dX8_share_237 rfl rfl ?_
                refine z_get (q := 241) dX8_share_238 zfX8_38 (by first | exact zpM_0 | exact zpM_a rfl | exact zpM_8) rfl rfl ?_
                refine z_iload_n (q := 242) dX8_share_241 rfl rfl ?_
                refine z_iald (q := 243) dX8_share_242 (by first | exact zpM_0 | exact zpM_a rfl | exact zpM_8) (by omega) (by omega) rfl ?_
                refine z_eqi hsa ?_
                refine z_ishl (q := 244) dX8_share_243 rfl ?_
                refine z_eqi (nI_shl (by omega)) ?_
                refine z_ior (q := 245) dX8_share_244 rfl ?_
                refine z_eqi (nI_or _ _) ?_
                refine z_istore (q := 247) dX8_share_245 (Nat.le_of_ble_eq_true rfl) rfl rfl ?_
                refine z_iincN (q := 250) dX8_share_247 rfl rfl rfl ?_
                refine z_iload (q := 252) dX8_share_250 rfl rfl ?_
                refine z_aload_n (q := 253) dX8_share_252 rfl rfl ?_
                refine z_get (q := 256) dX8_share_253 zfX8_16 (by first | exact zpM_0 | exact zpM_a rfl | exact zpM_8) rfl rfl ?_
                refine z_iload_n (q := 257) dX8_share_256 rfl rfl ?_
                refine z_aload_n (q := 258) dX8_share_257 rfl rfl ?_
                refine z_get (q := 261) dX8_share_258 zfX8_38 (by first | exact zpM_0 | exact zpM_a rfl | exact zpM_8) rfl rfl ?_
                refine z_iload_n (q := 262) dX8_share_261 rfl rfl ?_
                refine z_iald (q := 263) dX8_share_262 (by first | exact zpM_0 | exact zpM_a rfl | exact zpM_8) (by omega) (by omega) rfl ?_
                refine z_eqi hsa ?_
                refine z_s3 (q := 266) dX8_share_263 zkX8_100 zt_mX8_far rfl (Nat.le_of_ble_eq_true rfl) (ct_X8_far (by first | exact zpM_0 | exact zpM_a rfl | exact zpM_8) (by omega) (by omega)) rfl ?_
                refine z_eqi (congrArg (fun f => qFar f a c) h3) ?_
                refine z_iadd (q := 267) dX8_share_266 rfl ?_
                refine z_istore (q := 269) dX8_share_267 (Nat.le_of_ble_eq_true rfl) rfl rfl ?_
                refine z_iincN (q := 272) dX8_share_269 rfl rfl rfl ?_
                refine z_goto (q := 0) (tg := 36) dX8_share_272 rfl ?_
                exact low hc8 hq
            · intro hc207
              omega
          have hi9 : 8 ≤ c → zA g (zZc g mX8_share (zMH g h m u (qSh (u 3) n K (u 11))) 0 0) 0 0 199 [some (.ref m), some (.int (G c).1), some (.int (G c).2.1), some (.int (nI a)), some (.int (nI M)), some (.int (nI k)), some (.int d)] [] (zpM g h m U) := by
            intro hc8
            refine z_aload_n (q := 200) dX8_share_199 rfl rfl ?_
            refine z_get (q := 203) dX8_share_200 zfX8_38 (by first | exact zpM_0 | exact zpM_a rfl | exact zpM_8) rfl rfl ?_
            refine z_iload_n (q := 204) dX8_share_203 rfl rfl ?_
            refine z_iald (q := 205) dX8_share_204 (by first | exact zpM_0 | exact zpM_a rfl | exact zpM_8) (by omega) (by omega) rfl ?_
            refine z_eqi hsa ?_
            refine z_bipush (q := 207) dX8_share_205 zcb_8 rfl ?_
            refine z_icmp_leN (tg := 223) (q := 210) dX8_share_207 rfl rfl (by omega) (by omega) ?_ ?_
            · intro hc207
              refine z_aload_n (q := 224) dX8_share_223 rfl rfl ?_
              refine z_get (q := 227) dX8_share_224 zfX8_38 (by first | exact zpM_0 | exact zpM_a rfl | exact zpM_8) rfl rfl ?_
              refine z_iload_n (q := 228) dX8_share_227 rfl rfl ?_
              refine z_iald (q := 229) dX8_share_228 (by first | exact zpM_0 | exact zpM_a rfl | exact zpM_8) (by omega) (by omega) rfl ?_
              refine z_eqi hsa ?_
              refine z_bipush (q := 231) dX8_share_229 zcb_8 rfl ?_
              refine z_icmp_geN (tg := 269) (q := 234) dX8_share_231 rfl rfl (by omega) (by omega) ?_ ?_
              · intro hc231
                refine z_iincN (q := 272) dX8_share_269 rfl rfl rfl ?_
                refine z_goto (q := 0) (tg := 36) dX8_share_272 rfl ?_
                exact top (by omega)
              · intro hc231
                omega
            · intro hc207
              refine z_aload_n (q := 211) dX8_share_210 rfl rfl ?_
              refine z_get (q := 214) dX8_share_211 zfX8_38 (by first | exact zpM_0 | exact zpM_a rfl | exact zpM_8) rfl rfl ?_
              refine z_iload_n (q := 215) dX8_share_214 rfl rfl ?_
              refine z_iconst (q := 216) dX8_share_215 zci_m1 rfl ?_
              refine z_iastM (q := 217) dX8_share_216 rfl (by omega) rfl ?_
              refine z_iinc (q := 220) dX8_share_217 rfl rfl rfl rfl ?_
              refine z_goto (q := 0) (tg := 36) dX8_share_220 rfl ?_
              obtain rfl : c = 9 := by omega
              refine kk _ (zSc_t hS (zSc_w (c := 10) (by decide)).1) h00 ?_ h11
              rw [zu_eq, h10, zu_up]
              funext j
              by_cases hj : j = a
              · subst hj
                rw [zu_eq, hs _ (Nat.le_refl _)]
              · rw [zu_ne hj]
          refine z_aload_n (q := 160) dX8_share_159 rfl rfl ?_
          refine z_get (q := 163) dX8_share_160 zfX8_38 (by first | exact zpM_0 | exact zpM_a rfl | exact zpM_8) rfl rfl ?_
          refine z_iload_n (q := 164) dX8_share_163 rfl rfl ?_
          refine z_iald (q := 165) dX8_share_164 (by first | exact zpM_0 | exact zpM_a rfl | exact zpM_8) (by omega) (by omega) rfl ?_
          refine z_eqi hsa ?_
          refine z_bipush (q := 167) dX8_share_165 zcb_8 rfl ?_
          refine z_icmp_geN (tg := 199) (q := 170) dX8_share_167 rfl rfl (by omega) (by omega) ?_ ?_
          · intro hc167
            first
              | exact hi9 (by omega)
              | exact lo9 (by omega) hc183
          · intro hc167
            refine z_aload_n (q := 171) dX8_share_170 rfl rfl ?_
            refine z_iload_n (q := 172) dX8_share_171 rfl rfl ?_
            refine z_aload_n (q := 173) dX8_share_172 rfl rfl ?_
            refine z_get (q := 176) dX8_share_173 zfX8_38 (by first | exact zpM_0 | exact zpM_a rfl | exact zpM_8) rfl rfl ?_
            refine z_iload_n (q := 177) dX8_share_176 rfl rfl ?_
            refine z_iald (q := 178) dX8_share_177 (by first | exact zpM_0 | exact zpM_a rfl | exact zpM_8) (by omega) (by omega) rfl ?_
            refine z_eqi hsa ?_
            refine z_iload (q := 180) dX8_share_178 rfl rfl ?_
            refine z_v3 (q := 183) dX8_share_180 zkX8_224 zt_mX8_canGet rfl (by first | exact zpM_0 | exact zpM_a rfl | exact zpM_8) rfl (Nat.le_of_ble_eq_true rfl) (ct_X8_canGet h3 hK hK8 (by omega) (by omega) hM) rfl ?_
            refine z_ifb_ne (tg := 199) (q := 186) dX8_share_183 rfl rfl ?_ ?_
            · intro hc183
              first
                | exact hi9 (by omega)
                | exact lo9 (by omega) hc183
            · intro hc183
              refine z_aload_n (q := 187) dX8_share_186 rfl rfl ?_
              refine z_get (q := 190) dX8_share_187 zfX8_38 (by first | exact zpM_0 | exact zpM_a rfl | exact zpM_8) rfl rfl ?_
              refine z_iload_n (q := 191) dX8_share_190 rfl rfl ?_
              refine z_dup2 (q := 192) dX8_share_191 rfl rfl rfl ?_
              refine z_iald (q := 193) dX8_share_192 (by first | exact zpM_0 | exact zpM_a rfl | exact zpM_8) (by omega) (by omega) rfl ?_
              refine z_eqi hsa ?_
              refine z_iconst (q := 194) dX8_share_193 zci_1 rfl ?_
              refine z_iaddN (q := 195) dX8_share_194 rfl ?_
              refine z_iastM (q := 196) dX8_share_195 rfl (by omega) rfl ?_
              refine z_goto (q := 0) (tg := 159) dX8_share_196 rfl ?_
              rw [hGn c (by omega) hc183]
              exact ih (r - 1) (by omega) (c + 1) _ (by omega) (zSc_t hS (zSc_w (c := 10) (by decide)).1) h00 (by rw [zu_eq, h10, zu_up]) (by rw [← hGn c (by omega) hc183]; exact h11)
      have hv : qBt (-1) 0 7 = false := by decide
      have hsv : U0 10 a = -1 := by rw [h100]; exact hs a (Nat.le_refl a)
      have hnV : U0 3 0 = nI n := by rw [hS0.2.1]; exact hn
      rw [← hG0] at h110 ⊢
      refine z_iload_n (q := 37) dX8_share_36 rfl rfl ?_
      refine z_if_lt (tg := 275) (q := 40) dX8_share_37 rfl rfl ?_ ?_
      · intro hc37
        exact absurd hc37 (nI_pos (by omega))
      · intro hc37
        refine z_iload_n (q := 41) dX8_share_40 rfl rfl ?_
        refine z_aload_n (q := 42) dX8_share_41 rfl rfl ?_
        refine z_get (q := 45) dX8_share_42 zfX8_16 (by first | exact zpM_0 | exact zpM_a rfl | exact zpM_8) rfl rfl ?_
        refine z_iconst (q := 46) dX8_share_45 zci_0 rfl ?_
        refine z_iald (q := 47) dX8_share_46 (by first | exact zpM_0 | exact zpM_a rfl | exact zpM_8) (by omega) (by omega) rfl ?_
        refine z_eqi hnV ?_
        refine z_icmp_neN (tg := 95) (q := 50) dX8_share_47 rfl rfl (by omega) (by omega) ?_ ?_
        · intro hc47
          refine z_aload_n (q := 96) dX8_share_95 rfl rfl ?_
          refine z_get (q := 99) dX8_share_96 zfX8_38 (by first | exact zpM_0 | exact zpM_a rfl | exact zpM_8) rfl rfl ?_
          refine z_iload_n (q := 100) dX8_share_99 rfl rfl ?_
          refine z_iald (q := 101) dX8_share_100 (by first | exact zpM_0 | exact zpM_a rfl | exact zpM_8) (by omega) (by omega) rfl ?_
          refine z_eqi hsv ?_
          refine z_i2l (q := 102) dX8_share_101 rfl rfl ?_
          refine z_lconst (q := 103) (v := 0) dX8_share_102 (by decide) rfl ?_
          refine z_ldc2 (q := 106) dX8_share_103 zqX8_150 rfl ?_
          refine z_s3 (q := 109) dX8_share_106 zkX8_57 zt_mX8_in rfl (Nat.le_of_ble_eq_true rfl) (ct_X8_in) rfl ?_
          refine z_eqi ((congrArg zbi ((qIn_bt (by decide) (by decide) (by decide) (by decide)).trans hv)).trans zbi_f) ?_
          refine z_if_eq (tg := 149) (q := 112) dX8_share_109 rfl rfl ?_ ?_
          · intro hc109
            refine z_aload_n (q := 150) dX8_share_149 rfl rfl ?_
            refine z_get (q := 153) dX8_share_150 zfX8_38 (by first | exact zpM_0 | exact zpM_a rfl | exact zpM_8) rfl rfl ?_
            refine z_iload_n (q := 154) dX8_share_153 rfl rfl ?_
            refine z_dup2 (q := 155) dX8_share_154 rfl rfl rfl ?_
            refine z_iald (q := 156) dX8_share_155 (by first | exact zpM_0 | exact zpM_a rfl | exact zpM_8) (by omega) (by omega) rfl ?_
            refine z_eqi hsv ?_
            refine z_iconst (q := 157) dX8_share_156 zci_1 rfl ?_
            refine z_iadd (q := 158) dX8_share_157 rfl ?_
            refine z_eqi (show (-1 : Int32) + nI 1 = nI 0 by decide) ?_
            refine z_iastM (q := 159) dX8_share_158 rfl (by omega) rfl ?_
            exact scan 9 0 _ (by omega) (zSc_t hS0 (zSc_w (c := 10) (by decide)).1) h000 (by rw [zu_eq, h100]) h110
          · intro hc109
            exact absurd hc109 (by decide)
        · intro hc47
          omega
  have fin : ∀ U', zSc u U' → U' 0 0 = u 0 0 → U' 11 = (qSh (u 3) n K (u 11)).2.2 → zA g (zZc g mX8_share (zMH g h m u (qSh (u 3) n K (u 11))) 0 0) 0 0 36 [some (.ref m), some (.int (qSh (u 3) n K (u 11)).1), some (.int (qSh (u 3) n K (u 11)).2.1), some (.int (nI 0 + Int32.ofInt (-1))), some (.int (nI 0)), some (.int (nI 0)), some (.int (nI 0))] [] (zpM g h m U') := by
    intro U hS h00 h11
    refine z_iload_n (q := 37) dX8_share_36 rfl rfl ?_
    refine z_if_lt (tg := 275) (q := 40) dX8_share_37 rfl rfl ?_ ?_
    · intro hc37
      refine z_iload_n (q := 276) dX8_share_275 rfl rfl ?_
      exact z_reti dX8_share_276 rfl (⟨rfl, U, rfl, hS, h00, h11⟩)
    · intro hc37
      exact absurd (show nI 0 + Int32.ofInt (-1) < 0 by decide) hc37
  have loop : ∀ d i U, i + d = 6 → zSc u U → U 0 0 = u 0 0 → U 11 = u 11 → (∀ j, j < i → U 10 j = -1) → zA g (zZc g mX8_share (zMH g h m u (qSh (u 3) n K (u 11))) 0 0) 0 0 6 [some (.ref m), some (.int (-1)), some (.int (nI 0)), some (.int (nI i)), none, none, none] [] (zpM g h m U) := by
    intro d
    induction d using Nat.strongRecOn with
    | ind d ih =>
      intro i U hi hS h00 h11 hj
      refine z_iload_n (q := 7) dX8_share_6 rfl rfl ?_
      refine z_bipush (q := 9) dX8_share_7 zcb_6 rfl ?_
      refine z_icmp_geN (tg := 25) (q := 12) dX8_share_9 rfl rfl (by omega) (by omega) ?_ ?_
      · intro hc9
        refine z_cgM (c := 10) (N := 6) (f := fun _ => -1) rfl (fun j hj2 => hj j (by omega)) ?_
        refine z_iconst (q := 26) dX8_share_25 zci_0 rfl ?_
        refine z_istore_n (q := 27) dX8_share_26 (Nat.le_of_ble_eq_true rfl) rfl rfl ?_
        refine z_iconst (q := 28) dX8_share_27 zci_0 rfl ?_
        refine z_istore (q := 30) dX8_share_28 (Nat.le_of_ble_eq_true rfl) rfl rfl ?_
        refine z_iconst (q := 31) dX8_share_30 zci_0 rfl ?_
        refine z_istore (q := 33) dX8_share_31 (Nat.le_of_ble_eq_true rfl) rfl rfl ?_
        refine z_iconst (q := 34) dX8_share_33 zci_0 rfl ?_
        refine z_istore (q := 36) dX8_share_34 (Nat.le_of_ble_eq_true rfl) rfl rfl ?_
        refine enter n 0 0 0 (nI 0) (fun _ => -1) (-1, nI 0, u 11) _ (by omega) (by decide) (by omega) (fun _ _ => rfl) (zSc_t hS (zSc_w (c := 10) (by decide)).1) h00 (zu_eq _ _ _) h11 ?_
        intro V hSV hV0 hV10 hV11
        refine fin V hSV hV0 hV11
      · intro hc9
        refine z_aload_n (q := 13) dX8_share_12 rfl rfl ?_
        refine z_get (q := 16) dX8_share_13 zfX8_38 (by first | exact zpM_0 | exact zpM_a rfl | exact zpM_8) rfl rfl ?_
        refine z_iload_n (q := 17) dX8_share_16 rfl rfl ?_
        refine z_iconst (q := 18) dX8_share_17 zci_m1 rfl ?_
        refine z_iastM (q := 19) dX8_share_18 rfl (by omega) rfl ?_
        refine z_iincN (q := 22) dX8_share_19 rfl rfl rfl ?_
        refine z_goto (q := 0) (tg := 6) dX8_share_22 rfl ?_
        refine ih (d - 1) (by omega) (i + 1) _ (by omega) (zSc_t hS (zSc_w (c := 10) (by decide)).1) h00 h11 (fun j hj2 => ?_)
        rw [zu_eq]
        by_cases h9 : j = i
        · subst h9
          exact zu_eq _ _ _
        · rw [zu_ne h9]
          exact hj j (by omega)
  refine z_iconst (q := 1) dX8_share_0 zci_m1 rfl ?_
  refine z_istore_n (q := 2) dX8_share_1 (Nat.le_of_ble_eq_true rfl) rfl rfl ?_
  refine z_iconst (q := 3) dX8_share_2 zci_0 rfl ?_
  refine z_istore_n (q := 4) dX8_share_3 (Nat.le_of_ble_eq_true rfl) rfl rfl ?_
  refine z_iconst (q := 5) dX8_share_4 zci_0 rfl ?_
  refine z_istore_n (q := 6) dX8_share_5 (Nat.le_of_ble_eq_true rfl) rfl rfl ?_
  exact loop 6 0 _ (by omega) zSc_r rfl rfl (fun j hj => absurd hj (Nat.not_lt_zero j))
set_option maxRecDepth 100000 in
set_option maxHeartbeats 4000000 in
theorem ct_X8_bestShare1 {g : zGl} {h : zHp} {m n : Nat} {x : Int32} {u : Nat → Nat → Int32} (hn : u 3 0 = nI n) (hn6 : n ≤ 6) (hx : ¬ x = -1) (hv : qHas x n = false) : zC g mX8_bestShare [.ref m, .int x] (zpM g h m u) (zMP g h m u (nI 1) (nI 0)) 0 0 := by
  refine zC_ofA (lv := [some (.ref m), some (.int x), none]) (by decide) rfl (Nat.le_of_ble_eq_true rfl) ?_
  refine z_aload_n (q := 1) dX8_bestShare_0 rfl rfl ?_
  refine z_iload_n (q := 2) dX8_bestShare_1 rfl rfl ?_
  refine z_iconst (q := 3) dX8_bestShare_2 zci_m1 rfl ?_
  refine z_icmp_eq (tg := 14) (q := 6) dX8_bestShare_3 rfl rfl ?_ ?_
  · intro hc3
    exact absurd hc3 hx
  · intro hc3
    refine z_aload_n (q := 7) dX8_bestShare_6 rfl rfl ?_
    refine z_iload_n (q := 8) dX8_bestShare_7 rfl rfl ?_
    refine z_v1 (q := 11) dX8_bestShare_8 zkX8_159 zt_mX8_isAgent rfl (by first | exact zpM_0 | exact zpM_a rfl | exact zpM_8) rfl (Nat.le_of_ble_eq_true rfl) (ct_X8_isAgent (by assumption) (by omega)) rfl ?_
    refine z_eqi ((congrArg zbi (hv)).trans zbi_f) ?_
    refine z_if_eq (tg := 18) (q := 14) dX8_bestShare_11 rfl rfl ?_ ?_
    · intro hc11
      refine z_iconst (q := 19) dX8_bestShare_18 zci_1 rfl ?_
      refine z_x1 (q := 22) dX8_bestShare_19 zkX8_126 zt_mX8_refused rfl (by first | exact zpM_0 | exact zpM_a rfl | exact zpM_8) rfl (Nat.le_of_ble_eq_true rfl) (ct_X8_refused) rfl ?_
      refine z_eqi (show zbi (!decide (nI 1 ≤ 0)) = nI 1 by decide) ?_
      refine z_if_eq (tg := 27) (q := 25) dX8_bestShare_22 rfl rfl ?_ ?_
      · intro hc22
        exact absurd hc22 (by decide)
      · intro hc22
        refine z_iconst (q := 26) dX8_bestShare_25 zci_0 rfl ?_
        exact z_reti dX8_bestShare_26 rfl (zMP_i rfl zSc_rf rfl)
    · intro hc11
      exact absurd hc11 (by decide)
set_option maxRecDepth 100000 in
set_option maxHeartbeats 4000000 in
theorem ct_X8_bestShare0 {g : zGl} {h : zHp} {m n K : Nat} {u : Nat → Nat → Int32} (hn : u 3 0 = nI n) (hn6 : n ≤ 6) (hK : u 3 1 = nI K) (hK8 : K ≤ 8) : zC g mX8_bestShare [.ref m, .int (-1)] (zpM g h m u) (zMP g h m u (nI 0) (qSh (u 3) n K (u 11)).2.1) 0 0 := by
  refine zC_ofA (lv := [some (.ref m), some (.int (-1)), none]) (by decide) rfl (Nat.le_of_ble_eq_true rfl) ?_
  refine z_aload_n (q := 1) dX8_bestShare_0 rfl rfl ?_
  refine z_iload_n (q := 2) dX8_bestShare_1 rfl rfl ?_
  refine z_iconst (q := 3) dX8_bestShare_2 zci_m1 rfl ?_
  refine z_icmp_eq (tg := 14) (q := 6) dX8_bestShare_3 rfl rfl ?_ ?_
  · intro hc3
    refine z_iconst (q := 15) dX8_bestShare_14 zci_0 rfl ?_
    refine z_goto (q := 0) (tg := 19) dX8_bestShare_15 rfl ?_
    refine z_x1 (q := 22) dX8_bestShare_19 zkX8_126 zt_mX8_refused rfl (by first | exact zpM_0 | exact zpM_a rfl | exact zpM_8) rfl (Nat.le_of_ble_eq_true rfl) (ct_X8_refused) rfl ?_
    refine z_eqi (show zbi (!decide (nI 0 ≤ 0)) = nI 0 by decide) ?_
    refine z_if_eq (tg := 27) (q := 25) dX8_bestShare_22 rfl rfl ?_ ?_
    · intro hc22
      refine z_aload_n (q := 28) dX8_bestShare_27 rfl rfl ?_
      refine z_V0 (q := 31) dX8_bestShare_28 zkX8_228 zt_mX8_share rfl (by first | exact zpM_0 | exact zpM_a rfl | exact zpM_8) rfl (Nat.le_of_ble_eq_true rfl) (ct_X8_share (u := va_up u 0 (va_up (u 0) 0 (nI 0))) hn hn6 hK hK8) (Nat.zero_le _) (Nat.zero_le _) rfl ?_
      rintro _ _ ⟨rfl, V, rfl, hSV, hV0, hV11⟩
      refine z_istore_n (q := 32) dX8_bestShare_31 (Nat.le_of_ble_eq_true rfl) rfl rfl ?_
      refine z_iload_n (q := 33) dX8_bestShare_32 rfl rfl ?_
      refine z_iconst (q := 34) dX8_bestShare_33 zci_m1 rfl ?_
      refine z_icmp_ne (tg := 41) (q := 37) dX8_bestShare_34 rfl rfl ?_ ?_
      · intro hc34
        exact absurd rfl hc34
      · intro hc34
        refine z_iload_n (q := 38) dX8_bestShare_37 rfl rfl ?_
        refine z_goto (q := 0) (tg := 63) dX8_bestShare_38 rfl ?_
        exact z_reti dX8_bestShare_63 rfl (zMP_i rfl (zSc_t zSc_rf hSV) hV0)
    · intro hc22
      exact absurd hc22 (by decide)
  · intro hc3
    exact absurd rfl hc3
set_option maxRecDepth 100000 in
set_option maxHeartbeats 4000000 in
theorem ct_X8_bestShare2 {g : zGl} {h : zHp} {m n K x : Nat} {u : Nat → Nat → Int32} (hn : u 3 0 = nI n) (hn6 : n ≤ 6) (hK : u 3 1 = nI K) (hK8 : K ≤ 8) (hx : x < n) : zC g mX8_bestShare [.ref m, .int (nI x)] (zpM g h m u) (zMP g h m u (nI 0) (if (qSh (u 3) n K (u 11)).2.2 x = nI 8 then -9 else (qSh (u 3) n K (u 11)).2.2 x)) 0 0 := by
  have hv : qHas (nI x) n = true := qHas_i hx (by omega)
  have hx1 : ¬ nI x = -1 := fun h9 => nI_pos (n := x) (by omega) (by rw [h9]; decide)
  refine zC_ofA (lv := [some (.ref m), some (.int (nI x)), none]) (by decide) rfl (Nat.le_of_ble_eq_true rfl) ?_
  refine z_aload_n (q := 1) dX8_bestShare_0 rfl rfl ?_
  refine z_iload_n (q := 2) dX8_bestShare_1 rfl rfl ?_
  refine z_iconst (q := 3) dX8_bestShare_2 zci_m1 rfl ?_
  refine z_icmp_eq (tg := 14) (q := 6) dX8_bestShare_3 rfl rfl ?_ ?_
  · intro hc3
    exact absurd hc3 hx1
  · intro hc3
    refine z_aload_n (q := 7) dX8_bestShare_6 rfl rfl ?_
    refine z_iload_n (q := 8) dX8_bestShare_7 rfl rfl ?_
    refine z_v1 (q := 11) dX8_bestShare_8 zkX8_159 zt_mX8_isAgent rfl (by first | exact zpM_0 | exact zpM_a rfl | exact zpM_8) rfl (Nat.le_of_ble_eq_true rfl) (ct_X8_isAgent (by assumption) (by omega)) rfl ?_
    refine z_eqi ((congrArg zbi (hv)).trans zbi_t) ?_
    refine z_if_eq (tg := 18) (q := 14) dX8_bestShare_11 rfl rfl ?_ ?_
    · intro hc11
      exact absurd hc11 (by decide)
    · intro hc11
      refine z_iconst (q := 15) dX8_bestShare_14 zci_0 rfl ?_
      refine z_goto (q := 0) (tg := 19) dX8_bestShare_15 rfl ?_
      refine z_x1 (q := 22) dX8_bestShare_19 zkX8_126 zt_mX8_refused rfl (by first | exact zpM_0 | exact zpM_a rfl | exact zpM_8) rfl (Nat.le_of_ble_eq_true rfl) (ct_X8_refused) rfl ?_
      refine z_eqi (show zbi (!decide (nI 0 ≤ 0)) = nI 0 by decide) ?_
      refine z_if_eq (tg := 27) (q := 25) dX8_bestShare_22 rfl rfl ?_ ?_
      · intro hc22
        refine z_aload_n (q := 28) dX8_bestShare_27 rfl rfl ?_
        refine z_V0 (q := 31) dX8_bestShare_28 zkX8_228 zt_mX8_share rfl (by first | exact zpM_0 | exact zpM_a rfl | exact zpM_8) rfl (Nat.le_of_ble_eq_true rfl) (ct_X8_share (u := va_up u 0 (va_up (u 0) 0 (nI 0))) hn hn6 hK hK8) (Nat.zero_le _) (Nat.zero_le _) rfl ?_
        rintro _ _ ⟨rfl, V, rfl, hSV, hV0, hV11⟩
        have hVx : V 11 x = (qSh (u 3) n K (u 11)).2.2 x := congrFun hV11 x
        refine z_istore_n (q := 32) dX8_bestShare_31 (Nat.le_of_ble_eq_true rfl) rfl rfl ?_
        refine z_iload_n (q := 33) dX8_bestShare_32 rfl rfl ?_
        refine z_iconst (q := 34) dX8_bestShare_33 zci_m1 rfl ?_
        refine z_icmp_ne (tg := 41) (q := 37) dX8_bestShare_34 rfl rfl ?_ ?_
        · intro hc34
          refine z_aload_n (q := 42) dX8_bestShare_41 rfl rfl ?_
          refine z_get (q := 45) dX8_bestShare_42 zfX8_41 (by first | exact zpM_0 | exact zpM_a rfl | exact zpM_8) rfl rfl ?_
          refine z_iload_n (q := 46) dX8_bestShare_45 rfl rfl ?_
          refine z_iald (q := 47) dX8_bestShare_46 (by first | exact zpM_0 | exact zpM_a rfl | exact zpM_8) (by omega) (by omega) rfl ?_
          refine z_eqi hVx ?_
          refine z_bipush (q := 49) dX8_bestShare_47 zcb_8 rfl ?_
          refine z_icmp_ne (tg := 57) (q := 52) dX8_bestShare_49 rfl rfl ?_ ?_
          · intro hc49
            rw [if_neg hc49]
            refine z_aload_n (q := 58) dX8_bestShare_57 rfl rfl ?_
            refine z_get (q := 61) dX8_bestShare_58 zfX8_41 (by first | exact zpM_0 | exact zpM_a rfl | exact zpM_8) rfl rfl ?_
            refine z_iload_n (q := 62) dX8_bestShare_61 rfl rfl ?_
            refine z_iald (q := 63) dX8_bestShare_62 (by first | exact zpM_0 | exact zpM_a rfl | exact zpM_8) (by omega) (by omega) rfl ?_
            refine z_eqi hVx ?_
            exact z_reti dX8_bestShare_63 rfl (zMP_i rfl (zSc_t zSc_rf hSV) hV0)
          · intro hc49
            rw [if_pos hc49]
            refine z_bipush (q := 54) dX8_bestShare_52 zcb_m9 rfl ?_
            refine z_goto (q := 0) (tg := 63) dX8_bestShare_54 rfl ?_
            exact z_reti dX8_bestShare_63 rfl (zMP_i rfl (zSc_t zSc_rf hSV) hV0)
        · intro hc34
          exact absurd hc34 hx1
      · intro hc22
        exact absurd hc22 (by decide)
