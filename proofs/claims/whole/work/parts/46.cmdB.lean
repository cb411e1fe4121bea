/-! ===== the component: commands ===== -/
theorem zT_C {g : zGl} {h : zHp} {b : Nat} {d : Nat → Nat → Int32} : (zpT g h b d).1 (b + 282) = some (.inr (0, [.ref (b + 276)])) := zpT_c (c := 282) (by decide)
def zTK (g : zGl) (h : zHp) (b : Nat) (d : Nat → Nat → Int32) (o n K : Nat) (a : Bool × (Nat → Int32)) : Option Value → zHp → Prop := zTU g h b (fun D => zR D o a.2 n K ∧ zO2 d D o) (some (.int (zbi a.1)))
theorem zTK_t {g : zGl} {h : zHp} {b o n K : Nat} {d D : Nat → Nat → Int32} {a : Bool × (Nat → Int32)} {f : Nat → Int32} (ha : a = (true, f)) (hD : zR D o f n K) (hO : zO2 d D o) : zTK g h b d o n K a (some (.int (nI 1))) (zpT g h b D) := by
  subst ha
  exact ⟨rfl, D, rfl, hD, hO⟩
theorem zTK_f {g : zGl} {h : zHp} {b o n K : Nat} {d D : Nat → Nat → Int32} {a : Bool × (Nat → Int32)} {f : Nat → Int32} (ha : a = (false, f)) (hD : zR D o f n K) (hO : zO2 d D o) : zTK g h b d o n K a (some (.int (nI 0))) (zpT g h b D) := by
  subst ha
  exact ⟨rfl, D, rfl, hD, hO⟩
theorem zO2_r {d : Nat → Nat → Int32} {o : Nat} : zO2 d d o := fun _ _ _ => rfl
theorem qSb_le {p : Nat → Bool} {K : Nat} : ∃ m, m ≤ K ∧ qIt (fun t c => c + zbi (p t)) (nI 0) K = nI m := by
  induction K with
  | zero => exact ⟨0, Nat.le_refl 0, rfl⟩
  | succ K ih =>
    obtain ⟨m, hm, e⟩ := ih
    cases hp : p K with
    | true =>
      refine ⟨m + 1, by omega, ?_⟩
      show qIt _ (nI 0) K + zbi (p K) = _
      rw [e, hp]
      exact nI_add m 1
    | false =>
      refine ⟨m, by omega, ?_⟩
      show qIt _ (nI 0) K + zbi (p K) = _
      rw [e, hp]
      exact Int32.add_zero _
theorem qSb_10 {p : Nat → Bool} {K x : Nat} (hK : K ≤ 8) (hx : x < 2 ^ 31) (h : qIt (fun t c => c + zbi (p t)) (nI 0) K = nI x) : x < 10 := by
  obtain ⟨m, hm, e⟩ := qSb_le (p := p) (K := K)
  rw [e, nI_eq (by omega) hx] at h
  omega
theorem qT_10 {f : Nat → Int32} {K a x : Nat} (hK : K ≤ 8) (hx : x < 2 ^ 31) (h : qT (qOwnTask f K a) = nI x) : x < 10 := by
  cases e : qOwnTask f K a with
  | none =>
    rw [e] at h
    exact absurd h.symm (nI_nm9 hx)
  | some t =>
    have ht : t < K := (qFst_lt e).1
    rw [e] at h
    have h2 : nI t = nI x := h
    rw [nI_eq (by omega) hx] at h2
    omega
set_option maxRecDepth 100000 in
set_option maxHeartbeats 4000000 in
theorem ct_X0_succeeds {g : zGl} {h : zHp} {b o n K G : Nat} {d : Nat → Nat → Int32} {f : Nat → Int32} (hw : zWo o) (hR : zR d o f n K) (hG : G < 100000) : zC g mX0_succeeds [.ref (b + 282), .ref (b + o), .int (nI G)] (zpT g h b d) (zTK g h b d o n K (qCmd f n K G)) 0 0 := by
  have hn := zR_n6 hR
  have hK := zR_K8 hR
  refine zC_ofA (lv := [some (.ref (b + 282)), some (.ref (b + o)), some (.int (nI G)), none, none]) (by decide) rfl (Nat.le_of_ble_eq_true rfl) ?_
  rcases (show G / 10000 = 0 ∨ G / 10000 = 1 ∨ G / 10000 = 2 ∨ G / 10000 = 3 ∨ G / 10000 = 4 ∨ G / 10000 = 5 ∨ G / 10000 = 6 ∨ G / 10000 = 7 ∨ G / 10000 = 8 ∨ G / 10000 = 9 by omega) with hv | hv | hv | hv | hv | hv | hv | hv | hv | hv
  · skip
    refine z_iload_n (q := 1) dX0_succeeds_0 rfl rfl ?_
    refine z_sipush (q := 4) dX0_succeeds_1 zcs_10000 rfl ?_
    refine z_idivN (q := 5) dX0_succeeds_4 (by omega) (by omega) (by omega) rfl ?_
    refine z_eqi (congrArg nI hv) ?_
    refine z_istore_n (q := 6) dX0_succeeds_5 (Nat.le_of_ble_eq_true rfl) rfl rfl ?_
    refine z_iload_n (q := 7) dX0_succeeds_6 rfl rfl ?_
    refine z_iconst (q := 8) dX0_succeeds_7 zci_2 rfl ?_
    refine z_icmp_ltN (tg := 23) (q := 11) dX0_succeeds_8 rfl rfl (by omega) (by omega) ?_ ?_
    · intro hc8
      refine z_iload_n (q := 24) dX0_succeeds_23 rfl rfl ?_
      refine z_bipush (q := 26) dX0_succeeds_24 zcb_7 rfl ?_
      refine z_icmp_neN (tg := 68) (q := 29) dX0_succeeds_26 rfl rfl (by omega) (by omega) ?_ ?_
      · intro hc26
        refine z_iload_n (q := 69) dX0_succeeds_68 rfl rfl ?_
        refine z_sipush (q := 72) dX0_succeeds_69 zcs_10000 rfl ?_
        refine z_iremN (q := 73) dX0_succeeds_72 (by omega) (by omega) (by omega) rfl ?_
        refine z_istore (q := 75) dX0_succeeds_73 (Nat.le_of_ble_eq_true rfl) rfl rfl ?_
        refine z_iload (q := 77) dX0_succeeds_75 rfl rfl ?_
        refine z_bipush (q := 79) dX0_succeeds_77 zcb_99 rfl ?_
        refine z_icmp_leN (tg := 84) (q := 82) dX0_succeeds_79 rfl rfl (by omega) (by omega) ?_ ?_
        · intro hc79
          refine z_iload_n (q := 85) dX0_succeeds_84 rfl rfl ?_
          refine z_tableOut (q := 0) (tg := 202) dX0_succeeds_85 (by decide) rfl ?_
          refine z_iconst (q := 203) dX0_succeeds_202 zci_0 rfl ?_
          exact z_retz dX0_succeeds_203 rfl (by first | exact Or.inl rfl | exact Or.inr rfl) (zTK_f (f := f) (by simp [qCmd, hv]) hR zO2_r)
        · intro hc79
          refine z_iconst (q := 83) dX0_succeeds_82 zci_0 rfl ?_
          exact z_retz dX0_succeeds_83 rfl (by first | exact Or.inl rfl | exact Or.inr rfl) (zTK_f (f := f) (by simp [qCmd, hv]; try omega) hR zO2_r)
      · intro hc26
        exact absurd hc26 (by decide)
    · intro hc8
      exact absurd hc8 (by decide)
  · skip
    refine z_iload_n (q := 1) dX0_succeeds_0 rfl rfl ?_
    refine z_sipush (q := 4) dX0_succeeds_1 zcs_10000 rfl ?_
    refine z_idivN (q := 5) dX0_succeeds_4 (by omega) (by omega) (by omega) rfl ?_
    refine z_eqi (congrArg nI hv) ?_
    refine z_istore_n (q := 6) dX0_succeeds_5 (Nat.le_of_ble_eq_true rfl) rfl rfl ?_
    refine z_iload_n (q := 7) dX0_succeeds_6 rfl rfl ?_
    refine z_iconst (q := 8) dX0_succeeds_7 zci_2 rfl ?_
    refine z_icmp_ltN (tg := 23) (q := 11) dX0_succeeds_8 rfl rfl (by omega) (by omega) ?_ ?_
    · intro hc8
      refine z_iload_n (q := 24) dX0_succeeds_23 rfl rfl ?_
      refine z_bipush (q := 26) dX0_succeeds_24 zcb_7 rfl ?_
      refine z_icmp_neN (tg := 68) (q := 29) dX0_succeeds_26 rfl rfl (by omega) (by omega) ?_ ?_
      · intro hc26
        refine z_iload_n (q := 69) dX0_succeeds_68 rfl rfl ?_
        refine z_sipush (q := 72) dX0_succeeds_69 zcs_10000 rfl ?_
        refine z_iremN (q := 73) dX0_succeeds_72 (by omega) (by omega) (by omega) rfl ?_
        refine z_istore (q := 75) dX0_succeeds_73 (Nat.le_of_ble_eq_true rfl) rfl rfl ?_
        refine z_iload (q := 77) dX0_succeeds_75 rfl rfl ?_
        refine z_bipush (q := 79) dX0_succeeds_77 zcb_99 rfl ?_
        refine z_icmp_leN (tg := 84) (q := 82) dX0_succeeds_79 rfl rfl (by omega) (by omega) ?_ ?_
        · intro hc79
          refine z_iload_n (q := 85) dX0_succeeds_84 rfl rfl ?_
          refine z_tableIn (q := 0) (tg := 136) dX0_succeeds_85 (by decide) (by decide) rfl rfl ?_
          refine z_aload_n (q := 137) dX0_succeeds_136 rfl rfl ?_
          refine z_get (q := 140) dX0_succeeds_137 zfX0_9 (by first | exact zT_o hw | exact zT_w hw rfl | exact zT_S | exact zT_C | exact zT_N (zNo_w hw) | exact zT_n (zNo_w hw) (by decide)) rfl rfl ?_
          refine z_aload_n (q := 141) dX0_succeeds_140 rfl rfl ?_
          refine z_iload (q := 143) dX0_succeeds_141 rfl rfl ?_
          refine z_V2 (q := 146) dX0_succeeds_143 zkX0_29 zt_mX4_makeSteps rfl (by first | exact zT_o hw | exact zT_w hw rfl | exact zT_S | exact zT_C | exact zT_N (zNo_w hw) | exact zT_n (zNo_w hw) (by decide)) rfl (Nat.le_of_ble_eq_true rfl) (ct_X4_makeSteps hw hR (by omega)) (Nat.zero_le _) (Nat.zero_le _) rfl ?_
          rintro _ _ ⟨rfl, D, rfl, hD, hO⟩
          refine z_iload (q := 148) dX0_succeeds_146 rfl rfl ?_
          refine z_if_le (tg := 155) (q := 151) dX0_succeeds_148 rfl rfl ?_ ?_
          · intro hc148
            have h0 : G % 10000 = 0 := by
              have h9 := (nI_leI (show G % 10000 < 2 ^ 31 by omega) (show 0 < 2 ^ 31 by decide)).mp hc148
              omega
            refine z_iconst (q := 156) dX0_succeeds_155 zci_0 rfl ?_
            exact z_retz dX0_succeeds_156 rfl (by first | exact Or.inl rfl | exact Or.inr rfl) (by first | exact zTK_t (f := qSteps f n K (G % 10000)) (by rw [h4]; simp [qCmd, hv, h1, h2, h3]) hD hO | exact zTK_f (f := f) (by simp [qCmd, hv]; omega) (by rw [h0] at hD; exact hD) hO)
          · intro hc148
            have h0 : ¬ G % 10000 = 0 := fun h9 => hc148 (by rw [h9]; decide)
            have h1 : G / 1000 % 10 = 0 := by omega
            have h2 : G / 100 % 10 = 0 := by omega
            have h3 : ¬ G % 100 = 0 := by omega
            have h4 : G % 10000 = G % 100 := by omega
            refine z_iconst (q := 152) dX0_succeeds_151 zci_1 rfl ?_
            refine z_goto (q := 0) (tg := 156) dX0_succeeds_152 rfl ?_
            exact z_retz dX0_succeeds_156 rfl (by first | exact Or.inl rfl | exact Or.inr rfl) (by first | exact zTK_t (f := qSteps f n K (G % 10000)) (by rw [h4]; simp [qCmd, hv, h1, h2, h3]) hD hO | exact zTK_f (f := f) (by simp [qCmd, hv]; omega) (by rw [h0] at hD; exact hD) hO)
        · intro hc79
          refine z_iconst (q := 83) dX0_succeeds_82 zci_0 rfl ?_
          exact z_retz dX0_succeeds_83 rfl (by first | exact Or.inl rfl | exact Or.inr rfl) (zTK_f (f := f) (by simp [qCmd, hv]; try omega) hR zO2_r)
      · intro hc26
        exact absurd hc26 (by decide)
    · intro hc8
      exact absurd hc8 (by decide)
  · skip
    refine z_iload_n (q := 1) dX0_succeeds_0 rfl rfl ?_
    refine z_sipush (q := 4) dX0_succeeds_1 zcs_10000 rfl ?_
    refine z_idivN (q := 5) dX0_succeeds_4 (by omega) (by omega) (by omega) rfl ?_
    refine z_eqi (congrArg nI hv) ?_
    refine z_istore_n (q := 6) dX0_succeeds_5 (Nat.le_of_ble_eq_true rfl) rfl rfl ?_
    refine z_iload_n (q := 7) dX0_succeeds_6 rfl rfl ?_
    refine z_iconst (q := 8) dX0_succeeds_7 zci_2 rfl ?_
    refine z_icmp_ltN (tg := 23) (q := 11) dX0_succeeds_8 rfl rfl (by omega) (by omega) ?_ ?_
    · intro hc8
      exact absurd hc8 (by decide)
    · intro hc8
      refine z_iload_n (q := 12) dX0_succeeds_11 rfl rfl ?_
      refine z_iconst (q := 13) dX0_succeeds_12 zci_5 rfl ?_
      refine z_icmp_gtN (tg := 23) (q := 16) dX0_succeeds_13 rfl rfl (by omega) (by omega) ?_ ?_
      · intro hc13
        exact absurd hc13 (by decide)
      · intro hc13
        refine z_aload_n (q := 17) dX0_succeeds_16 rfl rfl ?_
        refine z_iload_n (q := 18) dX0_succeeds_17 rfl rfl ?_
        refine z_iload_n (q := 19) dX0_succeeds_18 rfl rfl ?_
        refine z_S3 (q := 22) dX0_succeeds_19 zkX0_15 zt_mX0_changes rfl (Nat.le_of_ble_eq_true rfl) (ct_X0_changes2 hw hR hG hv) (Nat.zero_le _) (Nat.zero_le _) rfl ?_
        rintro _ _ ⟨rfl, D, rfl, hD, hO⟩
        exact z_retz dX0_succeeds_22 rfl (zbi_01 _) (⟨rfl, D, rfl, hD, zO2_o zO2_r hO⟩)
  · skip
    refine z_iload_n (q := 1) dX0_succeeds_0 rfl rfl ?_
    refine z_sipush (q := 4) dX0_succeeds_1 zcs_10000 rfl ?_
    refine z_idivN (q := 5) dX0_succeeds_4 (by omega) (by omega) (by omega) rfl ?_
    refine z_eqi (congrArg nI hv) ?_
    refine z_istore_n (q := 6) dX0_succeeds_5 (Nat.le_of_ble_eq_true rfl) rfl rfl ?_
    refine z_iload_n (q := 7) dX0_succeeds_6 rfl rfl ?_
    refine z_iconst (q := 8) dX0_succeeds_7 zci_2 rfl ?_
    refine z_icmp_ltN (tg := 23) (q := 11) dX0_succeeds_8 rfl rfl (by omega) (by omega) ?_ ?_
    · intro hc8
      exact absurd hc8 (by decide)
    · intro hc8
      refine z_iload_n (q := 12) dX0_succeeds_11 rfl rfl ?_
      refine z_iconst (q := 13) dX0_succeeds_12 zci_5 rfl ?_
      refine z_icmp_gtN (tg := 23) (q := 16) dX0_succeeds_13 rfl rfl (by omega) (by omega) ?_ ?_
      · intro hc13
        exact absurd hc13 (by decide)
      · intro hc13
        refine z_aload_n (q := 17) dX0_succeeds_16 rfl rfl ?_
        refine z_iload_n (q := 18) dX0_succeeds_17 rfl rfl ?_
        refine z_iload_n (q := 19) dX0_succeeds_18 rfl rfl ?_
        refine z_S3 (q := 22) dX0_succeeds_19 zkX0_15 zt_mX0_changes rfl (Nat.le_of_ble_eq_true rfl) (ct_X0_changes3 hw hR hG hv) (Nat.zero_le _) (Nat.zero_le _) rfl ?_
        rintro _ _ ⟨rfl, D, rfl, hD, hO⟩
        exact z_retz dX0_succeeds_22 rfl (zbi_01 _) (⟨rfl, D, rfl, hD, zO2_o zO2_r hO⟩)
  · skip
    refine z_iload_n (q := 1) dX0_succeeds_0 rfl rfl ?_
    refine z_sipush (q := 4) dX0_succeeds_1 zcs_10000 rfl ?_
    refine z_idivN (q := 5) dX0_succeeds_4 (by omega) (by omega) (by omega) rfl ?_
    refine z_eqi (congrArg nI hv) ?_
    refine z_istore_n (q := 6) dX0_succeeds_5 (Nat.le_of_ble_eq_true rfl) rfl rfl ?_
    refine z_iload_n (q := 7) dX0_succeeds_6 rfl rfl ?_
    refine z_iconst (q := 8) dX0_succeeds_7 zci_2 rfl ?_
    refine z_icmp_ltN (tg := 23) (q := 11) dX0_succeeds_8 rfl rfl (by omega) (by omega) ?_ ?_
    · intro hc8
      exact absurd hc8 (by decide)
    · intro hc8
      refine z_iload_n (q := 12) dX0_succeeds_11 rfl rfl ?_
      refine z_iconst (q := 13) dX0_succeeds_12 zci_5 rfl ?_
      refine z_icmp_gtN (tg := 23) (q := 16) dX0_succeeds_13 rfl rfl (by omega) (by omega) ?_ ?_
      · intro hc13
        exact absurd hc13 (by decide)
      · intro hc13
        refine z_aload_n (q := 17) dX0_succeeds_16 rfl rfl ?_
        refine z_iload_n (q := 18) dX0_succeeds_17 rfl rfl ?_
        refine z_iload_n (q := 19) dX0_succeeds_18 rfl rfl ?_
        refine z_S3 (q := 22) dX0_succeeds_19 zkX0_15 zt_mX0_changes rfl (Nat.le_of_ble_eq_true rfl) (ct_X0_changes4 hw hR hG hv) (Nat.zero_le _) (Nat.zero_le _) rfl ?_
        rintro _ _ ⟨rfl, D, rfl, hD, hO⟩
        exact z_retz dX0_succeeds_22 rfl (zbi_01 _) (⟨rfl, D, rfl, hD, zO2_o zO2_r hO⟩)
  · skip
    refine z_iload_n (q := 1) dX0_succeeds_0 rfl rfl ?_
    refine z_sipush (q := 4) dX0_succeeds_1 zcs_10000 rfl ?_
    refine z_idivN (q := 5) dX0_succeeds_4 (by omega) (by omega) (by omega) rfl ?_
    refine z_eqi (congrArg nI hv) ?_
    refine z_istore_n (q := 6) dX0_succeeds_5 (Nat.le_of_ble_eq_true rfl) rfl rfl ?_
    refine z_iload_n (q := 7) dX0_succeeds_6 rfl rfl ?_
    refine z_iconst (q := 8) dX0_succeeds_7 zci_2 rfl ?_
    refine z_icmp_ltN (tg := 23) (q := 11) dX0_succeeds_8 rfl rfl (by omega) (by omega) ?_ ?_
    · intro hc8
      exact absurd hc8 (by decide)
    · intro hc8
      refine z_iload_n (q := 12) dX0_succeeds_11 rfl rfl ?_
      refine z_iconst (q := 13) dX0_succeeds_12 zci_5 rfl ?_
      refine z_icmp_gtN (tg := 23) (q := 16) dX0_succeeds_13 rfl rfl (by omega) (by omega) ?_ ?_
      · intro hc13
        exact absurd hc13 (by decide)
      · intro hc13
        refine z_aload_n (q := 17) dX0_succeeds_16 rfl rfl ?_
        refine z_iload_n (q := 18) dX0_succeeds_17 rfl rfl ?_
        refine z_iload_n (q := 19) dX0_succeeds_18 rfl rfl ?_
        refine z_S3 (q := 22) dX0_succeeds_19 zkX0_15 zt_mX0_changes rfl (Nat.le_of_ble_eq_true rfl) (ct_X0_changes5 hw hR hG hv) (Nat.zero_le _) (Nat.zero_le _) rfl ?_
        rintro _ _ ⟨rfl, D, rfl, hD, hO⟩
        exact z_retz dX0_succeeds_22 rfl (zbi_01 _) (⟨rfl, D, rfl, hD, zO2_o zO2_r hO⟩)
  · skip
    refine z_iload_n (q := 1) dX0_succeeds_0 rfl rfl ?_
    refine z_sipush (q := 4) dX0_succeeds_1 zcs_10000 rfl ?_
    refine z_idivN (q := 5) dX0_succeeds_4 (by omega) (by omega) (by omega) rfl ?_
    refine z_eqi (congrArg nI hv) ?_
    refine z_istore_n (q := 6) dX0_succeeds_5 (Nat.le_of_ble_eq_true rfl) rfl rfl ?_
    refine z_iload_n (q := 7) dX0_succeeds_6 rfl rfl ?_
    refine z_iconst (q := 8) dX0_succeeds_7 zci_2 rfl ?_
    refine z_icmp_ltN (tg := 23) (q := 11) dX0_succeeds_8 rfl rfl (by omega) (by omega) ?_ ?_
    · intro hc8
      exact absurd hc8 (by decide)
    · intro hc8
      refine z_iload_n (q := 12) dX0_succeeds_11 rfl rfl ?_
      refine z_iconst (q := 13) dX0_succeeds_12 zci_5 rfl ?_
      refine z_icmp_gtN (tg := 23) (q := 16) dX0_succeeds_13 rfl rfl (by omega) (by omega) ?_ ?_
      · intro hc13
        refine z_iload_n (q := 24) dX0_succeeds_23 rfl rfl ?_
        refine z_bipush (q := 26) dX0_succeeds_24 zcb_7 rfl ?_
        refine z_icmp_neN (tg := 68) (q := 29) dX0_succeeds_26 rfl rfl (by omega) (by omega) ?_ ?_
        · intro hc26
          refine z_iload_n (q := 69) dX0_succeeds_68 rfl rfl ?_
          refine z_sipush (q := 72) dX0_succeeds_69 zcs_10000 rfl ?_
          refine z_iremN (q := 73) dX0_succeeds_72 (by omega) (by omega) (by omega) rfl ?_
          refine z_istore (q := 75) dX0_succeeds_73 (Nat.le_of_ble_eq_true rfl) rfl rfl ?_
          refine z_iload (q := 77) dX0_succeeds_75 rfl rfl ?_
          refine z_bipush (q := 79) dX0_succeeds_77 zcb_99 rfl ?_
          refine z_icmp_leN (tg := 84) (q := 82) dX0_succeeds_79 rfl rfl (by omega) (by omega) ?_ ?_
          · intro hc79
            refine z_iload_n (q := 85) dX0_succeeds_84 rfl rfl ?_
            refine z_tableIn (q := 0) (tg := 157) dX0_succeeds_85 (by decide) (by decide) rfl rfl ?_
            refine z_aload_n (q := 158) dX0_succeeds_157 rfl rfl ?_
            refine z_v0 (q := 161) dX0_succeeds_158 zkX0_35 zt_mX6_finishedTasks rfl (by first | exact zT_o hw | exact zT_w hw rfl | exact zT_S | exact zT_C | exact zT_N (zNo_w hw) | exact zT_n (zNo_w hw) (by decide)) rfl (Nat.le_of_ble_eq_true rfl) (ct_X6_finishedTasks hw hR) rfl ?_
            refine z_iload (q := 163) dX0_succeeds_161 rfl rfl ?_
            refine z_icmp_ne (tg := 170) (q := 166) dX0_succeeds_163 rfl rfl ?_ ?_
            · intro hc163
              have h2 : G % 1000 = G % 10000 := by omega
              refine z_iconst (q := 171) dX0_succeeds_170 zci_0 rfl ?_
              exact z_retz dX0_succeeds_171 rfl (by first | exact Or.inl rfl | exact Or.inr rfl) (by first | exact zTK_t (f := f) (by simp [qCmd, hv, h1, h2, h10, hc163]) hR zO2_r | exact zTK_f (f := f) (by simp [qCmd, hv, h2, hc163]) hR zO2_r)
            · intro hc163
              have h10 := qSb_10 hK (show G % 10000 < 2 ^ 31 by omega) hc163
              have h1 : G / 1000 % 10 = 0 := by omega
              have h2 : G % 1000 = G % 10000 := by omega
              refine z_iconst (q := 167) dX0_succeeds_166 zci_1 rfl ?_
              refine z_goto (q := 0) (tg := 171) dX0_succeeds_167 rfl ?_
              exact z_retz dX0_succeeds_171 rfl (by first | exact Or.inl rfl | exact Or.inr rfl) (by first | exact zTK_t (f := f) (by simp [qCmd, hv, h1, h2, h10, hc163]) hR zO2_r | exact zTK_f (f := f) (by simp [qCmd, hv, h2, hc163]) hR zO2_r)
          · intro hc79
            refine z_iconst (q := 83) dX0_succeeds_82 zci_0 rfl ?_
            exact z_retz dX0_succeeds_83 rfl (by first | exact Or.inl rfl | exact Or.inr rfl) (zTK_f (f := f) (by simp [qCmd, hv]; try omega) hR zO2_r)
        · intro hc26
          exact absurd hc26 (by decide)
      · intro hc13
        exact absurd hc13 (by decide)
  · skip
    refine z_iload_n (q := 1) dX0_succeeds_0 rfl rfl ?_
    refine z_sipush (q := 4) dX0_succeeds_1 zcs_10000 rfl ?_
    refine z_idivN (q := 5) dX0_succeeds_4 (by omega) (by omega) (by omega) rfl ?_
    refine z_eqi (congrArg nI hv) ?_
    refine z_istore_n (q := 6) dX0_succeeds_5 (Nat.le_of_ble_eq_true rfl) rfl rfl ?_
    refine z_iload_n (q := 7) dX0_succeeds_6 rfl rfl ?_
    refine z_iconst (q := 8) dX0_succeeds_7 zci_2 rfl ?_
    refine z_icmp_ltN (tg := 23) (q := 11) dX0_succeeds_8 rfl rfl (by omega) (by omega) ?_ ?_
    · intro hc8
      exact absurd hc8 (by decide)
    · intro hc8
      refine z_iload_n (q := 12) dX0_succeeds_11 rfl rfl ?_
      refine z_iconst (q := 13) dX0_succeeds_12 zci_5 rfl ?_
      refine z_icmp_gtN (tg := 23) (q := 16) dX0_succeeds_13 rfl rfl (by omega) (by omega) ?_ ?_
      · intro hc13
        refine z_iload_n (q := 24) dX0_succeeds_23 rfl rfl ?_
        refine z_bipush (q := 26) dX0_succeeds_24 zcb_7 rfl ?_
        refine z_icmp_neN (tg := 68) (q := 29) dX0_succeeds_26 rfl rfl (by omega) (by omega) ?_ ?_
        · intro hc26
          exact absurd hc26 (by decide)
        · intro hc26
          refine z_iload_n (q := 30) dX0_succeeds_29 rfl rfl ?_
          refine z_sipush (q := 33) dX0_succeeds_30 zcs_1000 rfl ?_
          refine z_idivN (q := 34) dX0_succeeds_33 (by omega) (by omega) (by omega) rfl ?_
          refine z_bipush (q := 36) dX0_succeeds_34 zcb_10 rfl ?_
          refine z_iremN (q := 37) dX0_succeeds_36 (by omega) (by omega) (by omega) rfl ?_
          refine z_istore (q := 39) dX0_succeeds_37 (Nat.le_of_ble_eq_true rfl) rfl rfl ?_
          refine z_aload_n (q := 40) dX0_succeeds_39 rfl rfl ?_
          refine z_iload (q := 42) dX0_succeeds_40 rfl rfl ?_
          refine z_v1 (q := 45) dX0_succeeds_42 zkX0_19 zt_mX6_hasAgent rfl (by first | exact zT_o hw | exact zT_w hw rfl | exact zT_S | exact zT_C | exact zT_N (zNo_w hw) | exact zT_n (zNo_w hw) (by decide)) rfl (Nat.le_of_ble_eq_true rfl) (ct_X6_hasAgent hw (zR_0 hR)) rfl ?_
          refine z_ifb_eq (tg := 66) (q := 48) dX0_succeeds_45 rfl rfl ?_ ?_
          · intro hc45
            rw [qHas_d (by omega) (by omega), decide_eq_false_iff_not] at hc45
            refine z_iconst (q := 67) dX0_succeeds_66 zci_0 rfl ?_
            exact z_retz dX0_succeeds_67 rfl (by first | exact Or.inl rfl | exact Or.inr rfl) (by first | exact zTK_t (f := f) (by simp [qCmd, hv, hc45, hc59, h10]) hR zO2_r | exact zTK_f (f := f) (by first | (simp [qCmd, hv, hc45]; done) | (simp [qCmd, hv, hc59]; done) | (simp [qCmd, hv]; omega)) hR zO2_r)
          · intro hc45
            rw [qHas_d (by omega) (by omega), decide_eq_true_eq] at hc45
            refine z_aload_n (q := 49) dX0_succeeds_48 rfl rfl ?_
            refine z_iload (q := 51) dX0_succeeds_49 rfl rfl ?_
            refine z_v1 (q := 54) dX0_succeeds_51 zkX0_25 zt_mX6_ownTask rfl (by first | exact zT_o hw | exact zT_w hw rfl | exact zT_S | exact zT_C | exact zT_N (zNo_w hw) | exact zT_n (zNo_w hw) (by decide)) rfl (Nat.le_of_ble_eq_true rfl) (ct_X6_ownTask hw hR hc45) rfl ?_
            refine z_iload_n (q := 55) dX0_succeeds_54 rfl rfl ?_
            refine z_sipush (q := 58) dX0_succeeds_55 zcs_1000 rfl ?_
            refine z_iremN (q := 59) dX0_succeeds_58 (by omega) (by omega) (by omega) rfl ?_
            refine z_icmp_ne (tg := 66) (q := 62) dX0_succeeds_59 rfl rfl ?_ ?_
            · intro hc59
              refine z_iconst (q := 67) dX0_succeeds_66 zci_0 rfl ?_
              exact z_retz dX0_succeeds_67 rfl (by first | exact Or.inl rfl | exact Or.inr rfl) (by first | exact zTK_t (f := f) (by simp [qCmd, hv, hc45, hc59, h10]) hR zO2_r | exact zTK_f (f := f) (by first | (simp [qCmd, hv, hc45]; done) | (simp [qCmd, hv, hc59]; done) | (simp [qCmd, hv]; omega)) hR zO2_r)
            · intro hc59
              have h10 := qT_10 hK (by omega) hc59
              refine z_iconst (q := 63) dX0_succeeds_62 zci_1 rfl ?_
              refine z_goto (q := 0) (tg := 67) dX0_succeeds_63 rfl ?_
              exact z_retz dX0_succeeds_67 rfl (by first | exact Or.inl rfl | exact Or.inr rfl) (by first | exact zTK_t (f := f) (by simp [qCmd, hv, hc45, hc59, h10]) hR zO2_r | exact zTK_f (f := f) (by first | (simp [qCmd, hv, hc45]; done) | (simp [qCmd, hv, hc59]; done) | (simp [qCmd, hv]; omega)) hR zO2_r)
      · intro hc13
        exact absurd hc13 (by decide)
  · skip
    refine z_iload_n (q := 1) dX0_succeeds_0 rfl rfl ?_
    refine z_sipush (q := 4) dX0_succeeds_1 zcs_10000 rfl ?_
    refine z_idivN (q := 5) dX0_succeeds_4 (by omega) (by omega) (by omega) rfl ?_
    refine z_eqi (congrArg nI hv) ?_
    refine z_istore_n (q := 6) dX0_succeeds_5 (Nat.le_of_ble_eq_true rfl) rfl rfl ?_
    refine z_iload_n (q := 7) dX0_succeeds_6 rfl rfl ?_
    refine z_iconst (q := 8) dX0_succeeds_7 zci_2 rfl ?_
    refine z_icmp_ltN (tg := 23) (q := 11) dX0_succeeds_8 rfl rfl (by omega) (by omega) ?_ ?_
    · intro hc8
      exact absurd hc8 (by decide)
    · intro hc8
      refine z_iload_n (q := 12) dX0_succeeds_11 rfl rfl ?_
      refine z_iconst (q := 13) dX0_succeeds_12 zci_5 rfl ?_
      refine z_icmp_gtN (tg := 23) (q := 16) dX0_succeeds_13 rfl rfl (by omega) (by omega) ?_ ?_
      · intro hc13
        refine z_iload_n (q := 24) dX0_succeeds_23 rfl rfl ?_
        refine z_bipush (q := 26) dX0_succeeds_24 zcb_7 rfl ?_
        refine z_icmp_neN (tg := 68) (q := 29) dX0_succeeds_26 rfl rfl (by omega) (by omega) ?_ ?_
        · intro hc26
          refine z_iload_n (q := 69) dX0_succeeds_68 rfl rfl ?_
          refine z_sipush (q := 72) dX0_succeeds_69 zcs_10000 rfl ?_
          refine z_iremN (q := 73) dX0_succeeds_72 (by omega) (by omega) (by omega) rfl ?_
          refine z_istore (q := 75) dX0_succeeds_73 (Nat.le_of_ble_eq_true rfl) rfl rfl ?_
          refine z_iload (q := 77) dX0_succeeds_75 rfl rfl ?_
          refine z_bipush (q := 79) dX0_succeeds_77 zcb_99 rfl ?_
          refine z_icmp_leN (tg := 84) (q := 82) dX0_succeeds_79 rfl rfl (by omega) (by omega) ?_ ?_
          · intro hc79
            refine z_iload_n (q := 85) dX0_succeeds_84 rfl rfl ?_
            refine z_tableIn (q := 0) (tg := 172) dX0_succeeds_85 (by decide) (by decide) rfl rfl ?_
            refine z_aload_n (q := 173) dX0_succeeds_172 rfl rfl ?_
            refine z_v0 (q := 176) dX0_succeeds_173 zkX0_39 zt_mX6_doublyClaimed rfl (by first | exact zT_o hw | exact zT_w hw rfl | exact zT_S | exact zT_C | exact zT_N (zNo_w hw) | exact zT_n (zNo_w hw) (by decide)) rfl (Nat.le_of_ble_eq_true rfl) (ct_X6_doublyClaimed hw hR) rfl ?_
            refine z_iload (q := 178) dX0_succeeds_176 rfl rfl ?_
            refine z_icmp_ne (tg := 185) (q := 181) dX0_succeeds_178 rfl rfl ?_ ?_
            · intro hc178
              have h2 : G % 1000 = G % 10000 := by omega
              refine z_iconst (q := 186) dX0_succeeds_185 zci_0 rfl ?_
              exact z_retz dX0_succeeds_186 rfl (by first | exact Or.inl rfl | exact Or.inr rfl) (by first | exact zTK_t (f := f) (by simp [qCmd, hv, h1, h2, h10, hc178]) hR zO2_r | exact zTK_f (f := f) (by simp [qCmd, hv, h2, hc178]) hR zO2_r)
            · intro hc178
              have h10 := qSb_10 hK (show G % 10000 < 2 ^ 31 by omega) hc178
              have h1 : G / 1000 % 10 = 0 := by omega
              have h2 : G % 1000 = G % 10000 := by omega
              refine z_iconst (q := 182) dX0_succeeds_181 zci_1 rfl ?_
              refine z_goto (q := 0) (tg := 186) dX0_succeeds_182 rfl ?_
              exact z_retz dX0_succeeds_186 rfl (by first | exact Or.inl rfl | exact Or.inr rfl) (by first | exact zTK_t (f := f) (by simp [qCmd, hv, h1, h2, h10, hc178]) hR zO2_r | exact zTK_f (f := f) (by simp [qCmd, hv, h2, hc178]) hR zO2_r)
          · intro hc79
            refine z_iconst (q := 83) dX0_succeeds_82 zci_0 rfl ?_
            exact z_retz dX0_succeeds_83 rfl (by first | exact Or.inl rfl | exact Or.inr rfl) (zTK_f (f := f) (by simp [qCmd, hv]; try omega) hR zO2_r)
        · intro hc26
          exact absurd hc26 (by decide)
      · intro hc13
        exact absurd hc13 (by decide)
  · skip
    refine z_iload_n (q := 1) dX0_succeeds_0 rfl rfl ?_
    refine z_sipush (q := 4) dX0_succeeds_1 zcs_10000 rfl ?_
    refine z_idivN (q := 5) dX0_succeeds_4 (by omega) (by omega) (by omega) rfl ?_
    refine z_eqi (congrArg nI hv) ?_
    refine z_istore_n (q := 6) dX0_succeeds_5 (Nat.le_of_ble_eq_true rfl) rfl rfl ?_
    refine z_iload_n (q := 7) dX0_succeeds_6 rfl rfl ?_
    refine z_iconst (q := 8) dX0_succeeds_7 zci_2 rfl ?_
    refine z_icmp_ltN (tg := 23) (q := 11) dX0_succeeds_8 rfl rfl (by omega) (by omega) ?_ ?_
    · intro hc8
      exact absurd hc8 (by decide)
    · intro hc8
      refine z_iload_n (q := 12) dX0_succeeds_11 rfl rfl ?_
      refine z_iconst (q := 13) dX0_succeeds_12 zci_5 rfl ?_
      refine z_icmp_gtN (tg := 23) (q := 16) dX0_succeeds_13 rfl rfl (by omega) (by omega) ?_ ?_
      · intro hc13
        refine z_iload_n (q := 24) dX0_succeeds_23 rfl rfl ?_
        refine z_bipush (q := 26) dX0_succeeds_24 zcb_7 rfl ?_
        refine z_icmp_neN (tg := 68) (q := 29) dX0_succeeds_26 rfl rfl (by omega) (by omega) ?_ ?_
        · intro hc26
          refine z_iload_n (q := 69) dX0_succeeds_68 rfl rfl ?_
          refine z_sipush (q := 72) dX0_succeeds_69 zcs_10000 rfl ?_
          refine z_iremN (q := 73) dX0_succeeds_72 (by omega) (by omega) (by omega) rfl ?_
          refine z_istore (q := 75) dX0_succeeds_73 (Nat.le_of_ble_eq_true rfl) rfl rfl ?_
          refine z_iload (q := 77) dX0_succeeds_75 rfl rfl ?_
          refine z_bipush (q := 79) dX0_succeeds_77 zcb_99 rfl ?_
          refine z_icmp_leN (tg := 84) (q := 82) dX0_succeeds_79 rfl rfl (by omega) (by omega) ?_ ?_
          · intro hc79
            refine z_iload_n (q := 85) dX0_succeeds_84 rfl rfl ?_
            refine z_tableIn (q := 0) (tg := 187) dX0_succeeds_85 (by decide) (by decide) rfl rfl ?_
            refine z_aload_n (q := 188) dX0_succeeds_187 rfl rfl ?_
            refine z_v0 (q := 191) dX0_succeeds_188 zkX0_42 zt_mX6_allWasted rfl (by first | exact zT_o hw | exact zT_w hw rfl | exact zT_S | exact zT_C | exact zT_N (zNo_w hw) | exact zT_n (zNo_w hw) (by decide)) rfl (Nat.le_of_ble_eq_true rfl) (ct_X6_allWasted hw hR) rfl ?_
            refine z_iload (q := 193) dX0_succeeds_191 rfl rfl ?_
            refine z_icmp_gt (tg := 200) (q := 196) dX0_succeeds_193 rfl rfl ?_ ?_
            · intro hc193
              have h2 : G % 100 = G % 10000 := by omega
              have h5 : ¬ qSum f n 5 ≤ nI (G % 10000) := Int32.not_le.mpr hc193
              refine z_iconst (q := 201) dX0_succeeds_200 zci_0 rfl ?_
              exact z_retz dX0_succeeds_201 rfl (by first | exact Or.inl rfl | exact Or.inr rfl) (by first | exact zTK_t (f := f) (by simp [qCmd, hv, h1, h2, h3, h5]) hR zO2_r | exact zTK_f (f := f) (by simp [qCmd, hv, h2, h5]) hR zO2_r)
            · intro hc193
              have h1 : G / 1000 % 10 = 0 := by omega
              have h3 : G / 100 % 10 = 0 := by omega
              have h2 : G % 100 = G % 10000 := by omega
              have h5 : qSum f n 5 ≤ nI (G % 10000) := Int32.not_lt.mp hc193
              refine z_iconst (q := 197) dX0_succeeds_196 zci_1 rfl ?_
              refine z_goto (q := 0) (tg := 201) dX0_succeeds_197 rfl ?_
              exact z_retz dX0_succeeds_201 rfl (by first | exact Or.inl rfl | exact Or.inr rfl) (by first | exact zTK_t (f := f) (by simp [qCmd, hv, h1, h2, h3, h5]) hR zO2_r | exact zTK_f (f := f) (by simp [qCmd, hv, h2, h5]) hR zO2_r)
          · intro hc79
            refine z_iconst (q := 83) dX0_succeeds_82 zci_0 rfl ?_
            exact z_retz dX0_succeeds_83 rfl (by first | exact Or.inl rfl | exact Or.inr rfl) (zTK_f (f := f) (by simp [qCmd, hv]; try omega) hR zO2_r)
        · intro hc26
          exact absurd hc26 (by decide)
      · intro hc13
        exact absurd hc13 (by decide)
