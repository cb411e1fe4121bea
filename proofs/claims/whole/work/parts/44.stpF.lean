/-! ===== the component: steps ===== -/
def zO2 (d D : Nat → Nat → Int32) (o : Nat) : Prop := ∀ c, (c < o ∨ o + 15 ≤ c) → (c < 277 ∨ 282 ≤ c) → D c = d c
theorem zO2_o {d D E : Nat → Nat → Int32} {o : Nat} (h : zO2 d D o) (h2 : zOut D E o 15) : zO2 d E o := fun c h3 h4 => (h2 c h3).trans (h c h3 h4)
theorem zR_same {d D : Nat → Nat → Int32} {o n K : Nat} {f : Nat → Int32} (h : ∀ c, o ≤ c → c < o + 15 → D c = d c) (hR : zR d o f n K) : zR D o f n K := by
  obtain ⟨hW, b0, b1, b2, b3, ⟨S, s1, s2, s3⟩, b5, b6, b7⟩ := hR
  have h0 := h o (by omega) (by omega)
  refine ⟨hW, ?_, ?_, ?_, ?_, ⟨S, s1, ?_, s3⟩, ?_, ?_, ?_⟩
  · rw [h0]; exact b0
  · rw [h0]; exact b1
  · rw [h0]; exact b2
  · rw [h0]; exact b3
  · rw [h0]; exact s2
  · rw [h (o + 1) (by omega) (by omega), h (o + 2) (by omega) (by omega), h (o + 3) (by omega) (by omega), h (o + 4) (by omega) (by omega), h (o + 5) (by omega) (by omega)]; exact b5
  · rw [h (o + 6) (by omega) (by omega), h (o + 7) (by omega) (by omega), h (o + 8) (by omega) (by omega), h (o + 9) (by omega) (by omega)]; exact b6
  · intro a ha t ht
    have h9 := b7 a ha t ht
    rw [zRn] at h9 ⊢
    rw [h (o + 10 + 1) (by omega) (by omega), h (o + 10 + 2) (by omega) (by omega), h (o + 10 + 3) (by omega) (by omega), h (o + 10 + 4) (by omega) (by omega)]
    exact h9
set_option maxRecDepth 100000 in
set_option maxHeartbeats 4000000 in
theorem ct_X4_makeSteps {g : zGl} {h : zHp} {b o n K N : Nat} {d : Nat → Nat → Int32} {f : Nat → Int32} (hw : zWo o) (hR : zR d o f n K) (hN : N < 1000) : zC g mX4_makeSteps [.ref (b + 276), .ref (b + o), .int (nI N)] (zpT g h b d) (zTU g h b (fun D => zR D o (qSteps f n K N) n K ∧ zO2 d D o) none) 0 0 := by
  have hn := zR_n6 hR
  have hK := zR_K8 hR
  have hp : zNo 277 := zNo_b
  have ho := zWo_lt hw
  refine zC_ofA (lv := [some (.ref (b + 276)), some (.ref (b + o)), some (.int (nI N)), none, none]) (by decide) rfl (Nat.le_of_ble_eq_true rfl) ?_
  have loop : ∀ r i D l, i + r = N → zR D o (qSteps f n K i) n K → zO2 d D o → zA g (zZc g mX4_makeSteps (zTU g h b (fun D => zR D o (qSteps f n K N) n K ∧ zO2 d D o) none) 0 0) 0 0 2 [some (.ref (b + 276)), some (.ref (b + o)), some (.int (nI N)), some (.int (nI i)), l] [] (zpT g h b D) := by
    intro r
    induction r using Nat.strongRecOn with
    | ind r ih =>
      intro i D l hi hD hO
      obtain ⟨e, he⟩ : ∃ e, qSteps f n K i = e := ⟨_, rfl⟩
      have eN : qSteps f n K (i + 1) = qTk (qWkA (qClA (qLs e n e K n) K n) K n) := by rw [← he]; rfl
      have hL : ∀ j, j < 72 → qLs e n e K n j = e j := fun j hj => qLs_lt hj
      have loop3 : ∀ r2 a D2, i < N → a + r2 = n → zR D2 o (qWkA (qClA (qLs e n e K n) K n) K a) n K → zO2 d D2 o → zA g (zZc g mX4_makeSteps (zTU g h b (fun D => zR D o (qSteps f n K N) n K ∧ zO2 d D o) none) 0 0) 0 0 88 [some (.ref (b + 276)), some (.ref (b + o)), some (.int (nI N)), some (.int (nI i)), some (.int (nI a))] [] (zpT g h b D2) := by
        intro r2
        induction r2 using Nat.strongRecOn with
        | ind r2 ih2 =>
          intro a D2 hiN ha hD2 hO2
          refine z_iload (q := 90) dX4_makeSteps_88 rfl rfl ?_
          refine z_aload_n (q := 91) dX4_makeSteps_90 rfl rfl ?_
          refine z_get (q := 94) dX4_makeSteps_91 zfX4_27 (by first | exact zT_o hw | exact zT_w hw rfl | exact zT_S | exact zT_N hp | exact zT_N (zNo_w hw) | exact zT_n (zNo_w hw) (by decide)) rfl rfl ?_
          refine z_eqi (zR_0 hD2) ?_
          refine z_icmp_geN (tg := 118) (q := 97) dX4_makeSteps_94 rfl rfl (by omega) (by omega) ?_ ?_
          · intro hc94
            refine z_aload_n (q := 119) dX4_makeSteps_118 rfl rfl ?_
            refine z_dup (q := 120) dX4_makeSteps_119 rfl rfl ?_
            refine z_get (q := 123) dX4_makeSteps_120 zfX4_45 (by first | exact zT_o hw | exact zT_w hw rfl | exact zT_S | exact zT_N hp | exact zT_N (zNo_w hw) | exact zT_n (zNo_w hw) (by decide)) rfl rfl ?_
            refine z_eqi (zR_3 hD2) ?_
            refine z_iconst (q := 124) dX4_makeSteps_123 zci_1 rfl ?_
            refine z_iadd (q := 125) dX4_makeSteps_124 rfl ?_
            refine z_putT (q := 128) hw dX4_makeSteps_125 zfX4_45 (by decide) rfl ?_
            refine z_iincN (q := 131) dX4_makeSteps_128 rfl rfl rfl ?_
            refine z_goto (q := 0) (tg := 2) dX4_makeSteps_131 rfl ?_
            refine ih (r - 1) (by omega) (i + 1) _ _ (by omega) ?_ (zO2_o hO2 (zOut_w zOut_r (by omega)))
            rw [eN, qTk]
            rw [show a = n by omega] at hD2 ⊢
            exact zR_clk hD2
          · intro hc94
            refine z_aload_n (q := 98) dX4_makeSteps_97 rfl rfl ?_
            refine z_iload (q := 100) dX4_makeSteps_98 rfl rfl ?_
            refine z_v1 (q := 103) dX4_makeSteps_100 zkX4_31 zt_mX6_isOn rfl (by first | exact zT_o hw | exact zT_w hw rfl | exact zT_S | exact zT_N hp | exact zT_N (zNo_w hw) | exact zT_n (zNo_w hw) (by decide)) rfl (Nat.le_of_ble_eq_true rfl) (ct_X6_isOn hw hD2 (by omega)) rfl ?_
            refine z_ifb_eq (tg := 112) (q := 106) dX4_makeSteps_103 rfl rfl ?_ ?_
            · intro hc103
              refine z_iincN (q := 115) dX4_makeSteps_112 rfl rfl rfl ?_
              refine z_goto (q := 0) (tg := 88) dX4_makeSteps_115 rfl ?_
              first
                | exact ih2 (r2 - 1) (by omega) (a + 1) D3 hiN (by omega) (by rw [qWkA_s, if_pos hc103]; exact hD3) (zO2_o hO2 hO3)
                | exact ih2 (r2 - 1) (by omega) (a + 1) D2 hiN (by omega) (by rw [qWkA_s, hc103]; exact hD2) hO2
            · intro hc103
              refine z_aload_n (q := 107) dX4_makeSteps_106 rfl rfl ?_
              refine z_iload (q := 109) dX4_makeSteps_107 rfl rfl ?_
              refine z_S2 (q := 112) dX4_makeSteps_109 zkX4_42 zt_mX4_workOrMove rfl (Nat.le_of_ble_eq_true rfl) (ct_X4_workOrMove hw hD2 (by omega)) (Nat.zero_le _) (Nat.zero_le _) rfl ?_
              rintro _ _ ⟨rfl, D3, rfl, hD3, hO3⟩
              refine z_iincN (q := 115) dX4_makeSteps_112 rfl rfl rfl ?_
              refine z_goto (q := 0) (tg := 88) dX4_makeSteps_115 rfl ?_
              first
                | exact ih2 (r2 - 1) (by omega) (a + 1) D3 hiN (by omega) (by rw [qWkA_s, if_pos hc103]; exact hD3) (zO2_o hO2 hO3)
                | exact ih2 (r2 - 1) (by omega) (a + 1) D2 hiN (by omega) (by rw [qWkA_s, hc103]; exact hD2) hO2
      have loop2 : ∀ r2 a D2, i < N → a + r2 = n → zR D2 o (qClA (qLs e n e K n) K a) n K → zO2 d D2 o → zA g (zZc g mX4_makeSteps (zTU g h b (fun D => zR D o (qSteps f n K N) n K ∧ zO2 d D o) none) 0 0) 0 0 55 [some (.ref (b + 276)), some (.ref (b + o)), some (.int (nI N)), some (.int (nI i)), some (.int (nI a))] [] (zpT g h b D2) := by
        intro r2
        induction r2 using Nat.strongRecOn with
        | ind r2 ih2 =>
          intro a D2 hiN ha hD2 hO2
          refine z_iload (q := 57) dX4_makeSteps_55 rfl rfl ?_
          refine z_aload_n (q := 58) dX4_makeSteps_57 rfl rfl ?_
          refine z_get (q := 61) dX4_makeSteps_58 zfX4_27 (by first | exact zT_o hw | exact zT_w hw rfl | exact zT_S | exact zT_N hp | exact zT_N (zNo_w hw) | exact zT_n (zNo_w hw) (by decide)) rfl rfl ?_
          refine z_eqi (zR_0 hD2) ?_
          refine z_icmp_geN (tg := 85) (q := 64) dX4_makeSteps_61 rfl rfl (by omega) (by omega) ?_ ?_
          · intro hc61
            refine z_iconst (q := 86) dX4_makeSteps_85 zci_0 rfl ?_
            refine z_istore (q := 88) dX4_makeSteps_86 (Nat.le_of_ble_eq_true rfl) rfl rfl ?_
            exact loop3 n 0 D2 hiN (by omega) (by rw [show a = n by omega] at hD2; exact hD2) hO2
          · intro hc61
            refine z_aload_n (q := 65) dX4_makeSteps_64 rfl rfl ?_
            refine z_iload (q := 67) dX4_makeSteps_65 rfl rfl ?_
            refine z_v1 (q := 70) dX4_makeSteps_67 zkX4_31 zt_mX6_isOn rfl (by first | exact zT_o hw | exact zT_w hw rfl | exact zT_S | exact zT_N hp | exact zT_N (zNo_w hw) | exact zT_n (zNo_w hw) (by decide)) rfl (Nat.le_of_ble_eq_true rfl) (ct_X6_isOn hw hD2 (by omega)) rfl ?_
            refine z_ifb_eq (tg := 79) (q := 73) dX4_makeSteps_70 rfl rfl ?_ ?_
            · intro hc70
              refine z_iincN (q := 82) dX4_makeSteps_79 rfl rfl rfl ?_
              refine z_goto (q := 0) (tg := 55) dX4_makeSteps_82 rfl ?_
              first
                | exact ih2 (r2 - 1) (by omega) (a + 1) D3 hiN (by omega) (by rw [qClA_s, if_pos hc70]; exact hD3) (zO2_o hO2 hO3)
                | exact ih2 (r2 - 1) (by omega) (a + 1) D2 hiN (by omega) (by rw [qClA_s, hc70]; exact hD2) hO2
            · intro hc70
              have hon : qOn e a = true := by
                rw [← hc70]
                exact (qOn_lt (by omega) (fun j hj => (qClA_lt hj).trans (hL j hj))).symm
              have hx := qClA_nx hK (Nat.le_refl a) (qLs_nx (e := e) (n := n) hK hn a (by omega) hon)
              refine z_aload_n (q := 74) dX4_makeSteps_73 rfl rfl ?_
              refine z_iload (q := 76) dX4_makeSteps_74 rfl rfl ?_
              refine z_S2 (q := 79) dX4_makeSteps_76 zkX4_39 zt_mX4_chooseClaim rfl (Nat.le_of_ble_eq_true rfl) (ct_X4_chooseClaim hw hD2 (by omega) hx) (Nat.zero_le _) (Nat.zero_le _) rfl ?_
              rintro _ _ ⟨rfl, D3, rfl, hD3, hO3⟩
              refine z_iincN (q := 82) dX4_makeSteps_79 rfl rfl rfl ?_
              refine z_goto (q := 0) (tg := 55) dX4_makeSteps_82 rfl ?_
              first
                | exact ih2 (r2 - 1) (by omega) (a + 1) D3 hiN (by omega) (by rw [qClA_s, if_pos hc70]; exact hD3) (zO2_o hO2 hO3)
                | exact ih2 (r2 - 1) (by omega) (a + 1) D2 hiN (by omega) (by rw [qClA_s, hc70]; exact hD2) hO2
      have loop1 : ∀ r2 a D2, i < N → a + r2 = n → zR D2 o (qLs e n e K a) n K → (∀ a, a < n → ∀ t, t < K → zRn D2 277 e (8 * a + t)) → zO2 d D2 o → zA g (zZc g mX4_makeSteps (zTU g h b (fun D => zR D o (qSteps f n K N) n K ∧ zO2 d D o) none) 0 0) 0 0 21 [some (.ref (b + 276)), some (.ref (b + o)), some (.int (nI N)), some (.int (nI i)), some (.int (nI a))] [] (zpT g h b D2) := by
        intro r2
        induction r2 using Nat.strongRecOn with
        | ind r2 ih2 =>
          intro a D2 hiN ha hD2 hB hO2
          refine z_iload (q := 23) dX4_makeSteps_21 rfl rfl ?_
          refine z_aload_n (q := 24) dX4_makeSteps_23 rfl rfl ?_
          refine z_get (q := 27) dX4_makeSteps_24 zfX4_27 (by first | exact zT_o hw | exact zT_w hw rfl | exact zT_S | exact zT_N hp | exact zT_N (zNo_w hw) | exact zT_n (zNo_w hw) (by decide)) rfl rfl ?_
          refine z_eqi (zR_0 hD2) ?_
          refine z_icmp_geN (tg := 52) (q := 30) dX4_makeSteps_27 rfl rfl (by omega) (by omega) ?_ ?_
          · intro hc27
            refine z_iconst (q := 53) dX4_makeSteps_52 zci_0 rfl ?_
            refine z_istore (q := 55) dX4_makeSteps_53 (Nat.le_of_ble_eq_true rfl) rfl rfl ?_
            exact loop2 n 0 D2 hiN (by omega) (by rw [show a = n by omega] at hD2; exact hD2) hO2
          · intro hc27
            refine z_aload_n (q := 31) dX4_makeSteps_30 rfl rfl ?_
            refine z_iload (q := 33) dX4_makeSteps_31 rfl rfl ?_
            refine z_v1 (q := 36) dX4_makeSteps_33 zkX4_31 zt_mX6_isOn rfl (by first | exact zT_o hw | exact zT_w hw rfl | exact zT_S | exact zT_N hp | exact zT_N (zNo_w hw) | exact zT_n (zNo_w hw) (by decide)) rfl (Nat.le_of_ble_eq_true rfl) (ct_X6_isOn hw hD2 (by omega)) rfl ?_
            refine z_ifb_eq (tg := 46) (q := 39) dX4_makeSteps_36 rfl rfl ?_ ?_
            · intro hc36
              refine z_iincN (q := 49) dX4_makeSteps_46 rfl rfl rfl ?_
              refine z_goto (q := 0) (tg := 21) dX4_makeSteps_49 rfl ?_
              first
                | refine ih2 (r2 - 1) (by omega) (a + 1) D3 hiN (by omega) (by rw [qLs_s]; exact hD3) (fun a1 ha1 t1 ht1 => ?_) (zO2_o hO2 hO3)
                  have h9 := hB a1 ha1 t1 ht1
                  rw [zRn] at h9 ⊢
                  rw [hO3 (277 + 1) (by omega), hO3 (277 + 2) (by omega), hO3 (277 + 3) (by omega), hO3 (277 + 4) (by omega)]
                  exact h9
                | exact ih2 (r2 - 1) (by omega) (a + 1) D2 hiN (by omega) (by rw [qLs_s, show qLt e n a (qLs e n e K a) K = qLs e n e K a by have h8 := qLt_off (e := e) (n := n) (F := qLs e n e K a) (a := a) (i := 0) hc36 K; rw [Nat.zero_add] at h8; exact h8]; exact hD2) hB hO2
            · intro hc36
              refine z_aload_n (q := 40) dX4_makeSteps_39 rfl rfl ?_
              refine z_aload_n (q := 41) dX4_makeSteps_40 rfl rfl ?_
              refine z_iload (q := 43) dX4_makeSteps_41 rfl rfl ?_
              refine z_V2 (q := 46) dX4_makeSteps_43 zkX4_35 zt_mX4_compareNotes rfl (by first | exact zT_o hw | exact zT_w hw rfl | exact zT_S | exact zT_N hp | exact zT_N (zNo_w hw) | exact zT_n (zNo_w hw) (by decide)) rfl (Nat.le_of_ble_eq_true rfl) (ct_X4_compareNotes hw hp hD2 (by rw [← he]; exact hD.1) hB (fun j hj => qLs_lt hj) (by omega) hc36) (Nat.zero_le _) (Nat.zero_le _) rfl ?_
              rintro _ _ ⟨rfl, D3, rfl, hD3, hO3⟩
              refine z_iincN (q := 49) dX4_makeSteps_46 rfl rfl rfl ?_
              refine z_goto (q := 0) (tg := 21) dX4_makeSteps_49 rfl ?_
              first
                | refine ih2 (r2 - 1) (by omega) (a + 1) D3 hiN (by omega) (by rw [qLs_s]; exact hD3) (fun a1 ha1 t1 ht1 => ?_) (zO2_o hO2 hO3)
                  have h9 := hB a1 ha1 t1 ht1
                  rw [zRn] at h9 ⊢
                  rw [hO3 (277 + 1) (by omega), hO3 (277 + 2) (by omega), hO3 (277 + 3) (by omega), hO3 (277 + 4) (by omega)]
                  exact h9
                | exact ih2 (r2 - 1) (by omega) (a + 1) D2 hiN (by omega) (by rw [qLs_s, show qLt e n a (qLs e n e K a) K = qLs e n e K a by have h8 := qLt_off (e := e) (n := n) (F := qLs e n e K a) (a := a) (i := 0) hc36 K; rw [Nat.zero_add] at h8; exact h8]; exact hD2) hB hO2
      refine z_iload_n (q := 3) dX4_makeSteps_2 rfl rfl ?_
      refine z_iload_n (q := 4) dX4_makeSteps_3 rfl rfl ?_
      refine z_icmp_geN (tg := 134) (q := 7) dX4_makeSteps_4 rfl rfl (by omega) (by omega) ?_ ?_
      · intro hc4
        exact z_ret dX4_makeSteps_134 rfl (⟨rfl, D, rfl, by rw [show i = N by omega] at hD; exact hD, hO⟩)
      · intro hc4
        refine z_aload_n (q := 8) dX4_makeSteps_7 rfl rfl ?_
        refine z_get (q := 11) dX4_makeSteps_8 zfX4_12 (by first | exact zT_o hw | exact zT_w hw rfl | exact zT_S | exact zT_N hp | exact zT_N (zNo_w hw) | exact zT_n (zNo_w hw) (by decide)) rfl rfl ?_
        refine z_aload_n (q := 12) dX4_makeSteps_11 rfl rfl ?_
        refine z_get (q := 15) dX4_makeSteps_12 zfX4_18 (by first | exact zT_o hw | exact zT_w hw rfl | exact zT_S | exact zT_N hp | exact zT_N (zNo_w hw) | exact zT_n (zNo_w hw) (by decide)) rfl rfl ?_
        refine z_V1 (q := 18) dX4_makeSteps_15 zkX4_23 zt_mX2_copyFrom rfl (by first | exact zT_o hw | exact zT_w hw rfl | exact zT_S | exact zT_N hp | exact zT_N (zNo_w hw) | exact zT_n (zNo_w hw) (by decide)) rfl (Nat.le_of_ble_eq_true rfl) (ct_X2_copyFrom hp (zNo_w hw) (by omega)) (Nat.zero_le _) (Nat.zero_le _) rfl ?_
        rintro _ _ ⟨rfl, D1, rfl, hN1, hN2⟩
        refine z_iconst (q := 19) dX4_makeSteps_18 zci_0 rfl ?_
        refine z_istore (q := 21) dX4_makeSteps_19 (Nat.le_of_ble_eq_true rfl) rfl rfl ?_
        refine loop1 n 0 D1 (by omega) (by omega) (zR_same (fun c h1 h2 => hN2 c (by omega)) (by rw [he] at hD; exact hD)) (fun a1 ha1 t1 ht1 => ?_) (fun c h1 h2 => (hN2 c (by omega)).trans (hO c h1 h2))
        have h9 := zR_n hD ha1 ht1
        rw [zRn, he] at h9
        rw [zRn, hN1 1 (by decide), hN1 2 (by decide), hN1 3 (by decide), hN1 4 (by decide)]
        exact h9
  refine z_iconst (q := 1) dX4_makeSteps_0 zci_0 rfl ?_
  refine z_istore_n (q := 2) dX4_makeSteps_1 (Nat.le_of_ble_eq_true rfl) rfl rfl ?_
  exact loop N 0 d _ (by omega) hR (fun c _ _ => rfl)
