/-! ===== the component: claims of agents that are off ===== -/
theorem qCfA_s {f : Nat → Int32} {w K i : Nat} : qCfA f w K (i + 1) = qCfT f w i (qCfA f w K i) K := rfl
set_option maxRecDepth 100000 in
set_option maxHeartbeats 4000000 in
theorem ct_X6_claimsOfLostAgents {g : zGl} {h : zHp} {b o n K : Nat} {d : Nat → Nat → Int32} {f : Nat → Int32} (hw : zWo o) (hR : zR d o f n K) : zC g mX6_claimsOfLostAgents [.ref (b + o)] (zpT g h b d) (zV (zpT g h b d) (.int (qCfA f 2 K n))) 0 0 := by
  have hn := zR_n6 hR
  have hK := zR_K8 hR
  refine zC_ofA (lv := [some (.ref (b + o)), none, none, none, none]) (by decide) rfl (Nat.le_of_ble_eq_true rfl) ?_
  have loop : ∀ r a l3 l4, a + r = n → zA g (zZc g mX6_claimsOfLostAgents (zV (zpT g h b d) (.int (qCfA f 2 K n))) 0 0) 0 0 4 [some (.ref (b + o)), some (.int (qCfA f 2 K a)), some (.int (nI a)), l3, l4] [] (zpT g h b d) := by
    intro r
    induction r using Nat.strongRecOn with
    | ind r ih =>
      intro a l3 l4 ha
      have inner : ∀ q t l, a < n → t + q = K → zA g (zZc g mX6_claimsOfLostAgents (zV (zpT g h b d) (.int (qCfA f 2 K n))) 0 0) 0 0 14 [some (.ref (b + o)), some (.int (qCfT f 2 a (qCfA f 2 K a) t)), some (.int (nI a)), some (.int (nI t)), l] [] (zpT g h b d) := by
        intro q
        induction q using Nat.strongRecOn with
        | ind q ih2 =>
          intro t l han ht
          have st : ∀ v l, t < K → qCfT f 2 a (qCfA f 2 K a) (t + 1) = v → zA g (zZc g mX6_claimsOfLostAgents (zV (zpT g h b d) (.int (qCfA f 2 K n))) 0 0) 0 0 14 [some (.ref (b + o)), some (.int v), some (.int (nI a)), some (.int (nI (t + 1))), l] [] (zpT g h b d) := by
            intro v l htK hv
            subst hv
            exact ih2 (q - 1) (by omega) (t + 1) l han (by omega)
          refine z_iload_n (q := 15) dX6_claimsOfLostAgents_14 rfl rfl ?_
          refine z_aload_n (q := 16) dX6_claimsOfLostAgents_15 rfl rfl ?_
          refine z_get (q := 19) dX6_claimsOfLostAgents_16 zfX6_53 (by first | exact zT_o hw | exact zT_w hw rfl | exact zT_N (zNo_w hw) | exact zT_n (zNo_w hw) (by decide)) rfl rfl ?_
          refine z_eqi (zR_1 hR) ?_
          refine z_icmp_geN (tg := 79) (q := 22) dX6_claimsOfLostAgents_19 rfl rfl (by omega) (by omega) ?_ ?_
          · intro hc19
            refine z_iincN (q := 82) dX6_claimsOfLostAgents_79 rfl rfl rfl ?_
            refine z_goto (q := 0) (tg := 4) dX6_claimsOfLostAgents_82 rfl ?_
            have e9 := ih (r - 1) (by omega) (a + 1)
            rw [qCfA_s, show K = t by omega] at e9
            rw [show K = t by omega]
            exact e9 _ _ (by omega)
          · intro hc19
            have hN := zR_n hR han hc19
            refine z_iload_n (q := 23) dX6_claimsOfLostAgents_22 rfl rfl ?_
            refine z_iload_n (q := 24) dX6_claimsOfLostAgents_23 rfl rfl ?_
            refine z_s2 (q := 27) dX6_claimsOfLostAgents_24 zkX6_79 zt_mX7_noteIndex rfl (Nat.le_of_ble_eq_true rfl) (ct_X7_noteIndex) rfl ?_
            refine z_istore (q := 29) dX6_claimsOfLostAgents_27 (Nat.le_of_ble_eq_true rfl) rfl rfl ?_
            refine z_aload_n (q := 30) dX6_claimsOfLostAgents_29 rfl rfl ?_
            refine z_iload_n (q := 31) dX6_claimsOfLostAgents_30 rfl rfl ?_
            refine z_v1 (q := 34) dX6_claimsOfLostAgents_31 zkX6_93 zt_mX6_isOn rfl (by first | exact zT_o hw | exact zT_w hw rfl | exact zT_N (zNo_w hw) | exact zT_n (zNo_w hw) (by decide)) rfl (Nat.le_of_ble_eq_true rfl) (ct_X6_isOn hw hR han) rfl ?_
            refine z_ifb_eq (tg := 73) (q := 37) dX6_claimsOfLostAgents_34 rfl rfl ?_ ?_
            · intro hc34
              refine z_iincN (q := 76) dX6_claimsOfLostAgents_73 rfl rfl rfl ?_
              refine z_goto (q := 0) (tg := 14) dX6_claimsOfLostAgents_76 rfl ?_
              first
                | exact st _ _ hc19 (by rw [qCfT_s, if_pos hc34, qCf1, if_neg (by decide), hcl, hc50, hc67]; first | exact Int32.add_zero _ | rfl)
                | exact st _ _ hc19 (by rw [qCfT_s, if_neg (by rw [hc34]; decide)])
                | exact st _ _ hc19 (by rw [qCfT_s, if_pos hc34, qCf1, if_neg (by decide), hc50]; exact Int32.add_zero _)
            · intro hc34
              refine z_aload_n (q := 38) dX6_claimsOfLostAgents_37 rfl rfl ?_
              refine z_get (q := 41) dX6_claimsOfLostAgents_38 zfX6_46 (by first | exact zT_o hw | exact zT_w hw rfl | exact zT_N (zNo_w hw) | exact zT_n (zNo_w hw) (by decide)) rfl rfl ?_
              refine z_iload (q := 43) dX6_claimsOfLostAgents_41 rfl rfl ?_
              refine z_aload_n (q := 44) dX6_claimsOfLostAgents_43 rfl rfl ?_
              refine z_get (q := 47) dX6_claimsOfLostAgents_44 zfX6_56 (by first | exact zT_o hw | exact zT_w hw rfl | exact zT_N (zNo_w hw) | exact zT_n (zNo_w hw) (by decide)) rfl rfl ?_
              refine z_eqi (zR_3 hR) ?_
              refine z_v2 (q := 50) dX6_claimsOfLostAgents_47 zkX6_87 zt_mX2_isLiveClaim rfl (by first | exact zT_o hw | exact zT_w hw rfl | exact zT_N (zNo_w hw) | exact zT_n (zNo_w hw) (by decide)) rfl (Nat.le_of_ble_eq_true rfl) (ct_X2_isLiveClaim (zNo_w hw) (by omega)) rfl ?_
              refine z_ifb_eq (tg := 73) (q := 53) dX6_claimsOfLostAgents_50 rfl rfl ?_ ?_
              · intro hc50
                rw [zRn_live hN] at hc50
                refine z_iincN (q := 76) dX6_claimsOfLostAgents_73 rfl rfl rfl ?_
                refine z_goto (q := 0) (tg := 14) dX6_claimsOfLostAgents_76 rfl ?_
                first
                  | exact st _ _ hc19 (by rw [qCfT_s, if_pos hc34, qCf1, if_neg (by decide), hcl, hc50, hc67]; first | exact Int32.add_zero _ | rfl)
                  | exact st _ _ hc19 (by rw [qCfT_s, if_neg (by rw [hc34]; decide)])
                  | exact st _ _ hc19 (by rw [qCfT_s, if_pos hc34, qCf1, if_neg (by decide), hc50]; exact Int32.add_zero _)
              · intro hc50
                rw [zRn_live hN] at hc50
                have hk : f (72 + 4 * (8 * a + t)) = nI 1 := by
                  have h9 := hc50
                  rw [qLive, Bool.and_eq_true, decide_eq_true_eq] at h9
                  exact h9.1
                obtain ⟨c, hc, ec⟩ := (zWF_n hR.1 han hc19).2 hk
                have hcl : (f (72 + 4 * (8 * a + t) + 1)).toNatClampNeg = c := by rw [ec]; exact nI_clamp (by omega)
                refine z_aload_n (q := 54) dX6_claimsOfLostAgents_53 rfl rfl ?_
                refine z_aload_n (q := 55) dX6_claimsOfLostAgents_54 rfl rfl ?_
                refine z_get (q := 58) dX6_claimsOfLostAgents_55 zfX6_46 (by first | exact zT_o hw | exact zT_w hw rfl | exact zT_N (zNo_w hw) | exact zT_n (zNo_w hw) (by decide)) rfl rfl ?_
                refine z_get (q := 61) dX6_claimsOfLostAgents_58 zfX6_149 (by first | exact zT_o hw | exact zT_w hw rfl | exact zT_N (zNo_w hw) | exact zT_n (zNo_w hw) (by decide)) rfl rfl ?_
                refine z_iload (q := 63) dX6_claimsOfLostAgents_61 rfl rfl ?_
                refine z_iald (q := 64) dX6_claimsOfLostAgents_63 (by first | exact zT_o hw | exact zT_w hw rfl | exact zT_N (zNo_w hw) | exact zT_n (zNo_w hw) (by decide)) (by omega) (by omega) rfl ?_
                refine z_eqi (((hN.2 hk).1).trans ec) ?_
                refine z_v1 (q := 67) dX6_claimsOfLostAgents_64 zkX6_93 zt_mX6_isOn rfl (by first | exact zT_o hw | exact zT_w hw rfl | exact zT_N (zNo_w hw) | exact zT_n (zNo_w hw) (by decide)) rfl (Nat.le_of_ble_eq_true rfl) (ct_X6_isOn hw hR hc) rfl ?_
                refine z_ifb_ne (tg := 73) (q := 70) dX6_claimsOfLostAgents_67 rfl rfl ?_ ?_
                · intro hc67
                  refine z_iincN (q := 76) dX6_claimsOfLostAgents_73 rfl rfl rfl ?_
                  refine z_goto (q := 0) (tg := 14) dX6_claimsOfLostAgents_76 rfl ?_
                  first
                    | exact st _ _ hc19 (by rw [qCfT_s, if_pos hc34, qCf1, if_neg (by decide), hcl, hc50, hc67]; first | exact Int32.add_zero _ | rfl)
                    | exact st _ _ hc19 (by rw [qCfT_s, if_neg (by rw [hc34]; decide)])
                    | exact st _ _ hc19 (by rw [qCfT_s, if_pos hc34, qCf1, if_neg (by decide), hc50]; exact Int32.add_zero _)
                · intro hc67
                  refine z_iinc (q := 73) dX6_claimsOfLostAgents_70 rfl rfl rfl rfl ?_
                  refine z_iincN (q := 76) dX6_claimsOfLostAgents_73 rfl rfl rfl ?_
                  refine z_goto (q := 0) (tg := 14) dX6_claimsOfLostAgents_76 rfl ?_
                  first
                    | exact st _ _ hc19 (by rw [qCfT_s, if_pos hc34, qCf1, if_neg (by decide), hcl, hc50, hc67]; first | exact Int32.add_zero _ | rfl)
                    | exact st _ _ hc19 (by rw [qCfT_s, if_neg (by rw [hc34]; decide)])
                    | exact st _ _ hc19 (by rw [qCfT_s, if_pos hc34, qCf1, if_neg (by decide), hc50]; exact Int32.add_zero _)
      refine z_iload_n (q := 5) dX6_claimsOfLostAgents_4 rfl rfl ?_
      refine z_aload_n (q := 6) dX6_claimsOfLostAgents_5 rfl rfl ?_
      refine z_get (q := 9) dX6_claimsOfLostAgents_6 zfX6_50 (by first | exact zT_o hw | exact zT_w hw rfl | exact zT_N (zNo_w hw) | exact zT_n (zNo_w hw) (by decide)) rfl rfl ?_
      refine z_eqi (zR_0 hR) ?_
      refine z_icmp_geN (tg := 85) (q := 12) dX6_claimsOfLostAgents_9 rfl rfl (by omega) (by omega) ?_ ?_
      · intro hc9
        refine z_iload_n (q := 86) dX6_claimsOfLostAgents_85 rfl rfl ?_
        exact z_reti dX6_claimsOfLostAgents_86 rfl (⟨by rw [show a = n by omega], rfl⟩)
      · intro hc9
        refine z_iconst (q := 13) dX6_claimsOfLostAgents_12 zci_0 rfl ?_
        refine z_istore_n (q := 14) dX6_claimsOfLostAgents_13 (Nat.le_of_ble_eq_true rfl) rfl rfl ?_
        exact inner K 0 _ (by omega) (by omega)
  refine z_iconst (q := 1) dX6_claimsOfLostAgents_0 zci_0 rfl ?_
  refine z_istore_n (q := 2) dX6_claimsOfLostAgents_1 (Nat.le_of_ble_eq_true rfl) rfl rfl ?_
  refine z_iconst (q := 3) dX6_claimsOfLostAgents_2 zci_0 rfl ?_
  refine z_istore_n (q := 4) dX6_claimsOfLostAgents_3 (Nat.le_of_ble_eq_true rfl) rfl rfl ?_
  exact loop n 0 _ _ (by omega)
