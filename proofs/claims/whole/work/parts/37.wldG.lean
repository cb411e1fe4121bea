/-! ===== the component: better notes, known tasks, double claims ===== -/
theorem zRn_exp {d : Nat → Nat → Int32} {p i : Nat} {f : Nat → Int32} {x : Int32} (h : zRn d p f i) : (decide (d (p + 1) i = nI 1) && decide (d (p + 4) i ≤ x)) = decide (f (72 + 4 * i) = nI 1 ∧ f (72 + 4 * i + 3) ≤ x) := by
  rw [h.1]
  by_cases hk : f (72 + 4 * i) = nI 1
  · rw [(h.2 hk).2.2]
    simp [hk]
  · simp [hk]
theorem qWo_1 {f : Nat → Int32} {p : Nat} (h : qWo f p = nI 1) : f p = nI 1 := by
  rw [qWo] at h
  split at h
  · exact absurd h (by decide)
  · exact h
set_option maxRecDepth 100000 in
set_option maxHeartbeats 4000000 in
theorem ct_X2_isBetter {g : zGl} {h : zHp} {b p i j : Nat} {d : Nat → Nat → Int32} {f : Nat → Int32} (hp : zNo p) (hi : i < 48) (hj : j < 48) (hI : zRn d p f i) (hJ : zRn d p f j) (kI : zPl (f (72 + 4 * i)) 3) (kJ : zPl (f (72 + 4 * j)) 3) : zC g mX2_isBetter [.ref (b + p), .int (nI i), .int (nI j), .int (f 2)] (zpT g h b d) (zV (zpT g h b d) (.int (zbi (qBetter f (72 + 4 * i) (72 + 4 * j))))) 0 0 := by
  refine zC_ofA (lv := [some (.ref (b + p)), some (.int (nI i)), some (.int (nI j)), some (.int (f 2)), none, none]) (by decide) rfl (Nat.le_of_ble_eq_true rfl) ?_
  rw [qBetter_w kI kJ]
  have rest : zA g (zZc g mX2_isBetter (zV (zpT g h b d) (.int (zbi (if qWo f (72 + 4 * i) = qWo f (72 + 4 * j) then (if qWo f (72 + 4 * i) = nI 1 then (if f (72 + 4 * i + 2) = f (72 + 4 * j + 2) then (if f (72 + 4 * i + 1) = f (72 + 4 * j + 1) then !decide (f (72 + 4 * i + 3) ≤ f (72 + 4 * j + 3)) else !decide (f (72 + 4 * j + 1) ≤ f (72 + 4 * i + 1))) else !decide (f (72 + 4 * j + 2) ≤ f (72 + 4 * i + 2))) else false) else !decide (qWo f (72 + 4 * i) ≤ qWo f (72 + 4 * j)))))) 0 0) 0 0 42 [some (.ref (b + p)), some (.int (nI i)), some (.int (nI j)), some (.int (f 2)), some (.int (qWo f (72 + 4 * i))), some (.int (qWo f (72 + 4 * j)))] [] (zpT g h b d) := by
    refine z_iload (q := 44) dX2_isBetter_42 rfl rfl ?_
    refine z_iload (q := 46) dX2_isBetter_44 rfl rfl ?_
    refine z_icmp_eq (tg := 62) (q := 49) dX2_isBetter_46 rfl rfl ?_ ?_
    · intro hc46
      rw [if_pos hc46]
      refine z_iload (q := 64) dX2_isBetter_62 rfl rfl ?_
      refine z_iconst (q := 65) dX2_isBetter_64 zci_1 rfl ?_
      refine z_icmp_eq (tg := 70) (q := 68) dX2_isBetter_65 rfl rfl ?_ ?_
      · intro hc65
        rw [if_pos hc65]
        obtain ⟨o1, o2, o3⟩ := hI.2 (qWo_1 hc65)
        obtain ⟨o4, o5, o6⟩ := hJ.2 (qWo_1 (hc46 ▸ hc65))
        refine z_aload_n (q := 71) dX2_isBetter_70 rfl rfl ?_
        refine z_get (q := 74) dX2_isBetter_71 zfX2_18 (by first | exact zT_o hw | exact zT_w hw rfl | exact zT_N hp | exact zT_n hp (by decide)) rfl rfl ?_
        refine z_iload_n (q := 75) dX2_isBetter_74 rfl rfl ?_
        refine z_iald (q := 76) dX2_isBetter_75 (by first | exact zT_o hw | exact zT_w hw rfl | exact zT_N hp | exact zT_n hp (by decide)) (by omega) (by omega) rfl ?_
        refine z_eqi o2 ?_
        refine z_aload_n (q := 77) dX2_isBetter_76 rfl rfl ?_
        refine z_get (q := 80) dX2_isBetter_77 zfX2_18 (by first | exact zT_o hw | exact zT_w hw rfl | exact zT_N hp | exact zT_n hp (by decide)) rfl rfl ?_
        refine z_iload_n (q := 81) dX2_isBetter_80 rfl rfl ?_
        refine z_iald (q := 82) dX2_isBetter_81 (by first | exact zT_o hw | exact zT_w hw rfl | exact zT_N hp | exact zT_n hp (by decide)) (by omega) (by omega) rfl ?_
        refine z_eqi o5 ?_
        refine z_icmp_eq (tg := 106) (q := 85) dX2_isBetter_82 rfl rfl ?_ ?_
        · intro hc82
          refine z_aload_n (q := 107) dX2_isBetter_106 rfl rfl ?_
          refine z_get (q := 110) dX2_isBetter_107 zfX2_15 (by first | exact zT_o hw | exact zT_w hw rfl | exact zT_N hp | exact zT_n hp (by decide)) rfl rfl ?_
          refine z_iload_n (q := 111) dX2_isBetter_110 rfl rfl ?_
          refine z_iald (q := 112) dX2_isBetter_111 (by first | exact zT_o hw | exact zT_w hw rfl | exact zT_N hp | exact zT_n hp (by decide)) (by omega) (by omega) rfl ?_
          refine z_eqi o1 ?_
          refine z_aload_n (q := 113) dX2_isBetter_112 rfl rfl ?_
          refine z_get (q := 116) dX2_isBetter_113 zfX2_15 (by first | exact zT_o hw | exact zT_w hw rfl | exact zT_N hp | exact zT_n hp (by decide)) rfl rfl ?_
          refine z_iload_n (q := 117) dX2_isBetter_116 rfl rfl ?_
          refine z_iald (q := 118) dX2_isBetter_117 (by first | exact zT_o hw | exact zT_w hw rfl | exact zT_N hp | exact zT_n hp (by decide)) (by omega) (by omega) rfl ?_
          refine z_eqi o4 ?_
          refine z_icmp_eq (tg := 142) (q := 121) dX2_isBetter_118 rfl rfl ?_ ?_
          · intro hc118
            refine z_aload_n (q := 143) dX2_isBetter_142 rfl rfl ?_
            refine z_get (q := 146) dX2_isBetter_143 zfX2_21 (by first | exact zT_o hw | exact zT_w hw rfl | exact zT_N hp | exact zT_n hp (by decide)) rfl rfl ?_
            refine z_iload_n (q := 147) dX2_isBetter_146 rfl rfl ?_
            refine z_iald (q := 148) dX2_isBetter_147 (by first | exact zT_o hw | exact zT_w hw rfl | exact zT_N hp | exact zT_n hp (by decide)) (by omega) (by omega) rfl ?_
            refine z_eqi o3 ?_
            refine z_aload_n (q := 149) dX2_isBetter_148 rfl rfl ?_
            refine z_get (q := 152) dX2_isBetter_149 zfX2_21 (by first | exact zT_o hw | exact zT_w hw rfl | exact zT_N hp | exact zT_n hp (by decide)) rfl rfl ?_
            refine z_iload_n (q := 153) dX2_isBetter_152 rfl rfl ?_
            refine z_iald (q := 154) dX2_isBetter_153 (by first | exact zT_o hw | exact zT_w hw rfl | exact zT_N hp | exact zT_n hp (by decide)) (by omega) (by omega) rfl ?_
            refine z_eqi o6 ?_
            refine z_icmp_le (tg := 161) (q := 157) dX2_isBetter_154 rfl rfl ?_ ?_
            · intro hc154
              refine z_iconst (q := 162) dX2_isBetter_161 zci_0 rfl ?_
              exact z_retz dX2_isBetter_162 rfl (by first | exact Or.inl rfl | exact Or.inr rfl) (by first | exact zVt (by simp only [hc46, hc65, hc82, hc118, hc154, if_true, if_false, decide_true, decide_false, Bool.not_false]) | exact zVf (by simp only [hc46, hc65, hc82, hc118, hc154, if_true, if_false, decide_true, decide_false, Bool.not_true]))
            · intro hc154
              refine z_iconst (q := 158) dX2_isBetter_157 zci_1 rfl ?_
              refine z_goto (q := 0) (tg := 162) dX2_isBetter_158 rfl ?_
              exact z_retz dX2_isBetter_162 rfl (by first | exact Or.inl rfl | exact Or.inr rfl) (by first | exact zVt (by simp only [hc46, hc65, hc82, hc118, hc154, if_true, if_false, decide_true, decide_false, Bool.not_false]) | exact zVf (by simp only [hc46, hc65, hc82, hc118, hc154, if_true, if_false, decide_true, decide_false, Bool.not_true]))
          · intro hc118
            refine z_aload_n (q := 122) dX2_isBetter_121 rfl rfl ?_
            refine z_get (q := 125) dX2_isBetter_122 zfX2_15 (by first | exact zT_o hw | exact zT_w hw rfl | exact zT_N hp | exact zT_n hp (by decide)) rfl rfl ?_
            refine z_iload_n (q := 126) dX2_isBetter_125 rfl rfl ?_
            refine z_iald (q := 127) dX2_isBetter_126 (by first | exact zT_o hw | exact zT_w hw rfl | exact zT_N hp | exact zT_n hp (by decide)) (by omega) (by omega) rfl ?_
            refine z_eqi o1 ?_
            refine z_aload_n (q := 128) dX2_isBetter_127 rfl rfl ?_
            refine z_get (q := 131) dX2_isBetter_128 zfX2_15 (by first | exact zT_o hw | exact zT_w hw rfl | exact zT_N hp | exact zT_n hp (by decide)) rfl rfl ?_
            refine z_iload_n (q := 132) dX2_isBetter_131 rfl rfl ?_
            refine z_iald (q := 133) dX2_isBetter_132 (by first | exact zT_o hw | exact zT_w hw rfl | exact zT_N hp | exact zT_n hp (by decide)) (by omega) (by omega) rfl ?_
            refine z_eqi o4 ?_
            refine z_icmp_ge (tg := 140) (q := 136) dX2_isBetter_133 rfl rfl ?_ ?_
            · intro hc133
              refine z_iconst (q := 141) dX2_isBetter_140 zci_0 rfl ?_
              exact z_retz dX2_isBetter_141 rfl (by first | exact Or.inl rfl | exact Or.inr rfl) (by first | exact zVt (by simp only [hc46, hc65, hc82, hc118, hc133, if_true, if_false, decide_true, decide_false, Bool.not_false]) | exact zVf (by simp only [hc46, hc65, hc82, hc118, hc133, if_true, if_false, decide_true, decide_false, Bool.not_true]))
            · intro hc133
              refine z_iconst (q := 137) dX2_isBetter_136 zci_1 rfl ?_
              refine z_goto (q := 0) (tg := 141) dX2_isBetter_137 rfl ?_
              exact z_retz dX2_isBetter_141 rfl (by first | exact Or.inl rfl | exact Or.inr rfl) (by first | exact zVt (by simp only [hc46, hc65, hc82, hc118, hc133, if_true, if_false, decide_true, decide_false, Bool.not_false]) | exact zVf (by simp only [hc46, hc65, hc82, hc118, hc133, if_true, if_false, decide_true, decide_false, Bool.not_true]))
        · intro hc82
          refine z_aload_n (q := 86) dX2_isBetter_85 rfl rfl ?_
          refine z_get (q := 89) dX2_isBetter_86 zfX2_18 (by first | exact zT_o hw | exact zT_w hw rfl | exact zT_N hp | exact zT_n hp (by decide)) rfl rfl ?_
          refine z_iload_n (q := 90) dX2_isBetter_89 rfl rfl ?_
          refine z_iald (q := 91) dX2_isBetter_90 (by first | exact zT_o hw | exact zT_w hw rfl | exact zT_N hp | exact zT_n hp (by decide)) (by omega) (by omega) rfl ?_
          refine z_eqi o2 ?_
          refine z_aload_n (q := 92) dX2_isBetter_91 rfl rfl ?_
          refine z_get (q := 95) dX2_isBetter_92 zfX2_18 (by first | exact zT_o hw | exact zT_w hw rfl | exact zT_N hp | exact zT_n hp (by decide)) rfl rfl ?_
          refine z_iload_n (q := 96) dX2_isBetter_95 rfl rfl ?_
          refine z_iald (q := 97) dX2_isBetter_96 (by first | exact zT_o hw | exact zT_w hw rfl | exact zT_N hp | exact zT_n hp (by decide)) (by omega) (by omega) rfl ?_
          refine z_eqi o5 ?_
          refine z_icmp_ge (tg := 104) (q := 100) dX2_isBetter_97 rfl rfl ?_ ?_
          · intro hc97
            refine z_iconst (q := 105) dX2_isBetter_104 zci_0 rfl ?_
            exact z_retz dX2_isBetter_105 rfl (by first | exact Or.inl rfl | exact Or.inr rfl) (by first | exact zVt (by simp only [hc46, hc65, hc82, hc97, if_true, if_false, decide_true, decide_false, Bool.not_false]) | exact zVf (by simp only [hc46, hc65, hc82, hc97, if_true, if_false, decide_true, decide_false, Bool.not_true]))
          · intro hc97
            refine z_iconst (q := 101) dX2_isBetter_100 zci_1 rfl ?_
            refine z_goto (q := 0) (tg := 105) dX2_isBetter_101 rfl ?_
            exact z_retz dX2_isBetter_105 rfl (by first | exact Or.inl rfl | exact Or.inr rfl) (by first | exact zVt (by simp only [hc46, hc65, hc82, hc97, if_true, if_false, decide_true, decide_false, Bool.not_false]) | exact zVf (by simp only [hc46, hc65, hc82, hc97, if_true, if_false, decide_true, decide_false, Bool.not_true]))
      · intro hc65
        rw [if_neg hc65]
        refine z_iconst (q := 69) dX2_isBetter_68 zci_0 rfl ?_
        exact z_retz dX2_isBetter_69 rfl (by first | exact Or.inl rfl | exact Or.inr rfl) (by first | exact zVt (by simp only [hc46, hc65, if_true, if_false, decide_true, decide_false, Bool.not_false]) | exact zVf (by simp only [hc46, hc65, if_true, if_false, decide_true, decide_false, Bool.not_true]))
    · intro hc46
      rw [if_neg hc46]
      refine z_iload (q := 51) dX2_isBetter_49 rfl rfl ?_
      refine z_iload (q := 53) dX2_isBetter_51 rfl rfl ?_
      refine z_icmp_le (tg := 60) (q := 56) dX2_isBetter_53 rfl rfl ?_ ?_
      · intro hc53
        refine z_iconst (q := 61) dX2_isBetter_60 zci_0 rfl ?_
        exact z_retz dX2_isBetter_61 rfl (by first | exact Or.inl rfl | exact Or.inr rfl) (by first | exact zVt (by simp only [hc46, hc53, if_true, if_false, decide_true, decide_false, Bool.not_false]) | exact zVf (by simp only [hc46, hc53, if_true, if_false, decide_true, decide_false, Bool.not_true]))
      · intro hc53
        refine z_iconst (q := 57) dX2_isBetter_56 zci_1 rfl ?_
        refine z_goto (q := 0) (tg := 61) dX2_isBetter_57 rfl ?_
        exact z_retz dX2_isBetter_61 rfl (by first | exact Or.inl rfl | exact Or.inr rfl) (by first | exact zVt (by simp only [hc46, hc53, if_true, if_false, decide_true, decide_false, Bool.not_false]) | exact zVf (by simp only [hc46, hc53, if_true, if_false, decide_true, decide_false, Bool.not_true]))
  refine z_aload_n (q := 1) dX2_isBetter_0 rfl rfl ?_
  refine z_iload_n (q := 2) dX2_isBetter_1 rfl rfl ?_
  refine z_iload_n (q := 3) dX2_isBetter_2 rfl rfl ?_
  refine z_v2 (q := 6) dX2_isBetter_3 zkX2_30 zt_mX2_isExpiredClaim rfl (by first | exact zT_o hw | exact zT_w hw rfl | exact zT_N hp | exact zT_n hp (by decide)) rfl (Nat.le_of_ble_eq_true rfl) (ct_X2_isExpiredClaim hp hi) rfl ?_
  refine z_ifb_eq (tg := 13) (q := 9) dX2_isBetter_6 rfl rfl ?_ ?_
  · intro hc6
    rw [zRn_exp hI, decide_eq_false_iff_not] at hc6
    refine z_aload_n (q := 14) dX2_isBetter_13 rfl rfl ?_
    refine z_get (q := 17) dX2_isBetter_14 zfX2_9 (by first | exact zT_o hw | exact zT_w hw rfl | exact zT_N hp | exact zT_n hp (by decide)) rfl rfl ?_
    refine z_iload_n (q := 18) dX2_isBetter_17 rfl rfl ?_
    refine z_iald (q := 19) dX2_isBetter_18 (by first | exact zT_o hw | exact zT_w hw rfl | exact zT_N hp | exact zT_n hp (by decide)) (by omega) (by omega) rfl ?_
    refine z_eqi (show _ = qWo f (72 + 4 * i) by rw [qWo, if_neg hc6]; exact hI.1) ?_
    refine z_istore (q := 21) dX2_isBetter_19 (Nat.le_of_ble_eq_true rfl) rfl rfl ?_
    refine z_aload_n (q := 22) dX2_isBetter_21 rfl rfl ?_
    refine z_iload_n (q := 23) dX2_isBetter_22 rfl rfl ?_
    refine z_iload_n (q := 24) dX2_isBetter_23 rfl rfl ?_
    refine z_v2 (q := 27) dX2_isBetter_24 zkX2_30 zt_mX2_isExpiredClaim rfl (by first | exact zT_o hw | exact zT_w hw rfl | exact zT_N hp | exact zT_n hp (by decide)) rfl (Nat.le_of_ble_eq_true rfl) (ct_X2_isExpiredClaim hp hj) rfl ?_
    refine z_ifb_eq (tg := 34) (q := 30) dX2_isBetter_27 rfl rfl ?_ ?_
    · intro hc27
      rw [zRn_exp hJ, decide_eq_false_iff_not] at hc27
      refine z_aload_n (q := 35) dX2_isBetter_34 rfl rfl ?_
      refine z_get (q := 38) dX2_isBetter_35 zfX2_9 (by first | exact zT_o hw | exact zT_w hw rfl | exact zT_N hp | exact zT_n hp (by decide)) rfl rfl ?_
      refine z_iload_n (q := 39) dX2_isBetter_38 rfl rfl ?_
      refine z_iald (q := 40) dX2_isBetter_39 (by first | exact zT_o hw | exact zT_w hw rfl | exact zT_N hp | exact zT_n hp (by decide)) (by omega) (by omega) rfl ?_
      refine z_eqi (show _ = qWo f (72 + 4 * j) by rw [qWo, if_neg hc27]; exact hJ.1) ?_
      refine z_istore (q := 42) dX2_isBetter_40 (Nat.le_of_ble_eq_true rfl) rfl rfl ?_
      exact rest
    · intro hc27
      rw [zRn_exp hJ, decide_eq_true_eq] at hc27
      refine z_iconst (q := 31) dX2_isBetter_30 zci_0 rfl ?_
      refine z_eqi (show nI 0 = qWo f (72 + 4 * j) by rw [qWo, if_pos hc27]) ?_
      refine z_goto (q := 0) (tg := 40) dX2_isBetter_31 rfl ?_
      refine z_istore (q := 42) dX2_isBetter_40 (Nat.le_of_ble_eq_true rfl) rfl rfl ?_
      exact rest
  · intro hc6
    rw [zRn_exp hI, decide_eq_true_eq] at hc6
    refine z_iconst (q := 10) dX2_isBetter_9 zci_0 rfl ?_
    refine z_eqi (show nI 0 = qWo f (72 + 4 * i) by rw [qWo, if_pos hc6]) ?_
    refine z_goto (q := 0) (tg := 19) dX2_isBetter_10 rfl ?_
    refine z_istore (q := 21) dX2_isBetter_19 (Nat.le_of_ble_eq_true rfl) rfl rfl ?_
    refine z_aload_n (q := 22) dX2_isBetter_21 rfl rfl ?_
    refine z_iload_n (q := 23) dX2_isBetter_22 rfl rfl ?_
    refine z_iload_n (q := 24) dX2_isBetter_23 rfl rfl ?_
    refine z_v2 (q := 27) dX2_isBetter_24 zkX2_30 zt_mX2_isExpiredClaim rfl (by first | exact zT_o hw | exact zT_w hw rfl | exact zT_N hp | exact zT_n hp (by decide)) rfl (Nat.le_of_ble_eq_true rfl) (ct_X2_isExpiredClaim hp hj) rfl ?_
    refine z_ifb_eq (tg := 34) (q := 30) dX2_isBetter_27 rfl rfl ?_ ?_
    · intro hc27
      rw [zRn_exp hJ, decide_eq_false_iff_not] at hc27
      refine z_aload_n (q := 35) dX2_isBetter_34 rfl rfl ?_
      refine z_get (q := 38) dX2_isBetter_35 zfX2_9 (by first | exact zT_o hw | exact zT_w hw rfl | exact zT_N hp | exact zT_n hp (by decide)) rfl rfl ?_
      refine z_iload_n (q := 39) dX2_isBetter_38 rfl rfl ?_
      refine z_iald (q := 40) dX2_isBetter_39 (by first | exact zT_o hw | exact zT_w hw rfl | exact zT_N hp | exact zT_n hp (by decide)) (by omega) (by omega) rfl ?_
      refine z_eqi (show _ = qWo f (72 + 4 * j) by rw [qWo, if_neg hc27]; exact hJ.1) ?_
      refine z_istore (q := 42) dX2_isBetter_40 (Nat.le_of_ble_eq_true rfl) rfl rfl ?_
      exact rest
    · intro hc27
      rw [zRn_exp hJ, decide_eq_true_eq] at hc27
      refine z_iconst (q := 31) dX2_isBetter_30 zci_0 rfl ?_
      refine z_eqi (show nI 0 = qWo f (72 + 4 * j) by rw [qWo, if_pos hc27]) ?_
      refine z_goto (q := 0) (tg := 40) dX2_isBetter_31 rfl ?_
      refine z_istore (q := 42) dX2_isBetter_40 (Nat.le_of_ble_eq_true rfl) rfl rfl ?_
      exact rest
theorem zR_mk {d : Nat → Nat → Int32} {o n K : Nat} {f : Nat → Int32} (h : zR d o f n K) : d o 4 = nI (mk (qOn f) n) := by
  obtain ⟨S, hS, h4, hb⟩ := zR_S h
  rw [h4, mk_eq hS hb]
theorem qAll {p : Nat → Bool} {n : Nat} : qIt (fun a b => b && p a) true n = decide (∀ a, a < n → p a = true) := by
  induction n with
  | zero => simp [qIt]
  | succ n ih =>
    show (qIt _ true n && p n) = _
    rw [ih]
    by_cases h : p n = true
    · by_cases h2 : ∀ a, a < n → p a = true
      · have h3 : ∀ a, a < n + 1 → p a = true := fun a ha => by
          rcases Nat.lt_succ_iff_lt_or_eq.mp ha with h9 | rfl
          · exact h2 a h9
          · exact h
        rw [decide_eq_true h2, decide_eq_true h3, h]
        rfl
      · have h3 : ¬ ∀ a, a < n + 1 → p a = true := fun h9 => h2 (fun a ha => h9 a (by omega))
        rw [decide_eq_false h2, decide_eq_false h3]
        rfl
    · have h3 : ¬ ∀ a, a < n + 1 → p a = true := fun h9 => h (h9 n (by omega))
      rw [decide_eq_false h3]
      simp [h]
set_option maxRecDepth 100000 in
set_option maxHeartbeats 4000000 in
theorem ct_X6_isKnownToAll {g : zGl} {h : zHp} {b o n K t : Nat} {d : Nat → Nat → Int32} {f : Nat → Int32} (hw : zWo o) (hR : zR d o f n K) (ht : t < K) : zC g mX6_isKnownToAll [.ref (b + o), .int (nI t)] (zpT g h b d) (zV (zpT g h b d) (.int (zbi (qKnw f n t)))) 0 0 := by
  have hn := zR_n6 hR
  have hlt : mk (fun a => qOn f a && !decide (f (72 + 4 * (8 * a + t)) = nI 2)) n < 64 := zS_31 mk_lt hn
  refine zC_ofA (lv := [some (.ref (b + o)), some (.int (nI t))]) (by decide) rfl (Nat.le_of_ble_eq_true rfl) ?_
  refine z_aload_n (q := 1) dX6_isKnownToAll_0 rfl rfl ?_
  refine z_get (q := 4) dX6_isKnownToAll_1 zfX6_59 (by first | exact zT_o hw | exact zT_w hw rfl | exact zT_N hp | exact zT_n hp (by decide)) rfl rfl ?_
  refine z_eqi (zR_mk hR) ?_
  refine z_aload_n (q := 5) dX6_isKnownToAll_4 rfl rfl ?_
  refine z_iload_n (q := 6) dX6_isKnownToAll_5 rfl rfl ?_
  refine z_v1 (q := 9) dX6_isKnownToAll_6 zkX6_138 zt_mX6_knowers rfl (by first | exact zT_o hw | exact zT_w hw rfl | exact zT_N hp | exact zT_n hp (by decide)) rfl (Nat.le_of_ble_eq_true rfl) (ct_X6_knowers hw hR ht) rfl ?_
  refine z_iconst (q := 10) dX6_isKnownToAll_9 zci_m1 rfl ?_
  refine z_ixor (q := 11) dX6_isKnownToAll_10 rfl ?_
  refine z_iand (q := 12) dX6_isKnownToAll_11 rfl ?_
  refine z_eqi mk_andn ?_
  refine z_if_ne (tg := 19) (q := 15) dX6_isKnownToAll_12 rfl rfl ?_ ?_
  · intro hc12
    rw [nI_z (by omega), mk_0] at hc12
    refine z_iconst (q := 20) dX6_isKnownToAll_19 zci_0 rfl ?_
    exact z_retz dX6_isKnownToAll_20 rfl (by first | exact Or.inl rfl | exact Or.inr rfl) (by first | exact zVt (by rw [qKnw, qAll, decide_eq_true_eq]; intro a ha; have h9 := hc12 a ha; revert h9; cases qOn f a <;> simp) | exact zVf (by rw [qKnw, qAll, decide_eq_false_iff_not]; intro h8; refine hc12 (fun a ha => ?_); have h9 := h8 a ha; revert h9; cases qOn f a <;> simp))
  · intro hc12
    rw [nI_z (by omega), mk_0] at hc12
    refine z_iconst (q := 16) dX6_isKnownToAll_15 zci_1 rfl ?_
    refine z_goto (q := 0) (tg := 20) dX6_isKnownToAll_16 rfl ?_
    exact z_retz dX6_isKnownToAll_20 rfl (by first | exact Or.inl rfl | exact Or.inr rfl) (by first | exact zVt (by rw [qKnw, qAll, decide_eq_true_eq]; intro a ha; have h9 := hc12 a ha; revert h9; cases qOn f a <;> simp) | exact zVf (by rw [qKnw, qAll, decide_eq_false_iff_not]; intro h8; refine hc12 (fun a ha => ?_); have h9 := h8 a ha; revert h9; cases qOn f a <;> simp))
theorem pc_2 : ∀ S : Fin 64, (nI S &&& (nI S - nI 1) = 0) = (pcN S < 2) := by
  intro S
  refine propext ?_
  revert S
  decide +kernel
set_option maxRecDepth 100000 in
set_option maxHeartbeats 4000000 in
theorem ct_X6_doublyClaimed {g : zGl} {h : zHp} {b o n K : Nat} {d : Nat → Nat → Int32} {f : Nat → Int32} (hw : zWo o) (hR : zR d o f n K) : zC g mX6_doublyClaimed [.ref (b + o)] (zpT g h b d) (zV (zpT g h b d) (.int (qDbl f n K))) 0 0 := by
  have hn := zR_n6 hR
  have hK := zR_K8 hR
  refine zC_ofA (lv := [some (.ref (b + o)), none, none]) (by decide) rfl (Nat.le_of_ble_eq_true rfl) ?_
  have loop : ∀ r i, i + r = K → zA g (zZc g mX6_doublyClaimed (zV (zpT g h b d) (.int (qDbl f n K))) 0 0) 0 0 4 [some (.ref (b + o)), some (.int (qDbl f n i)), some (.int (nI i))] [] (zpT g h b d) := by
    intro r
    induction r using Nat.strongRecOn with
    | ind r ih =>
      intro i hi
      have hlt : mk (fun a => qOn f a && qOwn f a i) n < 64 := zS_31 mk_lt hn
      have hpc : pcN (mk (fun a => qOn f a && qOwn f a i) n) < 2 ^ 31 := by simp only [pcN]; omega
      have hcl : qClm f n i = nI (mk (fun a => qOn f a && qOwn f a i) n) := mk_i (by omega)
      have e0 : qDbl f n (i + 1) = qDbl f n i + zbi (!decide (pcN (mk (fun a => qOn f a && qOwn f a i) n) < 2)) := by
        show qDbl f n i + zbi (!decide (qClm f n i &&& (qClm f n i - nI 1) = 0)) = _
        rw [hcl]
        simp only [pc_2 ⟨_, hlt⟩]
      refine z_iload_n (q := 5) dX6_doublyClaimed_4 rfl rfl ?_
      refine z_aload_n (q := 6) dX6_doublyClaimed_5 rfl rfl ?_
      refine z_get (q := 9) dX6_doublyClaimed_6 zfX6_53 (by first | exact zT_o hw | exact zT_w hw rfl | exact zT_N hp | exact zT_n hp (by decide)) rfl rfl ?_
      refine z_eqi (zR_1 hR) ?_
      refine z_icmp_geN (tg := 33) (q := 12) dX6_doublyClaimed_9 rfl rfl (by omega) (by omega) ?_ ?_
      · intro hc9
        refine z_iload_n (q := 34) dX6_doublyClaimed_33 rfl rfl ?_
        exact z_reti dX6_doublyClaimed_34 rfl (⟨by rw [show i = K by omega], rfl⟩)
      · intro hc9
        refine z_aload_n (q := 13) dX6_doublyClaimed_12 rfl rfl ?_
        refine z_iload_n (q := 14) dX6_doublyClaimed_13 rfl rfl ?_
        refine z_v1 (q := 17) dX6_doublyClaimed_14 zkX6_141 zt_mX6_claimants rfl (by first | exact zT_o hw | exact zT_w hw rfl | exact zT_N hp | exact zT_n hp (by decide)) rfl (Nat.le_of_ble_eq_true rfl) (ct_X6_claimants hw hR (by omega)) rfl ?_
        refine z_s1 (q := 20) dX6_doublyClaimed_17 zkX6_144 zt_mJ6_bitCount_0f7a4 rfl (Nat.le_of_ble_eq_true rfl) (ct_J6_bitCount hlt) rfl ?_
        refine z_iconst (q := 21) dX6_doublyClaimed_20 zci_2 rfl ?_
        refine z_icmp_ltN (tg := 27) (q := 24) dX6_doublyClaimed_21 rfl rfl (by omega) (by omega) ?_ ?_
        · intro hc21
          refine z_iincN (q := 30) dX6_doublyClaimed_27 rfl rfl rfl ?_
          refine z_goto (q := 0) (tg := 4) dX6_doublyClaimed_30 rfl ?_
          have e9 := ih (r - 1) (by omega) (i + 1) (by omega)
          rw [e0] at e9
          first
            | (rw [decide_eq_true (show _ < 2 from hc21), Bool.not_true, show qDbl f n i + zbi false = qDbl f n i from Int32.add_zero _] at e9; exact e9)
            | (rw [decide_eq_false (show ¬ _ < 2 by omega), Bool.not_false] at e9; exact e9)
        · intro hc21
          refine z_iinc (q := 27) dX6_doublyClaimed_24 rfl rfl rfl rfl ?_
          refine z_iincN (q := 30) dX6_doublyClaimed_27 rfl rfl rfl ?_
          refine z_goto (q := 0) (tg := 4) dX6_doublyClaimed_30 rfl ?_
          have e9 := ih (r - 1) (by omega) (i + 1) (by omega)
          rw [e0] at e9
          first
            | (rw [decide_eq_true (show _ < 2 from hc21), Bool.not_true, show qDbl f n i + zbi false = qDbl f n i from Int32.add_zero _] at e9; exact e9)
            | (rw [decide_eq_false (show ¬ _ < 2 by omega), Bool.not_false] at e9; exact e9)
  refine z_iconst (q := 1) dX6_doublyClaimed_0 zci_0 rfl ?_
  refine z_istore_n (q := 2) dX6_doublyClaimed_1 (Nat.le_of_ble_eq_true rfl) rfl rfl ?_
  refine z_iconst (q := 3) dX6_doublyClaimed_2 zci_0 rfl ?_
  refine z_istore_n (q := 4) dX6_doublyClaimed_3 (Nat.le_of_ble_eq_true rfl) rfl rfl ?_
  exact loop K 0 (by omega)
set_option maxRecDepth 100000 in
set_option maxHeartbeats 4000000 in
theorem ct_X6_canPassClaim {g : zGl} {h : zHp} {b o n K a c : Nat} {d : Nat → Nat → Int32} {f : Nat → Int32} (hw : zWo o) (hR : zR d o f n K) (ha : a < n) (hc : c < n) : zC g mX6_canPassClaim [.ref (b + o), .int (nI a), .int (nI c)] (zpT g h b d) (zV (zpT g h b d) (.int (zbi (qCan f K a c)))) 0 0 := by
  have hn := zR_n6 hR
  have hK := zR_K8 hR
  refine zC_ofA (lv := [some (.ref (b + o)), some (.int (nI a)), some (.int (nI c))]) (by decide) rfl (Nat.le_of_ble_eq_true rfl) ?_
  have k9 : ∀ x, (qOwnTask f K x).isSome = !decide (qT (qOwnTask f K x) = -9) := by
    intro x
    cases e : qOwnTask f K x with
    | none => rfl
    | some t =>
      have ht : t < K := (qFst_lt e).1
      have h1 : ¬ qT (some t) = -9 := nI_nm9 (by omega)
      simp [h1]
  have k8 : ∀ x, (qOwnTask f K x).isNone = decide (qT (qOwnTask f K x) = -9) := by
    intro x
    have h1 := k9 x
    cases e : qOwnTask f K x with
    | none => rfl
    | some t =>
      rw [e] at h1
      simpa using h1
  refine z_aload_n (q := 1) dX6_canPassClaim_0 rfl rfl ?_
  refine z_iload_n (q := 2) dX6_canPassClaim_1 rfl rfl ?_
  refine z_iload_n (q := 3) dX6_canPassClaim_2 rfl rfl ?_
  refine z_v2 (q := 6) dX6_canPassClaim_3 zkX6_102 zt_mX6_areInTouch rfl (by first | exact zT_o hw | exact zT_w hw rfl | exact zT_N hp | exact zT_n hp (by decide)) rfl (Nat.le_of_ble_eq_true rfl) (ct_X6_areInTouch hw hR ha hc) rfl ?_
  refine z_ifb_eq (tg := 33) (q := 9) dX6_canPassClaim_6 rfl rfl ?_ ?_
  · intro hc6
    refine z_iconst (q := 34) dX6_canPassClaim_33 zci_0 rfl ?_
    exact z_retz dX6_canPassClaim_34 rfl (by first | exact Or.inl rfl | exact Or.inr rfl) (by first | exact zVt (by rw [qCan, k9, k8]; simp only [hc6]; rfl) | exact zVf (by rw [qCan, k9, k8]; simp [hc6]))
  · intro hc6
    refine z_aload_n (q := 10) dX6_canPassClaim_9 rfl rfl ?_
    refine z_iload_n (q := 11) dX6_canPassClaim_10 rfl rfl ?_
    refine z_v1 (q := 14) dX6_canPassClaim_11 zkX6_118 zt_mX6_ownTask rfl (by first | exact zT_o hw | exact zT_w hw rfl | exact zT_N hp | exact zT_n hp (by decide)) rfl (Nat.le_of_ble_eq_true rfl) (ct_X6_ownTask hw hR ha) rfl ?_
    refine z_bipush (q := 16) dX6_canPassClaim_14 zcb_m9 rfl ?_
    refine z_icmp_eq (tg := 33) (q := 19) dX6_canPassClaim_16 rfl rfl ?_ ?_
    · intro hc16
      refine z_iconst (q := 34) dX6_canPassClaim_33 zci_0 rfl ?_
      exact z_retz dX6_canPassClaim_34 rfl (by first | exact Or.inl rfl | exact Or.inr rfl) (by first | exact zVt (by rw [qCan, k9, k8]; simp only [hc6, hc16]; rfl) | exact zVf (by rw [qCan, k9, k8]; simp [hc6, hc16]))
    · intro hc16
      refine z_aload_n (q := 20) dX6_canPassClaim_19 rfl rfl ?_
      refine z_iload_n (q := 21) dX6_canPassClaim_20 rfl rfl ?_
      refine z_v1 (q := 24) dX6_canPassClaim_21 zkX6_118 zt_mX6_ownTask rfl (by first | exact zT_o hw | exact zT_w hw rfl | exact zT_N hp | exact zT_n hp (by decide)) rfl (Nat.le_of_ble_eq_true rfl) (ct_X6_ownTask hw hR hc) rfl ?_
      refine z_bipush (q := 26) dX6_canPassClaim_24 zcb_m9 rfl ?_
      refine z_icmp_ne (tg := 33) (q := 29) dX6_canPassClaim_26 rfl rfl ?_ ?_
      · intro hc26
        refine z_iconst (q := 34) dX6_canPassClaim_33 zci_0 rfl ?_
        exact z_retz dX6_canPassClaim_34 rfl (by first | exact Or.inl rfl | exact Or.inr rfl) (by first | exact zVt (by rw [qCan, k9, k8]; simp only [hc6, hc16, hc26]; rfl) | exact zVf (by rw [qCan, k9, k8]; simp [hc6, hc16, hc26]))
      · intro hc26
        refine z_iconst (q := 30) dX6_canPassClaim_29 zci_1 rfl ?_
        refine z_goto (q := 0) (tg := 34) dX6_canPassClaim_30 rfl ?_
        exact z_retz dX6_canPassClaim_34 rfl (by first | exact Or.inl rfl | exact Or.inr rfl) (by first | exact zVt (by rw [qCan, k9, k8]; simp only [hc6, hc16, hc26]; rfl) | exact zVf (by rw [qCan, k9, k8]; simp [hc6, hc16, hc26]))
