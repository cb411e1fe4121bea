/-! ===== the law: questions ===== -/
theorem zlw_hops : Cond.methodLink RL 159 mL_hops.1 ∈ zTb := List.mem_filter.mpr ⟨List.mem_append_right _ (List.mem_of_getElem? (i := 731) (by decide +kernel)), by decide +kernel⟩
theorem zcw_hops : Cond.codeWith mL_hops.1 mL_hops.2.1 mL_hops.2.2.1 mL_hops.2.2.2.1 [(0, 10, 13, 28)] ∈ zTb := List.mem_filter.mpr ⟨List.mem_append_right _ (List.mem_of_getElem? (i := 733) (by decide +kernel)), by decide +kernel⟩
theorem zcn_hops : mL_hops.1.cls ≠ "java/lang/invoke/MethodHandle" ∧ mL_hops.1.cls ≠ "java/lang/invoke/VarHandle" ∧ (parseMethodDescriptor mL_hops.1.desc).map (fun d => d.parameters.length) = some 4 := ⟨by decide +kernel, by decide +kernel, by decide +kernel⟩
set_option maxRecDepth 100000 in
set_option maxHeartbeats 4000000 in
theorem op_hops {g : zGl} {nm : String} {b0 L : Nat} {xs : Nat → Int32} {k n i : Nat} {d u : Nat → Nat → Int32} {w : Nat → Int64} {l5 l6 : Option Value} (hi : i + 4 ≤ L) (hL : L ≤ 2048) (hk : 1 ≤ k) (hn : 6 ≤ n) (hJE : zJE d u) (kk : ∀ (d u : Nat → Nat → Int32) (w : Nat → Int64) (l5 l6 : Option Value), zJE d u → zA g (zZl g nm b0 L xs) (k - 1) (n - 6) 1804 [some (.ref b0), some (.ref (zgB g)), some (.ref (zgB g + 286)), some (.ref (zgB g + 298)), some (.int (nI i)), l5, l6] [] (zHl g d u w)) : zA g (zZl g nm b0 L xs) k n 1050 [some (.ref b0), some (.ref (zgB g)), some (.ref (zgB g + 286)), some (.ref (zgB g + 298)), some (.int (nI i)), l5, l6] [] (zHl g d u w) := by
  obtain ⟨n0, K, hJ⟩ := hJE
  have hR := hJ.1
  have hn6 := zR_n6 hR
  have hK8 := zR_K8 hR
  have f0 := zR_f0 hR
  have f1 := zR_f1 hR
  obtain ⟨Lt, hLt, -, hLs, -⟩ := id hJ.2.1
  obtain ⟨-, c, -, hc14, -, -, hc9, -⟩ := id hJ.2.2.1
  refine z_heq (show zHl g d u w = zpT g (zpM g (zHE g w) (zgB g + 286) u) (zgB g) d from rfl) ?_
  obtain ⟨x1, e1⟩ : ∃ x, xs (i + 1) = x := ⟨_, rfl⟩
  obtain ⟨x2, e2⟩ : ∃ x, xs (i + 2) = x := ⟨_, rfl⟩
  cases hv : (qHas x1 n0 && qHas x2 n0) with
  | false =>
    refine z_aload_n (q := 1051) dL_law_1050 rfl rfl ?_
    refine z_aload_n (q := 1052) dL_law_1051 rfl rfl ?_
    refine z_iload (q := 1054) dL_law_1052 rfl rfl ?_
    refine z_iconst (q := 1055) dL_law_1054 zci_1 rfl ?_
    refine z_iaddN (q := 1056) dL_law_1055 rfl ?_
    refine z_sld (q := 1057) dL_law_1056 (by omega) (by omega) rfl ?_
    refine z_eqi e1 ?_
    refine z_aload_n (q := 1058) dL_law_1057 rfl rfl ?_
    refine z_iload (q := 1060) dL_law_1058 rfl rfl ?_
    refine z_iconst (q := 1061) dL_law_1060 zci_2 rfl ?_
    refine z_iaddN (q := 1062) dL_law_1061 rfl ?_
    refine z_sld (q := 1063) dL_law_1062 (by omega) (by omega) rfl ?_
    refine z_eqi e2 ?_
    refine z_aload_n (q := 1064) dL_law_1063 rfl rfl ?_
    refine z_cSW (q := 1067) (av := [.ref (zgB g), .int x1, .int x2, .ref (zgB g + 298)]) dL_law_1064 zlw_hops zcw_hops zdL zt_mL_hops zcn_hops rfl rfl (Nat.le_of_ble_eq_true rfl) (wx_hops_1 (o := zgB g + 298) (cx_X7_hops1 hJ hv)) hk hn rfl ?_
    rintro _ _ ⟨rfl, D, hD, rfl⟩
    refine z_heq (show _ = zpM g (zpT g (zHE g w) (zgB g) D) (zgB g + 286) u from zHl_M (d := D) (u := u) (w := w)) ?_
    refine z_istore (q := 1069) dL_law_1067 (Nat.le_of_ble_eq_true rfl) rfl rfl ?_
    refine z_aload_n (q := 1070) dL_law_1069 rfl rfl ?_
    refine z_aload_n (q := 1071) dL_law_1070 rfl rfl ?_
    refine z_iload (q := 1073) dL_law_1071 rfl rfl ?_
    refine z_iconst (q := 1074) dL_law_1073 zci_1 rfl ?_
    refine z_iaddN (q := 1075) dL_law_1074 rfl ?_
    refine z_sld (q := 1076) dL_law_1075 (by omega) (by omega) rfl ?_
    refine z_eqi e1 ?_
    refine z_aload_n (q := 1077) dL_law_1076 rfl rfl ?_
    refine z_iload (q := 1079) dL_law_1077 rfl rfl ?_
    refine z_iconst (q := 1080) dL_law_1079 zci_2 rfl ?_
    refine z_iaddN (q := 1081) dL_law_1080 rfl ?_
    refine z_sld (q := 1082) dL_law_1081 (by omega) (by omega) rfl ?_
    refine z_eqi e2 ?_
    refine z_V2 (q := 1085) dL_law_1082 zkL_161 zt_mX8_hops rfl zpM_0 rfl (Nat.le_of_ble_eq_true rfl) (ct_X8_hops1 f0 hn6 hv) (Nat.zero_le _) (Nat.zero_le _) rfl ?_
    rintro _ _ ⟨rfl, U, rfl, hSU, hU0⟩
    refine z_istore (q := 1087) dL_law_1085 (Nat.le_of_ble_eq_true rfl) rfl rfl ?_
    refine z_aload_n (q := 1088) dL_law_1087 rfl rfl ?_
    refine z_v0 (q := 1091) dL_law_1088 zkL_106 zt_mX8_thrown rfl zpM_0 rfl (Nat.le_of_ble_eq_true rfl) (ct_X8_thrown) rfl ?_
    refine z_eqi hU0 ?_
    refine z_iload (q := 1093) dL_law_1091 rfl rfl ?_
    refine z_icmp_eqN (tg := 1098) (q := 1096) dL_law_1093 rfl rfl (by omega) (by omega) ?_ ?_
    · intro hc1093
      refine z_iload (q := 1100) dL_law_1098 rfl rfl ?_
      refine z_if_ne (tg := 1115) (q := 1103) dL_law_1100 rfl rfl ?_ ?_
      · intro hc1100
        refine z_goto (q := 0) (tg := 1804) dL_law_1115 rfl ?_
        refine z_heq (zHl_M (g := g)).symm ?_
        exact kk D U _ _ _ (zJE_Sc hSU hD)
      · intro hc1100
        exact absurd hc1100 (by decide)
    · intro hc1093
      exact absurd hc1093 (by decide)
  | true =>
    obtain ⟨hx, hy⟩ := Bool.and_eq_true_iff.mp hv
    clear hv
    obtain ⟨a, ha, rfl⟩ := qHas_t hx (by omega)
    obtain ⟨t, ht, rfl⟩ := qHas_t hy (by omega)
    refine z_aload_n (q := 1051) dL_law_1050 rfl rfl ?_
    refine z_aload_n (q := 1052) dL_law_1051 rfl rfl ?_
    refine z_iload (q := 1054) dL_law_1052 rfl rfl ?_
    refine z_iconst (q := 1055) dL_law_1054 zci_1 rfl ?_
    refine z_iaddN (q := 1056) dL_law_1055 rfl ?_
    refine z_sld (q := 1057) dL_law_1056 (by omega) (by omega) rfl ?_
    refine z_eqi e1 ?_
    refine z_aload_n (q := 1058) dL_law_1057 rfl rfl ?_
    refine z_iload (q := 1060) dL_law_1058 rfl rfl ?_
    refine z_iconst (q := 1061) dL_law_1060 zci_2 rfl ?_
    refine z_iaddN (q := 1062) dL_law_1061 rfl ?_
    refine z_sld (q := 1063) dL_law_1062 (by omega) (by omega) rfl ?_
    refine z_eqi e2 ?_
    refine z_aload_n (q := 1064) dL_law_1063 rfl rfl ?_
    refine z_cSW (q := 1067) (av := [.ref (zgB g), .int (nI a), .int (nI t), .ref (zgB g + 298)]) dL_law_1064 zlw_hops zcw_hops zdL zt_mL_hops zcn_hops rfl rfl (Nat.le_of_ble_eq_true rfl) (wr_hops (Or.inr (by omega)) zHl_o (ct_X7_hops0 hJ ha ht)) hk hn rfl ?_
    rintro _ _ ⟨rfl, D, hD, rfl⟩
    refine z_heq ((congrArg (fun H => zpT g H (zgB g) D) zHl_w).trans (zHl_M (d := D) (u := u))) ?_
    refine z_istore (q := 1069) dL_law_1067 (Nat.le_of_ble_eq_true rfl) rfl rfl ?_
    refine z_aload_n (q := 1070) dL_law_1069 rfl rfl ?_
    refine z_aload_n (q := 1071) dL_law_1070 rfl rfl ?_
    refine z_iload (q := 1073) dL_law_1071 rfl rfl ?_
    refine z_iconst (q := 1074) dL_law_1073 zci_1 rfl ?_
    refine z_iaddN (q := 1075) dL_law_1074 rfl ?_
    refine z_sld (q := 1076) dL_law_1075 (by omega) (by omega) rfl ?_
    refine z_eqi e1 ?_
    refine z_aload_n (q := 1077) dL_law_1076 rfl rfl ?_
    refine z_iload (q := 1079) dL_law_1077 rfl rfl ?_
    refine z_iconst (q := 1080) dL_law_1079 zci_2 rfl ?_
    refine z_iaddN (q := 1081) dL_law_1080 rfl ?_
    refine z_sld (q := 1082) dL_law_1081 (by omega) (by omega) rfl ?_
    refine z_eqi e2 ?_
    refine z_V2 (q := 1085) dL_law_1082 zkL_161 zt_mX8_hops rfl zpM_0 rfl (Nat.le_of_ble_eq_true rfl) (ct_X8_hops0 f0 hn6 ha ht) (Nat.zero_le _) (Nat.zero_le _) rfl ?_
    rintro _ _ ⟨rfl, U, rfl, hSU, hU0⟩
    refine z_istore (q := 1087) dL_law_1085 (Nat.le_of_ble_eq_true rfl) rfl rfl ?_
    refine z_aload_n (q := 1088) dL_law_1087 rfl rfl ?_
    refine z_v0 (q := 1091) dL_law_1088 zkL_106 zt_mX8_thrown rfl zpM_0 rfl (Nat.le_of_ble_eq_true rfl) (ct_X8_thrown) rfl ?_
    refine z_eqi hU0 ?_
    refine z_iload (q := 1093) dL_law_1091 rfl rfl ?_
    refine z_icmp_eqN (tg := 1098) (q := 1096) dL_law_1093 rfl rfl (by omega) (by omega) ?_ ?_
    · intro hc1093
      refine z_iload (q := 1100) dL_law_1098 rfl rfl ?_
      refine z_if_ne (tg := 1115) (q := 1103) dL_law_1100 rfl rfl ?_ ?_
      · intro hc1100
        exact absurd hc1100 (by decide)
      · intro hc1100
        refine z_aload_n (q := 1104) dL_law_1103 rfl rfl ?_
        refine z_iconst (q := 1105) dL_law_1104 zci_0 rfl ?_
        refine z_lald (q := 1106) dL_law_1105 zMl_o (by omega) (by omega) rfl ?_
        refine z_iload (q := 1108) dL_law_1106 rfl rfl ?_
        refine z_i2l (q := 1109) dL_law_1108 rfl rfl ?_
        refine z_lcmp (q := 1110) dL_law_1109 rfl ?_
        refine z_eqi (show lg_cmp (va_up w 0 _ 0) _ = nI 0 by rw [zu_eq, cmp_0]) ?_
        refine z_if_eq (tg := 1115) (q := 1113) dL_law_1110 rfl rfl ?_ ?_
        · intro hc1110
          refine z_goto (q := 0) (tg := 1804) dL_law_1115 rfl ?_
          refine z_heq (zHl_M (g := g)).symm ?_
          exact kk D U _ _ _ (zJE_Sc hSU hD)
        · intro hc1110
          exact absurd hc1110 (by decide)
    · intro hc1093
      exact absurd hc1093 (by decide)
set_option maxRecDepth 100000 in
set_option maxHeartbeats 4000000 in
theorem op_groups {g : zGl} {nm : String} {b0 L : Nat} {xs : Nat → Int32} {k n i : Nat} {d u : Nat → Nat → Int32} {w : Nat → Int64} {l5 l6 : Option Value} (hi : i + 4 ≤ L) (hL : L ≤ 2048) (hk : 1 ≤ k) (hn : 6 ≤ n) (hJE : zJE d u) (kk : ∀ (d u : Nat → Nat → Int32) (w : Nat → Int64) (l5 l6 : Option Value), zJE d u → zA g (zZl g nm b0 L xs) (k - 1) (n - 6) 1804 [some (.ref b0), some (.ref (zgB g)), some (.ref (zgB g + 286)), some (.ref (zgB g + 298)), some (.int (nI i)), l5, l6] [] (zHl g d u w)) : zA g (zZl g nm b0 L xs) k n 1118 [some (.ref b0), some (.ref (zgB g)), some (.ref (zgB g + 286)), some (.ref (zgB g + 298)), some (.int (nI i)), l5, l6] [] (zHl g d u w) := by
  obtain ⟨n0, K, hJ⟩ := hJE
  have hR := hJ.1
  have hn6 := zR_n6 hR
  have hK8 := zR_K8 hR
  have f0 := zR_f0 hR
  have f1 := zR_f1 hR
  obtain ⟨Lt, hLt, -, hLs, -⟩ := id hJ.2.1
  obtain ⟨-, c, -, hc14, -, -, hc9, -⟩ := id hJ.2.2.1
  refine z_heq (show zHl g d u w = zpT g (zpM g (zHE g w) (zgB g + 286) u) (zgB g) d from rfl) ?_
  refine z_aload_n (q := 1119) dL_law_1118 rfl rfl ?_
  refine z_V0 (q := 1122) dL_law_1119 zkL_162 zt_mX7_groups rfl zT_0 rfl (Nat.le_of_ble_eq_true rfl) (ct_X7_groups hJ) (Nat.zero_le _) (Nat.zero_le _) rfl ?_
  rintro _ _ ⟨rfl, D, rfl, hD⟩
  refine z_heq (zHl_M (d := D) (u := u) (w := w)) ?_
  refine z_aload_n (q := 1123) dL_law_1122 rfl rfl ?_
  refine z_V0 (q := 1126) dL_law_1123 zkL_165 zt_mX8_groups rfl zpM_0 rfl (Nat.le_of_ble_eq_true rfl) (ct_X8_groups f0 hn6) (Nat.zero_le _) (Nat.zero_le _) rfl ?_
  rintro _ _ ⟨rfl, U, rfl, hSU, hU0⟩
  refine z_icmp_eq (tg := 1804) (q := 1129) dL_law_1126 rfl rfl ?_ ?_
  · intro hc1126
    refine z_heq (zHl_M (g := g)).symm ?_
    exact z_le (Nat.sub_le _ _) (Nat.sub_le _ _) (kk D U _ _ _ (zJE_Sc hSU hD))
  · intro hc1126
    exact absurd rfl hc1126
set_option maxRecDepth 100000 in
set_option maxHeartbeats 4000000 in
theorem op_rangeNeeded {g : zGl} {nm : String} {b0 L : Nat} {xs : Nat → Int32} {k n i : Nat} {d u : Nat → Nat → Int32} {w : Nat → Int64} {l5 l6 : Option Value} (hi : i + 4 ≤ L) (hL : L ≤ 2048) (hk : 1 ≤ k) (hn : 6 ≤ n) (hJE : zJE d u) (kk : ∀ (d u : Nat → Nat → Int32) (w : Nat → Int64) (l5 l6 : Option Value), zJE d u → zA g (zZl g nm b0 L xs) (k - 1) (n - 6) 1804 [some (.ref b0), some (.ref (zgB g)), some (.ref (zgB g + 286)), some (.ref (zgB g + 298)), some (.int (nI i)), l5, l6] [] (zHl g d u w)) : zA g (zZl g nm b0 L xs) k n 1131 [some (.ref b0), some (.ref (zgB g)), some (.ref (zgB g + 286)), some (.ref (zgB g + 298)), some (.int (nI i)), l5, l6] [] (zHl g d u w) := by
  obtain ⟨n0, K, hJ⟩ := hJE
  have hR := hJ.1
  have hn6 := zR_n6 hR
  have hK8 := zR_K8 hR
  have f0 := zR_f0 hR
  have f1 := zR_f1 hR
  obtain ⟨Lt, hLt, -, hLs, -⟩ := id hJ.2.1
  obtain ⟨-, c, -, hc14, -, -, hc9, -⟩ := id hJ.2.2.1
  refine z_heq (show zHl g d u w = zpT g (zpM g (zHE g w) (zgB g + 286) u) (zgB g) d from rfl) ?_
  obtain ⟨r1, r2, r3⟩ := qRN_v hR.1
  refine z_aload_n (q := 1132) dL_law_1131 rfl rfl ?_
  refine z_V0 (q := 1135) dL_law_1132 zkL_166 zt_mX7_rangeNeeded rfl zT_0 rfl (Nat.le_of_ble_eq_true rfl) (ct_X7_rangeNeeded hJ) (Nat.zero_le _) (Nat.zero_le _) rfl ?_
  rintro _ _ ⟨rfl, D, rfl, hD⟩
  refine z_heq (zHl_M (d := D) (u := u) (w := w)) ?_
  refine z_aload_n (q := 1136) dL_law_1135 rfl rfl ?_
  refine z_V0 (q := 1139) dL_law_1136 zkL_169 zt_mX8_rangeNeeded rfl zpM_0 rfl (Nat.le_of_ble_eq_true rfl) (ct_X8_rangeNeeded f0 hn6 r1 r2 r3) (Nat.zero_le _) (Nat.zero_le _) rfl ?_
  rintro _ _ ⟨rfl, U, rfl, hSU, hU0⟩
  refine z_icmp_eq (tg := 1804) (q := 1142) dL_law_1139 rfl rfl ?_ ?_
  · intro hc1139
    refine z_heq (zHl_M (g := g)).symm ?_
    exact z_le (Nat.sub_le _ _) (Nat.sub_le _ _) (kk D U _ _ _ (zJE_Sc hSU hD))
  · intro hc1139
    exact absurd rfl hc1139
theorem zlw_conflicts : Cond.methodLink RL 170 mL_conflicts.1 ∈ zTb := List.mem_filter.mpr ⟨List.mem_append_right _ (List.mem_of_getElem? (i := 740) (by decide +kernel)), by decide +kernel⟩
theorem zcw_conflicts : Cond.codeWith mL_conflicts.1 mL_conflicts.2.1 mL_conflicts.2.2.1 mL_conflicts.2.2.2.1 [(0, 9, 12, 13)] ∈ zTb := List.mem_filter.mpr ⟨List.mem_append_right _ (List.mem_of_getElem? (i := 742) (by decide +kernel)), by decide +kernel⟩
theorem zcn_conflicts : mL_conflicts.1.cls ≠ "java/lang/invoke/MethodHandle" ∧ mL_conflicts.1.cls ≠ "java/lang/invoke/VarHandle" ∧ (parseMethodDescriptor mL_conflicts.1.desc).map (fun d => d.parameters.length) = some 3 := ⟨by decide +kernel, by decide +kernel, by decide +kernel⟩
set_option maxRecDepth 100000 in
set_option maxHeartbeats 4000000 in
theorem op_conflicts {g : zGl} {nm : String} {b0 L : Nat} {xs : Nat → Int32} {k n i : Nat} {d u : Nat → Nat → Int32} {w : Nat → Int64} {l5 l6 : Option Value} (hi : i + 4 ≤ L) (hL : L ≤ 2048) (hk : 1 ≤ k) (hn : 6 ≤ n) (hJE : zJE d u) (kk : ∀ (d u : Nat → Nat → Int32) (w : Nat → Int64) (l5 l6 : Option Value), zJE d u → zA g (zZl g nm b0 L xs) (k - 1) (n - 6) 1804 [some (.ref b0), some (.ref (zgB g)), some (.ref (zgB g + 286)), some (.ref (zgB g + 298)), some (.int (nI i)), l5, l6] [] (zHl g d u w)) : zA g (zZl g nm b0 L xs) k n 1144 [some (.ref b0), some (.ref (zgB g)), some (.ref (zgB g + 286)), some (.ref (zgB g + 298)), some (.int (nI i)), l5, l6] [] (zHl g d u w) := by
  obtain ⟨n0, K, hJ⟩ := hJE
  have hR := hJ.1
  have hn6 := zR_n6 hR
  have hK8 := zR_K8 hR
  have f0 := zR_f0 hR
  have f1 := zR_f1 hR
  obtain ⟨Lt, hLt, -, hLs, -⟩ := id hJ.2.1
  obtain ⟨-, c, -, hc14, -, -, hc9, -⟩ := id hJ.2.2.1
  refine z_heq (show zHl g d u w = zpT g (zpM g (zHE g w) (zgB g + 286) u) (zgB g) d from rfl) ?_
  obtain ⟨x1, e1⟩ : ∃ x, xs (i + 1) = x := ⟨_, rfl⟩
  cases hv : qBt x1 0 2 with
  | false =>
    refine z_aload_n (q := 1145) dL_law_1144 rfl rfl ?_
    refine z_aload_n (q := 1146) dL_law_1145 rfl rfl ?_
    refine z_iload (q := 1148) dL_law_1146 rfl rfl ?_
    refine z_iconst (q := 1149) dL_law_1148 zci_1 rfl ?_
    refine z_iaddN (q := 1150) dL_law_1149 rfl ?_
    refine z_sld (q := 1151) dL_law_1150 (by omega) (by omega) rfl ?_
    refine z_eqi e1 ?_
    refine z_aload_n (q := 1152) dL_law_1151 rfl rfl ?_
    refine z_cSW (q := 1155) (av := [.ref (zgB g), .int x1, .ref (zgB g + 298)]) dL_law_1152 zlw_conflicts zcw_conflicts zdL zt_mL_conflicts zcn_conflicts rfl rfl (Nat.le_of_ble_eq_true rfl) (wx_conflicts_1 (o := zgB g + 298) (cx_X7_conflicts1 hJ hv)) hk hn rfl ?_
    rintro _ _ ⟨rfl, D, hD, rfl⟩
    refine z_heq (show _ = zpM g (zpT g (zHE g w) (zgB g) D) (zgB g + 286) u from zHl_M (d := D) (u := u) (w := w)) ?_
    refine z_istore (q := 1157) dL_law_1155 (Nat.le_of_ble_eq_true rfl) rfl rfl ?_
    refine z_aload_n (q := 1158) dL_law_1157 rfl rfl ?_
    refine z_aload_n (q := 1159) dL_law_1158 rfl rfl ?_
    refine z_iload (q := 1161) dL_law_1159 rfl rfl ?_
    refine z_iconst (q := 1162) dL_law_1161 zci_1 rfl ?_
    refine z_iaddN (q := 1163) dL_law_1162 rfl ?_
    refine z_sld (q := 1164) dL_law_1163 (by omega) (by omega) rfl ?_
    refine z_eqi e1 ?_
    refine z_V1 (q := 1167) dL_law_1164 zkL_172 zt_mX8_conflicts rfl zpM_0 rfl (Nat.le_of_ble_eq_true rfl) (ct_X8_conflicts1 hv) (Nat.zero_le _) (Nat.zero_le _) rfl ?_
    rintro _ _ ⟨rfl, U, rfl, hSU, hU0⟩
    refine z_istore (q := 1169) dL_law_1167 (Nat.le_of_ble_eq_true rfl) rfl rfl ?_
    refine z_aload_n (q := 1170) dL_law_1169 rfl rfl ?_
    refine z_v0 (q := 1173) dL_law_1170 zkL_106 zt_mX8_thrown rfl zpM_0 rfl (Nat.le_of_ble_eq_true rfl) (ct_X8_thrown) rfl ?_
    refine z_eqi hU0 ?_
    refine z_iload (q := 1175) dL_law_1173 rfl rfl ?_
    refine z_icmp_eqN (tg := 1180) (q := 1178) dL_law_1175 rfl rfl (by omega) (by omega) ?_ ?_
    · intro hc1175
      refine z_iload (q := 1182) dL_law_1180 rfl rfl ?_
      refine z_if_ne (tg := 1197) (q := 1185) dL_law_1182 rfl rfl ?_ ?_
      · intro hc1182
        refine z_goto (q := 0) (tg := 1804) dL_law_1197 rfl ?_
        refine z_heq (zHl_M (g := g)).symm ?_
        exact kk D U _ _ _ (zJE_Sc hSU hD)
      · intro hc1182
        exact absurd hc1182 (by decide)
    · intro hc1175
      exact absurd hc1175 (by decide)
  | true =>
    obtain ⟨a, ha1, ha2, rfl⟩ := qBt_t hv (by decide) (by decide)
    refine z_aload_n (q := 1145) dL_law_1144 rfl rfl ?_
    refine z_aload_n (q := 1146) dL_law_1145 rfl rfl ?_
    refine z_iload (q := 1148) dL_law_1146 rfl rfl ?_
    refine z_iconst (q := 1149) dL_law_1148 zci_1 rfl ?_
    refine z_iaddN (q := 1150) dL_law_1149 rfl ?_
    refine z_sld (q := 1151) dL_law_1150 (by omega) (by omega) rfl ?_
    refine z_eqi e1 ?_
    refine z_aload_n (q := 1152) dL_law_1151 rfl rfl ?_
    refine z_cSW (q := 1155) (av := [.ref (zgB g), .int (nI a), .ref (zgB g + 298)]) dL_law_1152 zlw_conflicts zcw_conflicts zdL zt_mL_conflicts zcn_conflicts rfl rfl (Nat.le_of_ble_eq_true rfl) (wr_conflicts (Or.inr (by omega)) zHl_o (ct_X7_conflicts0 hJ ha2)) hk hn rfl ?_
    rintro _ _ ⟨rfl, D, hD, rfl⟩
    refine z_heq ((congrArg (fun H => zpT g H (zgB g) D) zHl_w).trans (zHl_M (d := D) (u := u))) ?_
    refine z_istore (q := 1157) dL_law_1155 (Nat.le_of_ble_eq_true rfl) rfl rfl ?_
    refine z_aload_n (q := 1158) dL_law_1157 rfl rfl ?_
    refine z_aload_n (q := 1159) dL_law_1158 rfl rfl ?_
    refine z_iload (q := 1161) dL_law_1159 rfl rfl ?_
    refine z_iconst (q := 1162) dL_law_1161 zci_1 rfl ?_
    refine z_iaddN (q := 1163) dL_law_1162 rfl ?_
    refine z_sld (q := 1164) dL_law_1163 (by omega) (by omega) rfl ?_
    refine z_eqi e1 ?_
    refine z_V1 (q := 1167) dL_law_1164 zkL_172 zt_mX8_conflicts rfl zpM_0 rfl (Nat.le_of_ble_eq_true rfl) (ct_X8_conflicts0 ha2 f0 hn6 f1 hK8 (fun a t h1 h2 h3 => by obtain ⟨o, o1, o2⟩ := (zWF_n hR.1 h1 h2).2 h3; exact ⟨o, by omega, o2⟩)) (Nat.zero_le _) (Nat.zero_le _) rfl ?_
    rintro _ _ ⟨rfl, U, rfl, hSU, hU0⟩
    refine z_istore (q := 1169) dL_law_1167 (Nat.le_of_ble_eq_true rfl) rfl rfl ?_
    refine z_aload_n (q := 1170) dL_law_1169 rfl rfl ?_
    refine z_v0 (q := 1173) dL_law_1170 zkL_106 zt_mX8_thrown rfl zpM_0 rfl (Nat.le_of_ble_eq_true rfl) (ct_X8_thrown) rfl ?_
    refine z_eqi hU0 ?_
    refine z_iload (q := 1175) dL_law_1173 rfl rfl ?_
    refine z_icmp_eqN (tg := 1180) (q := 1178) dL_law_1175 rfl rfl (by omega) (by omega) ?_ ?_
    · intro hc1175
      refine z_iload (q := 1182) dL_law_1180 rfl rfl ?_
      refine z_if_ne (tg := 1197) (q := 1185) dL_law_1182 rfl rfl ?_ ?_
      · intro hc1182
        exact absurd hc1182 (by decide)
      · intro hc1182
        refine z_aload_n (q := 1186) dL_law_1185 rfl rfl ?_
        refine z_iconst (q := 1187) dL_law_1186 zci_0 rfl ?_
        refine z_lald (q := 1188) dL_law_1187 zMl_o (by omega) (by omega) rfl ?_
        refine z_iload (q := 1190) dL_law_1188 rfl rfl ?_
        refine z_i2l (q := 1191) dL_law_1190 rfl rfl ?_
        refine z_lcmp (q := 1192) dL_law_1191 rfl ?_
        refine z_eqi (show lg_cmp (va_up w 0 _ 0) _ = nI 0 by rw [zu_eq, cmp_0]) ?_
        refine z_if_eq (tg := 1197) (q := 1195) dL_law_1192 rfl rfl ?_ ?_
        · intro hc1192
          refine z_goto (q := 0) (tg := 1804) dL_law_1197 rfl ?_
          refine z_heq (zHl_M (g := g)).symm ?_
          exact kk D U _ _ _ (zJE_Sc hSU hD)
        · intro hc1192
          exact absurd hc1192 (by decide)
    · intro hc1175
      exact absurd hc1175 (by decide)
theorem zlw_finishedAfter : Cond.methodLink RL 173 mL_finishedAfter.1 ∈ zTb := List.mem_filter.mpr ⟨List.mem_append_right _ (List.mem_of_getElem? (i := 762) (by decide +kernel)), by decide +kernel⟩
theorem zcw_finishedAfter : Cond.codeWith mL_finishedAfter.1 mL_finishedAfter.2.1 mL_finishedAfter.2.2.1 mL_finishedAfter.2.2.2.1 [(0, 9, 12, 13)] ∈ zTb := List.mem_filter.mpr ⟨List.mem_append_right _ (List.mem_of_getElem? (i := 764) (by decide +kernel)), by decide +kernel⟩
theorem zcn_finishedAfter : mL_finishedAfter.1.cls ≠ "java/lang/invoke/MethodHandle" ∧ mL_finishedAfter.1.cls ≠ "java/lang/invoke/VarHandle" ∧ (parseMethodDescriptor mL_finishedAfter.1.desc).map (fun d => d.parameters.length) = some 3 := ⟨by decide +kernel, by decide +kernel, by decide +kernel⟩
set_option maxRecDepth 100000 in
set_option maxHeartbeats 4000000 in
theorem op_finishedAfter {g : zGl} {nm : String} {b0 L : Nat} {xs : Nat → Int32} {k n i : Nat} {d u : Nat → Nat → Int32} {w : Nat → Int64} {l5 l6 : Option Value} (hi : i + 4 ≤ L) (hL : L ≤ 2048) (hk : 1 ≤ k) (hn : 6 ≤ n) (hJE : zJE d u) (kk : ∀ (d u : Nat → Nat → Int32) (w : Nat → Int64) (l5 l6 : Option Value), zJE d u → zA g (zZl g nm b0 L xs) (k - 1) (n - 6) 1804 [some (.ref b0), some (.ref (zgB g)), some (.ref (zgB g + 286)), some (.ref (zgB g + 298)), some (.int (nI i)), l5, l6] [] (zHl g d u w)) : zA g (zZl g nm b0 L xs) k n 1200 [some (.ref b0), some (.ref (zgB g)), some (.ref (zgB g + 286)), some (.ref (zgB g + 298)), some (.int (nI i)), l5, l6] [] (zHl g d u w) := by
  obtain ⟨n0, K, hJ⟩ := hJE
  have hR := hJ.1
  have hn6 := zR_n6 hR
  have hK8 := zR_K8 hR
  have f0 := zR_f0 hR
  have f1 := zR_f1 hR
  obtain ⟨Lt, hLt, -, hLs, -⟩ := id hJ.2.1
  obtain ⟨-, c, -, hc14, -, -, hc9, -⟩ := id hJ.2.2.1
  refine z_heq (show zHl g d u w = zpT g (zpM g (zHE g w) (zgB g + 286) u) (zgB g) d from rfl) ?_
  obtain ⟨x1, e1⟩ : ∃ x, xs (i + 1) = x := ⟨_, rfl⟩
  cases hv : qBt x1 0 8 with
  | false =>
    refine z_aload_n (q := 1201) dL_law_1200 rfl rfl ?_
    refine z_aload_n (q := 1202) dL_law_1201 rfl rfl ?_
    refine z_iload (q := 1204) dL_law_1202 rfl rfl ?_
    refine z_iconst (q := 1205) dL_law_1204 zci_1 rfl ?_
    refine z_iaddN (q := 1206) dL_law_1205 rfl ?_
    refine z_sld (q := 1207) dL_law_1206 (by omega) (by omega) rfl ?_
    refine z_eqi e1 ?_
    refine z_aload_n (q := 1208) dL_law_1207 rfl rfl ?_
    refine z_cSW (q := 1211) (av := [.ref (zgB g), .int x1, .ref (zgB g + 298)]) dL_law_1208 zlw_finishedAfter zcw_finishedAfter zdL zt_mL_finishedAfter zcn_finishedAfter rfl rfl (Nat.le_of_ble_eq_true rfl) (wx_finishedAfter_1 (o := zgB g + 298) (cx_X7_finishedAfter1 hJ hv)) hk hn rfl ?_
    rintro _ _ ⟨rfl, D, hD, rfl⟩
    refine z_heq (show _ = zpM g (zpT g (zHE g w) (zgB g) D) (zgB g + 286) u from zHl_M (d := D) (u := u) (w := w)) ?_
    refine z_istore (q := 1213) dL_law_1211 (Nat.le_of_ble_eq_true rfl) rfl rfl ?_
    refine z_aload_n (q := 1214) dL_law_1213 rfl rfl ?_
    refine z_aload_n (q := 1215) dL_law_1214 rfl rfl ?_
    refine z_iload (q := 1217) dL_law_1215 rfl rfl ?_
    refine z_iconst (q := 1218) dL_law_1217 zci_1 rfl ?_
    refine z_iaddN (q := 1219) dL_law_1218 rfl ?_
    refine z_sld (q := 1220) dL_law_1219 (by omega) (by omega) rfl ?_
    refine z_eqi e1 ?_
    refine z_V1 (q := 1223) dL_law_1220 zkL_175 zt_mX8_finishedAfter rfl zpM_0 rfl (Nat.le_of_ble_eq_true rfl) (ct_X8_finishedAfter1 hv) (Nat.zero_le _) (Nat.zero_le _) rfl ?_
    rintro _ _ ⟨rfl, U, rfl, hSU, hU0⟩
    refine z_istore (q := 1225) dL_law_1223 (Nat.le_of_ble_eq_true rfl) rfl rfl ?_
    refine z_aload_n (q := 1226) dL_law_1225 rfl rfl ?_
    refine z_v0 (q := 1229) dL_law_1226 zkL_106 zt_mX8_thrown rfl zpM_0 rfl (Nat.le_of_ble_eq_true rfl) (ct_X8_thrown) rfl ?_
    refine z_eqi hU0 ?_
    refine z_iload (q := 1231) dL_law_1229 rfl rfl ?_
    refine z_icmp_eqN (tg := 1236) (q := 1234) dL_law_1231 rfl rfl (by omega) (by omega) ?_ ?_
    · intro hc1231
      refine z_iload (q := 1238) dL_law_1236 rfl rfl ?_
      refine z_if_ne (tg := 1253) (q := 1241) dL_law_1238 rfl rfl ?_ ?_
      · intro hc1238
        refine z_goto (q := 0) (tg := 1804) dL_law_1253 rfl ?_
        refine z_heq (zHl_M (g := g)).symm ?_
        exact kk D U _ _ _ (zJE_Sc hSU hD)
      · intro hc1238
        exact absurd hc1238 (by decide)
    · intro hc1231
      exact absurd hc1231 (by decide)
  | true =>
    obtain ⟨a, ha1, ha2, rfl⟩ := qBt_t hv (by decide) (by decide)
    refine z_aload_n (q := 1201) dL_law_1200 rfl rfl ?_
    refine z_aload_n (q := 1202) dL_law_1201 rfl rfl ?_
    refine z_iload (q := 1204) dL_law_1202 rfl rfl ?_
    refine z_iconst (q := 1205) dL_law_1204 zci_1 rfl ?_
    refine z_iaddN (q := 1206) dL_law_1205 rfl ?_
    refine z_sld (q := 1207) dL_law_1206 (by omega) (by omega) rfl ?_
    refine z_eqi e1 ?_
    refine z_aload_n (q := 1208) dL_law_1207 rfl rfl ?_
    refine z_cSW (q := 1211) (av := [.ref (zgB g), .int (nI a), .ref (zgB g + 298)]) dL_law_1208 zlw_finishedAfter zcw_finishedAfter zdL zt_mL_finishedAfter zcn_finishedAfter rfl rfl (Nat.le_of_ble_eq_true rfl) (wr_finishedAfter (Or.inr (by omega)) zHl_o (ct_X7_finishedAfter0 hJ ha2)) hk hn rfl ?_
    rintro _ _ ⟨rfl, D, hD, rfl⟩
    refine z_heq ((congrArg (fun H => zpT g H (zgB g) D) zHl_w).trans (zHl_M (d := D) (u := u))) ?_
    refine z_istore (q := 1213) dL_law_1211 (Nat.le_of_ble_eq_true rfl) rfl rfl ?_
    refine z_aload_n (q := 1214) dL_law_1213 rfl rfl ?_
    refine z_aload_n (q := 1215) dL_law_1214 rfl rfl ?_
    refine z_iload (q := 1217) dL_law_1215 rfl rfl ?_
    refine z_iconst (q := 1218) dL_law_1217 zci_1 rfl ?_
    refine z_iaddN (q := 1219) dL_law_1218 rfl ?_
    refine z_sld (q := 1220) dL_law_1219 (by omega) (by omega) rfl ?_
    refine z_eqi e1 ?_
    refine z_V1 (q := 1223) dL_law_1220 zkL_175 zt_mX8_finishedAfter rfl zpM_0 rfl (Nat.le_of_ble_eq_true rfl) (ct_X8_finishedAfter0 f0 hn6 f1 hK8 ha2) (Nat.zero_le _) (Nat.zero_le _) rfl ?_
    rintro _ _ ⟨rfl, U, rfl, hSU, hU0⟩
    refine z_istore (q := 1225) dL_law_1223 (Nat.le_of_ble_eq_true rfl) rfl rfl ?_
    refine z_aload_n (q := 1226) dL_law_1225 rfl rfl ?_
    refine z_v0 (q := 1229) dL_law_1226 zkL_106 zt_mX8_thrown rfl zpM_0 rfl (Nat.le_of_ble_eq_true rfl) (ct_X8_thrown) rfl ?_
    refine z_eqi hU0 ?_
    refine z_iload (q := 1231) dL_law_1229 rfl rfl ?_
    refine z_icmp_eqN (tg := 1236) (q := 1234) dL_law_1231 rfl rfl (by omega) (by omega) ?_ ?_
    · intro hc1231
      refine z_iload (q := 1238) dL_law_1236 rfl rfl ?_
      refine z_if_ne (tg := 1253) (q := 1241) dL_law_1238 rfl rfl ?_ ?_
      · intro hc1238
        exact absurd hc1238 (by decide)
      · intro hc1238
        refine z_aload_n (q := 1242) dL_law_1241 rfl rfl ?_
        refine z_iconst (q := 1243) dL_law_1242 zci_0 rfl ?_
        refine z_lald (q := 1244) dL_law_1243 zMl_o (by omega) (by omega) rfl ?_
        refine z_iload (q := 1246) dL_law_1244 rfl rfl ?_
        refine z_i2l (q := 1247) dL_law_1246 rfl rfl ?_
        refine z_lcmp (q := 1248) dL_law_1247 rfl ?_
        refine z_eqi (show lg_cmp (va_up w 0 _ 0) _ = nI 0 by rw [zu_eq, cmp_0]) ?_
        refine z_if_eq (tg := 1253) (q := 1251) dL_law_1248 rfl rfl ?_ ?_
        · intro hc1248
          refine z_goto (q := 0) (tg := 1804) dL_law_1253 rfl ?_
          refine z_heq (zHl_M (g := g)).symm ?_
          exact kk D U _ _ _ (zJE_Sc hSU hD)
        · intro hc1248
          exact absurd hc1248 (by decide)
    · intro hc1231
      exact absurd hc1231 (by decide)
theorem zlw_knownAfter : Cond.methodLink RL 176 mL_knownAfter.1 ∈ zTb := List.mem_filter.mpr ⟨List.mem_append_right _ (List.mem_of_getElem? (i := 769) (by decide +kernel)), by decide +kernel⟩
theorem zcw_knownAfter : Cond.codeWith mL_knownAfter.1 mL_knownAfter.2.1 mL_knownAfter.2.2.1 mL_knownAfter.2.2.2.1 [(0, 9, 12, 28)] ∈ zTb := List.mem_filter.mpr ⟨List.mem_append_right _ (List.mem_of_getElem? (i := 771) (by decide +kernel)), by decide +kernel⟩
theorem zcn_knownAfter : mL_knownAfter.1.cls ≠ "java/lang/invoke/MethodHandle" ∧ mL_knownAfter.1.cls ≠ "java/lang/invoke/VarHandle" ∧ (parseMethodDescriptor mL_knownAfter.1.desc).map (fun d => d.parameters.length) = some 3 := ⟨by decide +kernel, by decide +kernel, by decide +kernel⟩
set_option maxRecDepth 100000 in
set_option maxHeartbeats 4000000 in
theorem op_knownAfter {g : zGl} {nm : String} {b0 L : Nat} {xs : Nat → Int32} {k n i : Nat} {d u : Nat → Nat → Int32} {w : Nat → Int64} {l5 l6 : Option Value} (hi : i + 4 ≤ L) (hL : L ≤ 2048) (hk : 1 ≤ k) (hn : 6 ≤ n) (hJE : zJE d u) (kk : ∀ (d u : Nat → Nat → Int32) (w : Nat → Int64) (l5 l6 : Option Value), zJE d u → zA g (zZl g nm b0 L xs) (k - 1) (n - 6) 1804 [some (.ref b0), some (.ref (zgB g)), some (.ref (zgB g + 286)), some (.ref (zgB g + 298)), some (.int (nI i)), l5, l6] [] (zHl g d u w)) : zA g (zZl g nm b0 L xs) k n 1256 [some (.ref b0), some (.ref (zgB g)), some (.ref (zgB g + 286)), some (.ref (zgB g + 298)), some (.int (nI i)), l5, l6] [] (zHl g d u w) := by
  obtain ⟨n0, K, hJ⟩ := hJE
  have hR := hJ.1
  have hn6 := zR_n6 hR
  have hK8 := zR_K8 hR
  have f0 := zR_f0 hR
  have f1 := zR_f1 hR
  obtain ⟨Lt, hLt, -, hLs, -⟩ := id hJ.2.1
  obtain ⟨-, c, -, hc14, -, -, hc9, -⟩ := id hJ.2.2.1
  refine z_heq (show zHl g d u w = zpT g (zpM g (zHE g w) (zgB g + 286) u) (zgB g) d from rfl) ?_
  obtain ⟨x1, e1⟩ : ∃ x, xs (i + 1) = x := ⟨_, rfl⟩
  cases hv : qHas x1 K with
  | false =>
    refine z_aload_n (q := 1257) dL_law_1256 rfl rfl ?_
    refine z_aload_n (q := 1258) dL_law_1257 rfl rfl ?_
    refine z_iload (q := 1260) dL_law_1258 rfl rfl ?_
    refine z_iconst (q := 1261) dL_law_1260 zci_1 rfl ?_
    refine z_iaddN (q := 1262) dL_law_1261 rfl ?_
    refine z_sld (q := 1263) dL_law_1262 (by omega) (by omega) rfl ?_
    refine z_eqi e1 ?_
    refine z_aload_n (q := 1264) dL_law_1263 rfl rfl ?_
    refine z_cSW (q := 1267) (av := [.ref (zgB g), .int x1, .ref (zgB g + 298)]) dL_law_1264 zlw_knownAfter zcw_knownAfter zdL zt_mL_knownAfter zcn_knownAfter rfl rfl (Nat.le_of_ble_eq_true rfl) (wx_knownAfter_1 (o := zgB g + 298) (cx_X7_knownAfter1 hJ hv)) hk hn rfl ?_
    rintro _ _ ⟨rfl, D, hD, rfl⟩
    refine z_heq (show _ = zpM g (zpT g (zHE g w) (zgB g) D) (zgB g + 286) u from zHl_M (d := D) (u := u) (w := w)) ?_
    refine z_istore (q := 1269) dL_law_1267 (Nat.le_of_ble_eq_true rfl) rfl rfl ?_
    refine z_aload_n (q := 1270) dL_law_1269 rfl rfl ?_
    refine z_aload_n (q := 1271) dL_law_1270 rfl rfl ?_
    refine z_iload (q := 1273) dL_law_1271 rfl rfl ?_
    refine z_iconst (q := 1274) dL_law_1273 zci_1 rfl ?_
    refine z_iaddN (q := 1275) dL_law_1274 rfl ?_
    refine z_sld (q := 1276) dL_law_1275 (by omega) (by omega) rfl ?_
    refine z_eqi e1 ?_
    refine z_V1 (q := 1279) dL_law_1276 zkL_178 zt_mX8_knownAfter rfl zpM_0 rfl (Nat.le_of_ble_eq_true rfl) (ct_X8_knownAfter1 f1 hK8 hv) (Nat.zero_le _) (Nat.zero_le _) rfl ?_
    rintro _ _ ⟨rfl, U, rfl, hSU, hU0⟩
    refine z_istore (q := 1281) dL_law_1279 (Nat.le_of_ble_eq_true rfl) rfl rfl ?_
    refine z_aload_n (q := 1282) dL_law_1281 rfl rfl ?_
    refine z_v0 (q := 1285) dL_law_1282 zkL_106 zt_mX8_thrown rfl zpM_0 rfl (Nat.le_of_ble_eq_true rfl) (ct_X8_thrown) rfl ?_
    refine z_eqi hU0 ?_
    refine z_iload (q := 1287) dL_law_1285 rfl rfl ?_
    refine z_icmp_eqN (tg := 1292) (q := 1290) dL_law_1287 rfl rfl (by omega) (by omega) ?_ ?_
    · intro hc1287
      refine z_iload (q := 1294) dL_law_1292 rfl rfl ?_
      refine z_if_ne (tg := 1309) (q := 1297) dL_law_1294 rfl rfl ?_ ?_
      · intro hc1294
        refine z_goto (q := 0) (tg := 1804) dL_law_1309 rfl ?_
        refine z_heq (zHl_M (g := g)).symm ?_
        exact kk D U _ _ _ (zJE_Sc hSU hD)
      · intro hc1294
        exact absurd hc1294 (by decide)
    · intro hc1287
      exact absurd hc1287 (by decide)
  | true =>
    obtain ⟨a, ha, rfl⟩ := qHas_t hv (by omega)
    refine z_aload_n (q := 1257) dL_law_1256 rfl rfl ?_
    refine z_aload_n (q := 1258) dL_law_1257 rfl rfl ?_
    refine z_iload (q := 1260) dL_law_1258 rfl rfl ?_
    refine z_iconst (q := 1261) dL_law_1260 zci_1 rfl ?_
    refine z_iaddN (q := 1262) dL_law_1261 rfl ?_
    refine z_sld (q := 1263) dL_law_1262 (by omega) (by omega) rfl ?_
    refine z_eqi e1 ?_
    refine z_aload_n (q := 1264) dL_law_1263 rfl rfl ?_
    refine z_cSW (q := 1267) (av := [.ref (zgB g), .int (nI a), .ref (zgB g + 298)]) dL_law_1264 zlw_knownAfter zcw_knownAfter zdL zt_mL_knownAfter zcn_knownAfter rfl rfl (Nat.le_of_ble_eq_true rfl) (wr_knownAfter (Or.inr (by omega)) zHl_o (ct_X7_knownAfter0 hJ ha)) hk hn rfl ?_
    rintro _ _ ⟨rfl, D, hD, rfl⟩
    refine z_heq ((congrArg (fun H => zpT g H (zgB g) D) zHl_w).trans (zHl_M (d := D) (u := u))) ?_
    refine z_istore (q := 1269) dL_law_1267 (Nat.le_of_ble_eq_true rfl) rfl rfl ?_
    refine z_aload_n (q := 1270) dL_law_1269 rfl rfl ?_
    refine z_aload_n (q := 1271) dL_law_1270 rfl rfl ?_
    refine z_iload (q := 1273) dL_law_1271 rfl rfl ?_
    refine z_iconst (q := 1274) dL_law_1273 zci_1 rfl ?_
    refine z_iaddN (q := 1275) dL_law_1274 rfl ?_
    refine z_sld (q := 1276) dL_law_1275 (by omega) (by omega) rfl ?_
    refine z_eqi e1 ?_
    refine z_V1 (q := 1279) dL_law_1276 zkL_178 zt_mX8_knownAfter rfl zpM_0 rfl (Nat.le_of_ble_eq_true rfl) (ct_X8_knownAfter0 f0 hn6 f1 hK8 ha) (Nat.zero_le _) (Nat.zero_le _) rfl ?_
    rintro _ _ ⟨rfl, U, rfl, hSU, hU0⟩
    refine z_istore (q := 1281) dL_law_1279 (Nat.le_of_ble_eq_true rfl) rfl rfl ?_
    refine z_aload_n (q := 1282) dL_law_1281 rfl rfl ?_
    refine z_v0 (q := 1285) dL_law_1282 zkL_106 zt_mX8_thrown rfl zpM_0 rfl (Nat.le_of_ble_eq_true rfl) (ct_X8_thrown) rfl ?_
    refine z_eqi hU0 ?_
    refine z_iload (q := 1287) dL_law_1285 rfl rfl ?_
    refine z_icmp_eqN (tg := 1292) (q := 1290) dL_law_1287 rfl rfl (by omega) (by omega) ?_ ?_
    · intro hc1287
      refine z_iload (q := 1294) dL_law_1292 rfl rfl ?_
      refine z_if_ne (tg := 1309) (q := 1297) dL_law_1294 rfl rfl ?_ ?_
      · intro hc1294
        exact absurd hc1294 (by decide)
      · intro hc1294
        refine z_aload_n (q := 1298) dL_law_1297 rfl rfl ?_
        refine z_iconst (q := 1299) dL_law_1298 zci_0 rfl ?_
        refine z_lald (q := 1300) dL_law_1299 zMl_o (by omega) (by omega) rfl ?_
        refine z_iload (q := 1302) dL_law_1300 rfl rfl ?_
        refine z_i2l (q := 1303) dL_law_1302 rfl rfl ?_
        refine z_lcmp (q := 1304) dL_law_1303 rfl ?_
        refine z_eqi (show lg_cmp (va_up w 0 _ 0) _ = nI 0 by rw [zu_eq, cmp_0]) ?_
        refine z_if_eq (tg := 1309) (q := 1307) dL_law_1304 rfl rfl ?_ ?_
        · intro hc1304
          refine z_goto (q := 0) (tg := 1804) dL_law_1309 rfl ?_
          refine z_heq (zHl_M (g := g)).symm ?_
          exact kk D U _ _ _ (zJE_Sc hSU hD)
        · intro hc1304
          exact absurd hc1304 (by decide)
    · intro hc1287
      exact absurd hc1287 (by decide)
theorem zlw_wastedIf : Cond.methodLink RL 179 mL_wastedIf.1 ∈ zTb := List.mem_filter.mpr ⟨List.mem_append_right _ (List.mem_of_getElem? (i := 780) (by decide +kernel)), by decide +kernel⟩
theorem zcw_wastedIf : Cond.codeWith mL_wastedIf.1 mL_wastedIf.2.1 mL_wastedIf.2.2.1 mL_wastedIf.2.2.2.1 [(0, 10, 13, 13)] ∈ zTb := List.mem_filter.mpr ⟨List.mem_append_right _ (List.mem_of_getElem? (i := 782) (by decide +kernel)), by decide +kernel⟩
theorem zcn_wastedIf : mL_wastedIf.1.cls ≠ "java/lang/invoke/MethodHandle" ∧ mL_wastedIf.1.cls ≠ "java/lang/invoke/VarHandle" ∧ (parseMethodDescriptor mL_wastedIf.1.desc).map (fun d => d.parameters.length) = some 4 := ⟨by decide +kernel, by decide +kernel, by decide +kernel⟩
set_option maxRecDepth 100000 in
set_option maxHeartbeats 4000000 in
theorem op_wastedIf {g : zGl} {nm : String} {b0 L : Nat} {xs : Nat → Int32} {k n i : Nat} {d u : Nat → Nat → Int32} {w : Nat → Int64} {l5 l6 : Option Value} (hi : i + 4 ≤ L) (hL : L ≤ 2048) (hk : 1 ≤ k) (hn : 6 ≤ n) (hJE : zJE d u) (kk : ∀ (d u : Nat → Nat → Int32) (w : Nat → Int64) (l5 l6 : Option Value), zJE d u → zA g (zZl g nm b0 L xs) (k - 1) (n - 6) 1804 [some (.ref b0), some (.ref (zgB g)), some (.ref (zgB g + 286)), some (.ref (zgB g + 298)), some (.int (nI i)), l5, l6] [] (zHl g d u w)) : zA g (zZl g nm b0 L xs) k n 1312 [some (.ref b0), some (.ref (zgB g)), some (.ref (zgB g + 286)), some (.ref (zgB g + 298)), some (.int (nI i)), l5, l6] [] (zHl g d u w) := by
  obtain ⟨n0, K, hJ⟩ := hJE
  have hR := hJ.1
  have hn6 := zR_n6 hR
  have hK8 := zR_K8 hR
  have f0 := zR_f0 hR
  have f1 := zR_f1 hR
  obtain ⟨Lt, hLt, -, hLs, -⟩ := id hJ.2.1
  obtain ⟨-, c, -, hc14, -, -, hc9, -⟩ := id hJ.2.2.1
  refine z_heq (show zHl g d u w = zpT g (zpM g (zHE g w) (zgB g + 286) u) (zgB g) d from rfl) ?_
  obtain ⟨x1, e1⟩ : ∃ x, xs (i + 1) = x := ⟨_, rfl⟩
  obtain ⟨x2, e2⟩ : ∃ x, xs (i + 2) = x := ⟨_, rfl⟩
  cases hv : (qBt x1 0 22 && qBt x2 1 99) with
  | false =>
    refine z_aload_n (q := 1313) dL_law_1312 rfl rfl ?_
    refine z_aload_n (q := 1314) dL_law_1313 rfl rfl ?_
    refine z_iload (q := 1316) dL_law_1314 rfl rfl ?_
    refine z_iconst (q := 1317) dL_law_1316 zci_1 rfl ?_
    refine z_iaddN (q := 1318) dL_law_1317 rfl ?_
    refine z_sld (q := 1319) dL_law_1318 (by omega) (by omega) rfl ?_
    refine z_eqi e1 ?_
    refine z_aload_n (q := 1320) dL_law_1319 rfl rfl ?_
    refine z_iload (q := 1322) dL_law_1320 rfl rfl ?_
    refine z_iconst (q := 1323) dL_law_1322 zci_2 rfl ?_
    refine z_iaddN (q := 1324) dL_law_1323 rfl ?_
    refine z_sld (q := 1325) dL_law_1324 (by omega) (by omega) rfl ?_
    refine z_eqi e2 ?_
    refine z_aload_n (q := 1326) dL_law_1325 rfl rfl ?_
    refine z_cSW (q := 1329) (av := [.ref (zgB g), .int x1, .int x2, .ref (zgB g + 298)]) dL_law_1326 zlw_wastedIf zcw_wastedIf zdL zt_mL_wastedIf zcn_wastedIf rfl rfl (Nat.le_of_ble_eq_true rfl) (wx_wastedIf_1 (o := zgB g + 298) (cx_X7_wastedIf1 hJ hv)) hk hn rfl ?_
    rintro _ _ ⟨rfl, D, hD, rfl⟩
    refine z_heq (show _ = zpM g (zpT g (zHE g w) (zgB g) D) (zgB g + 286) u from zHl_M (d := D) (u := u) (w := w)) ?_
    refine z_istore (q := 1331) dL_law_1329 (Nat.le_of_ble_eq_true rfl) rfl rfl ?_
    refine z_aload_n (q := 1332) dL_law_1331 rfl rfl ?_
    refine z_aload_n (q := 1333) dL_law_1332 rfl rfl ?_
    refine z_iload (q := 1335) dL_law_1333 rfl rfl ?_
    refine z_iconst (q := 1336) dL_law_1335 zci_1 rfl ?_
    refine z_iaddN (q := 1337) dL_law_1336 rfl ?_
    refine z_sld (q := 1338) dL_law_1337 (by omega) (by omega) rfl ?_
    refine z_eqi e1 ?_
    refine z_aload_n (q := 1339) dL_law_1338 rfl rfl ?_
    refine z_iload (q := 1341) dL_law_1339 rfl rfl ?_
    refine z_iconst (q := 1342) dL_law_1341 zci_2 rfl ?_
    refine z_iaddN (q := 1343) dL_law_1342 rfl ?_
    refine z_sld (q := 1344) dL_law_1343 (by omega) (by omega) rfl ?_
    refine z_eqi e2 ?_
    refine z_V2 (q := 1347) dL_law_1344 zkL_181 zt_mX8_wastedIf rfl zpM_0 rfl (Nat.le_of_ble_eq_true rfl) (ct_X8_wastedIf1 hv) (Nat.zero_le _) (Nat.zero_le _) rfl ?_
    rintro _ _ ⟨rfl, U, rfl, hSU, hU0⟩
    refine z_istore (q := 1349) dL_law_1347 (Nat.le_of_ble_eq_true rfl) rfl rfl ?_
    refine z_aload_n (q := 1350) dL_law_1349 rfl rfl ?_
    refine z_v0 (q := 1353) dL_law_1350 zkL_106 zt_mX8_thrown rfl zpM_0 rfl (Nat.le_of_ble_eq_true rfl) (ct_X8_thrown) rfl ?_
    refine z_eqi hU0 ?_
    refine z_iload (q := 1355) dL_law_1353 rfl rfl ?_
    refine z_icmp_eqN (tg := 1360) (q := 1358) dL_law_1355 rfl rfl (by omega) (by omega) ?_ ?_
    · intro hc1355
      refine z_iload (q := 1362) dL_law_1360 rfl rfl ?_
      refine z_if_ne (tg := 1377) (q := 1365) dL_law_1362 rfl rfl ?_ ?_
      · intro hc1362
        refine z_goto (q := 0) (tg := 1804) dL_law_1377 rfl ?_
        refine z_heq (zHl_M (g := g)).symm ?_
        exact kk D U _ _ _ (zJE_Sc hSU hD)
      · intro hc1362
        exact absurd hc1362 (by decide)
    · intro hc1355
      exact absurd hc1355 (by decide)
  | true =>
    obtain ⟨hx, hy⟩ := Bool.and_eq_true_iff.mp hv
    clear hv
    obtain ⟨a, ha1, ha2, rfl⟩ := qBt_t hy (by decide) (by decide)
    refine z_aload_n (q := 1313) dL_law_1312 rfl rfl ?_
    refine z_aload_n (q := 1314) dL_law_1313 rfl rfl ?_
    refine z_iload (q := 1316) dL_law_1314 rfl rfl ?_
    refine z_iconst (q := 1317) dL_law_1316 zci_1 rfl ?_
    refine z_iaddN (q := 1318) dL_law_1317 rfl ?_
    refine z_sld (q := 1319) dL_law_1318 (by omega) (by omega) rfl ?_
    refine z_eqi e1 ?_
    refine z_aload_n (q := 1320) dL_law_1319 rfl rfl ?_
    refine z_iload (q := 1322) dL_law_1320 rfl rfl ?_
    refine z_iconst (q := 1323) dL_law_1322 zci_2 rfl ?_
    refine z_iaddN (q := 1324) dL_law_1323 rfl ?_
    refine z_sld (q := 1325) dL_law_1324 (by omega) (by omega) rfl ?_
    refine z_eqi e2 ?_
    refine z_aload_n (q := 1326) dL_law_1325 rfl rfl ?_
    refine z_cSW (q := 1329) (av := [.ref (zgB g), .int x1, .int (nI a), .ref (zgB g + 298)]) dL_law_1326 zlw_wastedIf zcw_wastedIf zdL zt_mL_wastedIf zcn_wastedIf rfl rfl (Nat.le_of_ble_eq_true rfl) (wr_wastedIf (Or.inr (by omega)) zHl_o (ct_X7_wastedIf0 hJ hx ha1 ha2)) hk hn rfl ?_
    rintro _ _ ⟨rfl, D, hD, rfl⟩
    refine z_heq ((congrArg (fun H => zpT g H (zgB g) D) zHl_w).trans (zHl_M (d := D) (u := u))) ?_
    refine z_istore (q := 1331) dL_law_1329 (Nat.le_of_ble_eq_true rfl) rfl rfl ?_
    refine z_aload_n (q := 1332) dL_law_1331 rfl rfl ?_
    refine z_aload_n (q := 1333) dL_law_1332 rfl rfl ?_
    refine z_iload (q := 1335) dL_law_1333 rfl rfl ?_
    refine z_iconst (q := 1336) dL_law_1335 zci_1 rfl ?_
    refine z_iaddN (q := 1337) dL_law_1336 rfl ?_
    refine z_sld (q := 1338) dL_law_1337 (by omega) (by omega) rfl ?_
    refine z_eqi e1 ?_
    refine z_aload_n (q := 1339) dL_law_1338 rfl rfl ?_
    refine z_iload (q := 1341) dL_law_1339 rfl rfl ?_
    refine z_iconst (q := 1342) dL_law_1341 zci_2 rfl ?_
    refine z_iaddN (q := 1343) dL_law_1342 rfl ?_
    refine z_sld (q := 1344) dL_law_1343 (by omega) (by omega) rfl ?_
    refine z_eqi e2 ?_
    refine z_V2 (q := 1347) dL_law_1344 zkL_181 zt_mX8_wastedIf rfl zpM_0 rfl (Nat.le_of_ble_eq_true rfl) (ct_X8_wastedIf0 f0 hn6 f1 hK8 hx ha1 ha2) (Nat.zero_le _) (Nat.zero_le _) rfl ?_
    rintro _ _ ⟨rfl, U, rfl, hSU, hU0⟩
    refine z_istore (q := 1349) dL_law_1347 (Nat.le_of_ble_eq_true rfl) rfl rfl ?_
    refine z_aload_n (q := 1350) dL_law_1349 rfl rfl ?_
    refine z_v0 (q := 1353) dL_law_1350 zkL_106 zt_mX8_thrown rfl zpM_0 rfl (Nat.le_of_ble_eq_true rfl) (ct_X8_thrown) rfl ?_
    refine z_eqi hU0 ?_
    refine z_iload (q := 1355) dL_law_1353 rfl rfl ?_
    refine z_icmp_eqN (tg := 1360) (q := 1358) dL_law_1355 rfl rfl (by omega) (by omega) ?_ ?_
    · intro hc1355
      refine z_iload (q := 1362) dL_law_1360 rfl rfl ?_
      refine z_if_ne (tg := 1377) (q := 1365) dL_law_1362 rfl rfl ?_ ?_
      · intro hc1362
        exact absurd hc1362 (by decide)
      · intro hc1362
        refine z_aload_n (q := 1366) dL_law_1365 rfl rfl ?_
        refine z_iconst (q := 1367) dL_law_1366 zci_0 rfl ?_
        refine z_lald (q := 1368) dL_law_1367 zMl_o (by omega) (by omega) rfl ?_
        refine z_iload (q := 1370) dL_law_1368 rfl rfl ?_
        refine z_i2l (q := 1371) dL_law_1370 rfl rfl ?_
        refine z_lcmp (q := 1372) dL_law_1371 rfl ?_
        refine z_eqi (show lg_cmp (va_up w 0 _ 0) _ = nI 0 by rw [zu_eq, cmp_0]) ?_
        refine z_if_eq (tg := 1377) (q := 1375) dL_law_1372 rfl rfl ?_ ?_
        · intro hc1372
          refine z_goto (q := 0) (tg := 1804) dL_law_1377 rfl ?_
          refine z_heq (zHl_M (g := g)).symm ?_
          exact kk D U _ _ _ (zJE_Sc hSU hD)
        · intro hc1372
          exact absurd hc1372 (by decide)
    · intro hc1355
      exact absurd hc1355 (by decide)
theorem zlw_worstLoss : Cond.methodLink RL 182 mL_worstLoss.1 ∈ zTb := List.mem_filter.mpr ⟨List.mem_append_right _ (List.mem_of_getElem? (i := 787) (by decide +kernel)), by decide +kernel⟩
theorem zcw_worstLoss : Cond.codeWith mL_worstLoss.1 mL_worstLoss.2.1 mL_worstLoss.2.2.1 mL_worstLoss.2.2.2.1 [(0, 9, 12, 13)] ∈ zTb := List.mem_filter.mpr ⟨List.mem_append_right _ (List.mem_of_getElem? (i := 789) (by decide +kernel)), by decide +kernel⟩
theorem zcn_worstLoss : mL_worstLoss.1.cls ≠ "java/lang/invoke/MethodHandle" ∧ mL_worstLoss.1.cls ≠ "java/lang/invoke/VarHandle" ∧ (parseMethodDescriptor mL_worstLoss.1.desc).map (fun d => d.parameters.length) = some 3 := ⟨by decide +kernel, by decide +kernel, by decide +kernel⟩
set_option maxRecDepth 100000 in
set_option maxHeartbeats 4000000 in
theorem op_worstLoss {g : zGl} {nm : String} {b0 L : Nat} {xs : Nat → Int32} {k n i : Nat} {d u : Nat → Nat → Int32} {w : Nat → Int64} {l5 l6 : Option Value} (hi : i + 4 ≤ L) (hL : L ≤ 2048) (hk : 1 ≤ k) (hn : 6 ≤ n) (hJE : zJE d u) (kk : ∀ (d u : Nat → Nat → Int32) (w : Nat → Int64) (l5 l6 : Option Value), zJE d u → zA g (zZl g nm b0 L xs) (k - 1) (n - 6) 1804 [some (.ref b0), some (.ref (zgB g)), some (.ref (zgB g + 286)), some (.ref (zgB g + 298)), some (.int (nI i)), l5, l6] [] (zHl g d u w)) : zA g (zZl g nm b0 L xs) k n 1380 [some (.ref b0), some (.ref (zgB g)), some (.ref (zgB g + 286)), some (.ref (zgB g + 298)), some (.int (nI i)), l5, l6] [] (zHl g d u w) := by
  obtain ⟨n0, K, hJ⟩ := hJE
  have hR := hJ.1
  have hn6 := zR_n6 hR
  have hK8 := zR_K8 hR
  have f0 := zR_f0 hR
  have f1 := zR_f1 hR
  obtain ⟨Lt, hLt, -, hLs, -⟩ := id hJ.2.1
  obtain ⟨-, c, -, hc14, -, -, hc9, -⟩ := id hJ.2.2.1
  refine z_heq (show zHl g d u w = zpT g (zpM g (zHE g w) (zgB g + 286) u) (zgB g) d from rfl) ?_
  obtain ⟨x1, e1⟩ : ∃ x, xs (i + 1) = x := ⟨_, rfl⟩
  cases hv : qBt x1 1 99 with
  | false =>
    refine z_aload_n (q := 1381) dL_law_1380 rfl rfl ?_
    refine z_aload_n (q := 1382) dL_law_1381 rfl rfl ?_
    refine z_iload (q := 1384) dL_law_1382 rfl rfl ?_
    refine z_iconst (q := 1385) dL_law_1384 zci_1 rfl ?_
    refine z_iaddN (q := 1386) dL_law_1385 rfl ?_
    refine z_sld (q := 1387) dL_law_1386 (by omega) (by omega) rfl ?_
    refine z_eqi e1 ?_
    refine z_aload_n (q := 1388) dL_law_1387 rfl rfl ?_
    refine z_cSW (q := 1391) (av := [.ref (zgB g), .int x1, .ref (zgB g + 298)]) dL_law_1388 zlw_worstLoss zcw_worstLoss zdL zt_mL_worstLoss zcn_worstLoss rfl rfl (Nat.le_of_ble_eq_true rfl) (wx_worstLoss_1 (o := zgB g + 298) (cx_X7_worstLoss1 hJ hv)) hk hn rfl ?_
    rintro _ _ ⟨rfl, D, hD, rfl⟩
    refine z_heq (show _ = zpM g (zpT g (zHE g w) (zgB g) D) (zgB g + 286) u from zHl_M (d := D) (u := u) (w := w)) ?_
    refine z_istore (q := 1393) dL_law_1391 (Nat.le_of_ble_eq_true rfl) rfl rfl ?_
    refine z_aload_n (q := 1394) dL_law_1393 rfl rfl ?_
    refine z_aload_n (q := 1395) dL_law_1394 rfl rfl ?_
    refine z_iload (q := 1397) dL_law_1395 rfl rfl ?_
    refine z_iconst (q := 1398) dL_law_1397 zci_1 rfl ?_
    refine z_iaddN (q := 1399) dL_law_1398 rfl ?_
    refine z_sld (q := 1400) dL_law_1399 (by omega) (by omega) rfl ?_
    refine z_eqi e1 ?_
    refine z_V1 (q := 1403) dL_law_1400 zkL_184 zt_mX8_worstLoss rfl zpM_0 rfl (Nat.le_of_ble_eq_true rfl) (ct_X8_worstLoss1 hv) (Nat.zero_le _) (Nat.zero_le _) rfl ?_
    rintro _ _ ⟨rfl, U, rfl, hSU, hU0⟩
    refine z_istore (q := 1405) dL_law_1403 (Nat.le_of_ble_eq_true rfl) rfl rfl ?_
    refine z_aload_n (q := 1406) dL_law_1405 rfl rfl ?_
    refine z_v0 (q := 1409) dL_law_1406 zkL_106 zt_mX8_thrown rfl zpM_0 rfl (Nat.le_of_ble_eq_true rfl) (ct_X8_thrown) rfl ?_
    refine z_eqi hU0 ?_
    refine z_iload (q := 1411) dL_law_1409 rfl rfl ?_
    refine z_icmp_eqN (tg := 1416) (q := 1414) dL_law_1411 rfl rfl (by omega) (by omega) ?_ ?_
    · intro hc1411
      refine z_iload (q := 1418) dL_law_1416 rfl rfl ?_
      refine z_if_ne (tg := 1433) (q := 1421) dL_law_1418 rfl rfl ?_ ?_
      · intro hc1418
        refine z_goto (q := 0) (tg := 1804) dL_law_1433 rfl ?_
        refine z_heq (zHl_M (g := g)).symm ?_
        exact kk D U _ _ _ (zJE_Sc hSU hD)
      · intro hc1418
        exact absurd hc1418 (by decide)
    · intro hc1411
      exact absurd hc1411 (by decide)
  | true =>
    obtain ⟨a, ha1, ha2, rfl⟩ := qBt_t hv (by decide) (by decide)
    refine z_aload_n (q := 1381) dL_law_1380 rfl rfl ?_
    refine z_aload_n (q := 1382) dL_law_1381 rfl rfl ?_
    refine z_iload (q := 1384) dL_law_1382 rfl rfl ?_
    refine z_iconst (q := 1385) dL_law_1384 zci_1 rfl ?_
    refine z_iaddN (q := 1386) dL_law_1385 rfl ?_
    refine z_sld (q := 1387) dL_law_1386 (by omega) (by omega) rfl ?_
    refine z_eqi e1 ?_
    refine z_aload_n (q := 1388) dL_law_1387 rfl rfl ?_
    refine z_cSW (q := 1391) (av := [.ref (zgB g), .int (nI a), .ref (zgB g + 298)]) dL_law_1388 zlw_worstLoss zcw_worstLoss zdL zt_mL_worstLoss zcn_worstLoss rfl rfl (Nat.le_of_ble_eq_true rfl) (wr_worstLoss (Or.inr (by omega)) zHl_o (ct_X7_worstLoss0 hJ ha1 ha2)) hk hn rfl ?_
    rintro _ _ ⟨rfl, D, hD, rfl⟩
    refine z_heq ((congrArg (fun H => zpT g H (zgB g) D) zHl_w).trans (zHl_M (d := D) (u := u))) ?_
    refine z_istore (q := 1393) dL_law_1391 (Nat.le_of_ble_eq_true rfl) rfl rfl ?_
    refine z_aload_n (q := 1394) dL_law_1393 rfl rfl ?_
    refine z_aload_n (q := 1395) dL_law_1394 rfl rfl ?_
    refine z_iload (q := 1397) dL_law_1395 rfl rfl ?_
    refine z_iconst (q := 1398) dL_law_1397 zci_1 rfl ?_
    refine z_iaddN (q := 1399) dL_law_1398 rfl ?_
    refine z_sld (q := 1400) dL_law_1399 (by omega) (by omega) rfl ?_
    refine z_eqi e1 ?_
    refine z_V1 (q := 1403) dL_law_1400 zkL_184 zt_mX8_worstLoss rfl zpM_0 rfl (Nat.le_of_ble_eq_true rfl) (ct_X8_worstLoss0 f0 hn6 f1 hK8 ha1 ha2) (Nat.zero_le _) (Nat.zero_le _) rfl ?_
    rintro _ _ ⟨rfl, U, rfl, hSU, hU0⟩
    refine z_istore (q := 1405) dL_law_1403 (Nat.le_of_ble_eq_true rfl) rfl rfl ?_
    refine z_aload_n (q := 1406) dL_law_1405 rfl rfl ?_
    refine z_v0 (q := 1409) dL_law_1406 zkL_106 zt_mX8_thrown rfl zpM_0 rfl (Nat.le_of_ble_eq_true rfl) (ct_X8_thrown) rfl ?_
    refine z_eqi hU0 ?_
    refine z_iload (q := 1411) dL_law_1409 rfl rfl ?_
    refine z_icmp_eqN (tg := 1416) (q := 1414) dL_law_1411 rfl rfl (by omega) (by omega) ?_ ?_
    · intro hc1411
      refine z_iload (q := 1418) dL_law_1416 rfl rfl ?_
      refine z_if_ne (tg := 1433) (q := 1421) dL_law_1418 rfl rfl ?_ ?_
      · intro hc1418
        exact absurd hc1418 (by decide)
      · intro hc1418
        refine z_aload_n (q := 1422) dL_law_1421 rfl rfl ?_
        refine z_iconst (q := 1423) dL_law_1422 zci_0 rfl ?_
        refine z_lald (q := 1424) dL_law_1423 zMl_o (by omega) (by omega) rfl ?_
        refine z_iload (q := 1426) dL_law_1424 rfl rfl ?_
        refine z_i2l (q := 1427) dL_law_1426 rfl rfl ?_
        refine z_lcmp (q := 1428) dL_law_1427 rfl ?_
        refine z_eqi (show lg_cmp (va_up w 0 _ 0) _ = nI 0 by rw [zu_eq, cmp_0]) ?_
        refine z_if_eq (tg := 1433) (q := 1431) dL_law_1428 rfl rfl ?_ ?_
        · intro hc1428
          refine z_goto (q := 0) (tg := 1804) dL_law_1433 rfl ?_
          refine z_heq (zHl_M (g := g)).symm ?_
          exact kk D U _ _ _ (zJE_Sc hSU hD)
        · intro hc1428
          exact absurd hc1428 (by decide)
    · intro hc1411
      exact absurd hc1411 (by decide)
theorem zlw_bestShare : Cond.methodLink RL 185 mL_bestShare.1 ∈ zTb := List.mem_filter.mpr ⟨List.mem_append_right _ (List.mem_of_getElem? (i := 802) (by decide +kernel)), by decide +kernel⟩
theorem zcw_bestShare : Cond.codeWith mL_bestShare.1 mL_bestShare.2.1 mL_bestShare.2.2.1 mL_bestShare.2.2.2.1 [(0, 9, 12, 28)] ∈ zTb := List.mem_filter.mpr ⟨List.mem_append_right _ (List.mem_of_getElem? (i := 804) (by decide +kernel)), by decide +kernel⟩
theorem zcn_bestShare : mL_bestShare.1.cls ≠ "java/lang/invoke/MethodHandle" ∧ mL_bestShare.1.cls ≠ "java/lang/invoke/VarHandle" ∧ (parseMethodDescriptor mL_bestShare.1.desc).map (fun d => d.parameters.length) = some 3 := ⟨by decide +kernel, by decide +kernel, by decide +kernel⟩
set_option maxRecDepth 100000 in
set_option maxHeartbeats 4000000 in
theorem op_bestShare {g : zGl} {nm : String} {b0 L : Nat} {xs : Nat → Int32} {k n i : Nat} {d u : Nat → Nat → Int32} {w : Nat → Int64} {l5 l6 : Option Value} (hi : i + 4 ≤ L) (hL : L ≤ 2048) (hk : 1 ≤ k) (hn : 6 ≤ n) (hJE : zJE d u) (kk : ∀ (d u : Nat → Nat → Int32) (w : Nat → Int64) (l5 l6 : Option Value), zJE d u → zA g (zZl g nm b0 L xs) (k - 1) (n - 6) 1804 [some (.ref b0), some (.ref (zgB g)), some (.ref (zgB g + 286)), some (.ref (zgB g + 298)), some (.int (nI i)), l5, l6] [] (zHl g d u w)) : zA g (zZl g nm b0 L xs) k n 1436 [some (.ref b0), some (.ref (zgB g)), some (.ref (zgB g + 286)), some (.ref (zgB g + 298)), some (.int (nI i)), l5, l6] [] (zHl g d u w) := by
  obtain ⟨n0, K, hJ⟩ := hJE
  have hR := hJ.1
  have hn6 := zR_n6 hR
  have hK8 := zR_K8 hR
  have f0 := zR_f0 hR
  have f1 := zR_f1 hR
  obtain ⟨Lt, hLt, -, hLs, -⟩ := id hJ.2.1
  obtain ⟨-, c, -, hc14, -, -, hc9, -⟩ := id hJ.2.2.1
  refine z_heq (show zHl g d u w = zpT g (zpM g (zHE g w) (zgB g + 286) u) (zgB g) d from rfl) ?_
  obtain ⟨x1, e1⟩ : ∃ x, xs (i + 1) = x := ⟨_, rfl⟩
  by_cases hx : x1 = -1
  · subst hx
    refine z_aload_n (q := 1437) dL_law_1436 rfl rfl ?_
    refine z_aload_n (q := 1438) dL_law_1437 rfl rfl ?_
    refine z_iload (q := 1440) dL_law_1438 rfl rfl ?_
    refine z_iconst (q := 1441) dL_law_1440 zci_1 rfl ?_
    refine z_iaddN (q := 1442) dL_law_1441 rfl ?_
    refine z_sld (q := 1443) dL_law_1442 (by omega) (by omega) rfl ?_
    refine z_eqi e1 ?_
    refine z_aload_n (q := 1444) dL_law_1443 rfl rfl ?_
    refine z_cSW (q := 1447) (av := [.ref (zgB g), .int (-1), .ref (zgB g + 298)]) dL_law_1444 zlw_bestShare zcw_bestShare zdL zt_mL_bestShare zcn_bestShare rfl rfl (Nat.le_of_ble_eq_true rfl) (wr_bestShare (Or.inr (by omega)) zHl_o (ct_X7_bestShare0 hJ)) hk hn rfl ?_
    rintro _ _ ⟨rfl, D, hD, rfl⟩
    refine z_heq ((congrArg (fun H => zpT g H (zgB g) D) zHl_w).trans (zHl_M (d := D) (u := u))) ?_
    refine z_istore (q := 1449) dL_law_1447 (Nat.le_of_ble_eq_true rfl) rfl rfl ?_
    refine z_aload_n (q := 1450) dL_law_1449 rfl rfl ?_
    refine z_aload_n (q := 1451) dL_law_1450 rfl rfl ?_
    refine z_iload (q := 1453) dL_law_1451 rfl rfl ?_
    refine z_iconst (q := 1454) dL_law_1453 zci_1 rfl ?_
    refine z_iaddN (q := 1455) dL_law_1454 rfl ?_
    refine z_sld (q := 1456) dL_law_1455 (by omega) (by omega) rfl ?_
    refine z_eqi e1 ?_
    refine z_V1 (q := 1459) dL_law_1456 zkL_187 zt_mX8_bestShare rfl zpM_0 rfl (Nat.le_of_ble_eq_true rfl) (ct_X8_bestShare0 f0 hn6 f1 hK8) (Nat.zero_le _) (Nat.zero_le _) rfl ?_
    rintro _ _ ⟨rfl, U, rfl, hSU, hU0⟩
    refine z_istore (q := 1461) dL_law_1459 (Nat.le_of_ble_eq_true rfl) rfl rfl ?_
    refine z_aload_n (q := 1462) dL_law_1461 rfl rfl ?_
    refine z_v0 (q := 1465) dL_law_1462 zkL_106 zt_mX8_thrown rfl zpM_0 rfl (Nat.le_of_ble_eq_true rfl) (ct_X8_thrown) rfl ?_
    refine z_eqi hU0 ?_
    refine z_iload (q := 1467) dL_law_1465 rfl rfl ?_
    refine z_icmp_eqN (tg := 1472) (q := 1470) dL_law_1467 rfl rfl (by omega) (by omega) ?_ ?_
    · intro hc1467
      refine z_iload (q := 1474) dL_law_1472 rfl rfl ?_
      refine z_if_ne (tg := 1489) (q := 1477) dL_law_1474 rfl rfl ?_ ?_
      · intro hc1474
        exact absurd hc1474 (by decide)
      · intro hc1474
        refine z_aload_n (q := 1478) dL_law_1477 rfl rfl ?_
        refine z_iconst (q := 1479) dL_law_1478 zci_0 rfl ?_
        refine z_lald (q := 1480) dL_law_1479 zMl_o (by omega) (by omega) rfl ?_
        refine z_iload (q := 1482) dL_law_1480 rfl rfl ?_
        refine z_i2l (q := 1483) dL_law_1482 rfl rfl ?_
        refine z_lcmp (q := 1484) dL_law_1483 rfl ?_
        refine z_eqi (show lg_cmp (va_up w 0 _ 0) _ = nI 0 by rw [zu_eq, cmp_0]) ?_
        refine z_if_eq (tg := 1489) (q := 1487) dL_law_1484 rfl rfl ?_ ?_
        · intro hc1484
          refine z_goto (q := 0) (tg := 1804) dL_law_1489 rfl ?_
          refine z_heq (zHl_M (g := g)).symm ?_
          exact kk D U _ _ _ (zJE_Sc hSU hD)
        · intro hc1484
          exact absurd hc1484 (by decide)
    · intro hc1467
      exact absurd hc1467 (by decide)
  · cases hv : qHas x1 n0 with
    | false =>
      refine z_aload_n (q := 1437) dL_law_1436 rfl rfl ?_
      refine z_aload_n (q := 1438) dL_law_1437 rfl rfl ?_
      refine z_iload (q := 1440) dL_law_1438 rfl rfl ?_
      refine z_iconst (q := 1441) dL_law_1440 zci_1 rfl ?_
      refine z_iaddN (q := 1442) dL_law_1441 rfl ?_
      refine z_sld (q := 1443) dL_law_1442 (by omega) (by omega) rfl ?_
      refine z_eqi e1 ?_
      refine z_aload_n (q := 1444) dL_law_1443 rfl rfl ?_
      refine z_cSW (q := 1447) (av := [.ref (zgB g), .int x1, .ref (zgB g + 298)]) dL_law_1444 zlw_bestShare zcw_bestShare zdL zt_mL_bestShare zcn_bestShare rfl rfl (Nat.le_of_ble_eq_true rfl) (wx_bestShare_1 (o := zgB g + 298) (cx_X7_bestShare1 hJ hx hv)) hk hn rfl ?_
      rintro _ _ ⟨rfl, D, hD, rfl⟩
      refine z_heq (show _ = zpM g (zpT g (zHE g w) (zgB g) D) (zgB g + 286) u from zHl_M (d := D) (u := u) (w := w)) ?_
      refine z_istore (q := 1449) dL_law_1447 (Nat.le_of_ble_eq_true rfl) rfl rfl ?_
      refine z_aload_n (q := 1450) dL_law_1449 rfl rfl ?_
      refine z_aload_n (q := 1451) dL_law_1450 rfl rfl ?_
      refine z_iload (q := 1453) dL_law_1451 rfl rfl ?_
      refine z_iconst (q := 1454) dL_law_1453 zci_1 rfl ?_
      refine z_iaddN (q := 1455) dL_law_1454 rfl ?_
      refine z_sld (q := 1456) dL_law_1455 (by omega) (by omega) rfl ?_
      refine z_eqi e1 ?_
      refine z_V1 (q := 1459) dL_law_1456 zkL_187 zt_mX8_bestShare rfl zpM_0 rfl (Nat.le_of_ble_eq_true rfl) (ct_X8_bestShare1 f0 hn6 hx hv) (Nat.zero_le _) (Nat.zero_le _) rfl ?_
      rintro _ _ ⟨rfl, U, rfl, hSU, hU0⟩
      refine z_istore (q := 1461) dL_law_1459 (Nat.le_of_ble_eq_true rfl) rfl rfl ?_
      refine z_aload_n (q := 1462) dL_law_1461 rfl rfl ?_
      refine z_v0 (q := 1465) dL_law_1462 zkL_106 zt_mX8_thrown rfl zpM_0 rfl (Nat.le_of_ble_eq_true rfl) (ct_X8_thrown) rfl ?_
      refine z_eqi hU0 ?_
      refine z_iload (q := 1467) dL_law_1465 rfl rfl ?_
      refine z_icmp_eqN (tg := 1472) (q := 1470) dL_law_1467 rfl rfl (by omega) (by omega) ?_ ?_
      · intro hc1467
        refine z_iload (q := 1474) dL_law_1472 rfl rfl ?_
        refine z_if_ne (tg := 1489) (q := 1477) dL_law_1474 rfl rfl ?_ ?_
        · intro hc1474
          refine z_goto (q := 0) (tg := 1804) dL_law_1489 rfl ?_
          refine z_heq (zHl_M (g := g)).symm ?_
          exact kk D U _ _ _ (zJE_Sc hSU hD)
        · intro hc1474
          exact absurd hc1474 (by decide)
      · intro hc1467
        exact absurd hc1467 (by decide)
    | true =>
      clear hx
      obtain ⟨a, ha, rfl⟩ := qHas_t hv (by omega)
      refine z_aload_n (q := 1437) dL_law_1436 rfl rfl ?_
      refine z_aload_n (q := 1438) dL_law_1437 rfl rfl ?_
      refine z_iload (q := 1440) dL_law_1438 rfl rfl ?_
      refine z_iconst (q := 1441) dL_law_1440 zci_1 rfl ?_
      refine z_iaddN (q := 1442) dL_law_1441 rfl ?_
      refine z_sld (q := 1443) dL_law_1442 (by omega) (by omega) rfl ?_
      refine z_eqi e1 ?_
      refine z_aload_n (q := 1444) dL_law_1443 rfl rfl ?_
      refine z_cSW (q := 1447) (av := [.ref (zgB g), .int (nI a), .ref (zgB g + 298)]) dL_law_1444 zlw_bestShare zcw_bestShare zdL zt_mL_bestShare zcn_bestShare rfl rfl (Nat.le_of_ble_eq_true rfl) (wr_bestShare (Or.inr (by omega)) zHl_o (ct_X7_bestShare2 hJ ha)) hk hn rfl ?_
      rintro _ _ ⟨rfl, D, hD, rfl⟩
      refine z_heq ((congrArg (fun H => zpT g H (zgB g) D) zHl_w).trans (zHl_M (d := D) (u := u))) ?_
      refine z_istore (q := 1449) dL_law_1447 (Nat.le_of_ble_eq_true rfl) rfl rfl ?_
      refine z_aload_n (q := 1450) dL_law_1449 rfl rfl ?_
      refine z_aload_n (q := 1451) dL_law_1450 rfl rfl ?_
      refine z_iload (q := 1453) dL_law_1451 rfl rfl ?_
      refine z_iconst (q := 1454) dL_law_1453 zci_1 rfl ?_
      refine z_iaddN (q := 1455) dL_law_1454 rfl ?_
      refine z_sld (q := 1456) dL_law_1455 (by omega) (by omega) rfl ?_
      refine z_eqi e1 ?_
      refine z_V1 (q := 1459) dL_law_1456 zkL_187 zt_mX8_bestShare rfl zpM_0 rfl (Nat.le_of_ble_eq_true rfl) (ct_X8_bestShare2 f0 hn6 f1 hK8 ha) (Nat.zero_le _) (Nat.zero_le _) rfl ?_
      rintro _ _ ⟨rfl, U, rfl, hSU, hU0⟩
      refine z_istore (q := 1461) dL_law_1459 (Nat.le_of_ble_eq_true rfl) rfl rfl ?_
      refine z_aload_n (q := 1462) dL_law_1461 rfl rfl ?_
      refine z_v0 (q := 1465) dL_law_1462 zkL_106 zt_mX8_thrown rfl zpM_0 rfl (Nat.le_of_ble_eq_true rfl) (ct_X8_thrown) rfl ?_
      refine z_eqi hU0 ?_
      refine z_iload (q := 1467) dL_law_1465 rfl rfl ?_
      refine z_icmp_eqN (tg := 1472) (q := 1470) dL_law_1467 rfl rfl (by omega) (by omega) ?_ ?_
      · intro hc1467
        refine z_iload (q := 1474) dL_law_1472 rfl rfl ?_
        refine z_if_ne (tg := 1489) (q := 1477) dL_law_1474 rfl rfl ?_ ?_
        · intro hc1474
          exact absurd hc1474 (by decide)
        · intro hc1474
          refine z_aload_n (q := 1478) dL_law_1477 rfl rfl ?_
          refine z_iconst (q := 1479) dL_law_1478 zci_0 rfl ?_
          refine z_lald (q := 1480) dL_law_1479 zMl_o (by omega) (by omega) rfl ?_
          refine z_iload (q := 1482) dL_law_1480 rfl rfl ?_
          refine z_i2l (q := 1483) dL_law_1482 rfl rfl ?_
          refine z_lcmp (q := 1484) dL_law_1483 rfl ?_
          refine z_eqi (show lg_cmp (va_up w 0 _ 0) _ = nI 0 by rw [zu_eq, cmp_0]) ?_
          refine z_if_eq (tg := 1489) (q := 1487) dL_law_1484 rfl rfl ?_ ?_
          · intro hc1484
            refine z_goto (q := 0) (tg := 1804) dL_law_1489 rfl ?_
            refine z_heq (zHl_M (g := g)).symm ?_
            exact kk D U _ _ _ (zJE_Sc hSU hD)
          · intro hc1484
            exact absurd hc1484 (by decide)
      · intro hc1467
        exact absurd hc1467 (by decide)
theorem zlw_runScript : Cond.methodLink RL 190 mL_runScript.1 ∈ zTb := List.mem_filter.mpr ⟨List.mem_append_right _ (List.mem_of_getElem? (i := 839) (by decide +kernel)), by decide +kernel⟩
theorem zcw_runScript : Cond.codeWith mL_runScript.1 mL_runScript.2.1 mL_runScript.2.2.1 mL_runScript.2.2.2.1 [(0, 11, 14, 13)] ∈ zTb := List.mem_filter.mpr ⟨List.mem_append_right _ (List.mem_of_getElem? (i := 841) (by decide +kernel)), by decide +kernel⟩
theorem zcn_runScript : mL_runScript.1.cls ≠ "java/lang/invoke/MethodHandle" ∧ mL_runScript.1.cls ≠ "java/lang/invoke/VarHandle" ∧ (parseMethodDescriptor mL_runScript.1.desc).map (fun d => d.parameters.length) = some 4 := ⟨by decide +kernel, by decide +kernel, by decide +kernel⟩
set_option maxRecDepth 100000 in
set_option maxHeartbeats 4000000 in
theorem op_runScript {g : zGl} {nm : String} {b0 L : Nat} {xs : Nat → Int32} {k n i : Nat} {d u : Nat → Nat → Int32} {w : Nat → Int64} {l5 l6 : Option Value} (hi : i + 4 ≤ L) (hL : L ≤ 2048) (hk : 1 ≤ k) (hn : 6 ≤ n) (hJE : zJE d u) (kk : ∀ (d u : Nat → Nat → Int32) (w : Nat → Int64) (l5 l6 : Option Value), zJE d u → zA g (zZl g nm b0 L xs) (k - 1) (n - 6) 1804 [some (.ref b0), some (.ref (zgB g)), some (.ref (zgB g + 286)), some (.ref (zgB g + 298)), some (.int (nI i)), l5, l6] [] (zHl g d u w)) : zA g (zZl g nm b0 L xs) k n 1492 [some (.ref b0), some (.ref (zgB g)), some (.ref (zgB g + 286)), some (.ref (zgB g + 298)), some (.int (nI i)), l5, l6] [] (zHl g d u w) := by
  obtain ⟨n0, K, hJ⟩ := hJE
  have hR := hJ.1
  have hn6 := zR_n6 hR
  have hK8 := zR_K8 hR
  have f0 := zR_f0 hR
  have f1 := zR_f1 hR
  obtain ⟨Lt, hLt, -, hLs, -⟩ := id hJ.2.1
  obtain ⟨-, c, -, hc14, -, -, hc9, -⟩ := id hJ.2.2.1
  refine z_heq (show zHl g d u w = zpT g (zpM g (zHE g w) (zgB g + 286) u) (zgB g) d from rfl) ?_
  obtain ⟨x1, e1⟩ : ∃ x, xs (i + 1) = x := ⟨_, rfl⟩
  obtain ⟨x2, e2⟩ : ∃ x, xs (i + 2) = x := ⟨_, rfl⟩
  obtain ⟨x3, e3⟩ : ∃ x, xs (i + 3) = x := ⟨_, rfl⟩
  obtain ⟨z, ez⟩ : ∃ z, zLg x2 x3 = z := ⟨_, rfl⟩
  cases hv : qBt x1 1 3 with
  | false =>
    refine z_aload_n (q := 1493) dL_law_1492 rfl rfl ?_
    refine z_aload_n (q := 1494) dL_law_1493 rfl rfl ?_
    refine z_iload (q := 1496) dL_law_1494 rfl rfl ?_
    refine z_iconst (q := 1497) dL_law_1496 zci_1 rfl ?_
    refine z_iaddN (q := 1498) dL_law_1497 rfl ?_
    refine z_sld (q := 1499) dL_law_1498 (by omega) (by omega) rfl ?_
    refine z_eqi e1 ?_
    refine z_aload_n (q := 1500) dL_law_1499 rfl rfl ?_
    refine z_iload (q := 1502) dL_law_1500 rfl rfl ?_
    refine z_iconst (q := 1503) dL_law_1502 zci_2 rfl ?_
    refine z_iaddN (q := 1504) dL_law_1503 rfl ?_
    refine z_sld (q := 1505) dL_law_1504 (by omega) (by omega) rfl ?_
    refine z_eqi e2 ?_
    refine z_i2l (q := 1506) dL_law_1505 rfl rfl ?_
    refine z_bipush (q := 1508) dL_law_1506 zcb_32 rfl ?_
    refine z_lshl (q := 1509) dL_law_1508 rfl rfl ?_
    refine z_aload_n (q := 1510) dL_law_1509 rfl rfl ?_
    refine z_iload (q := 1512) dL_law_1510 rfl rfl ?_
    refine z_iconst (q := 1513) dL_law_1512 zci_3 rfl ?_
    refine z_iaddN (q := 1514) dL_law_1513 rfl ?_
    refine z_sld (q := 1515) dL_law_1514 (by omega) (by omega) rfl ?_
    refine z_eqi e3 ?_
    refine z_i2l (q := 1516) dL_law_1515 rfl rfl ?_
    refine z_ldc2 (q := 1519) dL_law_1516 zqL_188 rfl ?_
    refine z_land (q := 1520) dL_law_1519 rfl ?_
    refine z_lor (q := 1521) dL_law_1520 rfl ?_
    refine z_eql (show _ = z from ez) ?_
    refine z_aload_n (q := 1522) dL_law_1521 rfl rfl ?_
    refine z_cSW (q := 1525) (av := [.ref (zgB g), .int x1, .long z, .ref (zgB g + 298)]) dL_law_1522 zlw_runScript zcw_runScript zdL zt_mL_runScript zcn_runScript rfl rfl (Nat.le_of_ble_eq_true rfl) (wx_runScript_1 (o := zgB g + 298) (cx_X7_runScript1 hJ hv)) hk hn rfl ?_
    rintro _ _ ⟨rfl, D, hD, rfl⟩
    refine z_heq (show _ = zpM g (zpT g (zHE g w) (zgB g) D) (zgB g + 286) u from zHl_M (d := D) (u := u) (w := w)) ?_
    refine z_istore (q := 1527) dL_law_1525 (Nat.le_of_ble_eq_true rfl) rfl rfl ?_
    refine z_aload_n (q := 1528) dL_law_1527 rfl rfl ?_
    refine z_aload_n (q := 1529) dL_law_1528 rfl rfl ?_
    refine z_iload (q := 1531) dL_law_1529 rfl rfl ?_
    refine z_iconst (q := 1532) dL_law_1531 zci_1 rfl ?_
    refine z_iaddN (q := 1533) dL_law_1532 rfl ?_
    refine z_sld (q := 1534) dL_law_1533 (by omega) (by omega) rfl ?_
    refine z_eqi e1 ?_
    refine z_aload_n (q := 1535) dL_law_1534 rfl rfl ?_
    refine z_iload (q := 1537) dL_law_1535 rfl rfl ?_
    refine z_iconst (q := 1538) dL_law_1537 zci_2 rfl ?_
    refine z_iaddN (q := 1539) dL_law_1538 rfl ?_
    refine z_sld (q := 1540) dL_law_1539 (by omega) (by omega) rfl ?_
    refine z_eqi e2 ?_
    refine z_i2l (q := 1541) dL_law_1540 rfl rfl ?_
    refine z_bipush (q := 1543) dL_law_1541 zcb_32 rfl ?_
    refine z_lshl (q := 1544) dL_law_1543 rfl rfl ?_
    refine z_aload_n (q := 1545) dL_law_1544 rfl rfl ?_
    refine z_iload (q := 1547) dL_law_1545 rfl rfl ?_
    refine z_iconst (q := 1548) dL_law_1547 zci_3 rfl ?_
    refine z_iaddN (q := 1549) dL_law_1548 rfl ?_
    refine z_sld (q := 1550) dL_law_1549 (by omega) (by omega) rfl ?_
    refine z_eqi e3 ?_
    refine z_i2l (q := 1551) dL_law_1550 rfl rfl ?_
    refine z_ldc2 (q := 1554) dL_law_1551 zqL_188 rfl ?_
    refine z_land (q := 1555) dL_law_1554 rfl ?_
    refine z_lor (q := 1556) dL_law_1555 rfl ?_
    refine z_eql (show _ = z from ez) ?_
    refine z_V2 (q := 1559) dL_law_1556 zkL_193 zt_mX8_runScript rfl zpM_0 rfl (Nat.le_of_ble_eq_true rfl) (ct_X8_runScript1 hv) (Nat.zero_le _) (Nat.zero_le _) rfl ?_
    rintro _ _ ⟨rfl, U, rfl, hSU, hU0⟩
    refine z_istore (q := 1561) dL_law_1559 (Nat.le_of_ble_eq_true rfl) rfl rfl ?_
    refine z_aload_n (q := 1562) dL_law_1561 rfl rfl ?_
    refine z_v0 (q := 1565) dL_law_1562 zkL_106 zt_mX8_thrown rfl zpM_0 rfl (Nat.le_of_ble_eq_true rfl) (ct_X8_thrown) rfl ?_
    refine z_eqi hU0 ?_
    refine z_iload (q := 1567) dL_law_1565 rfl rfl ?_
    refine z_icmp_eqN (tg := 1572) (q := 1570) dL_law_1567 rfl rfl (by omega) (by omega) ?_ ?_
    · intro hc1567
      refine z_iload (q := 1574) dL_law_1572 rfl rfl ?_
      refine z_if_ne (tg := 1589) (q := 1577) dL_law_1574 rfl rfl ?_ ?_
      · intro hc1574
        refine z_goto (q := 0) (tg := 1804) dL_law_1589 rfl ?_
        refine z_heq (zHl_M (g := g)).symm ?_
        exact kk D U _ _ _ (zJE_Sc hSU hD)
      · intro hc1574
        exact absurd hc1574 (by decide)
    · intro hc1567
      exact absurd hc1567 (by decide)
  | true =>
    obtain ⟨a, ha1, ha2, rfl⟩ := qBt_t hv (by decide) (by decide)
    cases hz : qIn z 0 (lN (10 ^ (5 * a)) - 1) with
    | false =>
      refine z_aload_n (q := 1493) dL_law_1492 rfl rfl ?_
      refine z_aload_n (q := 1494) dL_law_1493 rfl rfl ?_
      refine z_iload (q := 1496) dL_law_1494 rfl rfl ?_
      refine z_iconst (q := 1497) dL_law_1496 zci_1 rfl ?_
      refine z_iaddN (q := 1498) dL_law_1497 rfl ?_
      refine z_sld (q := 1499) dL_law_1498 (by omega) (by omega) rfl ?_
      refine z_eqi e1 ?_
      refine z_aload_n (q := 1500) dL_law_1499 rfl rfl ?_
      refine z_iload (q := 1502) dL_law_1500 rfl rfl ?_
      refine z_iconst (q := 1503) dL_law_1502 zci_2 rfl ?_
      refine z_iaddN (q := 1504) dL_law_1503 rfl ?_
      refine z_sld (q := 1505) dL_law_1504 (by omega) (by omega) rfl ?_
      refine z_eqi e2 ?_
      refine z_i2l (q := 1506) dL_law_1505 rfl rfl ?_
      refine z_bipush (q := 1508) dL_law_1506 zcb_32 rfl ?_
      refine z_lshl (q := 1509) dL_law_1508 rfl rfl ?_
      refine z_aload_n (q := 1510) dL_law_1509 rfl rfl ?_
      refine z_iload (q := 1512) dL_law_1510 rfl rfl ?_
      refine z_iconst (q := 1513) dL_law_1512 zci_3 rfl ?_
      refine z_iaddN (q := 1514) dL_law_1513 rfl ?_
      refine z_sld (q := 1515) dL_law_1514 (by omega) (by omega) rfl ?_
      refine z_eqi e3 ?_
      refine z_i2l (q := 1516) dL_law_1515 rfl rfl ?_
      refine z_ldc2 (q := 1519) dL_law_1516 zqL_188 rfl ?_
      refine z_land (q := 1520) dL_law_1519 rfl ?_
      refine z_lor (q := 1521) dL_law_1520 rfl ?_
      refine z_eql (show _ = z from ez) ?_
      refine z_aload_n (q := 1522) dL_law_1521 rfl rfl ?_
      refine z_cSW (q := 1525) (av := [.ref (zgB g), .int (nI a), .long z, .ref (zgB g + 298)]) dL_law_1522 zlw_runScript zcw_runScript zdL zt_mL_runScript zcn_runScript rfl rfl (Nat.le_of_ble_eq_true rfl) (wx_runScript_1 (o := zgB g + 298) (cx_X7_runScript2 hJ ha1 ha2 hz)) hk hn rfl ?_
      rintro _ _ ⟨rfl, D, hD, rfl⟩
      refine z_heq (show _ = zpM g (zpT g (zHE g w) (zgB g) D) (zgB g + 286) u from zHl_M (d := D) (u := u) (w := w)) ?_
      refine z_istore (q := 1527) dL_law_1525 (Nat.le_of_ble_eq_true rfl) rfl rfl ?_
      refine z_aload_n (q := 1528) dL_law_1527 rfl rfl ?_
      refine z_aload_n (q := 1529) dL_law_1528 rfl rfl ?_
      refine z_iload (q := 1531) dL_law_1529 rfl rfl ?_
      refine z_iconst (q := 1532) dL_law_1531 zci_1 rfl ?_
      refine z_iaddN (q := 1533) dL_law_1532 rfl ?_
      refine z_sld (q := 1534) dL_law_1533 (by omega) (by omega) rfl ?_
      refine z_eqi e1 ?_
      refine z_aload_n (q := 1535) dL_law_1534 rfl rfl ?_
      refine z_iload (q := 1537) dL_law_1535 rfl rfl ?_
      refine z_iconst (q := 1538) dL_law_1537 zci_2 rfl ?_
      refine z_iaddN (q := 1539) dL_law_1538 rfl ?_
      refine z_sld (q := 1540) dL_law_1539 (by omega) (by omega) rfl ?_
      refine z_eqi e2 ?_
      refine z_i2l (q := 1541) dL_law_1540 rfl rfl ?_
      refine z_bipush (q := 1543) dL_law_1541 zcb_32 rfl ?_
      refine z_lshl (q := 1544) dL_law_1543 rfl rfl ?_
      refine z_aload_n (q := 1545) dL_law_1544 rfl rfl ?_
      refine z_iload (q := 1547) dL_law_1545 rfl rfl ?_
      refine z_iconst (q := 1548) dL_law_1547 zci_3 rfl ?_
      refine z_iaddN (q := 1549) dL_law_1548 rfl ?_
      refine z_sld (q := 1550) dL_law_1549 (by omega) (by omega) rfl ?_
      refine z_eqi e3 ?_
      refine z_i2l (q := 1551) dL_law_1550 rfl rfl ?_
      refine z_ldc2 (q := 1554) dL_law_1551 zqL_188 rfl ?_
      refine z_land (q := 1555) dL_law_1554 rfl ?_
      refine z_lor (q := 1556) dL_law_1555 rfl ?_
      refine z_eql (show _ = z from ez) ?_
      refine z_V2 (q := 1559) dL_law_1556 zkL_193 zt_mX8_runScript rfl zpM_0 rfl (Nat.le_of_ble_eq_true rfl) (ct_X8_runScript2 ha1 ha2 hz) (Nat.zero_le _) (Nat.zero_le _) rfl ?_
      rintro _ _ ⟨rfl, U, rfl, hSU, hU0⟩
      refine z_istore (q := 1561) dL_law_1559 (Nat.le_of_ble_eq_true rfl) rfl rfl ?_
      refine z_aload_n (q := 1562) dL_law_1561 rfl rfl ?_
      refine z_v0 (q := 1565) dL_law_1562 zkL_106 zt_mX8_thrown rfl zpM_0 rfl (Nat.le_of_ble_eq_true rfl) (ct_X8_thrown) rfl ?_
      refine z_eqi hU0 ?_
      refine z_iload (q := 1567) dL_law_1565 rfl rfl ?_
      refine z_icmp_eqN (tg := 1572) (q := 1570) dL_law_1567 rfl rfl (by omega) (by omega) ?_ ?_
      · intro hc1567
        refine z_iload (q := 1574) dL_law_1572 rfl rfl ?_
        refine z_if_ne (tg := 1589) (q := 1577) dL_law_1574 rfl rfl ?_ ?_
        · intro hc1574
          refine z_goto (q := 0) (tg := 1804) dL_law_1589 rfl ?_
          refine z_heq (zHl_M (g := g)).symm ?_
          exact kk D U _ _ _ (zJE_Sc hSU hD)
        · intro hc1574
          exact absurd hc1574 (by decide)
      · intro hc1567
        exact absurd hc1567 (by decide)
    | true =>
      obtain ⟨Y, hY, rfl⟩ := lN_of (ten5_le ha2) ten5_0 hz
      obtain ⟨z, hzz⟩ : ∃ z, z = lN Y := ⟨_, rfl⟩
      rw [← hzz] at ez
      have c1 := ct_X7_runScript0 (g := g) (h := zpM g (zHE g w) (zgB g + 286) u) (b := zgB g) hJ ha1 ha2 hY hz
      have c2 := fun (D : Nat → Nat → Int32) (w : Nat → Int64) => ct_X8_runScript0 (g := g) (h := zpT g (zHE g w) (zgB g) D) (m := zgB g + 286) f0 hn6 f1 hK8 ha1 ha2 hY hz
      rw [← hzz] at c1
      simp only [← hzz] at c2
      refine z_aload_n (q := 1493) dL_law_1492 rfl rfl ?_
      refine z_aload_n (q := 1494) dL_law_1493 rfl rfl ?_
      refine z_iload (q := 1496) dL_law_1494 rfl rfl ?_
      refine z_iconst (q := 1497) dL_law_1496 zci_1 rfl ?_
      refine z_iaddN (q := 1498) dL_law_1497 rfl ?_
      refine z_sld (q := 1499) dL_law_1498 (by omega) (by omega) rfl ?_
      refine z_eqi e1 ?_
      refine z_aload_n (q := 1500) dL_law_1499 rfl rfl ?_
      refine z_iload (q := 1502) dL_law_1500 rfl rfl ?_
      refine z_iconst (q := 1503) dL_law_1502 zci_2 rfl ?_
      refine z_iaddN (q := 1504) dL_law_1503 rfl ?_
      refine z_sld (q := 1505) dL_law_1504 (by omega) (by omega) rfl ?_
      refine z_eqi e2 ?_
      refine z_i2l (q := 1506) dL_law_1505 rfl rfl ?_
      refine z_bipush (q := 1508) dL_law_1506 zcb_32 rfl ?_
      refine z_lshl (q := 1509) dL_law_1508 rfl rfl ?_
      refine z_aload_n (q := 1510) dL_law_1509 rfl rfl ?_
      refine z_iload (q := 1512) dL_law_1510 rfl rfl ?_
      refine z_iconst (q := 1513) dL_law_1512 zci_3 rfl ?_
      refine z_iaddN (q := 1514) dL_law_1513 rfl ?_
      refine z_sld (q := 1515) dL_law_1514 (by omega) (by omega) rfl ?_
      refine z_eqi e3 ?_
      refine z_i2l (q := 1516) dL_law_1515 rfl rfl ?_
      refine z_ldc2 (q := 1519) dL_law_1516 zqL_188 rfl ?_
      refine z_land (q := 1520) dL_law_1519 rfl ?_
      refine z_lor (q := 1521) dL_law_1520 rfl ?_
      refine z_eql (show _ = z from ez) ?_
      refine z_aload_n (q := 1522) dL_law_1521 rfl rfl ?_
      refine z_cSW (q := 1525) (av := [.ref (zgB g), .int (nI a), .long z, .ref (zgB g + 298)]) dL_law_1522 zlw_runScript zcw_runScript zdL zt_mL_runScript zcn_runScript rfl rfl (Nat.le_of_ble_eq_true rfl) (wr_runScript (Or.inr (by omega)) zHl_o (c1)) hk hn rfl ?_
      rintro _ _ ⟨rfl, D, hD, rfl⟩
      refine z_heq ((congrArg (fun H => zpT g H (zgB g) D) zHl_w).trans (zHl_M (d := D) (u := u))) ?_
      refine z_istore (q := 1527) dL_law_1525 (Nat.le_of_ble_eq_true rfl) rfl rfl ?_
      refine z_aload_n (q := 1528) dL_law_1527 rfl rfl ?_
      refine z_aload_n (q := 1529) dL_law_1528 rfl rfl ?_
      refine z_iload (q := 1531) dL_law_1529 rfl rfl ?_
      refine z_iconst (q := 1532) dL_law_1531 zci_1 rfl ?_
      refine z_iaddN (q := 1533) dL_law_1532 rfl ?_
      refine z_sld (q := 1534) dL_law_1533 (by omega) (by omega) rfl ?_
      refine z_eqi e1 ?_
      refine z_aload_n (q := 1535) dL_law_1534 rfl rfl ?_
      refine z_iload (q := 1537) dL_law_1535 rfl rfl ?_
      refine z_iconst (q := 1538) dL_law_1537 zci_2 rfl ?_
      refine z_iaddN (q := 1539) dL_law_1538 rfl ?_
      refine z_sld (q := 1540) dL_law_1539 (by omega) (by omega) rfl ?_
      refine z_eqi e2 ?_
      refine z_i2l (q := 1541) dL_law_1540 rfl rfl ?_
      refine z_bipush (q := 1543) dL_law_1541 zcb_32 rfl ?_
      refine z_lshl (q := 1544) dL_law_1543 rfl rfl ?_
      refine z_aload_n (q := 1545) dL_law_1544 rfl rfl ?_
      refine z_iload (q := 1547) dL_law_1545 rfl rfl ?_
      refine z_iconst (q := 1548) dL_law_1547 zci_3 rfl ?_
      refine z_iaddN (q := 1549) dL_law_1548 rfl ?_
      refine z_sld (q := 1550) dL_law_1549 (by omega) (by omega) rfl ?_
      refine z_eqi e3 ?_
      refine z_i2l (q := 1551) dL_law_1550 rfl rfl ?_
      refine z_ldc2 (q := 1554) dL_law_1551 zqL_188 rfl ?_
      refine z_land (q := 1555) dL_law_1554 rfl ?_
      refine z_lor (q := 1556) dL_law_1555 rfl ?_
      refine z_eql (show _ = z from ez) ?_
      refine z_V2 (q := 1559) dL_law_1556 zkL_193 zt_mX8_runScript rfl zpM_0 rfl (Nat.le_of_ble_eq_true rfl) (c2 _ _) (Nat.zero_le _) (Nat.zero_le _) rfl ?_
      rintro _ _ ⟨rfl, U, rfl, hSU, hU0⟩
      refine z_istore (q := 1561) dL_law_1559 (Nat.le_of_ble_eq_true rfl) rfl rfl ?_
      refine z_aload_n (q := 1562) dL_law_1561 rfl rfl ?_
      refine z_v0 (q := 1565) dL_law_1562 zkL_106 zt_mX8_thrown rfl zpM_0 rfl (Nat.le_of_ble_eq_true rfl) (ct_X8_thrown) rfl ?_
      refine z_eqi hU0 ?_
      refine z_iload (q := 1567) dL_law_1565 rfl rfl ?_
      refine z_icmp_eqN (tg := 1572) (q := 1570) dL_law_1567 rfl rfl (by omega) (by omega) ?_ ?_
      · intro hc1567
        refine z_iload (q := 1574) dL_law_1572 rfl rfl ?_
        refine z_if_ne (tg := 1589) (q := 1577) dL_law_1574 rfl rfl ?_ ?_
        · intro hc1574
          exact absurd hc1574 (by decide)
        · intro hc1574
          refine z_aload_n (q := 1578) dL_law_1577 rfl rfl ?_
          refine z_iconst (q := 1579) dL_law_1578 zci_0 rfl ?_
          refine z_lald (q := 1580) dL_law_1579 zMl_o (by omega) (by omega) rfl ?_
          refine z_iload (q := 1582) dL_law_1580 rfl rfl ?_
          refine z_i2l (q := 1583) dL_law_1582 rfl rfl ?_
          refine z_lcmp (q := 1584) dL_law_1583 rfl ?_
          refine z_eqi (show lg_cmp (va_up w 0 _ 0) _ = nI 0 by rw [zu_eq, cmp_0]) ?_
          refine z_if_eq (tg := 1589) (q := 1587) dL_law_1584 rfl rfl ?_ ?_
          · intro hc1584
            refine z_goto (q := 0) (tg := 1804) dL_law_1589 rfl ?_
            refine z_heq (zHl_M (g := g)).symm ?_
            exact kk D U _ _ _ (zJE_Sc hSU hD)
          · intro hc1584
            exact absurd hc1584 (by decide)
      · intro hc1567
        exact absurd hc1567 (by decide)
theorem zlw_simulate : Cond.methodLink RL 194 mL_simulate.1 ∈ zTb := List.mem_filter.mpr ⟨List.mem_append_right _ (List.mem_of_getElem? (i := 864) (by decide +kernel)), by decide +kernel⟩
theorem zcw_simulate : Cond.codeWith mL_simulate.1 mL_simulate.2.1 mL_simulate.2.2.1 mL_simulate.2.2.2.1 [(0, 11, 14, 13)] ∈ zTb := List.mem_filter.mpr ⟨List.mem_append_right _ (List.mem_of_getElem? (i := 866) (by decide +kernel)), by decide +kernel⟩
theorem zcn_simulate : mL_simulate.1.cls ≠ "java/lang/invoke/MethodHandle" ∧ mL_simulate.1.cls ≠ "java/lang/invoke/VarHandle" ∧ (parseMethodDescriptor mL_simulate.1.desc).map (fun d => d.parameters.length) = some 4 := ⟨by decide +kernel, by decide +kernel, by decide +kernel⟩
set_option maxRecDepth 100000 in
set_option maxHeartbeats 4000000 in
theorem op_simulate {g : zGl} {nm : String} {b0 L : Nat} {xs : Nat → Int32} {k n i : Nat} {d u : Nat → Nat → Int32} {w : Nat → Int64} {l5 l6 : Option Value} (hi : i + 4 ≤ L) (hL : L ≤ 2048) (hk : 1 ≤ k) (hn : 6 ≤ n) (hJE : zJE d u) (kk : ∀ (d u : Nat → Nat → Int32) (w : Nat → Int64) (l5 l6 : Option Value), zJE d u → zA g (zZl g nm b0 L xs) (k - 1) (n - 6) 1804 [some (.ref b0), some (.ref (zgB g)), some (.ref (zgB g + 286)), some (.ref (zgB g + 298)), some (.int (nI i)), l5, l6] [] (zHl g d u w)) : zA g (zZl g nm b0 L xs) k n 1592 [some (.ref b0), some (.ref (zgB g)), some (.ref (zgB g + 286)), some (.ref (zgB g + 298)), some (.int (nI i)), l5, l6] [] (zHl g d u w) := by
  obtain ⟨n0, K, hJ⟩ := hJE
  have hR := hJ.1
  have hn6 := zR_n6 hR
  have hK8 := zR_K8 hR
  have f0 := zR_f0 hR
  have f1 := zR_f1 hR
  obtain ⟨Lt, hLt, -, hLs, -⟩ := id hJ.2.1
  obtain ⟨-, c, -, hc14, -, -, hc9, -⟩ := id hJ.2.2.1
  refine z_heq (show zHl g d u w = zpT g (zpM g (zHE g w) (zgB g + 286) u) (zgB g) d from rfl) ?_
  obtain ⟨x1, e1⟩ : ∃ x, xs (i + 1) = x := ⟨_, rfl⟩
  obtain ⟨x2, e2⟩ : ∃ x, xs (i + 2) = x := ⟨_, rfl⟩
  obtain ⟨x3, e3⟩ : ∃ x, xs (i + 3) = x := ⟨_, rfl⟩
  obtain ⟨z, ez⟩ : ∃ z, zLg x1 x2 = z := ⟨_, rfl⟩
  cases hv : qBt x3 1 60 with
  | false =>
    refine z_aload_n (q := 1593) dL_law_1592 rfl rfl ?_
    refine z_aload_n (q := 1594) dL_law_1593 rfl rfl ?_
    refine z_iload (q := 1596) dL_law_1594 rfl rfl ?_
    refine z_iconst (q := 1597) dL_law_1596 zci_1 rfl ?_
    refine z_iaddN (q := 1598) dL_law_1597 rfl ?_
    refine z_sld (q := 1599) dL_law_1598 (by omega) (by omega) rfl ?_
    refine z_eqi e1 ?_
    refine z_i2l (q := 1600) dL_law_1599 rfl rfl ?_
    refine z_bipush (q := 1602) dL_law_1600 zcb_32 rfl ?_
    refine z_lshl (q := 1603) dL_law_1602 rfl rfl ?_
    refine z_aload_n (q := 1604) dL_law_1603 rfl rfl ?_
    refine z_iload (q := 1606) dL_law_1604 rfl rfl ?_
    refine z_iconst (q := 1607) dL_law_1606 zci_2 rfl ?_
    refine z_iaddN (q := 1608) dL_law_1607 rfl ?_
    refine z_sld (q := 1609) dL_law_1608 (by omega) (by omega) rfl ?_
    refine z_eqi e2 ?_
    refine z_i2l (q := 1610) dL_law_1609 rfl rfl ?_
    refine z_ldc2 (q := 1613) dL_law_1610 zqL_188 rfl ?_
    refine z_land (q := 1614) dL_law_1613 rfl ?_
    refine z_lor (q := 1615) dL_law_1614 rfl ?_
    refine z_eql (show _ = z from ez) ?_
    refine z_aload_n (q := 1616) dL_law_1615 rfl rfl ?_
    refine z_iload (q := 1618) dL_law_1616 rfl rfl ?_
    refine z_iconst (q := 1619) dL_law_1618 zci_3 rfl ?_
    refine z_iaddN (q := 1620) dL_law_1619 rfl ?_
    refine z_sld (q := 1621) dL_law_1620 (by omega) (by omega) rfl ?_
    refine z_eqi e3 ?_
    refine z_aload_n (q := 1622) dL_law_1621 rfl rfl ?_
    refine z_cSW (q := 1625) (av := [.ref (zgB g), .long z, .int x3, .ref (zgB g + 298)]) dL_law_1622 zlw_simulate zcw_simulate zdL zt_mL_simulate zcn_simulate rfl rfl (Nat.le_of_ble_eq_true rfl) (wx_simulate_1 (o := zgB g + 298) (cx_X7_simulate1 hJ hv)) hk hn rfl ?_
    rintro _ _ ⟨rfl, D, hD, rfl⟩
    refine z_heq (show _ = zpM g (zpT g (zHE g w) (zgB g) D) (zgB g + 286) u from zHl_M (d := D) (u := u) (w := w)) ?_
    refine z_istore (q := 1627) dL_law_1625 (Nat.le_of_ble_eq_true rfl) rfl rfl ?_
    refine z_aload_n (q := 1628) dL_law_1627 rfl rfl ?_
    refine z_aload_n (q := 1629) dL_law_1628 rfl rfl ?_
    refine z_iload (q := 1631) dL_law_1629 rfl rfl ?_
    refine z_iconst (q := 1632) dL_law_1631 zci_1 rfl ?_
    refine z_iaddN (q := 1633) dL_law_1632 rfl ?_
    refine z_sld (q := 1634) dL_law_1633 (by omega) (by omega) rfl ?_
    refine z_eqi e1 ?_
    refine z_i2l (q := 1635) dL_law_1634 rfl rfl ?_
    refine z_bipush (q := 1637) dL_law_1635 zcb_32 rfl ?_
    refine z_lshl (q := 1638) dL_law_1637 rfl rfl ?_
    refine z_aload_n (q := 1639) dL_law_1638 rfl rfl ?_
    refine z_iload (q := 1641) dL_law_1639 rfl rfl ?_
    refine z_iconst (q := 1642) dL_law_1641 zci_2 rfl ?_
    refine z_iaddN (q := 1643) dL_law_1642 rfl ?_
    refine z_sld (q := 1644) dL_law_1643 (by omega) (by omega) rfl ?_
    refine z_eqi e2 ?_
    refine z_i2l (q := 1645) dL_law_1644 rfl rfl ?_
    refine z_ldc2 (q := 1648) dL_law_1645 zqL_188 rfl ?_
    refine z_land (q := 1649) dL_law_1648 rfl ?_
    refine z_lor (q := 1650) dL_law_1649 rfl ?_
    refine z_eql (show _ = z from ez) ?_
    refine z_aload_n (q := 1651) dL_law_1650 rfl rfl ?_
    refine z_iload (q := 1653) dL_law_1651 rfl rfl ?_
    refine z_iconst (q := 1654) dL_law_1653 zci_3 rfl ?_
    refine z_iaddN (q := 1655) dL_law_1654 rfl ?_
    refine z_sld (q := 1656) dL_law_1655 (by omega) (by omega) rfl ?_
    refine z_eqi e3 ?_
    refine z_V2 (q := 1659) dL_law_1656 zkL_197 zt_mX8_simulate rfl zpM_0 rfl (Nat.le_of_ble_eq_true rfl) (ct_X8_simulate1 hv) (Nat.zero_le _) (Nat.zero_le _) rfl ?_
    rintro _ _ ⟨rfl, U, rfl, hSU, hU0⟩
    refine z_istore (q := 1661) dL_law_1659 (Nat.le_of_ble_eq_true rfl) rfl rfl ?_
    refine z_aload_n (q := 1662) dL_law_1661 rfl rfl ?_
    refine z_v0 (q := 1665) dL_law_1662 zkL_106 zt_mX8_thrown rfl zpM_0 rfl (Nat.le_of_ble_eq_true rfl) (ct_X8_thrown) rfl ?_
    refine z_eqi hU0 ?_
    refine z_iload (q := 1667) dL_law_1665 rfl rfl ?_
    refine z_icmp_eqN (tg := 1672) (q := 1670) dL_law_1667 rfl rfl (by omega) (by omega) ?_ ?_
    · intro hc1667
      refine z_iload (q := 1674) dL_law_1672 rfl rfl ?_
      refine z_if_ne (tg := 1689) (q := 1677) dL_law_1674 rfl rfl ?_ ?_
      · intro hc1674
        refine z_goto (q := 0) (tg := 1804) dL_law_1689 rfl ?_
        refine z_heq (zHl_M (g := g)).symm ?_
        exact kk D U _ _ _ (zJE_Sc hSU hD)
      · intro hc1674
        exact absurd hc1674 (by decide)
    · intro hc1667
      exact absurd hc1667 (by decide)
  | true =>
    obtain ⟨a, ha1, ha2, rfl⟩ := qBt_t hv (by decide) (by decide)
    refine z_aload_n (q := 1593) dL_law_1592 rfl rfl ?_
    refine z_aload_n (q := 1594) dL_law_1593 rfl rfl ?_
    refine z_iload (q := 1596) dL_law_1594 rfl rfl ?_
    refine z_iconst (q := 1597) dL_law_1596 zci_1 rfl ?_
    refine z_iaddN (q := 1598) dL_law_1597 rfl ?_
    refine z_sld (q := 1599) dL_law_1598 (by omega) (by omega) rfl ?_
    refine z_eqi e1 ?_
    refine z_i2l (q := 1600) dL_law_1599 rfl rfl ?_
    refine z_bipush (q := 1602) dL_law_1600 zcb_32 rfl ?_
    refine z_lshl (q := 1603) dL_law_1602 rfl rfl ?_
    refine z_aload_n (q := 1604) dL_law_1603 rfl rfl ?_
    refine z_iload (q := 1606) dL_law_1604 rfl rfl ?_
    refine z_iconst (q := 1607) dL_law_1606 zci_2 rfl ?_
    refine z_iaddN (q := 1608) dL_law_1607 rfl ?_
    refine z_sld (q := 1609) dL_law_1608 (by omega) (by omega) rfl ?_
    refine z_eqi e2 ?_
    refine z_i2l (q := 1610) dL_law_1609 rfl rfl ?_
    refine z_ldc2 (q := 1613) dL_law_1610 zqL_188 rfl ?_
    refine z_land (q := 1614) dL_law_1613 rfl ?_
    refine z_lor (q := 1615) dL_law_1614 rfl ?_
    refine z_eql (show _ = z from ez) ?_
    refine z_aload_n (q := 1616) dL_law_1615 rfl rfl ?_
    refine z_iload (q := 1618) dL_law_1616 rfl rfl ?_
    refine z_iconst (q := 1619) dL_law_1618 zci_3 rfl ?_
    refine z_iaddN (q := 1620) dL_law_1619 rfl ?_
    refine z_sld (q := 1621) dL_law_1620 (by omega) (by omega) rfl ?_
    refine z_eqi e3 ?_
    refine z_aload_n (q := 1622) dL_law_1621 rfl rfl ?_
    refine z_cSW (q := 1625) (av := [.ref (zgB g), .long z, .int (nI a), .ref (zgB g + 298)]) dL_law_1622 zlw_simulate zcw_simulate zdL zt_mL_simulate zcn_simulate rfl rfl (Nat.le_of_ble_eq_true rfl) (wr_simulate (Or.inr (by omega)) zHl_o (ct_X7_simulate0 hJ ha1 ha2)) hk hn rfl ?_
    rintro _ _ ⟨rfl, D, hD, rfl⟩
    refine z_heq ((congrArg (fun H => zpT g H (zgB g) D) zHl_w).trans (zHl_M (d := D) (u := u))) ?_
    refine z_istore (q := 1627) dL_law_1625 (Nat.le_of_ble_eq_true rfl) rfl rfl ?_
    refine z_aload_n (q := 1628) dL_law_1627 rfl rfl ?_
    refine z_aload_n (q := 1629) dL_law_1628 rfl rfl ?_
    refine z_iload (q := 1631) dL_law_1629 rfl rfl ?_
    refine z_iconst (q := 1632) dL_law_1631 zci_1 rfl ?_
    refine z_iaddN (q := 1633) dL_law_1632 rfl ?_
    refine z_sld (q := 1634) dL_law_1633 (by omega) (by omega) rfl ?_
    refine z_eqi e1 ?_
    refine z_i2l (q := 1635) dL_law_1634 rfl rfl ?_
    refine z_bipush (q := 1637) dL_law_1635 zcb_32 rfl ?_
    refine z_lshl (q := 1638) dL_law_1637 rfl rfl ?_
    refine z_aload_n (q := 1639) dL_law_1638 rfl rfl ?_
    refine z_iload (q := 1641) dL_law_1639 rfl rfl ?_
    refine z_iconst (q := 1642) dL_law_1641 zci_2 rfl ?_
    refine z_iaddN (q := 1643) dL_law_1642 rfl ?_
    refine z_sld (q := 1644) dL_law_1643 (by omega) (by omega) rfl ?_
    refine z_eqi e2 ?_
    refine z_i2l (q := 1645) dL_law_1644 rfl rfl ?_
    refine z_ldc2 (q := 1648) dL_law_1645 zqL_188 rfl ?_
    refine z_land (q := 1649) dL_law_1648 rfl ?_
    refine z_lor (q := 1650) dL_law_1649 rfl ?_
    refine z_eql (show _ = z from ez) ?_
    refine z_aload_n (q := 1651) dL_law_1650 rfl rfl ?_
    refine z_iload (q := 1653) dL_law_1651 rfl rfl ?_
    refine z_iconst (q := 1654) dL_law_1653 zci_3 rfl ?_
    refine z_iaddN (q := 1655) dL_law_1654 rfl ?_
    refine z_sld (q := 1656) dL_law_1655 (by omega) (by omega) rfl ?_
    refine z_eqi e3 ?_
    refine z_V2 (q := 1659) dL_law_1656 zkL_197 zt_mX8_simulate rfl zpM_0 rfl (Nat.le_of_ble_eq_true rfl) (ct_X8_simulate0 f0 hn6 f1 hK8 ha1 ha2) (Nat.zero_le _) (Nat.zero_le _) rfl ?_
    rintro _ _ ⟨rfl, U, rfl, hSU, hU0⟩
    refine z_istore (q := 1661) dL_law_1659 (Nat.le_of_ble_eq_true rfl) rfl rfl ?_
    refine z_aload_n (q := 1662) dL_law_1661 rfl rfl ?_
    refine z_v0 (q := 1665) dL_law_1662 zkL_106 zt_mX8_thrown rfl zpM_0 rfl (Nat.le_of_ble_eq_true rfl) (ct_X8_thrown) rfl ?_
    refine z_eqi hU0 ?_
    refine z_iload (q := 1667) dL_law_1665 rfl rfl ?_
    refine z_icmp_eqN (tg := 1672) (q := 1670) dL_law_1667 rfl rfl (by omega) (by omega) ?_ ?_
    · intro hc1667
      refine z_iload (q := 1674) dL_law_1672 rfl rfl ?_
      refine z_if_ne (tg := 1689) (q := 1677) dL_law_1674 rfl rfl ?_ ?_
      · intro hc1674
        exact absurd hc1674 (by decide)
      · intro hc1674
        refine z_aload_n (q := 1678) dL_law_1677 rfl rfl ?_
        refine z_iconst (q := 1679) dL_law_1678 zci_0 rfl ?_
        refine z_lald (q := 1680) dL_law_1679 zMl_o (by omega) (by omega) rfl ?_
        refine z_iload (q := 1682) dL_law_1680 rfl rfl ?_
        refine z_i2l (q := 1683) dL_law_1682 rfl rfl ?_
        refine z_lcmp (q := 1684) dL_law_1683 rfl ?_
        refine z_eqi (show lg_cmp (va_up w 0 _ 0) _ = nI 0 by rw [zu_eq, cmp_0]) ?_
        refine z_if_eq (tg := 1689) (q := 1687) dL_law_1684 rfl rfl ?_ ?_
        · intro hc1684
          refine z_goto (q := 0) (tg := 1804) dL_law_1689 rfl ?_
          refine z_heq (zHl_M (g := g)).symm ?_
          exact kk D U _ _ _ (zJE_Sc hSU hD)
        · intro hc1684
          exact absurd hc1684 (by decide)
    · intro hc1667
      exact absurd hc1667 (by decide)
theorem zlw_save : Cond.methodLink RL 198 mL_save.1 ∈ zTb := List.mem_filter.mpr ⟨List.mem_append_right _ (List.mem_of_getElem? (i := 876) (by decide +kernel)), by decide +kernel⟩
theorem zcw_save : Cond.codeWith mL_save.1 mL_save.2.1 mL_save.2.2.1 mL_save.2.2.2.1 [(0, 9, 12, 28)] ∈ zTb := List.mem_filter.mpr ⟨List.mem_append_right _ (List.mem_of_getElem? (i := 878) (by decide +kernel)), by decide +kernel⟩
theorem zcn_save : mL_save.1.cls ≠ "java/lang/invoke/MethodHandle" ∧ mL_save.1.cls ≠ "java/lang/invoke/VarHandle" ∧ (parseMethodDescriptor mL_save.1.desc).map (fun d => d.parameters.length) = some 3 := ⟨by decide +kernel, by decide +kernel, by decide +kernel⟩
set_option maxRecDepth 100000 in
set_option maxHeartbeats 4000000 in
theorem op_save {g : zGl} {nm : String} {b0 L : Nat} {xs : Nat → Int32} {k n i : Nat} {d u : Nat → Nat → Int32} {w : Nat → Int64} {l5 l6 : Option Value} (hi : i + 4 ≤ L) (hL : L ≤ 2048) (hk : 1 ≤ k) (hn : 6 ≤ n) (hJE : zJE d u) (kk : ∀ (d u : Nat → Nat → Int32) (w : Nat → Int64) (l5 l6 : Option Value), zJE d u → zA g (zZl g nm b0 L xs) (k - 1) (n - 6) 1804 [some (.ref b0), some (.ref (zgB g)), some (.ref (zgB g + 286)), some (.ref (zgB g + 298)), some (.int (nI i)), l5, l6] [] (zHl g d u w)) : zA g (zZl g nm b0 L xs) k n 1692 [some (.ref b0), some (.ref (zgB g)), some (.ref (zgB g + 286)), some (.ref (zgB g + 298)), some (.int (nI i)), l5, l6] [] (zHl g d u w) := by
  obtain ⟨n0, K, hJ⟩ := hJE
  have hR := hJ.1
  have hn6 := zR_n6 hR
  have hK8 := zR_K8 hR
  have f0 := zR_f0 hR
  have f1 := zR_f1 hR
  obtain ⟨Lt, hLt, -, hLs, -⟩ := id hJ.2.1
  obtain ⟨-, c, -, hc14, -, -, hc9, -⟩ := id hJ.2.2.1
  refine z_heq (show zHl g d u w = zpT g (zpM g (zHE g w) (zgB g + 286) u) (zgB g) d from rfl) ?_
  obtain ⟨x1, e1⟩ : ∃ x, xs (i + 1) = x := ⟨_, rfl⟩
  cases hv : qBt x1 0 1 with
  | false =>
    refine z_aload_n (q := 1693) dL_law_1692 rfl rfl ?_
    refine z_aload_n (q := 1694) dL_law_1693 rfl rfl ?_
    refine z_iload (q := 1696) dL_law_1694 rfl rfl ?_
    refine z_iconst (q := 1697) dL_law_1696 zci_1 rfl ?_
    refine z_iaddN (q := 1698) dL_law_1697 rfl ?_
    refine z_sld (q := 1699) dL_law_1698 (by omega) (by omega) rfl ?_
    refine z_eqi e1 ?_
    refine z_aload_n (q := 1700) dL_law_1699 rfl rfl ?_
    refine z_cSW (q := 1703) (av := [.ref (zgB g), .int x1, .ref (zgB g + 298)]) dL_law_1700 zlw_save zcw_save zdL zt_mL_save zcn_save rfl rfl (Nat.le_of_ble_eq_true rfl) (wx_save_1 (o := zgB g + 298) (cx_X7_save1 hJ hv)) hk hn rfl ?_
    rintro _ _ ⟨rfl, D, hD, rfl⟩
    refine z_heq (show _ = zpM g (zpT g (zHE g w) (zgB g) D) (zgB g + 286) u from zHl_M (d := D) (u := u) (w := w)) ?_
    refine z_istore (q := 1705) dL_law_1703 (Nat.le_of_ble_eq_true rfl) rfl rfl ?_
    refine z_aload_n (q := 1706) dL_law_1705 rfl rfl ?_
    refine z_aload_n (q := 1707) dL_law_1706 rfl rfl ?_
    refine z_iload (q := 1709) dL_law_1707 rfl rfl ?_
    refine z_iconst (q := 1710) dL_law_1709 zci_1 rfl ?_
    refine z_iaddN (q := 1711) dL_law_1710 rfl ?_
    refine z_sld (q := 1712) dL_law_1711 (by omega) (by omega) rfl ?_
    refine z_eqi e1 ?_
    refine z_V1 (q := 1715) dL_law_1712 zkL_200 zt_mX8_save rfl zpM_0 rfl (Nat.le_of_ble_eq_true rfl) (ct_X8_save1 hv) (Nat.zero_le _) (Nat.zero_le _) rfl ?_
    rintro _ _ ⟨rfl, U, rfl, hSU, hU0⟩
    refine z_istore (q := 1717) dL_law_1715 (Nat.le_of_ble_eq_true rfl) rfl rfl ?_
    refine z_aload_n (q := 1718) dL_law_1717 rfl rfl ?_
    refine z_v0 (q := 1721) dL_law_1718 zkL_106 zt_mX8_thrown rfl zpM_0 rfl (Nat.le_of_ble_eq_true rfl) (ct_X8_thrown) rfl ?_
    refine z_eqi hU0 ?_
    refine z_iload (q := 1723) dL_law_1721 rfl rfl ?_
    refine z_icmp_eqN (tg := 1728) (q := 1726) dL_law_1723 rfl rfl (by omega) (by omega) ?_ ?_
    · intro hc1723
      refine z_iload (q := 1730) dL_law_1728 rfl rfl ?_
      refine z_if_ne (tg := 1745) (q := 1733) dL_law_1730 rfl rfl ?_ ?_
      · intro hc1730
        refine z_goto (q := 0) (tg := 1804) dL_law_1745 rfl ?_
        refine z_heq (zHl_M (g := g)).symm ?_
        exact kk D U _ _ _ (zJE_Sc hSU hD)
      · intro hc1730
        exact absurd hc1730 (by decide)
    · intro hc1723
      exact absurd hc1723 (by decide)
  | true =>
    obtain ⟨a, ha1, ha2, rfl⟩ := qBt_t hv (by decide) (by decide)
    refine z_aload_n (q := 1693) dL_law_1692 rfl rfl ?_
    refine z_aload_n (q := 1694) dL_law_1693 rfl rfl ?_
    refine z_iload (q := 1696) dL_law_1694 rfl rfl ?_
    refine z_iconst (q := 1697) dL_law_1696 zci_1 rfl ?_
    refine z_iaddN (q := 1698) dL_law_1697 rfl ?_
    refine z_sld (q := 1699) dL_law_1698 (by omega) (by omega) rfl ?_
    refine z_eqi e1 ?_
    refine z_aload_n (q := 1700) dL_law_1699 rfl rfl ?_
    refine z_cSW (q := 1703) (av := [.ref (zgB g), .int (nI a), .ref (zgB g + 298)]) dL_law_1700 zlw_save zcw_save zdL zt_mL_save zcn_save rfl rfl (Nat.le_of_ble_eq_true rfl) (wr_save (Or.inr (by omega)) zHl_o (ct_X7_save0 hJ ha2)) hk hn rfl ?_
    rintro _ _ ⟨rfl, D, hD, rfl⟩
    refine z_heq ((congrArg (fun H => zpT g H (zgB g) D) zHl_w).trans (zHl_M (d := D) (u := u))) ?_
    refine z_istore (q := 1705) dL_law_1703 (Nat.le_of_ble_eq_true rfl) rfl rfl ?_
    refine z_aload_n (q := 1706) dL_law_1705 rfl rfl ?_
    refine z_aload_n (q := 1707) dL_law_1706 rfl rfl ?_
    refine z_iload (q := 1709) dL_law_1707 rfl rfl ?_
    refine z_iconst (q := 1710) dL_law_1709 zci_1 rfl ?_
    refine z_iaddN (q := 1711) dL_law_1710 rfl ?_
    refine z_sld (q := 1712) dL_law_1711 (by omega) (by omega) rfl ?_
    refine z_eqi e1 ?_
    refine z_V1 (q := 1715) dL_law_1712 zkL_200 zt_mX8_save rfl zpM_0 rfl (Nat.le_of_ble_eq_true rfl) (ct_X8_save0 ha2) (Nat.zero_le _) (Nat.zero_le _) rfl ?_
    rintro _ _ ⟨rfl, U, rfl, hSU, hU0⟩
    refine z_istore (q := 1717) dL_law_1715 (Nat.le_of_ble_eq_true rfl) rfl rfl ?_
    refine z_aload_n (q := 1718) dL_law_1717 rfl rfl ?_
    refine z_v0 (q := 1721) dL_law_1718 zkL_106 zt_mX8_thrown rfl zpM_0 rfl (Nat.le_of_ble_eq_true rfl) (ct_X8_thrown) rfl ?_
    refine z_eqi hU0 ?_
    refine z_iload (q := 1723) dL_law_1721 rfl rfl ?_
    refine z_icmp_eqN (tg := 1728) (q := 1726) dL_law_1723 rfl rfl (by omega) (by omega) ?_ ?_
    · intro hc1723
      refine z_iload (q := 1730) dL_law_1728 rfl rfl ?_
      refine z_if_ne (tg := 1745) (q := 1733) dL_law_1730 rfl rfl ?_ ?_
      · intro hc1730
        exact absurd hc1730 (by decide)
      · intro hc1730
        refine z_aload_n (q := 1734) dL_law_1733 rfl rfl ?_
        refine z_iconst (q := 1735) dL_law_1734 zci_0 rfl ?_
        refine z_lald (q := 1736) dL_law_1735 zMl_o (by omega) (by omega) rfl ?_
        refine z_iload (q := 1738) dL_law_1736 rfl rfl ?_
        refine z_i2l (q := 1739) dL_law_1738 rfl rfl ?_
        refine z_lcmp (q := 1740) dL_law_1739 rfl ?_
        refine z_eqi (show lg_cmp (va_up w 0 _ 0) _ = nI 0 by rw [zu_eq, cmp_0]) ?_
        refine z_if_eq (tg := 1745) (q := 1743) dL_law_1740 rfl rfl ?_ ?_
        · intro hc1740
          refine z_goto (q := 0) (tg := 1804) dL_law_1745 rfl ?_
          refine z_heq (zHl_M (g := g)).symm ?_
          exact kk D U _ _ _ (zJE_Sc hSU hD)
        · intro hc1740
          exact absurd hc1740 (by decide)
    · intro hc1723
      exact absurd hc1723 (by decide)
theorem zlw_restore : Cond.methodLink RL 201 mL_restore.1 ∈ zTb := List.mem_filter.mpr ⟨List.mem_append_right _ (List.mem_of_getElem? (i := 883) (by decide +kernel)), by decide +kernel⟩
theorem zcw_restore : Cond.codeWith mL_restore.1 mL_restore.2.1 mL_restore.2.2.1 mL_restore.2.2.2.1 [(0, 9, 12, 28), (0, 9, 15, 15)] ∈ zTb := List.mem_filter.mpr ⟨List.mem_append_right _ (List.mem_of_getElem? (i := 885) (by decide +kernel)), by decide +kernel⟩
theorem zcn_restore : mL_restore.1.cls ≠ "java/lang/invoke/MethodHandle" ∧ mL_restore.1.cls ≠ "java/lang/invoke/VarHandle" ∧ (parseMethodDescriptor mL_restore.1.desc).map (fun d => d.parameters.length) = some 3 := ⟨by decide +kernel, by decide +kernel, by decide +kernel⟩
set_option maxRecDepth 100000 in
set_option maxHeartbeats 4000000 in
theorem op_restore {g : zGl} {nm : String} {b0 L : Nat} {xs : Nat → Int32} {k n i : Nat} {d u : Nat → Nat → Int32} {w : Nat → Int64} {l5 l6 : Option Value} (hi : i + 4 ≤ L) (hL : L ≤ 2048) (hk : 1 ≤ k) (hn : 6 ≤ n) (hJE : zJE d u) (kk : ∀ (d u : Nat → Nat → Int32) (w : Nat → Int64) (l5 l6 : Option Value), zJE d u → zA g (zZl g nm b0 L xs) (k - 1) (n - 6) 1804 [some (.ref b0), some (.ref (zgB g)), some (.ref (zgB g + 286)), some (.ref (zgB g + 298)), some (.int (nI i)), l5, l6] [] (zHl g d u w)) : zA g (zZl g nm b0 L xs) k n 1748 [some (.ref b0), some (.ref (zgB g)), some (.ref (zgB g + 286)), some (.ref (zgB g + 298)), some (.int (nI i)), l5, l6] [] (zHl g d u w) := by
  obtain ⟨n0, K, hJ⟩ := hJE
  have hR := hJ.1
  have hn6 := zR_n6 hR
  have hK8 := zR_K8 hR
  have f0 := zR_f0 hR
  have f1 := zR_f1 hR
  obtain ⟨Lt, hLt, -, hLs, -⟩ := id hJ.2.1
  obtain ⟨-, c, -, hc14, -, -, hc9, -⟩ := id hJ.2.2.1
  refine z_heq (show zHl g d u w = zpT g (zpM g (zHE g w) (zgB g + 286) u) (zgB g) d from rfl) ?_
  obtain ⟨x1, e1⟩ : ∃ x, xs (i + 1) = x := ⟨_, rfl⟩
  cases hv : qBt x1 0 1 with
  | false =>
    refine z_aload_n (q := 1749) dL_law_1748 rfl rfl ?_
    refine z_aload_n (q := 1750) dL_law_1749 rfl rfl ?_
    refine z_iload (q := 1752) dL_law_1750 rfl rfl ?_
    refine z_iconst (q := 1753) dL_law_1752 zci_1 rfl ?_
    refine z_iaddN (q := 1754) dL_law_1753 rfl ?_
    refine z_sld (q := 1755) dL_law_1754 (by omega) (by omega) rfl ?_
    refine z_eqi e1 ?_
    refine z_aload_n (q := 1756) dL_law_1755 rfl rfl ?_
    refine z_cSW (q := 1759) (av := [.ref (zgB g), .int x1, .ref (zgB g + 298)]) dL_law_1756 zlw_restore zcw_restore zdL zt_mL_restore zcn_restore rfl rfl (Nat.le_of_ble_eq_true rfl) (wx_restore_1 (o := zgB g + 298) (cx_X7_restore1 hJ hv)) hk hn rfl ?_
    rintro _ _ ⟨rfl, D, hD, rfl⟩
    refine z_heq (show _ = zpM g (zpT g (zHE g w) (zgB g) D) (zgB g + 286) u from zHl_M (d := D) (u := u) (w := w)) ?_
    refine z_istore (q := 1761) dL_law_1759 (Nat.le_of_ble_eq_true rfl) rfl rfl ?_
    refine z_aload_n (q := 1762) dL_law_1761 rfl rfl ?_
    refine z_aload_n (q := 1763) dL_law_1762 rfl rfl ?_
    refine z_iload (q := 1765) dL_law_1763 rfl rfl ?_
    refine z_iconst (q := 1766) dL_law_1765 zci_1 rfl ?_
    refine z_iaddN (q := 1767) dL_law_1766 rfl ?_
    refine z_sld (q := 1768) dL_law_1767 (by omega) (by omega) rfl ?_
    refine z_eqi e1 ?_
    refine z_V1 (q := 1771) dL_law_1768 zkL_203 zt_mX8_restore rfl zpM_0 rfl (Nat.le_of_ble_eq_true rfl) (ct_X8_restore1 hv) (Nat.zero_le _) (Nat.zero_le _) rfl ?_
    rintro _ _ ⟨rfl, U, rfl, hSU, hU0⟩
    refine z_istore (q := 1773) dL_law_1771 (Nat.le_of_ble_eq_true rfl) rfl rfl ?_
    refine z_aload_n (q := 1774) dL_law_1773 rfl rfl ?_
    refine z_v0 (q := 1777) dL_law_1774 zkL_106 zt_mX8_thrown rfl zpM_0 rfl (Nat.le_of_ble_eq_true rfl) (ct_X8_thrown) rfl ?_
    refine z_eqi hU0 ?_
    refine z_iload (q := 1779) dL_law_1777 rfl rfl ?_
    refine z_icmp_eqN (tg := 1784) (q := 1782) dL_law_1779 rfl rfl (by omega) (by omega) ?_ ?_
    · intro hc1779
      refine z_iload (q := 1786) dL_law_1784 rfl rfl ?_
      refine z_if_ne (tg := 1801) (q := 1789) dL_law_1786 rfl rfl ?_ ?_
      · intro hc1786
        refine z_goto (q := 0) (tg := 1804) dL_law_1801 rfl ?_
        refine z_heq (zHl_M (g := g)).symm ?_
        exact kk D U _ _ _ (zJE_Sc hSU hD)
      · intro hc1786
        exact absurd hc1786 (by decide)
    · intro hc1779
      exact absurd hc1779 (by decide)
  | true =>
    obtain ⟨a, -, ha2, rfl⟩ := qBt_t hv (by decide) (by decide)
    obtain ⟨F, -, -, hF⟩ := id hJ.2.2.2
    rcases hF a ha2 with ⟨-, hk8, -⟩ | ⟨-, hk8⟩
    · skip
      refine z_aload_n (q := 1749) dL_law_1748 rfl rfl ?_
      refine z_aload_n (q := 1750) dL_law_1749 rfl rfl ?_
      refine z_iload (q := 1752) dL_law_1750 rfl rfl ?_
      refine z_iconst (q := 1753) dL_law_1752 zci_1 rfl ?_
      refine z_iaddN (q := 1754) dL_law_1753 rfl ?_
      refine z_sld (q := 1755) dL_law_1754 (by omega) (by omega) rfl ?_
      refine z_eqi e1 ?_
      refine z_aload_n (q := 1756) dL_law_1755 rfl rfl ?_
      refine z_cSW (q := 1759) (av := [.ref (zgB g), .int (nI a), .ref (zgB g + 298)]) dL_law_1756 zlw_restore zcw_restore zdL zt_mL_restore zcn_restore rfl rfl (Nat.le_of_ble_eq_true rfl) (wr_restore (Or.inr (by omega)) zHl_o (ct_X7_restore0 hJ ha2 hk8)) hk hn rfl ?_
      rintro _ _ ⟨rfl, D, hD, rfl⟩
      refine z_heq ((congrArg (fun H => zpT g H (zgB g) D) zHl_w).trans (zHl_M (d := D) (u := u))) ?_
      refine z_istore (q := 1761) dL_law_1759 (Nat.le_of_ble_eq_true rfl) rfl rfl ?_
      refine z_aload_n (q := 1762) dL_law_1761 rfl rfl ?_
      refine z_aload_n (q := 1763) dL_law_1762 rfl rfl ?_
      refine z_iload (q := 1765) dL_law_1763 rfl rfl ?_
      refine z_iconst (q := 1766) dL_law_1765 zci_1 rfl ?_
      refine z_iaddN (q := 1767) dL_law_1766 rfl ?_
      refine z_sld (q := 1768) dL_law_1767 (by omega) (by omega) rfl ?_
      refine z_eqi e1 ?_
      refine z_V1 (q := 1771) dL_law_1768 zkL_203 zt_mX8_restore rfl zpM_0 rfl (Nat.le_of_ble_eq_true rfl) (ct_X8_restore0 ha2 hk8) (Nat.zero_le _) (Nat.zero_le _) rfl ?_
      rintro _ _ ⟨rfl, U, rfl, hSU, hU0⟩
      refine z_istore (q := 1773) dL_law_1771 (Nat.le_of_ble_eq_true rfl) rfl rfl ?_
      refine z_aload_n (q := 1774) dL_law_1773 rfl rfl ?_
      refine z_v0 (q := 1777) dL_law_1774 zkL_106 zt_mX8_thrown rfl zpM_0 rfl (Nat.le_of_ble_eq_true rfl) (ct_X8_thrown) rfl ?_
      refine z_eqi hU0 ?_
      refine z_iload (q := 1779) dL_law_1777 rfl rfl ?_
      refine z_icmp_eqN (tg := 1784) (q := 1782) dL_law_1779 rfl rfl (by omega) (by omega) ?_ ?_
      · intro hc1779
        refine z_iload (q := 1786) dL_law_1784 rfl rfl ?_
        refine z_if_ne (tg := 1801) (q := 1789) dL_law_1786 rfl rfl ?_ ?_
        · intro hc1786
          exact absurd hc1786 (by decide)
        · intro hc1786
          refine z_aload_n (q := 1790) dL_law_1789 rfl rfl ?_
          refine z_iconst (q := 1791) dL_law_1790 zci_0 rfl ?_
          refine z_lald (q := 1792) dL_law_1791 zMl_o (by omega) (by omega) rfl ?_
          refine z_iload (q := 1794) dL_law_1792 rfl rfl ?_
          refine z_i2l (q := 1795) dL_law_1794 rfl rfl ?_
          refine z_lcmp (q := 1796) dL_law_1795 rfl ?_
          refine z_eqi (show lg_cmp (va_up w 0 _ 0) _ = nI 0 by rw [zu_eq, cmp_0]) ?_
          refine z_if_eq (tg := 1801) (q := 1799) dL_law_1796 rfl rfl ?_ ?_
          · intro hc1796
            refine z_goto (q := 0) (tg := 1804) dL_law_1801 rfl ?_
            refine z_heq (zHl_M (g := g)).symm ?_
            exact kk D U _ _ _ (zJE_Sc hSU hD)
          · intro hc1796
            exact absurd hc1796 (by decide)
      · intro hc1779
        exact absurd hc1779 (by decide)
    · skip
      refine z_aload_n (q := 1749) dL_law_1748 rfl rfl ?_
      refine z_aload_n (q := 1750) dL_law_1749 rfl rfl ?_
      refine z_iload (q := 1752) dL_law_1750 rfl rfl ?_
      refine z_iconst (q := 1753) dL_law_1752 zci_1 rfl ?_
      refine z_iaddN (q := 1754) dL_law_1753 rfl ?_
      refine z_sld (q := 1755) dL_law_1754 (by omega) (by omega) rfl ?_
      refine z_eqi e1 ?_
      refine z_aload_n (q := 1756) dL_law_1755 rfl rfl ?_
      refine z_cSW (q := 1759) (av := [.ref (zgB g), .int (nI a), .ref (zgB g + 298)]) dL_law_1756 zlw_restore zcw_restore zdL zt_mL_restore zcn_restore rfl rfl (Nat.le_of_ble_eq_true rfl) (wx_restore_2 (o := zgB g + 298) (cx_X7_restore2 hJ ha2 hk8)) hk hn rfl ?_
      rintro _ _ ⟨rfl, D, hD, rfl⟩
      refine z_heq (show _ = zpM g (zpT g (zHE g w) (zgB g) D) (zgB g + 286) u from zHl_M (d := D) (u := u) (w := w)) ?_
      refine z_istore (q := 1761) dL_law_1759 (Nat.le_of_ble_eq_true rfl) rfl rfl ?_
      refine z_aload_n (q := 1762) dL_law_1761 rfl rfl ?_
      refine z_aload_n (q := 1763) dL_law_1762 rfl rfl ?_
      refine z_iload (q := 1765) dL_law_1763 rfl rfl ?_
      refine z_iconst (q := 1766) dL_law_1765 zci_1 rfl ?_
      refine z_iaddN (q := 1767) dL_law_1766 rfl ?_
      refine z_sld (q := 1768) dL_law_1767 (by omega) (by omega) rfl ?_
      refine z_eqi e1 ?_
      refine z_V1 (q := 1771) dL_law_1768 zkL_203 zt_mX8_restore rfl zpM_0 rfl (Nat.le_of_ble_eq_true rfl) (ct_X8_restore2 ha2 hk8) (Nat.zero_le _) (Nat.zero_le _) rfl ?_
      rintro _ _ ⟨rfl, U, rfl, hSU, hU0⟩
      refine z_istore (q := 1773) dL_law_1771 (Nat.le_of_ble_eq_true rfl) rfl rfl ?_
      refine z_aload_n (q := 1774) dL_law_1773 rfl rfl ?_
      refine z_v0 (q := 1777) dL_law_1774 zkL_106 zt_mX8_thrown rfl zpM_0 rfl (Nat.le_of_ble_eq_true rfl) (ct_X8_thrown) rfl ?_
      refine z_eqi hU0 ?_
      refine z_iload (q := 1779) dL_law_1777 rfl rfl ?_
      refine z_icmp_eqN (tg := 1784) (q := 1782) dL_law_1779 rfl rfl (by omega) (by omega) ?_ ?_
      · intro hc1779
        refine z_iload (q := 1786) dL_law_1784 rfl rfl ?_
        refine z_if_ne (tg := 1801) (q := 1789) dL_law_1786 rfl rfl ?_ ?_
        · intro hc1786
          refine z_goto (q := 0) (tg := 1804) dL_law_1801 rfl ?_
          refine z_heq (zHl_M (g := g)).symm ?_
          exact kk D U _ _ _ (zJE_Sc hSU hD)
        · intro hc1786
          exact absurd hc1786 (by decide)
      · intro hc1779
        exact absurd hc1779 (by decide)
