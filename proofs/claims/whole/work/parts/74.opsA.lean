/-! ===== the law: one call after the other ===== -/
theorem zlw_append : Cond.methodLink RL 100 mL_append.1 ∈ zTb := List.mem_filter.mpr ⟨List.mem_append_right _ (List.mem_of_getElem? (i := 353) (by decide +kernel)), by decide +kernel⟩
theorem zcw_append : Cond.codeWith mL_append.1 mL_append.2.1 mL_append.2.2.1 mL_append.2.2.2.1 [(0, 9, 12, 13), (0, 9, 15, 15)] ∈ zTb := List.mem_filter.mpr ⟨List.mem_append_right _ (List.mem_of_getElem? (i := 355) (by decide +kernel)), by decide +kernel⟩
theorem zcn_append : mL_append.1.cls ≠ "java/lang/invoke/MethodHandle" ∧ mL_append.1.cls ≠ "java/lang/invoke/VarHandle" ∧ (parseMethodDescriptor mL_append.1.desc).map (fun d => d.parameters.length) = some 3 := ⟨by decide +kernel, by decide +kernel, by decide +kernel⟩
set_option maxRecDepth 100000 in
set_option maxHeartbeats 4000000 in
theorem op_append {g : zGl} {nm : String} {b0 L : Nat} {xs : Nat → Int32} {k n i : Nat} {d u : Nat → Nat → Int32} {w : Nat → Int64} {l5 l6 : Option Value} (hi : i + 4 ≤ L) (hL : L ≤ 2048) (hk : 1 ≤ k) (hn : 6 ≤ n) (hJE : zJE d u) (kk : ∀ (d u : Nat → Nat → Int32) (w : Nat → Int64) (l5 l6 : Option Value), zJE d u → zA g (zZl g nm b0 L xs) (k - 1) (n - 6) 1804 [some (.ref b0), some (.ref (zgB g)), some (.ref (zgB g + 286)), some (.ref (zgB g + 298)), some (.int (nI i)), l5, l6] [] (zHl g d u w)) : zA g (zZl g nm b0 L xs) k n 168 [some (.ref b0), some (.ref (zgB g)), some (.ref (zgB g + 286)), some (.ref (zgB g + 298)), some (.int (nI i)), l5, l6] [] (zHl g d u w) := by
  obtain ⟨n0, K, hJ⟩ := hJE
  have hR := hJ.1
  have hn6 := zR_n6 hR
  have hK8 := zR_K8 hR
  have f0 := zR_f0 hR
  have f1 := zR_f1 hR
  obtain ⟨Lt, hLt, -, hLs, -⟩ := id hJ.2.1
  obtain ⟨-, c, -, hc14, -, -, hc9, -⟩ := id hJ.2.2.1
  refine z_heq (show zHl g d u w = zpT g (zpM g (zHE g w) (zgB g + 286) u) (zgB g) d from rfl) ?_
  obtain ⟨x1, e1⟩ : ∃ x, xs (i + 1) = x := ⟨_, rfl⟩
  cases hv : qBt x1 0 255 with
  | false =>
    refine z_aload_n (q := 169) dL_law_168 rfl rfl ?_
    refine z_aload_n (q := 170) dL_law_169 rfl rfl ?_
    refine z_iload (q := 172) dL_law_170 rfl rfl ?_
    refine z_iconst (q := 173) dL_law_172 zci_1 rfl ?_
    refine z_iaddN (q := 174) dL_law_173 rfl ?_
    refine z_sld (q := 175) dL_law_174 (by omega) (by omega) rfl ?_
    refine z_eqi e1 ?_
    refine z_aload_n (q := 176) dL_law_175 rfl rfl ?_
    refine z_cSW (q := 179) (av := [.ref (zgB g), .int x1, .ref (zgB g + 298)]) dL_law_176 zlw_append zcw_append zdL zt_mL_append zcn_append rfl rfl (Nat.le_of_ble_eq_true rfl) (wx_append_1 (o := zgB g + 298) (cx_X7_append1 hJ hv)) hk hn rfl ?_
    rintro _ _ ⟨rfl, D, hD, rfl⟩
    refine z_heq (show _ = zpM g (zpT g (zHE g w) (zgB g) D) (zgB g + 286) u from zHl_M (d := D) (u := u) (w := w)) ?_
    refine z_istore (q := 181) dL_law_179 (Nat.le_of_ble_eq_true rfl) rfl rfl ?_
    refine z_aload_n (q := 182) dL_law_181 rfl rfl ?_
    refine z_aload_n (q := 183) dL_law_182 rfl rfl ?_
    refine z_iload (q := 185) dL_law_183 rfl rfl ?_
    refine z_iconst (q := 186) dL_law_185 zci_1 rfl ?_
    refine z_iaddN (q := 187) dL_law_186 rfl ?_
    refine z_sld (q := 188) dL_law_187 (by omega) (by omega) rfl ?_
    refine z_eqi e1 ?_
    refine z_V1 (q := 191) dL_law_188 zkL_105 zt_mX8_append rfl zpM_0 rfl (Nat.le_of_ble_eq_true rfl) (ct_X8_append1 hv) (Nat.zero_le _) (Nat.zero_le _) rfl ?_
    rintro _ _ ⟨rfl, U, rfl, hSU, hU0⟩
    refine z_istore (q := 193) dL_law_191 (Nat.le_of_ble_eq_true rfl) rfl rfl ?_
    refine z_aload_n (q := 194) dL_law_193 rfl rfl ?_
    refine z_v0 (q := 197) dL_law_194 zkL_106 zt_mX8_thrown rfl zpM_0 rfl (Nat.le_of_ble_eq_true rfl) (ct_X8_thrown) rfl ?_
    refine z_eqi hU0 ?_
    refine z_iload (q := 199) dL_law_197 rfl rfl ?_
    refine z_icmp_eqN (tg := 204) (q := 202) dL_law_199 rfl rfl (by omega) (by omega) ?_ ?_
    · intro hc199
      refine z_iload (q := 206) dL_law_204 rfl rfl ?_
      refine z_if_ne (tg := 221) (q := 209) dL_law_206 rfl rfl ?_ ?_
      · intro hc206
        refine z_goto (q := 0) (tg := 1804) dL_law_221 rfl ?_
        refine z_heq (zHl_M (g := g)).symm ?_
        exact kk D U _ _ _ (zJE_Sc hSU hD)
      · intro hc206
        exact absurd hc206 (by decide)
    · intro hc199
      exact absurd hc199 (by decide)
  | true =>
    by_cases hs : Lt < 120
    · skip
      refine z_aload_n (q := 169) dL_law_168 rfl rfl ?_
      refine z_aload_n (q := 170) dL_law_169 rfl rfl ?_
      refine z_iload (q := 172) dL_law_170 rfl rfl ?_
      refine z_iconst (q := 173) dL_law_172 zci_1 rfl ?_
      refine z_iaddN (q := 174) dL_law_173 rfl ?_
      refine z_sld (q := 175) dL_law_174 (by omega) (by omega) rfl ?_
      refine z_eqi e1 ?_
      refine z_aload_n (q := 176) dL_law_175 rfl rfl ?_
      refine z_cSW (q := 179) (av := [.ref (zgB g), .int x1, .ref (zgB g + 298)]) dL_law_176 zlw_append zcw_append zdL zt_mL_append zcn_append rfl rfl (Nat.le_of_ble_eq_true rfl) (wr_append (Or.inr (by omega)) zHl_o (ct_X7_append0 hJ hv hLs hs)) hk hn rfl ?_
      rintro _ _ ⟨rfl, D, hD, rfl⟩
      refine z_heq ((congrArg (fun H => zpT g H (zgB g) D) zHl_w).trans (zHl_M (d := D) (u := u))) ?_
      refine z_istore (q := 181) dL_law_179 (Nat.le_of_ble_eq_true rfl) rfl rfl ?_
      refine z_aload_n (q := 182) dL_law_181 rfl rfl ?_
      refine z_aload_n (q := 183) dL_law_182 rfl rfl ?_
      refine z_iload (q := 185) dL_law_183 rfl rfl ?_
      refine z_iconst (q := 186) dL_law_185 zci_1 rfl ?_
      refine z_iaddN (q := 187) dL_law_186 rfl ?_
      refine z_sld (q := 188) dL_law_187 (by omega) (by omega) rfl ?_
      refine z_eqi e1 ?_
      refine z_V1 (q := 191) dL_law_188 zkL_105 zt_mX8_append rfl zpM_0 rfl (Nat.le_of_ble_eq_true rfl) (ct_X8_append0 hv hLs hs) (Nat.zero_le _) (Nat.zero_le _) rfl ?_
      rintro _ _ ⟨rfl, U, rfl, hSU, hU0⟩
      refine z_istore (q := 193) dL_law_191 (Nat.le_of_ble_eq_true rfl) rfl rfl ?_
      refine z_aload_n (q := 194) dL_law_193 rfl rfl ?_
      refine z_v0 (q := 197) dL_law_194 zkL_106 zt_mX8_thrown rfl zpM_0 rfl (Nat.le_of_ble_eq_true rfl) (ct_X8_thrown) rfl ?_
      refine z_eqi hU0 ?_
      refine z_iload (q := 199) dL_law_197 rfl rfl ?_
      refine z_icmp_eqN (tg := 204) (q := 202) dL_law_199 rfl rfl (by omega) (by omega) ?_ ?_
      · intro hc199
        refine z_iload (q := 206) dL_law_204 rfl rfl ?_
        refine z_if_ne (tg := 221) (q := 209) dL_law_206 rfl rfl ?_ ?_
        · intro hc206
          exact absurd hc206 (by decide)
        · intro hc206
          refine z_aload_n (q := 210) dL_law_209 rfl rfl ?_
          refine z_iconst (q := 211) dL_law_210 zci_0 rfl ?_
          refine z_lald (q := 212) dL_law_211 zMl_o (by omega) (by omega) rfl ?_
          refine z_iload (q := 214) dL_law_212 rfl rfl ?_
          refine z_i2l (q := 215) dL_law_214 rfl rfl ?_
          refine z_lcmp (q := 216) dL_law_215 rfl ?_
          refine z_eqi (show lg_cmp (va_up w 0 _ 0) _ = nI 0 by rw [zu_eq, cmp_0]) ?_
          refine z_if_eq (tg := 221) (q := 219) dL_law_216 rfl rfl ?_ ?_
          · intro hc216
            refine z_goto (q := 0) (tg := 1804) dL_law_221 rfl ?_
            refine z_heq (zHl_M (g := g)).symm ?_
            exact kk D U _ _ _ (zJE_Sc hSU hD)
          · intro hc216
            exact absurd hc216 (by decide)
      · intro hc199
        exact absurd hc199 (by decide)
    · obtain rfl : Lt = 120 := by omega
      refine z_aload_n (q := 169) dL_law_168 rfl rfl ?_
      refine z_aload_n (q := 170) dL_law_169 rfl rfl ?_
      refine z_iload (q := 172) dL_law_170 rfl rfl ?_
      refine z_iconst (q := 173) dL_law_172 zci_1 rfl ?_
      refine z_iaddN (q := 174) dL_law_173 rfl ?_
      refine z_sld (q := 175) dL_law_174 (by omega) (by omega) rfl ?_
      refine z_eqi e1 ?_
      refine z_aload_n (q := 176) dL_law_175 rfl rfl ?_
      refine z_cSW (q := 179) (av := [.ref (zgB g), .int x1, .ref (zgB g + 298)]) dL_law_176 zlw_append zcw_append zdL zt_mL_append zcn_append rfl rfl (Nat.le_of_ble_eq_true rfl) (wx_append_2 (o := zgB g + 298) (cx_X7_append2 hJ hv hLs)) hk hn rfl ?_
      rintro _ _ ⟨rfl, D, hD, rfl⟩
      refine z_heq (show _ = zpM g (zpT g (zHE g w) (zgB g) D) (zgB g + 286) u from zHl_M (d := D) (u := u) (w := w)) ?_
      refine z_istore (q := 181) dL_law_179 (Nat.le_of_ble_eq_true rfl) rfl rfl ?_
      refine z_aload_n (q := 182) dL_law_181 rfl rfl ?_
      refine z_aload_n (q := 183) dL_law_182 rfl rfl ?_
      refine z_iload (q := 185) dL_law_183 rfl rfl ?_
      refine z_iconst (q := 186) dL_law_185 zci_1 rfl ?_
      refine z_iaddN (q := 187) dL_law_186 rfl ?_
      refine z_sld (q := 188) dL_law_187 (by omega) (by omega) rfl ?_
      refine z_eqi e1 ?_
      refine z_V1 (q := 191) dL_law_188 zkL_105 zt_mX8_append rfl zpM_0 rfl (Nat.le_of_ble_eq_true rfl) (ct_X8_append2 hv hLs) (Nat.zero_le _) (Nat.zero_le _) rfl ?_
      rintro _ _ ⟨rfl, U, rfl, hSU, hU0⟩
      refine z_istore (q := 193) dL_law_191 (Nat.le_of_ble_eq_true rfl) rfl rfl ?_
      refine z_aload_n (q := 194) dL_law_193 rfl rfl ?_
      refine z_v0 (q := 197) dL_law_194 zkL_106 zt_mX8_thrown rfl zpM_0 rfl (Nat.le_of_ble_eq_true rfl) (ct_X8_thrown) rfl ?_
      refine z_eqi hU0 ?_
      refine z_iload (q := 199) dL_law_197 rfl rfl ?_
      refine z_icmp_eqN (tg := 204) (q := 202) dL_law_199 rfl rfl (by omega) (by omega) ?_ ?_
      · intro hc199
        refine z_iload (q := 206) dL_law_204 rfl rfl ?_
        refine z_if_ne (tg := 221) (q := 209) dL_law_206 rfl rfl ?_ ?_
        · intro hc206
          refine z_goto (q := 0) (tg := 1804) dL_law_221 rfl ?_
          refine z_heq (zHl_M (g := g)).symm ?_
          exact kk D U _ _ _ (zJE_Sc hSU hD)
        · intro hc206
          exact absurd hc206 (by decide)
      · intro hc199
        exact absurd hc199 (by decide)
set_option maxRecDepth 100000 in
set_option maxHeartbeats 4000000 in
theorem op_clearText {g : zGl} {nm : String} {b0 L : Nat} {xs : Nat → Int32} {k n i : Nat} {d u : Nat → Nat → Int32} {w : Nat → Int64} {l5 l6 : Option Value} (hi : i + 4 ≤ L) (hL : L ≤ 2048) (hk : 1 ≤ k) (hn : 6 ≤ n) (hJE : zJE d u) (kk : ∀ (d u : Nat → Nat → Int32) (w : Nat → Int64) (l5 l6 : Option Value), zJE d u → zA g (zZl g nm b0 L xs) (k - 1) (n - 6) 1804 [some (.ref b0), some (.ref (zgB g)), some (.ref (zgB g + 286)), some (.ref (zgB g + 298)), some (.int (nI i)), l5, l6] [] (zHl g d u w)) : zA g (zZl g nm b0 L xs) k n 224 [some (.ref b0), some (.ref (zgB g)), some (.ref (zgB g + 286)), some (.ref (zgB g + 298)), some (.int (nI i)), l5, l6] [] (zHl g d u w) := by
  obtain ⟨n0, K, hJ⟩ := hJE
  have hR := hJ.1
  have hn6 := zR_n6 hR
  have hK8 := zR_K8 hR
  have f0 := zR_f0 hR
  have f1 := zR_f1 hR
  obtain ⟨Lt, hLt, -, hLs, -⟩ := id hJ.2.1
  obtain ⟨-, c, -, hc14, -, -, hc9, -⟩ := id hJ.2.2.1
  refine z_heq (show zHl g d u w = zpT g (zpM g (zHE g w) (zgB g + 286) u) (zgB g) d from rfl) ?_
  refine z_aload_n (q := 225) dL_law_224 rfl rfl ?_
  refine z_V0 (q := 228) dL_law_225 zkL_109 zt_mX7_clearText rfl zT_0 rfl (Nat.le_of_ble_eq_true rfl) (ct_X7_clearText hJ) (Nat.zero_le _) (Nat.zero_le _) rfl ?_
  rintro _ _ ⟨rfl, D, rfl, hD⟩
  refine z_heq (zHl_M (d := D) (u := u) (w := w)) ?_
  refine z_aload_n (q := 229) dL_law_228 rfl rfl ?_
  refine z_V0 (q := 232) dL_law_229 zkL_112 zt_mX8_clearText rfl zpM_0 rfl (Nat.le_of_ble_eq_true rfl) (ct_X8_clearText) (Nat.zero_le _) (Nat.zero_le _) rfl ?_
  rintro _ _ ⟨rfl, U, rfl, hSU, hU0⟩
  refine z_icmp_eq (tg := 1804) (q := 235) dL_law_232 rfl rfl ?_ ?_
  · intro hc232
    refine z_heq (zHl_M (g := g)).symm ?_
    exact z_le (Nat.sub_le _ _) (Nat.sub_le _ _) (kk D U _ _ _ (zJE_Sc hSU hD))
  · intro hc232
    exact absurd rfl hc232
set_option maxRecDepth 100000 in
set_option maxHeartbeats 4000000 in
theorem op_errorPosition {g : zGl} {nm : String} {b0 L : Nat} {xs : Nat → Int32} {k n i : Nat} {d u : Nat → Nat → Int32} {w : Nat → Int64} {l5 l6 : Option Value} (hi : i + 4 ≤ L) (hL : L ≤ 2048) (hk : 1 ≤ k) (hn : 6 ≤ n) (hJE : zJE d u) (kk : ∀ (d u : Nat → Nat → Int32) (w : Nat → Int64) (l5 l6 : Option Value), zJE d u → zA g (zZl g nm b0 L xs) (k - 1) (n - 6) 1804 [some (.ref b0), some (.ref (zgB g)), some (.ref (zgB g + 286)), some (.ref (zgB g + 298)), some (.int (nI i)), l5, l6] [] (zHl g d u w)) : zA g (zZl g nm b0 L xs) k n 237 [some (.ref b0), some (.ref (zgB g)), some (.ref (zgB g + 286)), some (.ref (zgB g + 298)), some (.int (nI i)), l5, l6] [] (zHl g d u w) := by
  obtain ⟨n0, K, hJ⟩ := hJE
  have hR := hJ.1
  have hn6 := zR_n6 hR
  have hK8 := zR_K8 hR
  have f0 := zR_f0 hR
  have f1 := zR_f1 hR
  obtain ⟨Lt, hLt, -, hLs, -⟩ := id hJ.2.1
  obtain ⟨-, c, -, hc14, -, -, hc9, -⟩ := id hJ.2.2.1
  refine z_heq (show zHl g d u w = zpT g (zpM g (zHE g w) (zgB g + 286) u) (zgB g) d from rfl) ?_
  refine z_aload_n (q := 238) dL_law_237 rfl rfl ?_
  refine z_V0 (q := 241) dL_law_238 zkL_113 zt_mX7_errorPosition rfl zT_0 rfl (Nat.le_of_ble_eq_true rfl) (ct_X7_errorPosition hJ hLs hLt) (Nat.zero_le _) (Nat.zero_le _) rfl ?_
  rintro _ _ ⟨rfl, D, rfl, hD⟩
  refine z_heq (zHl_M (d := D) (u := u) (w := w)) ?_
  refine z_aload_n (q := 242) dL_law_241 rfl rfl ?_
  refine z_V0 (q := 245) dL_law_242 zkL_116 zt_mX8_errorPosition rfl zpM_0 rfl (Nat.le_of_ble_eq_true rfl) (ct_X8_errorPosition hLs hLt) (Nat.zero_le _) (Nat.zero_le _) rfl ?_
  rintro _ _ ⟨rfl, U, rfl, hSU, hU0⟩
  refine z_icmp_eq (tg := 1804) (q := 248) dL_law_245 rfl rfl ?_ ?_
  · intro hc245
    refine z_heq (zHl_M (g := g)).symm ?_
    exact z_le (Nat.sub_le _ _) (Nat.sub_le _ _) (kk D U _ _ _ (zJE_Sc hSU hD))
  · intro hc245
    exact absurd rfl hc245
theorem zlw_load : Cond.methodLink RL 117 mL_load.1 ∈ zTb := List.mem_filter.mpr ⟨List.mem_append_right _ (List.mem_of_getElem? (i := 464) (by decide +kernel)), by decide +kernel⟩
theorem zcw_load : Cond.codeWith mL_load.1 mL_load.2.1 mL_load.2.2.1 mL_load.2.2.2.1 [(0, 8, 11, 15)] ∈ zTb := List.mem_filter.mpr ⟨List.mem_append_right _ (List.mem_of_getElem? (i := 466) (by decide +kernel)), by decide +kernel⟩
theorem zcn_load : mL_load.1.cls ≠ "java/lang/invoke/MethodHandle" ∧ mL_load.1.cls ≠ "java/lang/invoke/VarHandle" ∧ (parseMethodDescriptor mL_load.1.desc).map (fun d => d.parameters.length) = some 2 := ⟨by decide +kernel, by decide +kernel, by decide +kernel⟩
set_option maxRecDepth 100000 in
set_option maxHeartbeats 4000000 in
theorem op_load {g : zGl} {nm : String} {b0 L : Nat} {xs : Nat → Int32} {k n i : Nat} {d u : Nat → Nat → Int32} {w : Nat → Int64} {l5 l6 : Option Value} (hi : i + 4 ≤ L) (hL : L ≤ 2048) (hk : 1 ≤ k) (hn : 6 ≤ n) (hJE : zJE d u) (kk : ∀ (d u : Nat → Nat → Int32) (w : Nat → Int64) (l5 l6 : Option Value), zJE d u → zA g (zZl g nm b0 L xs) (k - 1) (n - 6) 1804 [some (.ref b0), some (.ref (zgB g)), some (.ref (zgB g + 286)), some (.ref (zgB g + 298)), some (.int (nI i)), l5, l6] [] (zHl g d u w)) : zA g (zZl g nm b0 L xs) k n 250 [some (.ref b0), some (.ref (zgB g)), some (.ref (zgB g + 286)), some (.ref (zgB g + 298)), some (.int (nI i)), l5, l6] [] (zHl g d u w) := by
  obtain ⟨n0, K, hJ⟩ := hJE
  have hR := hJ.1
  have hn6 := zR_n6 hR
  have hK8 := zR_K8 hR
  have f0 := zR_f0 hR
  have f1 := zR_f1 hR
  obtain ⟨Lt, hLt, -, hLs, -⟩ := id hJ.2.1
  obtain ⟨-, c, -, hc14, -, -, hc9, -⟩ := id hJ.2.2.1
  refine z_heq (show zHl g d u w = zpT g (zpM g (zHE g w) (zgB g + 286) u) (zgB g) d from rfl) ?_
  by_cases hv : (qRead (u 1) Lt).1 = -9
  · skip
    refine z_aload_n (q := 251) dL_law_250 rfl rfl ?_
    refine z_aload_n (q := 252) dL_law_251 rfl rfl ?_
    refine z_cSW (q := 255) (av := [.ref (zgB g), .ref (zgB g + 298)]) dL_law_252 zlw_load zcw_load zdL zt_mL_load zcn_load rfl rfl (Nat.le_of_ble_eq_true rfl) (wr_load (Or.inr (by omega)) zHl_o (ct_X7_load0 hJ hLs hLt hv)) hk hn rfl ?_
    rintro _ _ ⟨rfl, D, hD, rfl⟩
    refine z_heq ((congrArg (fun H => zpT g H (zgB g) D) zHl_w).trans (zHl_M (d := D) (u := u))) ?_
    refine z_istore (q := 257) dL_law_255 (Nat.le_of_ble_eq_true rfl) rfl rfl ?_
    refine z_aload_n (q := 258) dL_law_257 rfl rfl ?_
    refine z_V0 (q := 261) dL_law_258 zkL_120 zt_mX8_load rfl zpM_0 rfl (Nat.le_of_ble_eq_true rfl) (ct_X8_load0 hLs hLt hv) (Nat.zero_le _) (Nat.zero_le _) rfl ?_
    rintro _ _ ⟨rfl, U, rfl, hSU, hU0⟩
    refine z_istore (q := 263) dL_law_261 (Nat.le_of_ble_eq_true rfl) rfl rfl ?_
    refine z_aload_n (q := 264) dL_law_263 rfl rfl ?_
    refine z_v0 (q := 267) dL_law_264 zkL_106 zt_mX8_thrown rfl zpM_0 rfl (Nat.le_of_ble_eq_true rfl) (ct_X8_thrown) rfl ?_
    refine z_eqi hU0 ?_
    refine z_iload (q := 269) dL_law_267 rfl rfl ?_
    refine z_icmp_eqN (tg := 274) (q := 272) dL_law_269 rfl rfl (by omega) (by omega) ?_ ?_
    · intro hc269
      refine z_iload (q := 276) dL_law_274 rfl rfl ?_
      refine z_if_ne (tg := 291) (q := 279) dL_law_276 rfl rfl ?_ ?_
      · intro hc276
        exact absurd hc276 (by decide)
      · intro hc276
        refine z_aload_n (q := 280) dL_law_279 rfl rfl ?_
        refine z_iconst (q := 281) dL_law_280 zci_0 rfl ?_
        refine z_lald (q := 282) dL_law_281 zMl_o (by omega) (by omega) rfl ?_
        refine z_iload (q := 284) dL_law_282 rfl rfl ?_
        refine z_i2l (q := 285) dL_law_284 rfl rfl ?_
        refine z_lcmp (q := 286) dL_law_285 rfl ?_
        refine z_eqi (show lg_cmp (va_up w 0 _ 0) _ = nI 0 by rw [zu_eq, cmp_0]) ?_
        refine z_if_eq (tg := 291) (q := 289) dL_law_286 rfl rfl ?_ ?_
        · intro hc286
          refine z_goto (q := 0) (tg := 1804) dL_law_291 rfl ?_
          refine z_heq (zHl_M (g := g)).symm ?_
          exact kk D U _ _ _ (zJE_Sc hSU hD)
        · intro hc286
          exact absurd hc286 (by decide)
    · intro hc269
      exact absurd hc269 (by decide)
  · skip
    refine z_aload_n (q := 251) dL_law_250 rfl rfl ?_
    refine z_aload_n (q := 252) dL_law_251 rfl rfl ?_
    refine z_cSW (q := 255) (av := [.ref (zgB g), .ref (zgB g + 298)]) dL_law_252 zlw_load zcw_load zdL zt_mL_load zcn_load rfl rfl (Nat.le_of_ble_eq_true rfl) (wx_load_1 (o := zgB g + 298) (cx_X7_load1 hJ hLs hLt hv)) hk hn rfl ?_
    rintro _ _ ⟨rfl, D, hD, rfl⟩
    refine z_heq (show _ = zpM g (zpT g (zHE g w) (zgB g) D) (zgB g + 286) u from zHl_M (d := D) (u := u) (w := w)) ?_
    refine z_istore (q := 257) dL_law_255 (Nat.le_of_ble_eq_true rfl) rfl rfl ?_
    refine z_aload_n (q := 258) dL_law_257 rfl rfl ?_
    refine z_V0 (q := 261) dL_law_258 zkL_120 zt_mX8_load rfl zpM_0 rfl (Nat.le_of_ble_eq_true rfl) (ct_X8_load1 hLs hLt hv) (Nat.zero_le _) (Nat.zero_le _) rfl ?_
    rintro _ _ ⟨rfl, U, rfl, hSU, hU0⟩
    refine z_istore (q := 263) dL_law_261 (Nat.le_of_ble_eq_true rfl) rfl rfl ?_
    refine z_aload_n (q := 264) dL_law_263 rfl rfl ?_
    refine z_v0 (q := 267) dL_law_264 zkL_106 zt_mX8_thrown rfl zpM_0 rfl (Nat.le_of_ble_eq_true rfl) (ct_X8_thrown) rfl ?_
    refine z_eqi hU0 ?_
    refine z_iload (q := 269) dL_law_267 rfl rfl ?_
    refine z_icmp_eqN (tg := 274) (q := 272) dL_law_269 rfl rfl (by omega) (by omega) ?_ ?_
    · intro hc269
      refine z_iload (q := 276) dL_law_274 rfl rfl ?_
      refine z_if_ne (tg := 291) (q := 279) dL_law_276 rfl rfl ?_ ?_
      · intro hc276
        refine z_goto (q := 0) (tg := 1804) dL_law_291 rfl ?_
        refine z_heq (zHl_M (g := g)).symm ?_
        exact kk D U _ _ _ (zJE_Sc hSU hD)
      · intro hc276
        exact absurd hc276 (by decide)
    · intro hc269
      exact absurd hc269 (by decide)
theorem zlw_about : Cond.methodLink RL 121 mL_about.1 ∈ zTb := List.mem_filter.mpr ⟨List.mem_append_right _ (List.mem_of_getElem? (i := 475) (by decide +kernel)), by decide +kernel⟩
theorem zcw_about : Cond.codeWith mL_about.1 mL_about.2.1 mL_about.2.2.1 mL_about.2.2.2.1 [(0, 9, 12, 13)] ∈ zTb := List.mem_filter.mpr ⟨List.mem_append_right _ (List.mem_of_getElem? (i := 477) (by decide +kernel)), by decide +kernel⟩
theorem zcn_about : mL_about.1.cls ≠ "java/lang/invoke/MethodHandle" ∧ mL_about.1.cls ≠ "java/lang/invoke/VarHandle" ∧ (parseMethodDescriptor mL_about.1.desc).map (fun d => d.parameters.length) = some 3 := ⟨by decide +kernel, by decide +kernel, by decide +kernel⟩
set_option maxRecDepth 100000 in
set_option maxHeartbeats 4000000 in
theorem op_about {g : zGl} {nm : String} {b0 L : Nat} {xs : Nat → Int32} {k n i : Nat} {d u : Nat → Nat → Int32} {w : Nat → Int64} {l5 l6 : Option Value} (hi : i + 4 ≤ L) (hL : L ≤ 2048) (hk : 1 ≤ k) (hn : 6 ≤ n) (hJE : zJE d u) (kk : ∀ (d u : Nat → Nat → Int32) (w : Nat → Int64) (l5 l6 : Option Value), zJE d u → zA g (zZl g nm b0 L xs) (k - 1) (n - 6) 1804 [some (.ref b0), some (.ref (zgB g)), some (.ref (zgB g + 286)), some (.ref (zgB g + 298)), some (.int (nI i)), l5, l6] [] (zHl g d u w)) : zA g (zZl g nm b0 L xs) k n 294 [some (.ref b0), some (.ref (zgB g)), some (.ref (zgB g + 286)), some (.ref (zgB g + 298)), some (.int (nI i)), l5, l6] [] (zHl g d u w) := by
  obtain ⟨n0, K, hJ⟩ := hJE
  have hR := hJ.1
  have hn6 := zR_n6 hR
  have hK8 := zR_K8 hR
  have f0 := zR_f0 hR
  have f1 := zR_f1 hR
  obtain ⟨Lt, hLt, -, hLs, -⟩ := id hJ.2.1
  obtain ⟨-, c, -, hc14, -, -, hc9, -⟩ := id hJ.2.2.1
  refine z_heq (show zHl g d u w = zpT g (zpM g (zHE g w) (zgB g + 286) u) (zgB g) d from rfl) ?_
  obtain ⟨x1, e1⟩ : ∃ x, xs (i + 1) = x := ⟨_, rfl⟩
  cases hv : qBt x1 0 7 with
  | false =>
    refine z_aload_n (q := 295) dL_law_294 rfl rfl ?_
    refine z_aload_n (q := 296) dL_law_295 rfl rfl ?_
    refine z_iload (q := 298) dL_law_296 rfl rfl ?_
    refine z_iconst (q := 299) dL_law_298 zci_1 rfl ?_
    refine z_iaddN (q := 300) dL_law_299 rfl ?_
    refine z_sld (q := 301) dL_law_300 (by omega) (by omega) rfl ?_
    refine z_eqi e1 ?_
    refine z_aload_n (q := 302) dL_law_301 rfl rfl ?_
    refine z_cSW (q := 305) (av := [.ref (zgB g), .int x1, .ref (zgB g + 298)]) dL_law_302 zlw_about zcw_about zdL zt_mL_about zcn_about rfl rfl (Nat.le_of_ble_eq_true rfl) (wx_about_1 (o := zgB g + 298) (cx_X7_about1 hJ hv)) hk hn rfl ?_
    rintro _ _ ⟨rfl, D, hD, rfl⟩
    refine z_heq (show _ = zpM g (zpT g (zHE g w) (zgB g) D) (zgB g + 286) u from zHl_M (d := D) (u := u) (w := w)) ?_
    refine z_istore (q := 307) dL_law_305 (Nat.le_of_ble_eq_true rfl) rfl rfl ?_
    refine z_aload_n (q := 308) dL_law_307 rfl rfl ?_
    refine z_aload_n (q := 309) dL_law_308 rfl rfl ?_
    refine z_iload (q := 311) dL_law_309 rfl rfl ?_
    refine z_iconst (q := 312) dL_law_311 zci_1 rfl ?_
    refine z_iaddN (q := 313) dL_law_312 rfl ?_
    refine z_sld (q := 314) dL_law_313 (by omega) (by omega) rfl ?_
    refine z_eqi e1 ?_
    refine z_V1 (q := 317) dL_law_314 zkL_123 zt_mX8_about rfl zpM_0 rfl (Nat.le_of_ble_eq_true rfl) (ct_X8_about1 hv) (Nat.zero_le _) (Nat.zero_le _) rfl ?_
    rintro _ _ ⟨rfl, U, rfl, hSU, hU0⟩
    refine z_istore (q := 319) dL_law_317 (Nat.le_of_ble_eq_true rfl) rfl rfl ?_
    refine z_aload_n (q := 320) dL_law_319 rfl rfl ?_
    refine z_v0 (q := 323) dL_law_320 zkL_106 zt_mX8_thrown rfl zpM_0 rfl (Nat.le_of_ble_eq_true rfl) (ct_X8_thrown) rfl ?_
    refine z_eqi hU0 ?_
    refine z_iload (q := 325) dL_law_323 rfl rfl ?_
    refine z_icmp_eqN (tg := 330) (q := 328) dL_law_325 rfl rfl (by omega) (by omega) ?_ ?_
    · intro hc325
      refine z_iload (q := 332) dL_law_330 rfl rfl ?_
      refine z_if_ne (tg := 347) (q := 335) dL_law_332 rfl rfl ?_ ?_
      · intro hc332
        refine z_goto (q := 0) (tg := 1804) dL_law_347 rfl ?_
        refine z_heq (zHl_M (g := g)).symm ?_
        exact kk D U _ _ _ (zJE_Sc hSU hD)
      · intro hc332
        exact absurd hc332 (by decide)
    · intro hc325
      exact absurd hc325 (by decide)
  | true =>
    obtain ⟨a, ha1, ha2, rfl⟩ := qBt_t hv (by decide) (by decide)
    refine z_aload_n (q := 295) dL_law_294 rfl rfl ?_
    refine z_aload_n (q := 296) dL_law_295 rfl rfl ?_
    refine z_iload (q := 298) dL_law_296 rfl rfl ?_
    refine z_iconst (q := 299) dL_law_298 zci_1 rfl ?_
    refine z_iaddN (q := 300) dL_law_299 rfl ?_
    refine z_sld (q := 301) dL_law_300 (by omega) (by omega) rfl ?_
    refine z_eqi e1 ?_
    refine z_aload_n (q := 302) dL_law_301 rfl rfl ?_
    refine z_cSW (q := 305) (av := [.ref (zgB g), .int (nI a), .ref (zgB g + 298)]) dL_law_302 zlw_about zcw_about zdL zt_mL_about zcn_about rfl rfl (Nat.le_of_ble_eq_true rfl) (wr_about (Or.inr (by omega)) zHl_o (ct_X7_about0 hJ ha2)) hk hn rfl ?_
    rintro _ _ ⟨rfl, D, hD, rfl⟩
    refine z_heq ((congrArg (fun H => zpT g H (zgB g) D) zHl_w).trans (zHl_M (d := D) (u := u))) ?_
    refine z_istore (q := 307) dL_law_305 (Nat.le_of_ble_eq_true rfl) rfl rfl ?_
    refine z_aload_n (q := 308) dL_law_307 rfl rfl ?_
    refine z_aload_n (q := 309) dL_law_308 rfl rfl ?_
    refine z_iload (q := 311) dL_law_309 rfl rfl ?_
    refine z_iconst (q := 312) dL_law_311 zci_1 rfl ?_
    refine z_iaddN (q := 313) dL_law_312 rfl ?_
    refine z_sld (q := 314) dL_law_313 (by omega) (by omega) rfl ?_
    refine z_eqi e1 ?_
    refine z_V1 (q := 317) dL_law_314 zkL_123 zt_mX8_about rfl zpM_0 rfl (Nat.le_of_ble_eq_true rfl) (ct_X8_about0 ha2 f0 hn6 f1 hK8) (Nat.zero_le _) (Nat.zero_le _) rfl ?_
    rintro _ _ ⟨rfl, U, rfl, hSU, hU0⟩
    refine z_istore (q := 319) dL_law_317 (Nat.le_of_ble_eq_true rfl) rfl rfl ?_
    refine z_aload_n (q := 320) dL_law_319 rfl rfl ?_
    refine z_v0 (q := 323) dL_law_320 zkL_106 zt_mX8_thrown rfl zpM_0 rfl (Nat.le_of_ble_eq_true rfl) (ct_X8_thrown) rfl ?_
    refine z_eqi hU0 ?_
    refine z_iload (q := 325) dL_law_323 rfl rfl ?_
    refine z_icmp_eqN (tg := 330) (q := 328) dL_law_325 rfl rfl (by omega) (by omega) ?_ ?_
    · intro hc325
      refine z_iload (q := 332) dL_law_330 rfl rfl ?_
      refine z_if_ne (tg := 347) (q := 335) dL_law_332 rfl rfl ?_ ?_
      · intro hc332
        exact absurd hc332 (by decide)
      · intro hc332
        refine z_aload_n (q := 336) dL_law_335 rfl rfl ?_
        refine z_iconst (q := 337) dL_law_336 zci_0 rfl ?_
        refine z_lald (q := 338) dL_law_337 zMl_o (by omega) (by omega) rfl ?_
        refine z_iload (q := 340) dL_law_338 rfl rfl ?_
        refine z_i2l (q := 341) dL_law_340 rfl rfl ?_
        refine z_lcmp (q := 342) dL_law_341 rfl ?_
        refine z_eqi (show lg_cmp (va_up w 0 _ 0) _ = nI 0 by rw [zu_eq, cmp_0]) ?_
        refine z_if_eq (tg := 347) (q := 345) dL_law_342 rfl rfl ?_ ?_
        · intro hc342
          refine z_goto (q := 0) (tg := 1804) dL_law_347 rfl ?_
          refine z_heq (zHl_M (g := g)).symm ?_
          exact kk D U _ _ _ (zJE_Sc hSU hD)
        · intro hc342
          exact absurd hc342 (by decide)
    · intro hc325
      exact absurd hc325 (by decide)
theorem zlw_agent : Cond.methodLink RL 124 mL_agent.1 ∈ zTb := List.mem_filter.mpr ⟨List.mem_append_right _ (List.mem_of_getElem? (i := 501) (by decide +kernel)), by decide +kernel⟩
theorem zcw_agent : Cond.codeWith mL_agent.1 mL_agent.2.1 mL_agent.2.2.1 mL_agent.2.2.2.1 [(0, 10, 13, 28), (0, 10, 17, 13)] ∈ zTb := List.mem_filter.mpr ⟨List.mem_append_right _ (List.mem_of_getElem? (i := 503) (by decide +kernel)), by decide +kernel⟩
theorem zcn_agent : mL_agent.1.cls ≠ "java/lang/invoke/MethodHandle" ∧ mL_agent.1.cls ≠ "java/lang/invoke/VarHandle" ∧ (parseMethodDescriptor mL_agent.1.desc).map (fun d => d.parameters.length) = some 4 := ⟨by decide +kernel, by decide +kernel, by decide +kernel⟩
set_option maxRecDepth 100000 in
set_option maxHeartbeats 4000000 in
theorem op_agent {g : zGl} {nm : String} {b0 L : Nat} {xs : Nat → Int32} {k n i : Nat} {d u : Nat → Nat → Int32} {w : Nat → Int64} {l5 l6 : Option Value} (hi : i + 4 ≤ L) (hL : L ≤ 2048) (hk : 1 ≤ k) (hn : 6 ≤ n) (hJE : zJE d u) (kk : ∀ (d u : Nat → Nat → Int32) (w : Nat → Int64) (l5 l6 : Option Value), zJE d u → zA g (zZl g nm b0 L xs) (k - 1) (n - 6) 1804 [some (.ref b0), some (.ref (zgB g)), some (.ref (zgB g + 286)), some (.ref (zgB g + 298)), some (.int (nI i)), l5, l6] [] (zHl g d u w)) : zA g (zZl g nm b0 L xs) k n 350 [some (.ref b0), some (.ref (zgB g)), some (.ref (zgB g + 286)), some (.ref (zgB g + 298)), some (.int (nI i)), l5, l6] [] (zHl g d u w) := by
  obtain ⟨n0, K, hJ⟩ := hJE
  have hR := hJ.1
  have hn6 := zR_n6 hR
  have hK8 := zR_K8 hR
  have f0 := zR_f0 hR
  have f1 := zR_f1 hR
  obtain ⟨Lt, hLt, -, hLs, -⟩ := id hJ.2.1
  obtain ⟨-, c, -, hc14, -, -, hc9, -⟩ := id hJ.2.2.1
  refine z_heq (show zHl g d u w = zpT g (zpM g (zHE g w) (zgB g + 286) u) (zgB g) d from rfl) ?_
  obtain ⟨x1, e1⟩ : ∃ x, xs (i + 1) = x := ⟨_, rfl⟩
  obtain ⟨x2, e2⟩ : ∃ x, xs (i + 2) = x := ⟨_, rfl⟩
  cases hv : qHas x1 n0 with
  | false =>
    refine z_aload_n (q := 351) dL_law_350 rfl rfl ?_
    refine z_aload_n (q := 352) dL_law_351 rfl rfl ?_
    refine z_iload (q := 354) dL_law_352 rfl rfl ?_
    refine z_iconst (q := 355) dL_law_354 zci_1 rfl ?_
    refine z_iaddN (q := 356) dL_law_355 rfl ?_
    refine z_sld (q := 357) dL_law_356 (by omega) (by omega) rfl ?_
    refine z_eqi e1 ?_
    refine z_aload_n (q := 358) dL_law_357 rfl rfl ?_
    refine z_iload (q := 360) dL_law_358 rfl rfl ?_
    refine z_iconst (q := 361) dL_law_360 zci_2 rfl ?_
    refine z_iaddN (q := 362) dL_law_361 rfl ?_
    refine z_sld (q := 363) dL_law_362 (by omega) (by omega) rfl ?_
    refine z_eqi e2 ?_
    refine z_aload_n (q := 364) dL_law_363 rfl rfl ?_
    refine z_cSW (q := 367) (av := [.ref (zgB g), .int x1, .int x2, .ref (zgB g + 298)]) dL_law_364 zlw_agent zcw_agent zdL zt_mL_agent zcn_agent rfl rfl (Nat.le_of_ble_eq_true rfl) (wx_agent_1 (o := zgB g + 298) (cx_X7_agent1 hJ hv)) hk hn rfl ?_
    rintro _ _ ⟨rfl, D, hD, rfl⟩
    refine z_heq (show _ = zpM g (zpT g (zHE g w) (zgB g) D) (zgB g + 286) u from zHl_M (d := D) (u := u) (w := w)) ?_
    refine z_istore (q := 369) dL_law_367 (Nat.le_of_ble_eq_true rfl) rfl rfl ?_
    refine z_aload_n (q := 370) dL_law_369 rfl rfl ?_
    refine z_aload_n (q := 371) dL_law_370 rfl rfl ?_
    refine z_iload (q := 373) dL_law_371 rfl rfl ?_
    refine z_iconst (q := 374) dL_law_373 zci_1 rfl ?_
    refine z_iaddN (q := 375) dL_law_374 rfl ?_
    refine z_sld (q := 376) dL_law_375 (by omega) (by omega) rfl ?_
    refine z_eqi e1 ?_
    refine z_aload_n (q := 377) dL_law_376 rfl rfl ?_
    refine z_iload (q := 379) dL_law_377 rfl rfl ?_
    refine z_iconst (q := 380) dL_law_379 zci_2 rfl ?_
    refine z_iaddN (q := 381) dL_law_380 rfl ?_
    refine z_sld (q := 382) dL_law_381 (by omega) (by omega) rfl ?_
    refine z_eqi e2 ?_
    refine z_V2 (q := 385) dL_law_382 zkL_127 zt_mX8_agent rfl zpM_0 rfl (Nat.le_of_ble_eq_true rfl) (ct_X8_agent1 f0 hn6 hv) (Nat.zero_le _) (Nat.zero_le _) rfl ?_
    rintro _ _ ⟨rfl, U, rfl, hSU, hU0⟩
    refine z_istore (q := 387) dL_law_385 (Nat.le_of_ble_eq_true rfl) rfl rfl ?_
    refine z_aload_n (q := 388) dL_law_387 rfl rfl ?_
    refine z_v0 (q := 391) dL_law_388 zkL_106 zt_mX8_thrown rfl zpM_0 rfl (Nat.le_of_ble_eq_true rfl) (ct_X8_thrown) rfl ?_
    refine z_eqi hU0 ?_
    refine z_iload (q := 393) dL_law_391 rfl rfl ?_
    refine z_icmp_eqN (tg := 398) (q := 396) dL_law_393 rfl rfl (by omega) (by omega) ?_ ?_
    · intro hc393
      refine z_iload (q := 400) dL_law_398 rfl rfl ?_
      refine z_if_ne (tg := 415) (q := 403) dL_law_400 rfl rfl ?_ ?_
      · intro hc400
        refine z_goto (q := 0) (tg := 1804) dL_law_415 rfl ?_
        refine z_heq (zHl_M (g := g)).symm ?_
        exact kk D U _ _ _ (zJE_Sc hSU hD)
      · intro hc400
        exact absurd hc400 (by decide)
    · intro hc393
      exact absurd hc393 (by decide)
  | true =>
    cases hv2 : qBt x2 0 7 with
    | false =>
      refine z_aload_n (q := 351) dL_law_350 rfl rfl ?_
      refine z_aload_n (q := 352) dL_law_351 rfl rfl ?_
      refine z_iload (q := 354) dL_law_352 rfl rfl ?_
      refine z_iconst (q := 355) dL_law_354 zci_1 rfl ?_
      refine z_iaddN (q := 356) dL_law_355 rfl ?_
      refine z_sld (q := 357) dL_law_356 (by omega) (by omega) rfl ?_
      refine z_eqi e1 ?_
      refine z_aload_n (q := 358) dL_law_357 rfl rfl ?_
      refine z_iload (q := 360) dL_law_358 rfl rfl ?_
      refine z_iconst (q := 361) dL_law_360 zci_2 rfl ?_
      refine z_iaddN (q := 362) dL_law_361 rfl ?_
      refine z_sld (q := 363) dL_law_362 (by omega) (by omega) rfl ?_
      refine z_eqi e2 ?_
      refine z_aload_n (q := 364) dL_law_363 rfl rfl ?_
      refine z_cSW (q := 367) (av := [.ref (zgB g), .int x1, .int x2, .ref (zgB g + 298)]) dL_law_364 zlw_agent zcw_agent zdL zt_mL_agent zcn_agent rfl rfl (Nat.le_of_ble_eq_true rfl) (wx_agent_2 (o := zgB g + 298) (cx_X7_agent2 hJ hv hv2)) hk hn rfl ?_
      rintro _ _ ⟨rfl, D, hD, rfl⟩
      refine z_heq (show _ = zpM g (zpT g (zHE g w) (zgB g) D) (zgB g + 286) u from zHl_M (d := D) (u := u) (w := w)) ?_
      refine z_istore (q := 369) dL_law_367 (Nat.le_of_ble_eq_true rfl) rfl rfl ?_
      refine z_aload_n (q := 370) dL_law_369 rfl rfl ?_
      refine z_aload_n (q := 371) dL_law_370 rfl rfl ?_
      refine z_iload (q := 373) dL_law_371 rfl rfl ?_
      refine z_iconst (q := 374) dL_law_373 zci_1 rfl ?_
      refine z_iaddN (q := 375) dL_law_374 rfl ?_
      refine z_sld (q := 376) dL_law_375 (by omega) (by omega) rfl ?_
      refine z_eqi e1 ?_
      refine z_aload_n (q := 377) dL_law_376 rfl rfl ?_
      refine z_iload (q := 379) dL_law_377 rfl rfl ?_
      refine z_iconst (q := 380) dL_law_379 zci_2 rfl ?_
      refine z_iaddN (q := 381) dL_law_380 rfl ?_
      refine z_sld (q := 382) dL_law_381 (by omega) (by omega) rfl ?_
      refine z_eqi e2 ?_
      refine z_V2 (q := 385) dL_law_382 zkL_127 zt_mX8_agent rfl zpM_0 rfl (Nat.le_of_ble_eq_true rfl) (ct_X8_agent2 f0 hn6 hv hv2) (Nat.zero_le _) (Nat.zero_le _) rfl ?_
      rintro _ _ ⟨rfl, U, rfl, hSU, hU0⟩
      refine z_istore (q := 387) dL_law_385 (Nat.le_of_ble_eq_true rfl) rfl rfl ?_
      refine z_aload_n (q := 388) dL_law_387 rfl rfl ?_
      refine z_v0 (q := 391) dL_law_388 zkL_106 zt_mX8_thrown rfl zpM_0 rfl (Nat.le_of_ble_eq_true rfl) (ct_X8_thrown) rfl ?_
      refine z_eqi hU0 ?_
      refine z_iload (q := 393) dL_law_391 rfl rfl ?_
      refine z_icmp_eqN (tg := 398) (q := 396) dL_law_393 rfl rfl (by omega) (by omega) ?_ ?_
      · intro hc393
        refine z_iload (q := 400) dL_law_398 rfl rfl ?_
        refine z_if_ne (tg := 415) (q := 403) dL_law_400 rfl rfl ?_ ?_
        · intro hc400
          refine z_goto (q := 0) (tg := 1804) dL_law_415 rfl ?_
          refine z_heq (zHl_M (g := g)).symm ?_
          exact kk D U _ _ _ (zJE_Sc hSU hD)
        · intro hc400
          exact absurd hc400 (by decide)
      · intro hc393
        exact absurd hc393 (by decide)
    | true =>
      obtain ⟨a, ha, rfl⟩ := qHas_t hv (by omega)
      obtain ⟨t, -, ht, rfl⟩ := qBt_t hv2 (by decide) (by decide)
      refine z_aload_n (q := 351) dL_law_350 rfl rfl ?_
      refine z_aload_n (q := 352) dL_law_351 rfl rfl ?_
      refine z_iload (q := 354) dL_law_352 rfl rfl ?_
      refine z_iconst (q := 355) dL_law_354 zci_1 rfl ?_
      refine z_iaddN (q := 356) dL_law_355 rfl ?_
      refine z_sld (q := 357) dL_law_356 (by omega) (by omega) rfl ?_
      refine z_eqi e1 ?_
      refine z_aload_n (q := 358) dL_law_357 rfl rfl ?_
      refine z_iload (q := 360) dL_law_358 rfl rfl ?_
      refine z_iconst (q := 361) dL_law_360 zci_2 rfl ?_
      refine z_iaddN (q := 362) dL_law_361 rfl ?_
      refine z_sld (q := 363) dL_law_362 (by omega) (by omega) rfl ?_
      refine z_eqi e2 ?_
      refine z_aload_n (q := 364) dL_law_363 rfl rfl ?_
      refine z_cSW (q := 367) (av := [.ref (zgB g), .int (nI a), .int (nI t), .ref (zgB g + 298)]) dL_law_364 zlw_agent zcw_agent zdL zt_mL_agent zcn_agent rfl rfl (Nat.le_of_ble_eq_true rfl) (wr_agent (Or.inr (by omega)) zHl_o (ct_X7_agent0 hJ ha ht)) hk hn rfl ?_
      rintro _ _ ⟨rfl, D, hD, rfl⟩
      refine z_heq ((congrArg (fun H => zpT g H (zgB g) D) zHl_w).trans (zHl_M (d := D) (u := u))) ?_
      refine z_istore (q := 369) dL_law_367 (Nat.le_of_ble_eq_true rfl) rfl rfl ?_
      refine z_aload_n (q := 370) dL_law_369 rfl rfl ?_
      refine z_aload_n (q := 371) dL_law_370 rfl rfl ?_
      refine z_iload (q := 373) dL_law_371 rfl rfl ?_
      refine z_iconst (q := 374) dL_law_373 zci_1 rfl ?_
      refine z_iaddN (q := 375) dL_law_374 rfl ?_
      refine z_sld (q := 376) dL_law_375 (by omega) (by omega) rfl ?_
      refine z_eqi e1 ?_
      refine z_aload_n (q := 377) dL_law_376 rfl rfl ?_
      refine z_iload (q := 379) dL_law_377 rfl rfl ?_
      refine z_iconst (q := 380) dL_law_379 zci_2 rfl ?_
      refine z_iaddN (q := 381) dL_law_380 rfl ?_
      refine z_sld (q := 382) dL_law_381 (by omega) (by omega) rfl ?_
      refine z_eqi e2 ?_
      refine z_V2 (q := 385) dL_law_382 zkL_127 zt_mX8_agent rfl zpM_0 rfl (Nat.le_of_ble_eq_true rfl) (ct_X8_agent0 ha ht f0 hn6 f1 hK8) (Nat.zero_le _) (Nat.zero_le _) rfl ?_
      rintro _ _ ⟨rfl, U, rfl, hSU, hU0⟩
      refine z_istore (q := 387) dL_law_385 (Nat.le_of_ble_eq_true rfl) rfl rfl ?_
      refine z_aload_n (q := 388) dL_law_387 rfl rfl ?_
      refine z_v0 (q := 391) dL_law_388 zkL_106 zt_mX8_thrown rfl zpM_0 rfl (Nat.le_of_ble_eq_true rfl) (ct_X8_thrown) rfl ?_
      refine z_eqi hU0 ?_
      refine z_iload (q := 393) dL_law_391 rfl rfl ?_
      refine z_icmp_eqN (tg := 398) (q := 396) dL_law_393 rfl rfl (by omega) (by omega) ?_ ?_
      · intro hc393
        refine z_iload (q := 400) dL_law_398 rfl rfl ?_
        refine z_if_ne (tg := 415) (q := 403) dL_law_400 rfl rfl ?_ ?_
        · intro hc400
          exact absurd hc400 (by decide)
        · intro hc400
          refine z_aload_n (q := 404) dL_law_403 rfl rfl ?_
          refine z_iconst (q := 405) dL_law_404 zci_0 rfl ?_
          refine z_lald (q := 406) dL_law_405 zMl_o (by omega) (by omega) rfl ?_
          refine z_iload (q := 408) dL_law_406 rfl rfl ?_
          refine z_i2l (q := 409) dL_law_408 rfl rfl ?_
          refine z_lcmp (q := 410) dL_law_409 rfl ?_
          refine z_eqi (show lg_cmp (va_up w 0 _ 0) _ = nI 0 by rw [zu_eq, cmp_0]) ?_
          refine z_if_eq (tg := 415) (q := 413) dL_law_410 rfl rfl ?_ ?_
          · intro hc410
            refine z_goto (q := 0) (tg := 1804) dL_law_415 rfl ?_
            refine z_heq (zHl_M (g := g)).symm ?_
            exact kk D U _ _ _ (zJE_Sc hSU hD)
          · intro hc410
            exact absurd hc410 (by decide)
      · intro hc393
        exact absurd hc393 (by decide)
theorem zlw_task : Cond.methodLink RL 128 mL_task.1 ∈ zTb := List.mem_filter.mpr ⟨List.mem_append_right _ (List.mem_of_getElem? (i := 553) (by decide +kernel)), by decide +kernel⟩
theorem zcw_task : Cond.codeWith mL_task.1 mL_task.2.1 mL_task.2.2.1 mL_task.2.2.2.1 [(0, 10, 13, 28), (0, 10, 17, 13)] ∈ zTb := List.mem_filter.mpr ⟨List.mem_append_right _ (List.mem_of_getElem? (i := 555) (by decide +kernel)), by decide +kernel⟩
theorem zcn_task : mL_task.1.cls ≠ "java/lang/invoke/MethodHandle" ∧ mL_task.1.cls ≠ "java/lang/invoke/VarHandle" ∧ (parseMethodDescriptor mL_task.1.desc).map (fun d => d.parameters.length) = some 4 := ⟨by decide +kernel, by decide +kernel, by decide +kernel⟩
set_option maxRecDepth 100000 in
set_option maxHeartbeats 4000000 in
theorem op_task {g : zGl} {nm : String} {b0 L : Nat} {xs : Nat → Int32} {k n i : Nat} {d u : Nat → Nat → Int32} {w : Nat → Int64} {l5 l6 : Option Value} (hi : i + 4 ≤ L) (hL : L ≤ 2048) (hk : 1 ≤ k) (hn : 6 ≤ n) (hJE : zJE d u) (kk : ∀ (d u : Nat → Nat → Int32) (w : Nat → Int64) (l5 l6 : Option Value), zJE d u → zA g (zZl g nm b0 L xs) (k - 1) (n - 6) 1804 [some (.ref b0), some (.ref (zgB g)), some (.ref (zgB g + 286)), some (.ref (zgB g + 298)), some (.int (nI i)), l5, l6] [] (zHl g d u w)) : zA g (zZl g nm b0 L xs) k n 418 [some (.ref b0), some (.ref (zgB g)), some (.ref (zgB g + 286)), some (.ref (zgB g + 298)), some (.int (nI i)), l5, l6] [] (zHl g d u w) := by
  obtain ⟨n0, K, hJ⟩ := hJE
  have hR := hJ.1
  have hn6 := zR_n6 hR
  have hK8 := zR_K8 hR
  have f0 := zR_f0 hR
  have f1 := zR_f1 hR
  obtain ⟨Lt, hLt, -, hLs, -⟩ := id hJ.2.1
  obtain ⟨-, c, -, hc14, -, -, hc9, -⟩ := id hJ.2.2.1
  refine z_heq (show zHl g d u w = zpT g (zpM g (zHE g w) (zgB g + 286) u) (zgB g) d from rfl) ?_
  obtain ⟨x1, e1⟩ : ∃ x, xs (i + 1) = x := ⟨_, rfl⟩
  obtain ⟨x2, e2⟩ : ∃ x, xs (i + 2) = x := ⟨_, rfl⟩
  cases hv : qHas x1 K with
  | false =>
    refine z_aload_n (q := 419) dL_law_418 rfl rfl ?_
    refine z_aload_n (q := 420) dL_law_419 rfl rfl ?_
    refine z_iload (q := 422) dL_law_420 rfl rfl ?_
    refine z_iconst (q := 423) dL_law_422 zci_1 rfl ?_
    refine z_iaddN (q := 424) dL_law_423 rfl ?_
    refine z_sld (q := 425) dL_law_424 (by omega) (by omega) rfl ?_
    refine z_eqi e1 ?_
    refine z_aload_n (q := 426) dL_law_425 rfl rfl ?_
    refine z_iload (q := 428) dL_law_426 rfl rfl ?_
    refine z_iconst (q := 429) dL_law_428 zci_2 rfl ?_
    refine z_iaddN (q := 430) dL_law_429 rfl ?_
    refine z_sld (q := 431) dL_law_430 (by omega) (by omega) rfl ?_
    refine z_eqi e2 ?_
    refine z_aload_n (q := 432) dL_law_431 rfl rfl ?_
    refine z_cSW (q := 435) (av := [.ref (zgB g), .int x1, .int x2, .ref (zgB g + 298)]) dL_law_432 zlw_task zcw_task zdL zt_mL_task zcn_task rfl rfl (Nat.le_of_ble_eq_true rfl) (wx_task_1 (o := zgB g + 298) (cx_X7_task1 hJ hv)) hk hn rfl ?_
    rintro _ _ ⟨rfl, D, hD, rfl⟩
    refine z_heq (show _ = zpM g (zpT g (zHE g w) (zgB g) D) (zgB g + 286) u from zHl_M (d := D) (u := u) (w := w)) ?_
    refine z_istore (q := 437) dL_law_435 (Nat.le_of_ble_eq_true rfl) rfl rfl ?_
    refine z_aload_n (q := 438) dL_law_437 rfl rfl ?_
    refine z_aload_n (q := 439) dL_law_438 rfl rfl ?_
    refine z_iload (q := 441) dL_law_439 rfl rfl ?_
    refine z_iconst (q := 442) dL_law_441 zci_1 rfl ?_
    refine z_iaddN (q := 443) dL_law_442 rfl ?_
    refine z_sld (q := 444) dL_law_443 (by omega) (by omega) rfl ?_
    refine z_eqi e1 ?_
    refine z_aload_n (q := 445) dL_law_444 rfl rfl ?_
    refine z_iload (q := 447) dL_law_445 rfl rfl ?_
    refine z_iconst (q := 448) dL_law_447 zci_2 rfl ?_
    refine z_iaddN (q := 449) dL_law_448 rfl ?_
    refine z_sld (q := 450) dL_law_449 (by omega) (by omega) rfl ?_
    refine z_eqi e2 ?_
    refine z_V2 (q := 453) dL_law_450 zkL_130 zt_mX8_task rfl zpM_0 rfl (Nat.le_of_ble_eq_true rfl) (ct_X8_task1 f1 hK8 hv) (Nat.zero_le _) (Nat.zero_le _) rfl ?_
    rintro _ _ ⟨rfl, U, rfl, hSU, hU0⟩
    refine z_istore (q := 455) dL_law_453 (Nat.le_of_ble_eq_true rfl) rfl rfl ?_
    refine z_aload_n (q := 456) dL_law_455 rfl rfl ?_
    refine z_v0 (q := 459) dL_law_456 zkL_106 zt_mX8_thrown rfl zpM_0 rfl (Nat.le_of_ble_eq_true rfl) (ct_X8_thrown) rfl ?_
    refine z_eqi hU0 ?_
    refine z_iload (q := 461) dL_law_459 rfl rfl ?_
    refine z_icmp_eqN (tg := 466) (q := 464) dL_law_461 rfl rfl (by omega) (by omega) ?_ ?_
    · intro hc461
      refine z_iload (q := 468) dL_law_466 rfl rfl ?_
      refine z_if_ne (tg := 483) (q := 471) dL_law_468 rfl rfl ?_ ?_
      · intro hc468
        refine z_goto (q := 0) (tg := 1804) dL_law_483 rfl ?_
        refine z_heq (zHl_M (g := g)).symm ?_
        exact kk D U _ _ _ (zJE_Sc hSU hD)
      · intro hc468
        exact absurd hc468 (by decide)
    · intro hc461
      exact absurd hc461 (by decide)
  | true =>
    cases hv2 : qBt x2 0 6 with
    | false =>
      refine z_aload_n (q := 419) dL_law_418 rfl rfl ?_
      refine z_aload_n (q := 420) dL_law_419 rfl rfl ?_
      refine z_iload (q := 422) dL_law_420 rfl rfl ?_
      refine z_iconst (q := 423) dL_law_422 zci_1 rfl ?_
      refine z_iaddN (q := 424) dL_law_423 rfl ?_
      refine z_sld (q := 425) dL_law_424 (by omega) (by omega) rfl ?_
      refine z_eqi e1 ?_
      refine z_aload_n (q := 426) dL_law_425 rfl rfl ?_
      refine z_iload (q := 428) dL_law_426 rfl rfl ?_
      refine z_iconst (q := 429) dL_law_428 zci_2 rfl ?_
      refine z_iaddN (q := 430) dL_law_429 rfl ?_
      refine z_sld (q := 431) dL_law_430 (by omega) (by omega) rfl ?_
      refine z_eqi e2 ?_
      refine z_aload_n (q := 432) dL_law_431 rfl rfl ?_
      refine z_cSW (q := 435) (av := [.ref (zgB g), .int x1, .int x2, .ref (zgB g + 298)]) dL_law_432 zlw_task zcw_task zdL zt_mL_task zcn_task rfl rfl (Nat.le_of_ble_eq_true rfl) (wx_task_2 (o := zgB g + 298) (cx_X7_task2 hJ hv hv2)) hk hn rfl ?_
      rintro _ _ ⟨rfl, D, hD, rfl⟩
      refine z_heq (show _ = zpM g (zpT g (zHE g w) (zgB g) D) (zgB g + 286) u from zHl_M (d := D) (u := u) (w := w)) ?_
      refine z_istore (q := 437) dL_law_435 (Nat.le_of_ble_eq_true rfl) rfl rfl ?_
      refine z_aload_n (q := 438) dL_law_437 rfl rfl ?_
      refine z_aload_n (q := 439) dL_law_438 rfl rfl ?_
      refine z_iload (q := 441) dL_law_439 rfl rfl ?_
      refine z_iconst (q := 442) dL_law_441 zci_1 rfl ?_
      refine z_iaddN (q := 443) dL_law_442 rfl ?_
      refine z_sld (q := 444) dL_law_443 (by omega) (by omega) rfl ?_
      refine z_eqi e1 ?_
      refine z_aload_n (q := 445) dL_law_444 rfl rfl ?_
      refine z_iload (q := 447) dL_law_445 rfl rfl ?_
      refine z_iconst (q := 448) dL_law_447 zci_2 rfl ?_
      refine z_iaddN (q := 449) dL_law_448 rfl ?_
      refine z_sld (q := 450) dL_law_449 (by omega) (by omega) rfl ?_
      refine z_eqi e2 ?_
      refine z_V2 (q := 453) dL_law_450 zkL_130 zt_mX8_task rfl zpM_0 rfl (Nat.le_of_ble_eq_true rfl) (ct_X8_task2 f1 hK8 hv hv2) (Nat.zero_le _) (Nat.zero_le _) rfl ?_
      rintro _ _ ⟨rfl, U, rfl, hSU, hU0⟩
      refine z_istore (q := 455) dL_law_453 (Nat.le_of_ble_eq_true rfl) rfl rfl ?_
      refine z_aload_n (q := 456) dL_law_455 rfl rfl ?_
      refine z_v0 (q := 459) dL_law_456 zkL_106 zt_mX8_thrown rfl zpM_0 rfl (Nat.le_of_ble_eq_true rfl) (ct_X8_thrown) rfl ?_
      refine z_eqi hU0 ?_
      refine z_iload (q := 461) dL_law_459 rfl rfl ?_
      refine z_icmp_eqN (tg := 466) (q := 464) dL_law_461 rfl rfl (by omega) (by omega) ?_ ?_
      · intro hc461
        refine z_iload (q := 468) dL_law_466 rfl rfl ?_
        refine z_if_ne (tg := 483) (q := 471) dL_law_468 rfl rfl ?_ ?_
        · intro hc468
          refine z_goto (q := 0) (tg := 1804) dL_law_483 rfl ?_
          refine z_heq (zHl_M (g := g)).symm ?_
          exact kk D U _ _ _ (zJE_Sc hSU hD)
        · intro hc468
          exact absurd hc468 (by decide)
      · intro hc461
        exact absurd hc461 (by decide)
    | true =>
      obtain ⟨a, ha, rfl⟩ := qHas_t hv (by omega)
      obtain ⟨t, -, ht, rfl⟩ := qBt_t hv2 (by decide) (by decide)
      refine z_aload_n (q := 419) dL_law_418 rfl rfl ?_
      refine z_aload_n (q := 420) dL_law_419 rfl rfl ?_
      refine z_iload (q := 422) dL_law_420 rfl rfl ?_
      refine z_iconst (q := 423) dL_law_422 zci_1 rfl ?_
      refine z_iaddN (q := 424) dL_law_423 rfl ?_
      refine z_sld (q := 425) dL_law_424 (by omega) (by omega) rfl ?_
      refine z_eqi e1 ?_
      refine z_aload_n (q := 426) dL_law_425 rfl rfl ?_
      refine z_iload (q := 428) dL_law_426 rfl rfl ?_
      refine z_iconst (q := 429) dL_law_428 zci_2 rfl ?_
      refine z_iaddN (q := 430) dL_law_429 rfl ?_
      refine z_sld (q := 431) dL_law_430 (by omega) (by omega) rfl ?_
      refine z_eqi e2 ?_
      refine z_aload_n (q := 432) dL_law_431 rfl rfl ?_
      refine z_cSW (q := 435) (av := [.ref (zgB g), .int (nI a), .int (nI t), .ref (zgB g + 298)]) dL_law_432 zlw_task zcw_task zdL zt_mL_task zcn_task rfl rfl (Nat.le_of_ble_eq_true rfl) (wr_task (Or.inr (by omega)) zHl_o (ct_X7_task0 hJ ha ht)) hk hn rfl ?_
      rintro _ _ ⟨rfl, D, hD, rfl⟩
      refine z_heq ((congrArg (fun H => zpT g H (zgB g) D) zHl_w).trans (zHl_M (d := D) (u := u))) ?_
      refine z_istore (q := 437) dL_law_435 (Nat.le_of_ble_eq_true rfl) rfl rfl ?_
      refine z_aload_n (q := 438) dL_law_437 rfl rfl ?_
      refine z_aload_n (q := 439) dL_law_438 rfl rfl ?_
      refine z_iload (q := 441) dL_law_439 rfl rfl ?_
      refine z_iconst (q := 442) dL_law_441 zci_1 rfl ?_
      refine z_iaddN (q := 443) dL_law_442 rfl ?_
      refine z_sld (q := 444) dL_law_443 (by omega) (by omega) rfl ?_
      refine z_eqi e1 ?_
      refine z_aload_n (q := 445) dL_law_444 rfl rfl ?_
      refine z_iload (q := 447) dL_law_445 rfl rfl ?_
      refine z_iconst (q := 448) dL_law_447 zci_2 rfl ?_
      refine z_iaddN (q := 449) dL_law_448 rfl ?_
      refine z_sld (q := 450) dL_law_449 (by omega) (by omega) rfl ?_
      refine z_eqi e2 ?_
      refine z_V2 (q := 453) dL_law_450 zkL_130 zt_mX8_task rfl zpM_0 rfl (Nat.le_of_ble_eq_true rfl) (ct_X8_task0 ha ht f0 hn6 f1 hK8) (Nat.zero_le _) (Nat.zero_le _) rfl ?_
      rintro _ _ ⟨rfl, U, rfl, hSU, hU0⟩
      refine z_istore (q := 455) dL_law_453 (Nat.le_of_ble_eq_true rfl) rfl rfl ?_
      refine z_aload_n (q := 456) dL_law_455 rfl rfl ?_
      refine z_v0 (q := 459) dL_law_456 zkL_106 zt_mX8_thrown rfl zpM_0 rfl (Nat.le_of_ble_eq_true rfl) (ct_X8_thrown) rfl ?_
      refine z_eqi hU0 ?_
      refine z_iload (q := 461) dL_law_459 rfl rfl ?_
      refine z_icmp_eqN (tg := 466) (q := 464) dL_law_461 rfl rfl (by omega) (by omega) ?_ ?_
      · intro hc461
        refine z_iload (q := 468) dL_law_466 rfl rfl ?_
        refine z_if_ne (tg := 483) (q := 471) dL_law_468 rfl rfl ?_ ?_
        · intro hc468
          exact absurd hc468 (by decide)
        · intro hc468
          refine z_aload_n (q := 472) dL_law_471 rfl rfl ?_
          refine z_iconst (q := 473) dL_law_472 zci_0 rfl ?_
          refine z_lald (q := 474) dL_law_473 zMl_o (by omega) (by omega) rfl ?_
          refine z_iload (q := 476) dL_law_474 rfl rfl ?_
          refine z_i2l (q := 477) dL_law_476 rfl rfl ?_
          refine z_lcmp (q := 478) dL_law_477 rfl ?_
          refine z_eqi (show lg_cmp (va_up w 0 _ 0) _ = nI 0 by rw [zu_eq, cmp_0]) ?_
          refine z_if_eq (tg := 483) (q := 481) dL_law_478 rfl rfl ?_ ?_
          · intro hc478
            refine z_goto (q := 0) (tg := 1804) dL_law_483 rfl ?_
            refine z_heq (zHl_M (g := g)).symm ?_
            exact kk D U _ _ _ (zJE_Sc hSU hD)
          · intro hc478
            exact absurd hc478 (by decide)
      · intro hc461
        exact absurd hc461 (by decide)
theorem zlw_note : Cond.methodLink RL 131 mL_note.1 ∈ zTb := List.mem_filter.mpr ⟨List.mem_append_right _ (List.mem_of_getElem? (i := 573) (by decide +kernel)), by decide +kernel⟩
theorem zcw_note : Cond.codeWith mL_note.1 mL_note.2.1 mL_note.2.2.1 mL_note.2.2.2.1 [(0, 12, 15, 28), (0, 12, 19, 13)] ∈ zTb := List.mem_filter.mpr ⟨List.mem_append_right _ (List.mem_of_getElem? (i := 575) (by decide +kernel)), by decide +kernel⟩
theorem zcn_note : mL_note.1.cls ≠ "java/lang/invoke/MethodHandle" ∧ mL_note.1.cls ≠ "java/lang/invoke/VarHandle" ∧ (parseMethodDescriptor mL_note.1.desc).map (fun d => d.parameters.length) = some 5 := ⟨by decide +kernel, by decide +kernel, by decide +kernel⟩
set_option maxRecDepth 100000 in
set_option maxHeartbeats 4000000 in
theorem op_note {g : zGl} {nm : String} {b0 L : Nat} {xs : Nat → Int32} {k n i : Nat} {d u : Nat → Nat → Int32} {w : Nat → Int64} {l5 l6 : Option Value} (hi : i + 4 ≤ L) (hL : L ≤ 2048) (hk : 1 ≤ k) (hn : 6 ≤ n) (hJE : zJE d u) (kk : ∀ (d u : Nat → Nat → Int32) (w : Nat → Int64) (l5 l6 : Option Value), zJE d u → zA g (zZl g nm b0 L xs) (k - 1) (n - 6) 1804 [some (.ref b0), some (.ref (zgB g)), some (.ref (zgB g + 286)), some (.ref (zgB g + 298)), some (.int (nI i)), l5, l6] [] (zHl g d u w)) : zA g (zZl g nm b0 L xs) k n 486 [some (.ref b0), some (.ref (zgB g)), some (.ref (zgB g + 286)), some (.ref (zgB g + 298)), some (.int (nI i)), l5, l6] [] (zHl g d u w) := by
  obtain ⟨n0, K, hJ⟩ := hJE
  have hR := hJ.1
  have hn6 := zR_n6 hR
  have hK8 := zR_K8 hR
  have f0 := zR_f0 hR
  have f1 := zR_f1 hR
  obtain ⟨Lt, hLt, -, hLs, -⟩ := id hJ.2.1
  obtain ⟨-, c, -, hc14, -, -, hc9, -⟩ := id hJ.2.2.1
  refine z_heq (show zHl g d u w = zpT g (zpM g (zHE g w) (zgB g + 286) u) (zgB g) d from rfl) ?_
  obtain ⟨x1, e1⟩ : ∃ x, xs (i + 1) = x := ⟨_, rfl⟩
  obtain ⟨x2, e2⟩ : ∃ x, xs (i + 2) = x := ⟨_, rfl⟩
  obtain ⟨x3, e3⟩ : ∃ x, xs (i + 3) = x := ⟨_, rfl⟩
  cases hv : (qHas x1 n0 && qHas x2 K) with
  | false =>
    refine z_aload_n (q := 487) dL_law_486 rfl rfl ?_
    refine z_aload_n (q := 488) dL_law_487 rfl rfl ?_
    refine z_iload (q := 490) dL_law_488 rfl rfl ?_
    refine z_iconst (q := 491) dL_law_490 zci_1 rfl ?_
    refine z_iaddN (q := 492) dL_law_491 rfl ?_
    refine z_sld (q := 493) dL_law_492 (by omega) (by omega) rfl ?_
    refine z_eqi e1 ?_
    refine z_aload_n (q := 494) dL_law_493 rfl rfl ?_
    refine z_iload (q := 496) dL_law_494 rfl rfl ?_
    refine z_iconst (q := 497) dL_law_496 zci_2 rfl ?_
    refine z_iaddN (q := 498) dL_law_497 rfl ?_
    refine z_sld (q := 499) dL_law_498 (by omega) (by omega) rfl ?_
    refine z_eqi e2 ?_
    refine z_aload_n (q := 500) dL_law_499 rfl rfl ?_
    refine z_iload (q := 502) dL_law_500 rfl rfl ?_
    refine z_iconst (q := 503) dL_law_502 zci_3 rfl ?_
    refine z_iaddN (q := 504) dL_law_503 rfl ?_
    refine z_sld (q := 505) dL_law_504 (by omega) (by omega) rfl ?_
    refine z_eqi e3 ?_
    refine z_aload_n (q := 506) dL_law_505 rfl rfl ?_
    refine z_cSW (q := 509) (av := [.ref (zgB g), .int x1, .int x2, .int x3, .ref (zgB g + 298)]) dL_law_506 zlw_note zcw_note zdL zt_mL_note zcn_note rfl rfl (Nat.le_of_ble_eq_true rfl) (wx_note_1 (o := zgB g + 298) (cx_X7_note1 hJ hv)) hk hn rfl ?_
    rintro _ _ ⟨rfl, D, hD, rfl⟩
    refine z_heq (show _ = zpM g (zpT g (zHE g w) (zgB g) D) (zgB g + 286) u from zHl_M (d := D) (u := u) (w := w)) ?_
    refine z_istore (q := 511) dL_law_509 (Nat.le_of_ble_eq_true rfl) rfl rfl ?_
    refine z_aload_n (q := 512) dL_law_511 rfl rfl ?_
    refine z_aload_n (q := 513) dL_law_512 rfl rfl ?_
    refine z_iload (q := 515) dL_law_513 rfl rfl ?_
    refine z_iconst (q := 516) dL_law_515 zci_1 rfl ?_
    refine z_iaddN (q := 517) dL_law_516 rfl ?_
    refine z_sld (q := 518) dL_law_517 (by omega) (by omega) rfl ?_
    refine z_eqi e1 ?_
    refine z_aload_n (q := 519) dL_law_518 rfl rfl ?_
    refine z_iload (q := 521) dL_law_519 rfl rfl ?_
    refine z_iconst (q := 522) dL_law_521 zci_2 rfl ?_
    refine z_iaddN (q := 523) dL_law_522 rfl ?_
    refine z_sld (q := 524) dL_law_523 (by omega) (by omega) rfl ?_
    refine z_eqi e2 ?_
    refine z_aload_n (q := 525) dL_law_524 rfl rfl ?_
    refine z_iload (q := 527) dL_law_525 rfl rfl ?_
    refine z_iconst (q := 528) dL_law_527 zci_3 rfl ?_
    refine z_iaddN (q := 529) dL_law_528 rfl ?_
    refine z_sld (q := 530) dL_law_529 (by omega) (by omega) rfl ?_
    refine z_eqi e3 ?_
    refine z_V3 (q := 533) dL_law_530 zkL_134 zt_mX8_note_ rfl zpM_0 rfl (Nat.le_of_ble_eq_true rfl) (ct_X8_note1 f0 hn6 f1 hK8 hv) (Nat.zero_le _) (Nat.zero_le _) rfl ?_
    rintro _ _ ⟨rfl, U, rfl, hSU, hU0⟩
    refine z_istore (q := 535) dL_law_533 (Nat.le_of_ble_eq_true rfl) rfl rfl ?_
    refine z_aload_n (q := 536) dL_law_535 rfl rfl ?_
    refine z_v0 (q := 539) dL_law_536 zkL_106 zt_mX8_thrown rfl zpM_0 rfl (Nat.le_of_ble_eq_true rfl) (ct_X8_thrown) rfl ?_
    refine z_eqi hU0 ?_
    refine z_iload (q := 541) dL_law_539 rfl rfl ?_
    refine z_icmp_eqN (tg := 546) (q := 544) dL_law_541 rfl rfl (by omega) (by omega) ?_ ?_
    · intro hc541
      refine z_iload (q := 548) dL_law_546 rfl rfl ?_
      refine z_if_ne (tg := 563) (q := 551) dL_law_548 rfl rfl ?_ ?_
      · intro hc548
        refine z_goto (q := 0) (tg := 1804) dL_law_563 rfl ?_
        refine z_heq (zHl_M (g := g)).symm ?_
        exact kk D U _ _ _ (zJE_Sc hSU hD)
      · intro hc548
        exact absurd hc548 (by decide)
    · intro hc541
      exact absurd hc541 (by decide)
  | true =>
    obtain ⟨hx, hy⟩ := Bool.and_eq_true_iff.mp hv
    cases hv2 : qBt x3 0 3 with
    | false =>
      refine z_aload_n (q := 487) dL_law_486 rfl rfl ?_
      refine z_aload_n (q := 488) dL_law_487 rfl rfl ?_
      refine z_iload (q := 490) dL_law_488 rfl rfl ?_
      refine z_iconst (q := 491) dL_law_490 zci_1 rfl ?_
      refine z_iaddN (q := 492) dL_law_491 rfl ?_
      refine z_sld (q := 493) dL_law_492 (by omega) (by omega) rfl ?_
      refine z_eqi e1 ?_
      refine z_aload_n (q := 494) dL_law_493 rfl rfl ?_
      refine z_iload (q := 496) dL_law_494 rfl rfl ?_
      refine z_iconst (q := 497) dL_law_496 zci_2 rfl ?_
      refine z_iaddN (q := 498) dL_law_497 rfl ?_
      refine z_sld (q := 499) dL_law_498 (by omega) (by omega) rfl ?_
      refine z_eqi e2 ?_
      refine z_aload_n (q := 500) dL_law_499 rfl rfl ?_
      refine z_iload (q := 502) dL_law_500 rfl rfl ?_
      refine z_iconst (q := 503) dL_law_502 zci_3 rfl ?_
      refine z_iaddN (q := 504) dL_law_503 rfl ?_
      refine z_sld (q := 505) dL_law_504 (by omega) (by omega) rfl ?_
      refine z_eqi e3 ?_
      refine z_aload_n (q := 506) dL_law_505 rfl rfl ?_
      refine z_cSW (q := 509) (av := [.ref (zgB g), .int x1, .int x2, .int x3, .ref (zgB g + 298)]) dL_law_506 zlw_note zcw_note zdL zt_mL_note zcn_note rfl rfl (Nat.le_of_ble_eq_true rfl) (wx_note_2 (o := zgB g + 298) (cx_X7_note2 hJ hx hy hv2)) hk hn rfl ?_
      rintro _ _ ⟨rfl, D, hD, rfl⟩
      refine z_heq (show _ = zpM g (zpT g (zHE g w) (zgB g) D) (zgB g + 286) u from zHl_M (d := D) (u := u) (w := w)) ?_
      refine z_istore (q := 511) dL_law_509 (Nat.le_of_ble_eq_true rfl) rfl rfl ?_
      refine z_aload_n (q := 512) dL_law_511 rfl rfl ?_
      refine z_aload_n (q := 513) dL_law_512 rfl rfl ?_
      refine z_iload (q := 515) dL_law_513 rfl rfl ?_
      refine z_iconst (q := 516) dL_law_515 zci_1 rfl ?_
      refine z_iaddN (q := 517) dL_law_516 rfl ?_
      refine z_sld (q := 518) dL_law_517 (by omega) (by omega) rfl ?_
      refine z_eqi e1 ?_
      refine z_aload_n (q := 519) dL_law_518 rfl rfl ?_
      refine z_iload (q := 521) dL_law_519 rfl rfl ?_
      refine z_iconst (q := 522) dL_law_521 zci_2 rfl ?_
      refine z_iaddN (q := 523) dL_law_522 rfl ?_
      refine z_sld (q := 524) dL_law_523 (by omega) (by omega) rfl ?_
      refine z_eqi e2 ?_
      refine z_aload_n (q := 525) dL_law_524 rfl rfl ?_
      refine z_iload (q := 527) dL_law_525 rfl rfl ?_
      refine z_iconst (q := 528) dL_law_527 zci_3 rfl ?_
      refine z_iaddN (q := 529) dL_law_528 rfl ?_
      refine z_sld (q := 530) dL_law_529 (by omega) (by omega) rfl ?_
      refine z_eqi e3 ?_
      refine z_V3 (q := 533) dL_law_530 zkL_134 zt_mX8_note_ rfl zpM_0 rfl (Nat.le_of_ble_eq_true rfl) (ct_X8_note2 f0 hn6 f1 hK8 hx hy hv2) (Nat.zero_le _) (Nat.zero_le _) rfl ?_
      rintro _ _ ⟨rfl, U, rfl, hSU, hU0⟩
      refine z_istore (q := 535) dL_law_533 (Nat.le_of_ble_eq_true rfl) rfl rfl ?_
      refine z_aload_n (q := 536) dL_law_535 rfl rfl ?_
      refine z_v0 (q := 539) dL_law_536 zkL_106 zt_mX8_thrown rfl zpM_0 rfl (Nat.le_of_ble_eq_true rfl) (ct_X8_thrown) rfl ?_
      refine z_eqi hU0 ?_
      refine z_iload (q := 541) dL_law_539 rfl rfl ?_
      refine z_icmp_eqN (tg := 546) (q := 544) dL_law_541 rfl rfl (by omega) (by omega) ?_ ?_
      · intro hc541
        refine z_iload (q := 548) dL_law_546 rfl rfl ?_
        refine z_if_ne (tg := 563) (q := 551) dL_law_548 rfl rfl ?_ ?_
        · intro hc548
          refine z_goto (q := 0) (tg := 1804) dL_law_563 rfl ?_
          refine z_heq (zHl_M (g := g)).symm ?_
          exact kk D U _ _ _ (zJE_Sc hSU hD)
        · intro hc548
          exact absurd hc548 (by decide)
      · intro hc541
        exact absurd hc541 (by decide)
    | true =>
      obtain ⟨a, ha, rfl⟩ := qHas_t hx (by omega)
      obtain ⟨t, ht, rfl⟩ := qHas_t hy (by omega)
      obtain ⟨v, -, hv3, rfl⟩ := qBt_t hv2 (by decide) (by decide)
      refine z_aload_n (q := 487) dL_law_486 rfl rfl ?_
      refine z_aload_n (q := 488) dL_law_487 rfl rfl ?_
      refine z_iload (q := 490) dL_law_488 rfl rfl ?_
      refine z_iconst (q := 491) dL_law_490 zci_1 rfl ?_
      refine z_iaddN (q := 492) dL_law_491 rfl ?_
      refine z_sld (q := 493) dL_law_492 (by omega) (by omega) rfl ?_
      refine z_eqi e1 ?_
      refine z_aload_n (q := 494) dL_law_493 rfl rfl ?_
      refine z_iload (q := 496) dL_law_494 rfl rfl ?_
      refine z_iconst (q := 497) dL_law_496 zci_2 rfl ?_
      refine z_iaddN (q := 498) dL_law_497 rfl ?_
      refine z_sld (q := 499) dL_law_498 (by omega) (by omega) rfl ?_
      refine z_eqi e2 ?_
      refine z_aload_n (q := 500) dL_law_499 rfl rfl ?_
      refine z_iload (q := 502) dL_law_500 rfl rfl ?_
      refine z_iconst (q := 503) dL_law_502 zci_3 rfl ?_
      refine z_iaddN (q := 504) dL_law_503 rfl ?_
      refine z_sld (q := 505) dL_law_504 (by omega) (by omega) rfl ?_
      refine z_eqi e3 ?_
      refine z_aload_n (q := 506) dL_law_505 rfl rfl ?_
      refine z_cSW (q := 509) (av := [.ref (zgB g), .int (nI a), .int (nI t), .int (nI v), .ref (zgB g + 298)]) dL_law_506 zlw_note zcw_note zdL zt_mL_note zcn_note rfl rfl (Nat.le_of_ble_eq_true rfl) (wr_note (Or.inr (by omega)) zHl_o (ct_X7_note0 hJ ha ht hv3)) hk hn rfl ?_
      rintro _ _ ⟨rfl, D, hD, rfl⟩
      refine z_heq ((congrArg (fun H => zpT g H (zgB g) D) zHl_w).trans (zHl_M (d := D) (u := u))) ?_
      refine z_istore (q := 511) dL_law_509 (Nat.le_of_ble_eq_true rfl) rfl rfl ?_
      refine z_aload_n (q := 512) dL_law_511 rfl rfl ?_
      refine z_aload_n (q := 513) dL_law_512 rfl rfl ?_
      refine z_iload (q := 515) dL_law_513 rfl rfl ?_
      refine z_iconst (q := 516) dL_law_515 zci_1 rfl ?_
      refine z_iaddN (q := 517) dL_law_516 rfl ?_
      refine z_sld (q := 518) dL_law_517 (by omega) (by omega) rfl ?_
      refine z_eqi e1 ?_
      refine z_aload_n (q := 519) dL_law_518 rfl rfl ?_
      refine z_iload (q := 521) dL_law_519 rfl rfl ?_
      refine z_iconst (q := 522) dL_law_521 zci_2 rfl ?_
      refine z_iaddN (q := 523) dL_law_522 rfl ?_
      refine z_sld (q := 524) dL_law_523 (by omega) (by omega) rfl ?_
      refine z_eqi e2 ?_
      refine z_aload_n (q := 525) dL_law_524 rfl rfl ?_
      refine z_iload (q := 527) dL_law_525 rfl rfl ?_
      refine z_iconst (q := 528) dL_law_527 zci_3 rfl ?_
      refine z_iaddN (q := 529) dL_law_528 rfl ?_
      refine z_sld (q := 530) dL_law_529 (by omega) (by omega) rfl ?_
      refine z_eqi e3 ?_
      refine z_V3 (q := 533) dL_law_530 zkL_134 zt_mX8_note_ rfl zpM_0 rfl (Nat.le_of_ble_eq_true rfl) (ct_X8_note0 f0 hn6 f1 hK8 ha ht hv3) (Nat.zero_le _) (Nat.zero_le _) rfl ?_
      rintro _ _ ⟨rfl, U, rfl, hSU, hU0⟩
      refine z_istore (q := 535) dL_law_533 (Nat.le_of_ble_eq_true rfl) rfl rfl ?_
      refine z_aload_n (q := 536) dL_law_535 rfl rfl ?_
      refine z_v0 (q := 539) dL_law_536 zkL_106 zt_mX8_thrown rfl zpM_0 rfl (Nat.le_of_ble_eq_true rfl) (ct_X8_thrown) rfl ?_
      refine z_eqi hU0 ?_
      refine z_iload (q := 541) dL_law_539 rfl rfl ?_
      refine z_icmp_eqN (tg := 546) (q := 544) dL_law_541 rfl rfl (by omega) (by omega) ?_ ?_
      · intro hc541
        refine z_iload (q := 548) dL_law_546 rfl rfl ?_
        refine z_if_ne (tg := 563) (q := 551) dL_law_548 rfl rfl ?_ ?_
        · intro hc548
          exact absurd hc548 (by decide)
        · intro hc548
          refine z_aload_n (q := 552) dL_law_551 rfl rfl ?_
          refine z_iconst (q := 553) dL_law_552 zci_0 rfl ?_
          refine z_lald (q := 554) dL_law_553 zMl_o (by omega) (by omega) rfl ?_
          refine z_iload (q := 556) dL_law_554 rfl rfl ?_
          refine z_i2l (q := 557) dL_law_556 rfl rfl ?_
          refine z_lcmp (q := 558) dL_law_557 rfl ?_
          refine z_eqi (show lg_cmp (va_up w 0 _ 0) _ = nI 0 by rw [zu_eq, cmp_0]) ?_
          refine z_if_eq (tg := 563) (q := 561) dL_law_558 rfl rfl ?_ ?_
          · intro hc558
            refine z_goto (q := 0) (tg := 1804) dL_law_563 rfl ?_
            refine z_heq (zHl_M (g := g)).symm ?_
            exact kk D U _ _ _ (zJE_Sc hSU hD)
          · intro hc558
            exact absurd hc558 (by decide)
      · intro hc541
        exact absurd hc541 (by decide)
