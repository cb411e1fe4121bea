/-! ===== the law: its wrappers ===== -/
set_option maxRecDepth 100000 in
set_option maxHeartbeats 4000000 in
theorem wr_append {g : zGl} {h : zHp} {b o : Nat} {d u : Nat → Nat → Int32} {w0 : Nat → Int64} {v : Int32} {x1 : Int32} (ho : o < b ∨ b + 286 ≤ o) (hw : h.1 o = some (zJ g 1 w0)) (hc : zC g mX7_append [.ref b, .int x1] (zpT g h b d) (zRJ g h b u v) 0 0) : zCW g mL_append [(0, 9, 12, 13), (0, 9, 15, 15)] [.ref b, .int x1, .ref o] (zpT g h b d) (zWR g h b o w0 u v) 1 6 := by
  refine zCW_ofA (lv := [some (.ref b), some (.int x1), some (.ref o), none]) (by decide) rfl (Nat.le_of_ble_eq_true rfl) ?_
  refine z_aload_n (q := 1) dL_append_0 rfl rfl ?_
  refine z_iconst (q := 2) dL_append_1 zci_0 rfl ?_
  refine z_aload_n (q := 3) dL_append_2 rfl rfl ?_
  refine z_iload_n (q := 4) dL_append_3 rfl rfl ?_
  refine z_V1 (q := 7) dL_append_4 zkL_7 zt_mX7_append rfl zT_0 rfl (Nat.le_of_ble_eq_true rfl) (hc) (Nat.zero_le _) (Nat.zero_le _) rfl ?_
  rintro _ _ ⟨rfl, D, rfl, hD⟩
  refine z_i2l (q := 8) dL_append_7 rfl rfl ?_
  refine z_last (q := 9) dL_append_8 ((zpT_o ho).trans hw) (by decide) (by decide) rfl ?_
  refine z_heq (zpT_zup ho) ?_
  refine z_goto (q := 0) (tg := 18) dL_append_9 rfl ?_
  refine z_iconst (q := 19) dL_append_18 zci_0 rfl ?_
  exact z_retiW dL_append_19 rfl (⟨rfl, D, hD, rfl⟩)
set_option maxRecDepth 100000 in
set_option maxHeartbeats 4000000 in
theorem wx_append_1 {g : zGl} {h : zHp} {b o : Nat} {d u : Nat → Nat → Int32} {x1 : Int32} (hc : zX g mX7_append [.ref b, .int x1] (zpT g h b d) "java/lang/IllegalArgumentException" (zXJ g h b u) 1 6) : zCW g mL_append [(0, 9, 12, 13), (0, 9, 15, 15)] [.ref b, .int x1, .ref o] (zpT g h b d) (zWX g h b u 1) 1 6 := by
  refine zCW_ofA (lv := [some (.ref b), some (.int x1), some (.ref o), none]) (by decide) rfl (Nat.le_of_ble_eq_true rfl) ?_
  have hd : ∀ (q : Nat) (D : Nat → Nat → Int32), zJE D u → zA g (zZw g mL_append [(0, 9, 12, 13), (0, 9, 15, 15)] (zWX g h b u 1) 1 6) 0 0 12 [some (.ref b), some (.int x1), some (.ref o), none] [.ref q] (zpT g (h.1, none) b D) := by
    intro q D hD
    refine z_astore_n (q := 13) dL_append_12 (Nat.le_of_ble_eq_true rfl) rfl rfl ?_
    refine z_iconst (q := 14) dL_append_13 zci_1 rfl ?_
    exact z_retiW dL_append_14 rfl (⟨rfl, D, hD, rfl⟩)
  refine z_aload_n (q := 1) dL_append_0 rfl rfl ?_
  refine z_iconst (q := 2) dL_append_1 zci_0 rfl ?_
  refine z_aload_n (q := 3) dL_append_2 rfl rfl ?_
  refine z_iload_n (q := 4) dL_append_3 rfl rfl ?_
  refine z_cVX (av := [.int x1]) (pre := []) (x := (0, 9, 12, 13)) (suf := [(0, 9, 15, 15)]) dL_append_4 zkL_7 zw358 zt_mX7_append rfl zT_0 rfl rfl (Nat.le_of_ble_eq_true rfl) hc (by decide) (by decide) rfl (fun z hz => absurd hz List.not_mem_nil) (by decide) (by decide) zyL_13 zca_A ?_
  rintro q _ ⟨D, hD, rfl⟩
  exact hd q D hD
set_option maxRecDepth 100000 in
set_option maxHeartbeats 4000000 in
theorem wx_append_2 {g : zGl} {h : zHp} {b o : Nat} {d u : Nat → Nat → Int32} {x1 : Int32} (hc : zX g mX7_append [.ref b, .int x1] (zpT g h b d) "java/lang/IllegalStateException" (zXJ g h b u) 1 6) : zCW g mL_append [(0, 9, 12, 13), (0, 9, 15, 15)] [.ref b, .int x1, .ref o] (zpT g h b d) (zWX g h b u 2) 1 6 := by
  refine zCW_ofA (lv := [some (.ref b), some (.int x1), some (.ref o), none]) (by decide) rfl (Nat.le_of_ble_eq_true rfl) ?_
  have hd : ∀ (q : Nat) (D : Nat → Nat → Int32), zJE D u → zA g (zZw g mL_append [(0, 9, 12, 13), (0, 9, 15, 15)] (zWX g h b u 2) 1 6) 0 0 15 [some (.ref b), some (.int x1), some (.ref o), none] [.ref q] (zpT g (h.1, none) b D) := by
    intro q D hD
    refine z_astore_n (q := 16) dL_append_15 (Nat.le_of_ble_eq_true rfl) rfl rfl ?_
    refine z_iconst (q := 17) dL_append_16 zci_2 rfl ?_
    exact z_retiW dL_append_17 rfl (⟨rfl, D, hD, rfl⟩)
  refine z_aload_n (q := 1) dL_append_0 rfl rfl ?_
  refine z_iconst (q := 2) dL_append_1 zci_0 rfl ?_
  refine z_aload_n (q := 3) dL_append_2 rfl rfl ?_
  refine z_iload_n (q := 4) dL_append_3 rfl rfl ?_
  refine z_cVX (av := [.int x1]) (pre := [(0, 9, 12, 13)]) (x := (0, 9, 15, 15)) (suf := []) dL_append_4 zkL_7 zw358 zt_mX7_append rfl zT_0 rfl rfl (Nat.le_of_ble_eq_true rfl) hc (by decide) (by decide) rfl (fun z hz => by rcases List.mem_singleton.mp hz with rfl; exact ⟨by decide, _, zyL_13, fun U hU => hU.2.1.1⟩) (by decide) (by decide) zyL_15 zca_S ?_
  rintro q _ ⟨D, hD, rfl⟩
  exact hd q D hD
set_option maxRecDepth 100000 in
set_option maxHeartbeats 4000000 in
theorem wr_load {g : zGl} {h : zHp} {b o : Nat} {d u : Nat → Nat → Int32} {w0 : Nat → Int64} {v : Int32}  (ho : o < b ∨ b + 286 ≤ o) (hw : h.1 o = some (zJ g 1 w0)) (hc : zC g mX7_load [.ref b] (zpT g h b d) (zRJ g h b u v) 0 0) : zCW g mL_load [(0, 8, 11, 15)] [.ref b, .ref o] (zpT g h b d) (zWR g h b o w0 u v) 1 6 := by
  refine zCW_ofA (lv := [some (.ref b), some (.ref o), none]) (by decide) rfl (Nat.le_of_ble_eq_true rfl) ?_
  refine z_aload_n (q := 1) dL_load_0 rfl rfl ?_
  refine z_iconst (q := 2) dL_load_1 zci_0 rfl ?_
  refine z_aload_n (q := 3) dL_load_2 rfl rfl ?_
  refine z_V0 (q := 6) dL_load_3 zkL_17 zt_mX7_load rfl zT_0 rfl (Nat.le_of_ble_eq_true rfl) (hc) (Nat.zero_le _) (Nat.zero_le _) rfl ?_
  rintro _ _ ⟨rfl, D, rfl, hD⟩
  refine z_i2l (q := 7) dL_load_6 rfl rfl ?_
  refine z_last (q := 8) dL_load_7 ((zpT_o ho).trans hw) (by decide) (by decide) rfl ?_
  refine z_heq (zpT_zup ho) ?_
  refine z_goto (q := 0) (tg := 14) dL_load_8 rfl ?_
  refine z_iconst (q := 15) dL_load_14 zci_0 rfl ?_
  exact z_retiW dL_load_15 rfl (⟨rfl, D, hD, rfl⟩)
set_option maxRecDepth 100000 in
set_option maxHeartbeats 4000000 in
theorem wx_load_1 {g : zGl} {h : zHp} {b o : Nat} {d u : Nat → Nat → Int32}  (hc : zX g mX7_load [.ref b] (zpT g h b d) "java/lang/IllegalStateException" (zXJ g h b u) 1 6) : zCW g mL_load [(0, 8, 11, 15)] [.ref b, .ref o] (zpT g h b d) (zWX g h b u 1) 1 6 := by
  refine zCW_ofA (lv := [some (.ref b), some (.ref o), none]) (by decide) rfl (Nat.le_of_ble_eq_true rfl) ?_
  have hd : ∀ (q : Nat) (D : Nat → Nat → Int32), zJE D u → zA g (zZw g mL_load [(0, 8, 11, 15)] (zWX g h b u 1) 1 6) 0 0 11 [some (.ref b), some (.ref o), none] [.ref q] (zpT g (h.1, none) b D) := by
    intro q D hD
    refine z_astore_n (q := 12) dL_load_11 (Nat.le_of_ble_eq_true rfl) rfl rfl ?_
    refine z_iconst (q := 13) dL_load_12 zci_1 rfl ?_
    exact z_retiW dL_load_13 rfl (⟨rfl, D, hD, rfl⟩)
  refine z_aload_n (q := 1) dL_load_0 rfl rfl ?_
  refine z_iconst (q := 2) dL_load_1 zci_0 rfl ?_
  refine z_aload_n (q := 3) dL_load_2 rfl rfl ?_
  refine z_cVX (av := []) (pre := []) (x := (0, 8, 11, 15)) (suf := []) dL_load_3 zkL_17 zw467 zt_mX7_load rfl zT_0 rfl rfl (Nat.le_of_ble_eq_true rfl) hc (by decide) (by decide) rfl (fun z hz => absurd hz List.not_mem_nil) (by decide) (by decide) zyL_15 zca_S ?_
  rintro q _ ⟨D, hD, rfl⟩
  exact hd q D hD
set_option maxRecDepth 100000 in
set_option maxHeartbeats 4000000 in
theorem wr_about {g : zGl} {h : zHp} {b o : Nat} {d u : Nat → Nat → Int32} {w0 : Nat → Int64} {v : Int32} {x1 : Int32} (ho : o < b ∨ b + 286 ≤ o) (hw : h.1 o = some (zJ g 1 w0)) (hc : zC g mX7_about [.ref b, .int x1] (zpT g h b d) (zRJ g h b u v) 0 0) : zCW g mL_about [(0, 9, 12, 13)] [.ref b, .int x1, .ref o] (zpT g h b d) (zWR g h b o w0 u v) 1 6 := by
  refine zCW_ofA (lv := [some (.ref b), some (.int x1), some (.ref o), none]) (by decide) rfl (Nat.le_of_ble_eq_true rfl) ?_
  refine z_aload_n (q := 1) dL_about_0 rfl rfl ?_
  refine z_iconst (q := 2) dL_about_1 zci_0 rfl ?_
  refine z_aload_n (q := 3) dL_about_2 rfl rfl ?_
  refine z_iload_n (q := 4) dL_about_3 rfl rfl ?_
  refine z_V1 (q := 7) dL_about_4 zkL_21 zt_mX7_about rfl zT_0 rfl (Nat.le_of_ble_eq_true rfl) (hc) (Nat.zero_le _) (Nat.zero_le _) rfl ?_
  rintro _ _ ⟨rfl, D, rfl, hD⟩
  refine z_i2l (q := 8) dL_about_7 rfl rfl ?_
  refine z_last (q := 9) dL_about_8 ((zpT_o ho).trans hw) (by decide) (by decide) rfl ?_
  refine z_heq (zpT_zup ho) ?_
  refine z_goto (q := 0) (tg := 15) dL_about_9 rfl ?_
  refine z_iconst (q := 16) dL_about_15 zci_0 rfl ?_
  exact z_retiW dL_about_16 rfl (⟨rfl, D, hD, rfl⟩)
set_option maxRecDepth 100000 in
set_option maxHeartbeats 4000000 in
theorem wx_about_1 {g : zGl} {h : zHp} {b o : Nat} {d u : Nat → Nat → Int32} {x1 : Int32} (hc : zX g mX7_about [.ref b, .int x1] (zpT g h b d) "java/lang/IllegalArgumentException" (zXJ g h b u) 1 6) : zCW g mL_about [(0, 9, 12, 13)] [.ref b, .int x1, .ref o] (zpT g h b d) (zWX g h b u 1) 1 6 := by
  refine zCW_ofA (lv := [some (.ref b), some (.int x1), some (.ref o), none]) (by decide) rfl (Nat.le_of_ble_eq_true rfl) ?_
  have hd : ∀ (q : Nat) (D : Nat → Nat → Int32), zJE D u → zA g (zZw g mL_about [(0, 9, 12, 13)] (zWX g h b u 1) 1 6) 0 0 12 [some (.ref b), some (.int x1), some (.ref o), none] [.ref q] (zpT g (h.1, none) b D) := by
    intro q D hD
    refine z_astore_n (q := 13) dL_about_12 (Nat.le_of_ble_eq_true rfl) rfl rfl ?_
    refine z_iconst (q := 14) dL_about_13 zci_1 rfl ?_
    exact z_retiW dL_about_14 rfl (⟨rfl, D, hD, rfl⟩)
  refine z_aload_n (q := 1) dL_about_0 rfl rfl ?_
  refine z_iconst (q := 2) dL_about_1 zci_0 rfl ?_
  refine z_aload_n (q := 3) dL_about_2 rfl rfl ?_
  refine z_iload_n (q := 4) dL_about_3 rfl rfl ?_
  refine z_cVX (av := [.int x1]) (pre := []) (x := (0, 9, 12, 13)) (suf := []) dL_about_4 zkL_21 zw478 zt_mX7_about rfl zT_0 rfl rfl (Nat.le_of_ble_eq_true rfl) hc (by decide) (by decide) rfl (fun z hz => absurd hz List.not_mem_nil) (by decide) (by decide) zyL_13 zca_A ?_
  rintro q _ ⟨D, hD, rfl⟩
  exact hd q D hD
set_option maxRecDepth 100000 in
set_option maxHeartbeats 4000000 in
theorem wr_agent {g : zGl} {h : zHp} {b o : Nat} {d u : Nat → Nat → Int32} {w0 : Nat → Int64} {v : Int32} {x1 : Int32} {x2 : Int32} (ho : o < b ∨ b + 286 ≤ o) (hw : h.1 o = some (zJ g 1 w0)) (hc : zC g mX7_agent [.ref b, .int x1, .int x2] (zpT g h b d) (zRJ g h b u v) 0 0) : zCW g mL_agent [(0, 10, 13, 28), (0, 10, 17, 13)] [.ref b, .int x1, .int x2, .ref o] (zpT g h b d) (zWR g h b o w0 u v) 1 6 := by
  refine zCW_ofA (lv := [some (.ref b), some (.int x1), some (.int x2), some (.ref o), none]) (by decide) rfl (Nat.le_of_ble_eq_true rfl) ?_
  refine z_aload_n (q := 1) dL_agent_0 rfl rfl ?_
  refine z_iconst (q := 2) dL_agent_1 zci_0 rfl ?_
  refine z_aload_n (q := 3) dL_agent_2 rfl rfl ?_
  refine z_iload_n (q := 4) dL_agent_3 rfl rfl ?_
  refine z_iload_n (q := 5) dL_agent_4 rfl rfl ?_
  refine z_V2 (q := 8) dL_agent_5 zkL_24 zt_mX7_agent rfl zT_0 rfl (Nat.le_of_ble_eq_true rfl) (hc) (Nat.zero_le _) (Nat.zero_le _) rfl ?_
  rintro _ _ ⟨rfl, D, rfl, hD⟩
  refine z_i2l (q := 9) dL_agent_8 rfl rfl ?_
  refine z_last (q := 10) dL_agent_9 ((zpT_o ho).trans hw) (by decide) (by decide) rfl ?_
  refine z_heq (zpT_zup ho) ?_
  refine z_goto (q := 0) (tg := 21) dL_agent_10 rfl ?_
  refine z_iconst (q := 22) dL_agent_21 zci_0 rfl ?_
  exact z_retiW dL_agent_22 rfl (⟨rfl, D, hD, rfl⟩)
set_option maxRecDepth 100000 in
set_option maxHeartbeats 4000000 in
theorem wx_agent_1 {g : zGl} {h : zHp} {b o : Nat} {d u : Nat → Nat → Int32} {x1 : Int32} {x2 : Int32} (hc : zX g mX7_agent [.ref b, .int x1, .int x2] (zpT g h b d) "java/lang/IndexOutOfBoundsException" (zXJ g h b u) 1 6) : zCW g mL_agent [(0, 10, 13, 28), (0, 10, 17, 13)] [.ref b, .int x1, .int x2, .ref o] (zpT g h b d) (zWX g h b u 1) 1 6 := by
  refine zCW_ofA (lv := [some (.ref b), some (.int x1), some (.int x2), some (.ref o), none]) (by decide) rfl (Nat.le_of_ble_eq_true rfl) ?_
  have hd : ∀ (q : Nat) (D : Nat → Nat → Int32), zJE D u → zA g (zZw g mL_agent [(0, 10, 13, 28), (0, 10, 17, 13)] (zWX g h b u 1) 1 6) 0 0 13 [some (.ref b), some (.int x1), some (.int x2), some (.ref o), none] [.ref q] (zpT g (h.1, none) b D) := by
    intro q D hD
    refine z_astore (q := 15) dL_agent_13 (Nat.le_of_ble_eq_true rfl) rfl rfl ?_
    refine z_iconst (q := 16) dL_agent_15 zci_1 rfl ?_
    exact z_retiW dL_agent_16 rfl (⟨rfl, D, hD, rfl⟩)
  refine z_aload_n (q := 1) dL_agent_0 rfl rfl ?_
  refine z_iconst (q := 2) dL_agent_1 zci_0 rfl ?_
  refine z_aload_n (q := 3) dL_agent_2 rfl rfl ?_
  refine z_iload_n (q := 4) dL_agent_3 rfl rfl ?_
  refine z_iload_n (q := 5) dL_agent_4 rfl rfl ?_
  refine z_cVX (av := [.int x1, .int x2]) (pre := []) (x := (0, 10, 13, 28)) (suf := [(0, 10, 17, 13)]) dL_agent_5 zkL_24 zw505 zt_mX7_agent rfl zT_0 rfl rfl (Nat.le_of_ble_eq_true rfl) hc (by decide) (by decide) rfl (fun z hz => absurd hz List.not_mem_nil) (by decide) (by decide) zyL_28 zca_I ?_
  rintro q _ ⟨D, hD, rfl⟩
  exact hd q D hD
set_option maxRecDepth 100000 in
set_option maxHeartbeats 4000000 in
theorem wx_agent_2 {g : zGl} {h : zHp} {b o : Nat} {d u : Nat → Nat → Int32} {x1 : Int32} {x2 : Int32} (hc : zX g mX7_agent [.ref b, .int x1, .int x2] (zpT g h b d) "java/lang/IllegalArgumentException" (zXJ g h b u) 1 6) : zCW g mL_agent [(0, 10, 13, 28), (0, 10, 17, 13)] [.ref b, .int x1, .int x2, .ref o] (zpT g h b d) (zWX g h b u 2) 1 6 := by
  refine zCW_ofA (lv := [some (.ref b), some (.int x1), some (.int x2), some (.ref o), none]) (by decide) rfl (Nat.le_of_ble_eq_true rfl) ?_
  have hd : ∀ (q : Nat) (D : Nat → Nat → Int32), zJE D u → zA g (zZw g mL_agent [(0, 10, 13, 28), (0, 10, 17, 13)] (zWX g h b u 2) 1 6) 0 0 17 [some (.ref b), some (.int x1), some (.int x2), some (.ref o), none] [.ref q] (zpT g (h.1, none) b D) := by
    intro q D hD
    refine z_astore (q := 19) dL_agent_17 (Nat.le_of_ble_eq_true rfl) rfl rfl ?_
    refine z_iconst (q := 20) dL_agent_19 zci_2 rfl ?_
    exact z_retiW dL_agent_20 rfl (⟨rfl, D, hD, rfl⟩)
  refine z_aload_n (q := 1) dL_agent_0 rfl rfl ?_
  refine z_iconst (q := 2) dL_agent_1 zci_0 rfl ?_
  refine z_aload_n (q := 3) dL_agent_2 rfl rfl ?_
  refine z_iload_n (q := 4) dL_agent_3 rfl rfl ?_
  refine z_iload_n (q := 5) dL_agent_4 rfl rfl ?_
  refine z_cVX (av := [.int x1, .int x2]) (pre := [(0, 10, 13, 28)]) (x := (0, 10, 17, 13)) (suf := []) dL_agent_5 zkL_24 zw505 zt_mX7_agent rfl zT_0 rfl rfl (Nat.le_of_ble_eq_true rfl) hc (by decide) (by decide) rfl (fun z hz => by rcases List.mem_singleton.mp hz with rfl; exact ⟨by decide, _, zyL_28, fun U hU => hU.1.2⟩) (by decide) (by decide) zyL_13 zca_A ?_
  rintro q _ ⟨D, hD, rfl⟩
  exact hd q D hD
set_option maxRecDepth 100000 in
set_option maxHeartbeats 4000000 in
theorem wr_task {g : zGl} {h : zHp} {b o : Nat} {d u : Nat → Nat → Int32} {w0 : Nat → Int64} {v : Int32} {x1 : Int32} {x2 : Int32} (ho : o < b ∨ b + 286 ≤ o) (hw : h.1 o = some (zJ g 1 w0)) (hc : zC g mX7_task [.ref b, .int x1, .int x2] (zpT g h b d) (zRJ g h b u v) 0 0) : zCW g mL_task [(0, 10, 13, 28), (0, 10, 17, 13)] [.ref b, .int x1, .int x2, .ref o] (zpT g h b d) (zWR g h b o w0 u v) 1 6 := by
  refine zCW_ofA (lv := [some (.ref b), some (.int x1), some (.int x2), some (.ref o), none]) (by decide) rfl (Nat.le_of_ble_eq_true rfl) ?_
  refine z_aload_n (q := 1) dL_task_0 rfl rfl ?_
  refine z_iconst (q := 2) dL_task_1 zci_0 rfl ?_
  refine z_aload_n (q := 3) dL_task_2 rfl rfl ?_
  refine z_iload_n (q := 4) dL_task_3 rfl rfl ?_
  refine z_iload_n (q := 5) dL_task_4 rfl rfl ?_
  refine z_V2 (q := 8) dL_task_5 zkL_30 zt_mX7_task rfl zT_0 rfl (Nat.le_of_ble_eq_true rfl) (hc) (Nat.zero_le _) (Nat.zero_le _) rfl ?_
  rintro _ _ ⟨rfl, D, rfl, hD⟩
  refine z_i2l (q := 9) dL_task_8 rfl rfl ?_
  refine z_last (q := 10) dL_task_9 ((zpT_o ho).trans hw) (by decide) (by decide) rfl ?_
  refine z_heq (zpT_zup ho) ?_
  refine z_goto (q := 0) (tg := 21) dL_task_10 rfl ?_
  refine z_iconst (q := 22) dL_task_21 zci_0 rfl ?_
  exact z_retiW dL_task_22 rfl (⟨rfl, D, hD, rfl⟩)
set_option maxRecDepth 100000 in
set_option maxHeartbeats 4000000 in
theorem wx_task_1 {g : zGl} {h : zHp} {b o : Nat} {d u : Nat → Nat → Int32} {x1 : Int32} {x2 : Int32} (hc : zX g mX7_task [.ref b, .int x1, .int x2] (zpT g h b d) "java/lang/IndexOutOfBoundsException" (zXJ g h b u) 1 6) : zCW g mL_task [(0, 10, 13, 28), (0, 10, 17, 13)] [.ref b, .int x1, .int x2, .ref o] (zpT g h b d) (zWX g h b u 1) 1 6 := by
  refine zCW_ofA (lv := [some (.ref b), some (.int x1), some (.int x2), some (.ref o), none]) (by decide) rfl (Nat.le_of_ble_eq_true rfl) ?_
  have hd : ∀ (q : Nat) (D : Nat → Nat → Int32), zJE D u → zA g (zZw g mL_task [(0, 10, 13, 28), (0, 10, 17, 13)] (zWX g h b u 1) 1 6) 0 0 13 [some (.ref b), some (.int x1), some (.int x2), some (.ref o), none] [.ref q] (zpT g (h.1, none) b D) := by
    intro q D hD
    refine z_astore (q := 15) dL_task_13 (Nat.le_of_ble_eq_true rfl) rfl rfl ?_
    refine z_iconst (q := 16) dL_task_15 zci_1 rfl ?_
    exact z_retiW dL_task_16 rfl (⟨rfl, D, hD, rfl⟩)
  refine z_aload_n (q := 1) dL_task_0 rfl rfl ?_
  refine z_iconst (q := 2) dL_task_1 zci_0 rfl ?_
  refine z_aload_n (q := 3) dL_task_2 rfl rfl ?_
  refine z_iload_n (q := 4) dL_task_3 rfl rfl ?_
  refine z_iload_n (q := 5) dL_task_4 rfl rfl ?_
  refine z_cVX (av := [.int x1, .int x2]) (pre := []) (x := (0, 10, 13, 28)) (suf := [(0, 10, 17, 13)]) dL_task_5 zkL_30 zw556 zt_mX7_task rfl zT_0 rfl rfl (Nat.le_of_ble_eq_true rfl) hc (by decide) (by decide) rfl (fun z hz => absurd hz List.not_mem_nil) (by decide) (by decide) zyL_28 zca_I ?_
  rintro q _ ⟨D, hD, rfl⟩
  exact hd q D hD
set_option maxRecDepth 100000 in
set_option maxHeartbeats 4000000 in
theorem wx_task_2 {g : zGl} {h : zHp} {b o : Nat} {d u : Nat → Nat → Int32} {x1 : Int32} {x2 : Int32} (hc : zX g mX7_task [.ref b, .int x1, .int x2] (zpT g h b d) "java/lang/IllegalArgumentException" (zXJ g h b u) 1 6) : zCW g mL_task [(0, 10, 13, 28), (0, 10, 17, 13)] [.ref b, .int x1, .int x2, .ref o] (zpT g h b d) (zWX g h b u 2) 1 6 := by
  refine zCW_ofA (lv := [some (.ref b), some (.int x1), some (.int x2), some (.ref o), none]) (by decide) rfl (Nat.le_of_ble_eq_true rfl) ?_
  have hd : ∀ (q : Nat) (D : Nat → Nat → Int32), zJE D u → zA g (zZw g mL_task [(0, 10, 13, 28), (0, 10, 17, 13)] (zWX g h b u 2) 1 6) 0 0 17 [some (.ref b), some (.int x1), some (.int x2), some (.ref o), none] [.ref q] (zpT g (h.1, none) b D) := by
    intro q D hD
    refine z_astore (q := 19) dL_task_17 (Nat.le_of_ble_eq_true rfl) rfl rfl ?_
    refine z_iconst (q := 20) dL_task_19 zci_2 rfl ?_
    exact z_retiW dL_task_20 rfl (⟨rfl, D, hD, rfl⟩)
  refine z_aload_n (q := 1) dL_task_0 rfl rfl ?_
  refine z_iconst (q := 2) dL_task_1 zci_0 rfl ?_
  refine z_aload_n (q := 3) dL_task_2 rfl rfl ?_
  refine z_iload_n (q := 4) dL_task_3 rfl rfl ?_
  refine z_iload_n (q := 5) dL_task_4 rfl rfl ?_
  refine z_cVX (av := [.int x1, .int x2]) (pre := [(0, 10, 13, 28)]) (x := (0, 10, 17, 13)) (suf := []) dL_task_5 zkL_30 zw556 zt_mX7_task rfl zT_0 rfl rfl (Nat.le_of_ble_eq_true rfl) hc (by decide) (by decide) rfl (fun z hz => by rcases List.mem_singleton.mp hz with rfl; exact ⟨by decide, _, zyL_28, fun U hU => hU.1.2⟩) (by decide) (by decide) zyL_13 zca_A ?_
  rintro q _ ⟨D, hD, rfl⟩
  exact hd q D hD
set_option maxRecDepth 100000 in
set_option maxHeartbeats 4000000 in
theorem wr_note {g : zGl} {h : zHp} {b o : Nat} {d u : Nat → Nat → Int32} {w0 : Nat → Int64} {v : Int32} {x1 : Int32} {x2 : Int32} {x3 : Int32} (ho : o < b ∨ b + 286 ≤ o) (hw : h.1 o = some (zJ g 1 w0)) (hc : zC g mX7_note [.ref b, .int x1, .int x2, .int x3] (zpT g h b d) (zRJ g h b u v) 0 0) : zCW g mL_note [(0, 12, 15, 28), (0, 12, 19, 13)] [.ref b, .int x1, .int x2, .int x3, .ref o] (zpT g h b d) (zWR g h b o w0 u v) 1 6 := by
  refine zCW_ofA (lv := [some (.ref b), some (.int x1), some (.int x2), some (.int x3), some (.ref o), none]) (by decide) rfl (Nat.le_of_ble_eq_true rfl) ?_
  refine z_aload (q := 2) dL_note_0 rfl rfl ?_
  refine z_iconst (q := 3) dL_note_2 zci_0 rfl ?_
  refine z_aload_n (q := 4) dL_note_3 rfl rfl ?_
  refine z_iload_n (q := 5) dL_note_4 rfl rfl ?_
  refine z_iload_n (q := 6) dL_note_5 rfl rfl ?_
  refine z_iload_n (q := 7) dL_note_6 rfl rfl ?_
  refine z_V3 (q := 10) dL_note_7 zkL_33 zt_mX7_note rfl zT_0 rfl (Nat.le_of_ble_eq_true rfl) (hc) (Nat.zero_le _) (Nat.zero_le _) rfl ?_
  rintro _ _ ⟨rfl, D, rfl, hD⟩
  refine z_i2l (q := 11) dL_note_10 rfl rfl ?_
  refine z_last (q := 12) dL_note_11 ((zpT_o ho).trans hw) (by decide) (by decide) rfl ?_
  refine z_heq (zpT_zup ho) ?_
  refine z_goto (q := 0) (tg := 23) dL_note_12 rfl ?_
  refine z_iconst (q := 24) dL_note_23 zci_0 rfl ?_
  exact z_retiW dL_note_24 rfl (⟨rfl, D, hD, rfl⟩)
set_option maxRecDepth 100000 in
set_option maxHeartbeats 4000000 in
theorem wx_note_1 {g : zGl} {h : zHp} {b o : Nat} {d u : Nat → Nat → Int32} {x1 : Int32} {x2 : Int32} {x3 : Int32} (hc : zX g mX7_note [.ref b, .int x1, .int x2, .int x3] (zpT g h b d) "java/lang/IndexOutOfBoundsException" (zXJ g h b u) 1 6) : zCW g mL_note [(0, 12, 15, 28), (0, 12, 19, 13)] [.ref b, .int x1, .int x2, .int x3, .ref o] (zpT g h b d) (zWX g h b u 1) 1 6 := by
  refine zCW_ofA (lv := [some (.ref b), some (.int x1), some (.int x2), some (.int x3), some (.ref o), none]) (by decide) rfl (Nat.le_of_ble_eq_true rfl) ?_
  have hd : ∀ (q : Nat) (D : Nat → Nat → Int32), zJE D u → zA g (zZw g mL_note [(0, 12, 15, 28), (0, 12, 19, 13)] (zWX g h b u 1) 1 6) 0 0 15 [some (.ref b), some (.int x1), some (.int x2), some (.int x3), some (.ref o), none] [.ref q] (zpT g (h.1, none) b D) := by
    intro q D hD
    refine z_astore (q := 17) dL_note_15 (Nat.le_of_ble_eq_true rfl) rfl rfl ?_
    refine z_iconst (q := 18) dL_note_17 zci_1 rfl ?_
    exact z_retiW dL_note_18 rfl (⟨rfl, D, hD, rfl⟩)
  refine z_aload (q := 2) dL_note_0 rfl rfl ?_
  refine z_iconst (q := 3) dL_note_2 zci_0 rfl ?_
  refine z_aload_n (q := 4) dL_note_3 rfl rfl ?_
  refine z_iload_n (q := 5) dL_note_4 rfl rfl ?_
  refine z_iload_n (q := 6) dL_note_5 rfl rfl ?_
  refine z_iload_n (q := 7) dL_note_6 rfl rfl ?_
  refine z_cVX (av := [.int x1, .int x2, .int x3]) (pre := []) (x := (0, 12, 15, 28)) (suf := [(0, 12, 19, 13)]) dL_note_7 zkL_33 zw576 zt_mX7_note rfl zT_0 rfl rfl (Nat.le_of_ble_eq_true rfl) hc (by decide) (by decide) rfl (fun z hz => absurd hz List.not_mem_nil) (by decide) (by decide) zyL_28 zca_I ?_
  rintro q _ ⟨D, hD, rfl⟩
  exact hd q D hD
set_option maxRecDepth 100000 in
set_option maxHeartbeats 4000000 in
theorem wx_note_2 {g : zGl} {h : zHp} {b o : Nat} {d u : Nat → Nat → Int32} {x1 : Int32} {x2 : Int32} {x3 : Int32} (hc : zX g mX7_note [.ref b, .int x1, .int x2, .int x3] (zpT g h b d) "java/lang/IllegalArgumentException" (zXJ g h b u) 1 6) : zCW g mL_note [(0, 12, 15, 28), (0, 12, 19, 13)] [.ref b, .int x1, .int x2, .int x3, .ref o] (zpT g h b d) (zWX g h b u 2) 1 6 := by
  refine zCW_ofA (lv := [some (.ref b), some (.int x1), some (.int x2), some (.int x3), some (.ref o), none]) (by decide) rfl (Nat.le_of_ble_eq_true rfl) ?_
  have hd : ∀ (q : Nat) (D : Nat → Nat → Int32), zJE D u → zA g (zZw g mL_note [(0, 12, 15, 28), (0, 12, 19, 13)] (zWX g h b u 2) 1 6) 0 0 19 [some (.ref b), some (.int x1), some (.int x2), some (.int x3), some (.ref o), none] [.ref q] (zpT g (h.1, none) b D) := by
    intro q D hD
    refine z_astore (q := 21) dL_note_19 (Nat.le_of_ble_eq_true rfl) rfl rfl ?_
    refine z_iconst (q := 22) dL_note_21 zci_2 rfl ?_
    exact z_retiW dL_note_22 rfl (⟨rfl, D, hD, rfl⟩)
  refine z_aload (q := 2) dL_note_0 rfl rfl ?_
  refine z_iconst (q := 3) dL_note_2 zci_0 rfl ?_
  refine z_aload_n (q := 4) dL_note_3 rfl rfl ?_
  refine z_iload_n (q := 5) dL_note_4 rfl rfl ?_
  refine z_iload_n (q := 6) dL_note_5 rfl rfl ?_
  refine z_iload_n (q := 7) dL_note_6 rfl rfl ?_
  refine z_cVX (av := [.int x1, .int x2, .int x3]) (pre := [(0, 12, 15, 28)]) (x := (0, 12, 19, 13)) (suf := []) dL_note_7 zkL_33 zw576 zt_mX7_note rfl zT_0 rfl rfl (Nat.le_of_ble_eq_true rfl) hc (by decide) (by decide) rfl (fun z hz => by rcases List.mem_singleton.mp hz with rfl; exact ⟨by decide, _, zyL_28, fun U hU => hU.1.2⟩) (by decide) (by decide) zyL_13 zca_A ?_
  rintro q _ ⟨D, hD, rfl⟩
  exact hd q D hD
set_option maxRecDepth 100000 in
set_option maxHeartbeats 4000000 in
theorem wr_step {g : zGl} {h : zHp} {b o : Nat} {d u : Nat → Nat → Int32} {w0 : Nat → Int64} {v : Int32} {x1 : Int32} (ho : o < b ∨ b + 286 ≤ o) (hw : h.1 o = some (zJ g 1 w0)) (hc : zC g mX7_step [.ref b, .int x1] (zpT g h b d) (zRJ g h b u v) 0 0) : zCW g mL_step [(0, 9, 12, 13)] [.ref b, .int x1, .ref o] (zpT g h b d) (zWR g h b o w0 u v) 1 6 := by
  refine zCW_ofA (lv := [some (.ref b), some (.int x1), some (.ref o), none]) (by decide) rfl (Nat.le_of_ble_eq_true rfl) ?_
  refine z_aload_n (q := 1) dL_step_0 rfl rfl ?_
  refine z_iconst (q := 2) dL_step_1 zci_0 rfl ?_
  refine z_aload_n (q := 3) dL_step_2 rfl rfl ?_
  refine z_iload_n (q := 4) dL_step_3 rfl rfl ?_
  refine z_V1 (q := 7) dL_step_4 zkL_37 zt_mX7_step rfl zT_0 rfl (Nat.le_of_ble_eq_true rfl) (hc) (Nat.zero_le _) (Nat.zero_le _) rfl ?_
  rintro _ _ ⟨rfl, D, rfl, hD⟩
  refine z_i2l (q := 8) dL_step_7 rfl rfl ?_
  refine z_last (q := 9) dL_step_8 ((zpT_o ho).trans hw) (by decide) (by decide) rfl ?_
  refine z_heq (zpT_zup ho) ?_
  refine z_goto (q := 0) (tg := 15) dL_step_9 rfl ?_
  refine z_iconst (q := 16) dL_step_15 zci_0 rfl ?_
  exact z_retiW dL_step_16 rfl (⟨rfl, D, hD, rfl⟩)
set_option maxRecDepth 100000 in
set_option maxHeartbeats 4000000 in
theorem wx_step_1 {g : zGl} {h : zHp} {b o : Nat} {d u : Nat → Nat → Int32} {x1 : Int32} (hc : zX g mX7_step [.ref b, .int x1] (zpT g h b d) "java/lang/IllegalArgumentException" (zXJ g h b u) 1 6) : zCW g mL_step [(0, 9, 12, 13)] [.ref b, .int x1, .ref o] (zpT g h b d) (zWX g h b u 1) 1 6 := by
  refine zCW_ofA (lv := [some (.ref b), some (.int x1), some (.ref o), none]) (by decide) rfl (Nat.le_of_ble_eq_true rfl) ?_
  have hd : ∀ (q : Nat) (D : Nat → Nat → Int32), zJE D u → zA g (zZw g mL_step [(0, 9, 12, 13)] (zWX g h b u 1) 1 6) 0 0 12 [some (.ref b), some (.int x1), some (.ref o), none] [.ref q] (zpT g (h.1, none) b D) := by
    intro q D hD
    refine z_astore_n (q := 13) dL_step_12 (Nat.le_of_ble_eq_true rfl) rfl rfl ?_
    refine z_iconst (q := 14) dL_step_13 zci_1 rfl ?_
    exact z_retiW dL_step_14 rfl (⟨rfl, D, hD, rfl⟩)
  refine z_aload_n (q := 1) dL_step_0 rfl rfl ?_
  refine z_iconst (q := 2) dL_step_1 zci_0 rfl ?_
  refine z_aload_n (q := 3) dL_step_2 rfl rfl ?_
  refine z_iload_n (q := 4) dL_step_3 rfl rfl ?_
  refine z_cVX (av := [.int x1]) (pre := []) (x := (0, 9, 12, 13)) (suf := []) dL_step_4 zkL_37 zw584 zt_mX7_step rfl zT_0 rfl rfl (Nat.le_of_ble_eq_true rfl) hc (by decide) (by decide) rfl (fun z hz => absurd hz List.not_mem_nil) (by decide) (by decide) zyL_13 zca_A ?_
  rintro q _ ⟨D, hD, rfl⟩
  exact hd q D hD
set_option maxRecDepth 100000 in
set_option maxHeartbeats 4000000 in
theorem wr_setRange {g : zGl} {h : zHp} {b o : Nat} {d u : Nat → Nat → Int32} {w0 : Nat → Int64} {v : Int32} {x1 : Int32} {x2 : Int32} (ho : o < b ∨ b + 286 ≤ o) (hw : h.1 o = some (zJ g 1 w0)) (hc : zC g mX7_setRange [.ref b, .int x1, .int x2] (zpT g h b d) (zRJ g h b u v) 0 0) : zCW g mL_setRange [(0, 10, 13, 28), (0, 10, 17, 13)] [.ref b, .int x1, .int x2, .ref o] (zpT g h b d) (zWR g h b o w0 u v) 1 6 := by
  refine zCW_ofA (lv := [some (.ref b), some (.int x1), some (.int x2), some (.ref o), none]) (by decide) rfl (Nat.le_of_ble_eq_true rfl) ?_
  refine z_aload_n (q := 1) dL_setRange_0 rfl rfl ?_
  refine z_iconst (q := 2) dL_setRange_1 zci_0 rfl ?_
  refine z_aload_n (q := 3) dL_setRange_2 rfl rfl ?_
  refine z_iload_n (q := 4) dL_setRange_3 rfl rfl ?_
  refine z_iload_n (q := 5) dL_setRange_4 rfl rfl ?_
  refine z_V2 (q := 8) dL_setRange_5 zkL_40 zt_mX7_setRange rfl zT_0 rfl (Nat.le_of_ble_eq_true rfl) (hc) (Nat.zero_le _) (Nat.zero_le _) rfl ?_
  rintro _ _ ⟨rfl, D, rfl, hD⟩
  refine z_i2l (q := 9) dL_setRange_8 rfl rfl ?_
  refine z_last (q := 10) dL_setRange_9 ((zpT_o ho).trans hw) (by decide) (by decide) rfl ?_
  refine z_heq (zpT_zup ho) ?_
  refine z_goto (q := 0) (tg := 21) dL_setRange_10 rfl ?_
  refine z_iconst (q := 22) dL_setRange_21 zci_0 rfl ?_
  exact z_retiW dL_setRange_22 rfl (⟨rfl, D, hD, rfl⟩)
set_option maxRecDepth 100000 in
set_option maxHeartbeats 4000000 in
theorem wx_setRange_1 {g : zGl} {h : zHp} {b o : Nat} {d u : Nat → Nat → Int32} {x1 : Int32} {x2 : Int32} (hc : zX g mX7_setRange [.ref b, .int x1, .int x2] (zpT g h b d) "java/lang/IndexOutOfBoundsException" (zXJ g h b u) 1 6) : zCW g mL_setRange [(0, 10, 13, 28), (0, 10, 17, 13)] [.ref b, .int x1, .int x2, .ref o] (zpT g h b d) (zWX g h b u 1) 1 6 := by
  refine zCW_ofA (lv := [some (.ref b), some (.int x1), some (.int x2), some (.ref o), none]) (by decide) rfl (Nat.le_of_ble_eq_true rfl) ?_
  have hd : ∀ (q : Nat) (D : Nat → Nat → Int32), zJE D u → zA g (zZw g mL_setRange [(0, 10, 13, 28), (0, 10, 17, 13)] (zWX g h b u 1) 1 6) 0 0 13 [some (.ref b), some (.int x1), some (.int x2), some (.ref o), none] [.ref q] (zpT g (h.1, none) b D) := by
    intro q D hD
    refine z_astore (q := 15) dL_setRange_13 (Nat.le_of_ble_eq_true rfl) rfl rfl ?_
    refine z_iconst (q := 16) dL_setRange_15 zci_1 rfl ?_
    exact z_retiW dL_setRange_16 rfl (⟨rfl, D, hD, rfl⟩)
  refine z_aload_n (q := 1) dL_setRange_0 rfl rfl ?_
  refine z_iconst (q := 2) dL_setRange_1 zci_0 rfl ?_
  refine z_aload_n (q := 3) dL_setRange_2 rfl rfl ?_
  refine z_iload_n (q := 4) dL_setRange_3 rfl rfl ?_
  refine z_iload_n (q := 5) dL_setRange_4 rfl rfl ?_
  refine z_cVX (av := [.int x1, .int x2]) (pre := []) (x := (0, 10, 13, 28)) (suf := [(0, 10, 17, 13)]) dL_setRange_5 zkL_40 zw654 zt_mX7_setRange rfl zT_0 rfl rfl (Nat.le_of_ble_eq_true rfl) hc (by decide) (by decide) rfl (fun z hz => absurd hz List.not_mem_nil) (by decide) (by decide) zyL_28 zca_I ?_
  rintro q _ ⟨D, hD, rfl⟩
  exact hd q D hD
set_option maxRecDepth 100000 in
set_option maxHeartbeats 4000000 in
theorem wx_setRange_2 {g : zGl} {h : zHp} {b o : Nat} {d u : Nat → Nat → Int32} {x1 : Int32} {x2 : Int32} (hc : zX g mX7_setRange [.ref b, .int x1, .int x2] (zpT g h b d) "java/lang/IllegalArgumentException" (zXJ g h b u) 1 6) : zCW g mL_setRange [(0, 10, 13, 28), (0, 10, 17, 13)] [.ref b, .int x1, .int x2, .ref o] (zpT g h b d) (zWX g h b u 2) 1 6 := by
  refine zCW_ofA (lv := [some (.ref b), some (.int x1), some (.int x2), some (.ref o), none]) (by decide) rfl (Nat.le_of_ble_eq_true rfl) ?_
  have hd : ∀ (q : Nat) (D : Nat → Nat → Int32), zJE D u → zA g (zZw g mL_setRange [(0, 10, 13, 28), (0, 10, 17, 13)] (zWX g h b u 2) 1 6) 0 0 17 [some (.ref b), some (.int x1), some (.int x2), some (.ref o), none] [.ref q] (zpT g (h.1, none) b D) := by
    intro q D hD
    refine z_astore (q := 19) dL_setRange_17 (Nat.le_of_ble_eq_true rfl) rfl rfl ?_
    refine z_iconst (q := 20) dL_setRange_19 zci_2 rfl ?_
    exact z_retiW dL_setRange_20 rfl (⟨rfl, D, hD, rfl⟩)
  refine z_aload_n (q := 1) dL_setRange_0 rfl rfl ?_
  refine z_iconst (q := 2) dL_setRange_1 zci_0 rfl ?_
  refine z_aload_n (q := 3) dL_setRange_2 rfl rfl ?_
  refine z_iload_n (q := 4) dL_setRange_3 rfl rfl ?_
  refine z_iload_n (q := 5) dL_setRange_4 rfl rfl ?_
  refine z_cVX (av := [.int x1, .int x2]) (pre := [(0, 10, 13, 28)]) (x := (0, 10, 17, 13)) (suf := []) dL_setRange_5 zkL_40 zw654 zt_mX7_setRange rfl zT_0 rfl rfl (Nat.le_of_ble_eq_true rfl) hc (by decide) (by decide) rfl (fun z hz => by rcases List.mem_singleton.mp hz with rfl; exact ⟨by decide, _, zyL_28, fun U hU => hU.1.2⟩) (by decide) (by decide) zyL_13 zca_A ?_
  rintro q _ ⟨D, hD, rfl⟩
  exact hd q D hD
set_option maxRecDepth 100000 in
set_option maxHeartbeats 4000000 in
theorem wr_put {g : zGl} {h : zHp} {b o : Nat} {d u : Nat → Nat → Int32} {w0 : Nat → Int64} {v : Int32} {x1 : Int32} {x2 : Int32} {x3 : Int32} (ho : o < b ∨ b + 286 ≤ o) (hw : h.1 o = some (zJ g 1 w0)) (hc : zC g mX7_put [.ref b, .int x1, .int x2, .int x3] (zpT g h b d) (zRJ g h b u v) 0 0) : zCW g mL_put [(0, 12, 15, 28), (0, 12, 19, 13)] [.ref b, .int x1, .int x2, .int x3, .ref o] (zpT g h b d) (zWR g h b o w0 u v) 1 6 := by
  refine zCW_ofA (lv := [some (.ref b), some (.int x1), some (.int x2), some (.int x3), some (.ref o), none]) (by decide) rfl (Nat.le_of_ble_eq_true rfl) ?_
  refine z_aload (q := 2) dL_put_0 rfl rfl ?_
  refine z_iconst (q := 3) dL_put_2 zci_0 rfl ?_
  refine z_aload_n (q := 4) dL_put_3 rfl rfl ?_
  refine z_iload_n (q := 5) dL_put_4 rfl rfl ?_
  refine z_iload_n (q := 6) dL_put_5 rfl rfl ?_
  refine z_iload_n (q := 7) dL_put_6 rfl rfl ?_
  refine z_V3 (q := 10) dL_put_7 zkL_43 zt_mX7_put rfl zT_0 rfl (Nat.le_of_ble_eq_true rfl) (hc) (Nat.zero_le _) (Nat.zero_le _) rfl ?_
  rintro _ _ ⟨rfl, D, rfl, hD⟩
  refine z_i2l (q := 11) dL_put_10 rfl rfl ?_
  refine z_last (q := 12) dL_put_11 ((zpT_o ho).trans hw) (by decide) (by decide) rfl ?_
  refine z_heq (zpT_zup ho) ?_
  refine z_goto (q := 0) (tg := 23) dL_put_12 rfl ?_
  refine z_iconst (q := 24) dL_put_23 zci_0 rfl ?_
  exact z_retiW dL_put_24 rfl (⟨rfl, D, hD, rfl⟩)
set_option maxRecDepth 100000 in
set_option maxHeartbeats 4000000 in
theorem wx_put_1 {g : zGl} {h : zHp} {b o : Nat} {d u : Nat → Nat → Int32} {x1 : Int32} {x2 : Int32} {x3 : Int32} (hc : zX g mX7_put [.ref b, .int x1, .int x2, .int x3] (zpT g h b d) "java/lang/IndexOutOfBoundsException" (zXJ g h b u) 1 6) : zCW g mL_put [(0, 12, 15, 28), (0, 12, 19, 13)] [.ref b, .int x1, .int x2, .int x3, .ref o] (zpT g h b d) (zWX g h b u 1) 1 6 := by
  refine zCW_ofA (lv := [some (.ref b), some (.int x1), some (.int x2), some (.int x3), some (.ref o), none]) (by decide) rfl (Nat.le_of_ble_eq_true rfl) ?_
  have hd : ∀ (q : Nat) (D : Nat → Nat → Int32), zJE D u → zA g (zZw g mL_put [(0, 12, 15, 28), (0, 12, 19, 13)] (zWX g h b u 1) 1 6) 0 0 15 [some (.ref b), some (.int x1), some (.int x2), some (.int x3), some (.ref o), none] [.ref q] (zpT g (h.1, none) b D) := by
    intro q D hD
    refine z_astore (q := 17) dL_put_15 (Nat.le_of_ble_eq_true rfl) rfl rfl ?_
    refine z_iconst (q := 18) dL_put_17 zci_1 rfl ?_
    exact z_retiW dL_put_18 rfl (⟨rfl, D, hD, rfl⟩)
  refine z_aload (q := 2) dL_put_0 rfl rfl ?_
  refine z_iconst (q := 3) dL_put_2 zci_0 rfl ?_
  refine z_aload_n (q := 4) dL_put_3 rfl rfl ?_
  refine z_iload_n (q := 5) dL_put_4 rfl rfl ?_
  refine z_iload_n (q := 6) dL_put_5 rfl rfl ?_
  refine z_iload_n (q := 7) dL_put_6 rfl rfl ?_
  refine z_cVX (av := [.int x1, .int x2, .int x3]) (pre := []) (x := (0, 12, 15, 28)) (suf := [(0, 12, 19, 13)]) dL_put_7 zkL_43 zw661 zt_mX7_put rfl zT_0 rfl rfl (Nat.le_of_ble_eq_true rfl) hc (by decide) (by decide) rfl (fun z hz => absurd hz List.not_mem_nil) (by decide) (by decide) zyL_28 zca_I ?_
  rintro q _ ⟨D, hD, rfl⟩
  exact hd q D hD
set_option maxRecDepth 100000 in
set_option maxHeartbeats 4000000 in
theorem wx_put_2 {g : zGl} {h : zHp} {b o : Nat} {d u : Nat → Nat → Int32} {x1 : Int32} {x2 : Int32} {x3 : Int32} (hc : zX g mX7_put [.ref b, .int x1, .int x2, .int x3] (zpT g h b d) "java/lang/IllegalArgumentException" (zXJ g h b u) 1 6) : zCW g mL_put [(0, 12, 15, 28), (0, 12, 19, 13)] [.ref b, .int x1, .int x2, .int x3, .ref o] (zpT g h b d) (zWX g h b u 2) 1 6 := by
  refine zCW_ofA (lv := [some (.ref b), some (.int x1), some (.int x2), some (.int x3), some (.ref o), none]) (by decide) rfl (Nat.le_of_ble_eq_true rfl) ?_
  have hd : ∀ (q : Nat) (D : Nat → Nat → Int32), zJE D u → zA g (zZw g mL_put [(0, 12, 15, 28), (0, 12, 19, 13)] (zWX g h b u 2) 1 6) 0 0 19 [some (.ref b), some (.int x1), some (.int x2), some (.int x3), some (.ref o), none] [.ref q] (zpT g (h.1, none) b D) := by
    intro q D hD
    refine z_astore (q := 21) dL_put_19 (Nat.le_of_ble_eq_true rfl) rfl rfl ?_
    refine z_iconst (q := 22) dL_put_21 zci_2 rfl ?_
    exact z_retiW dL_put_22 rfl (⟨rfl, D, hD, rfl⟩)
  refine z_aload (q := 2) dL_put_0 rfl rfl ?_
  refine z_iconst (q := 3) dL_put_2 zci_0 rfl ?_
  refine z_aload_n (q := 4) dL_put_3 rfl rfl ?_
  refine z_iload_n (q := 5) dL_put_4 rfl rfl ?_
  refine z_iload_n (q := 6) dL_put_5 rfl rfl ?_
  refine z_iload_n (q := 7) dL_put_6 rfl rfl ?_
  refine z_cVX (av := [.int x1, .int x2, .int x3]) (pre := [(0, 12, 15, 28)]) (x := (0, 12, 19, 13)) (suf := []) dL_put_7 zkL_43 zw661 zt_mX7_put rfl zT_0 rfl rfl (Nat.le_of_ble_eq_true rfl) hc (by decide) (by decide) rfl (fun z hz => by rcases List.mem_singleton.mp hz with rfl; exact ⟨by decide, _, zyL_28, fun U hU => hU.1.2⟩) (by decide) (by decide) zyL_13 zca_A ?_
  rintro q _ ⟨D, hD, rfl⟩
  exact hd q D hD
set_option maxRecDepth 100000 in
set_option maxHeartbeats 4000000 in
theorem wr_toggle {g : zGl} {h : zHp} {b o : Nat} {d u : Nat → Nat → Int32} {w0 : Nat → Int64} {v : Int32} {x1 : Int32} (ho : o < b ∨ b + 286 ≤ o) (hw : h.1 o = some (zJ g 1 w0)) (hc : zC g mX7_toggle [.ref b, .int x1] (zpT g h b d) (zRJ g h b u v) 0 0) : zCW g mL_toggle [(0, 9, 12, 28)] [.ref b, .int x1, .ref o] (zpT g h b d) (zWR g h b o w0 u v) 1 6 := by
  refine zCW_ofA (lv := [some (.ref b), some (.int x1), some (.ref o), none]) (by decide) rfl (Nat.le_of_ble_eq_true rfl) ?_
  refine z_aload_n (q := 1) dL_toggle_0 rfl rfl ?_
  refine z_iconst (q := 2) dL_toggle_1 zci_0 rfl ?_
  refine z_aload_n (q := 3) dL_toggle_2 rfl rfl ?_
  refine z_iload_n (q := 4) dL_toggle_3 rfl rfl ?_
  refine z_V1 (q := 7) dL_toggle_4 zkL_46 zt_mX7_toggle rfl zT_0 rfl (Nat.le_of_ble_eq_true rfl) (hc) (Nat.zero_le _) (Nat.zero_le _) rfl ?_
  rintro _ _ ⟨rfl, D, rfl, hD⟩
  refine z_i2l (q := 8) dL_toggle_7 rfl rfl ?_
  refine z_last (q := 9) dL_toggle_8 ((zpT_o ho).trans hw) (by decide) (by decide) rfl ?_
  refine z_heq (zpT_zup ho) ?_
  refine z_goto (q := 0) (tg := 15) dL_toggle_9 rfl ?_
  refine z_iconst (q := 16) dL_toggle_15 zci_0 rfl ?_
  exact z_retiW dL_toggle_16 rfl (⟨rfl, D, hD, rfl⟩)
set_option maxRecDepth 100000 in
set_option maxHeartbeats 4000000 in
theorem wx_toggle_1 {g : zGl} {h : zHp} {b o : Nat} {d u : Nat → Nat → Int32} {x1 : Int32} (hc : zX g mX7_toggle [.ref b, .int x1] (zpT g h b d) "java/lang/IndexOutOfBoundsException" (zXJ g h b u) 1 6) : zCW g mL_toggle [(0, 9, 12, 28)] [.ref b, .int x1, .ref o] (zpT g h b d) (zWX g h b u 1) 1 6 := by
  refine zCW_ofA (lv := [some (.ref b), some (.int x1), some (.ref o), none]) (by decide) rfl (Nat.le_of_ble_eq_true rfl) ?_
  have hd : ∀ (q : Nat) (D : Nat → Nat → Int32), zJE D u → zA g (zZw g mL_toggle [(0, 9, 12, 28)] (zWX g h b u 1) 1 6) 0 0 12 [some (.ref b), some (.int x1), some (.ref o), none] [.ref q] (zpT g (h.1, none) b D) := by
    intro q D hD
    refine z_astore_n (q := 13) dL_toggle_12 (Nat.le_of_ble_eq_true rfl) rfl rfl ?_
    refine z_iconst (q := 14) dL_toggle_13 zci_1 rfl ?_
    exact z_retiW dL_toggle_14 rfl (⟨rfl, D, hD, rfl⟩)
  refine z_aload_n (q := 1) dL_toggle_0 rfl rfl ?_
  refine z_iconst (q := 2) dL_toggle_1 zci_0 rfl ?_
  refine z_aload_n (q := 3) dL_toggle_2 rfl rfl ?_
  refine z_iload_n (q := 4) dL_toggle_3 rfl rfl ?_
  refine z_cVX (av := [.int x1]) (pre := []) (x := (0, 9, 12, 28)) (suf := []) dL_toggle_4 zkL_46 zw673 zt_mX7_toggle rfl zT_0 rfl rfl (Nat.le_of_ble_eq_true rfl) hc (by decide) (by decide) rfl (fun z hz => absurd hz List.not_mem_nil) (by decide) (by decide) zyL_28 zca_I ?_
  rintro q _ ⟨D, hD, rfl⟩
  exact hd q D hD
set_option maxRecDepth 100000 in
set_option maxHeartbeats 4000000 in
theorem wr_handOver {g : zGl} {h : zHp} {b o : Nat} {d u : Nat → Nat → Int32} {w0 : Nat → Int64} {v : Int32} {x1 : Int32} {x2 : Int32} (ho : o < b ∨ b + 286 ≤ o) (hw : h.1 o = some (zJ g 1 w0)) (hc : zC g mX7_handOver [.ref b, .int x1, .int x2] (zpT g h b d) (zRJ g h b u v) 0 0) : zCW g mL_handOver [(0, 10, 13, 28), (0, 10, 17, 13), (0, 10, 21, 15)] [.ref b, .int x1, .int x2, .ref o] (zpT g h b d) (zWR g h b o w0 u v) 1 6 := by
  refine zCW_ofA (lv := [some (.ref b), some (.int x1), some (.int x2), some (.ref o), none]) (by decide) rfl (Nat.le_of_ble_eq_true rfl) ?_
  refine z_aload_n (q := 1) dL_handOver_0 rfl rfl ?_
  refine z_iconst (q := 2) dL_handOver_1 zci_0 rfl ?_
  refine z_aload_n (q := 3) dL_handOver_2 rfl rfl ?_
  refine z_iload_n (q := 4) dL_handOver_3 rfl rfl ?_
  refine z_iload_n (q := 5) dL_handOver_4 rfl rfl ?_
  refine z_V2 (q := 8) dL_handOver_5 zkL_49 zt_mX7_handOver rfl zT_0 rfl (Nat.le_of_ble_eq_true rfl) (hc) (Nat.zero_le _) (Nat.zero_le _) rfl ?_
  rintro _ _ ⟨rfl, D, rfl, hD⟩
  refine z_i2l (q := 9) dL_handOver_8 rfl rfl ?_
  refine z_last (q := 10) dL_handOver_9 ((zpT_o ho).trans hw) (by decide) (by decide) rfl ?_
  refine z_heq (zpT_zup ho) ?_
  refine z_goto (q := 0) (tg := 25) dL_handOver_10 rfl ?_
  refine z_iconst (q := 26) dL_handOver_25 zci_0 rfl ?_
  exact z_retiW dL_handOver_26 rfl (⟨rfl, D, hD, rfl⟩)
set_option maxRecDepth 100000 in
set_option maxHeartbeats 4000000 in
theorem wx_handOver_1 {g : zGl} {h : zHp} {b o : Nat} {d u : Nat → Nat → Int32} {x1 : Int32} {x2 : Int32} (hc : zX g mX7_handOver [.ref b, .int x1, .int x2] (zpT g h b d) "java/lang/IndexOutOfBoundsException" (zXJ g h b u) 1 6) : zCW g mL_handOver [(0, 10, 13, 28), (0, 10, 17, 13), (0, 10, 21, 15)] [.ref b, .int x1, .int x2, .ref o] (zpT g h b d) (zWX g h b u 1) 1 6 := by
  refine zCW_ofA (lv := [some (.ref b), some (.int x1), some (.int x2), some (.ref o), none]) (by decide) rfl (Nat.le_of_ble_eq_true rfl) ?_
  have hd : ∀ (q : Nat) (D : Nat → Nat → Int32), zJE D u → zA g (zZw g mL_handOver [(0, 10, 13, 28), (0, 10, 17, 13), (0, 10, 21, 15)] (zWX g h b u 1) 1 6) 0 0 13 [some (.ref b), some (.int x1), some (.int x2), some (.ref o), none] [.ref q] (zpT g (h.1, none) b D) := by
    intro q D hD
    refine z_astore (q := 15) dL_handOver_13 (Nat.le_of_ble_eq_true rfl) rfl rfl ?_
    refine z_iconst (q := 16) dL_handOver_15 zci_1 rfl ?_
    exact z_retiW dL_handOver_16 rfl (⟨rfl, D, hD, rfl⟩)
  refine z_aload_n (q := 1) dL_handOver_0 rfl rfl ?_
  refine z_iconst (q := 2) dL_handOver_1 zci_0 rfl ?_
  refine z_aload_n (q := 3) dL_handOver_2 rfl rfl ?_
  refine z_iload_n (q := 4) dL_handOver_3 rfl rfl ?_
  refine z_iload_n (q := 5) dL_handOver_4 rfl rfl ?_
  refine z_cVX (av := [.int x1, .int x2]) (pre := []) (x := (0, 10, 13, 28)) (suf := [(0, 10, 17, 13), (0, 10, 21, 15)]) dL_handOver_5 zkL_49 zw690 zt_mX7_handOver rfl zT_0 rfl rfl (Nat.le_of_ble_eq_true rfl) hc (by decide) (by decide) rfl (fun z hz => absurd hz List.not_mem_nil) (by decide) (by decide) zyL_28 zca_I ?_
  rintro q _ ⟨D, hD, rfl⟩
  exact hd q D hD
set_option maxRecDepth 100000 in
set_option maxHeartbeats 4000000 in
theorem wx_handOver_2 {g : zGl} {h : zHp} {b o : Nat} {d u : Nat → Nat → Int32} {x1 : Int32} {x2 : Int32} (hc : zX g mX7_handOver [.ref b, .int x1, .int x2] (zpT g h b d) "java/lang/IllegalArgumentException" (zXJ g h b u) 1 6) : zCW g mL_handOver [(0, 10, 13, 28), (0, 10, 17, 13), (0, 10, 21, 15)] [.ref b, .int x1, .int x2, .ref o] (zpT g h b d) (zWX g h b u 2) 1 6 := by
  refine zCW_ofA (lv := [some (.ref b), some (.int x1), some (.int x2), some (.ref o), none]) (by decide) rfl (Nat.le_of_ble_eq_true rfl) ?_
  have hd : ∀ (q : Nat) (D : Nat → Nat → Int32), zJE D u → zA g (zZw g mL_handOver [(0, 10, 13, 28), (0, 10, 17, 13), (0, 10, 21, 15)] (zWX g h b u 2) 1 6) 0 0 17 [some (.ref b), some (.int x1), some (.int x2), some (.ref o), none] [.ref q] (zpT g (h.1, none) b D) := by
    intro q D hD
    refine z_astore (q := 19) dL_handOver_17 (Nat.le_of_ble_eq_true rfl) rfl rfl ?_
    refine z_iconst (q := 20) dL_handOver_19 zci_2 rfl ?_
    exact z_retiW dL_handOver_20 rfl (⟨rfl, D, hD, rfl⟩)
  refine z_aload_n (q := 1) dL_handOver_0 rfl rfl ?_
  refine z_iconst (q := 2) dL_handOver_1 zci_0 rfl ?_
  refine z_aload_n (q := 3) dL_handOver_2 rfl rfl ?_
  refine z_iload_n (q := 4) dL_handOver_3 rfl rfl ?_
  refine z_iload_n (q := 5) dL_handOver_4 rfl rfl ?_
  refine z_cVX (av := [.int x1, .int x2]) (pre := [(0, 10, 13, 28)]) (x := (0, 10, 17, 13)) (suf := [(0, 10, 21, 15)]) dL_handOver_5 zkL_49 zw690 zt_mX7_handOver rfl zT_0 rfl rfl (Nat.le_of_ble_eq_true rfl) hc (by decide) (by decide) rfl (fun z hz => by rcases List.mem_singleton.mp hz with rfl; exact ⟨by decide, _, zyL_28, fun U hU => hU.1.2⟩) (by decide) (by decide) zyL_13 zca_A ?_
  rintro q _ ⟨D, hD, rfl⟩
  exact hd q D hD
set_option maxRecDepth 100000 in
set_option maxHeartbeats 4000000 in
theorem wx_handOver_3 {g : zGl} {h : zHp} {b o : Nat} {d u : Nat → Nat → Int32} {x1 : Int32} {x2 : Int32} (hc : zX g mX7_handOver [.ref b, .int x1, .int x2] (zpT g h b d) "java/lang/IllegalStateException" (zXJ g h b u) 1 6) : zCW g mL_handOver [(0, 10, 13, 28), (0, 10, 17, 13), (0, 10, 21, 15)] [.ref b, .int x1, .int x2, .ref o] (zpT g h b d) (zWX g h b u 3) 1 6 := by
  refine zCW_ofA (lv := [some (.ref b), some (.int x1), some (.int x2), some (.ref o), none]) (by decide) rfl (Nat.le_of_ble_eq_true rfl) ?_
  have hd : ∀ (q : Nat) (D : Nat → Nat → Int32), zJE D u → zA g (zZw g mL_handOver [(0, 10, 13, 28), (0, 10, 17, 13), (0, 10, 21, 15)] (zWX g h b u 3) 1 6) 0 0 21 [some (.ref b), some (.int x1), some (.int x2), some (.ref o), none] [.ref q] (zpT g (h.1, none) b D) := by
    intro q D hD
    refine z_astore (q := 23) dL_handOver_21 (Nat.le_of_ble_eq_true rfl) rfl rfl ?_
    refine z_iconst (q := 24) dL_handOver_23 zci_3 rfl ?_
    exact z_retiW dL_handOver_24 rfl (⟨rfl, D, hD, rfl⟩)
  refine z_aload_n (q := 1) dL_handOver_0 rfl rfl ?_
  refine z_iconst (q := 2) dL_handOver_1 zci_0 rfl ?_
  refine z_aload_n (q := 3) dL_handOver_2 rfl rfl ?_
  refine z_iload_n (q := 4) dL_handOver_3 rfl rfl ?_
  refine z_iload_n (q := 5) dL_handOver_4 rfl rfl ?_
  refine z_cVX (av := [.int x1, .int x2]) (pre := [(0, 10, 13, 28), (0, 10, 17, 13)]) (x := (0, 10, 21, 15)) (suf := []) dL_handOver_5 zkL_49 zw690 zt_mX7_handOver rfl zT_0 rfl rfl (Nat.le_of_ble_eq_true rfl) hc (by decide) (by decide) rfl (fun z hz => (List.mem_cons.mp hz).elim (fun e => by subst e; exact ⟨by decide, _, zyL_28, fun U hU => hU.2.1.2⟩) (fun hz => by rcases List.mem_singleton.mp hz with rfl; exact ⟨by decide, _, zyL_13, fun U hU => hU.2.1.1⟩)) (by decide) (by decide) zyL_15 zca_S ?_
  rintro q _ ⟨D, hD, rfl⟩
  exact hd q D hD
set_option maxRecDepth 100000 in
set_option maxHeartbeats 4000000 in
theorem wr_drop {g : zGl} {h : zHp} {b o : Nat} {d u : Nat → Nat → Int32} {w0 : Nat → Int64} {v : Int32} {x1 : Int32} (ho : o < b ∨ b + 286 ≤ o) (hw : h.1 o = some (zJ g 1 w0)) (hc : zC g mX7_drop [.ref b, .int x1] (zpT g h b d) (zRJ g h b u v) 0 0) : zCW g mL_drop [(0, 9, 12, 28)] [.ref b, .int x1, .ref o] (zpT g h b d) (zWR g h b o w0 u v) 1 6 := by
  refine zCW_ofA (lv := [some (.ref b), some (.int x1), some (.ref o), none]) (by decide) rfl (Nat.le_of_ble_eq_true rfl) ?_
  refine z_aload_n (q := 1) dL_drop_0 rfl rfl ?_
  refine z_iconst (q := 2) dL_drop_1 zci_0 rfl ?_
  refine z_aload_n (q := 3) dL_drop_2 rfl rfl ?_
  refine z_iload_n (q := 4) dL_drop_3 rfl rfl ?_
  refine z_V1 (q := 7) dL_drop_4 zkL_52 zt_mX7_drop rfl zT_0 rfl (Nat.le_of_ble_eq_true rfl) (hc) (Nat.zero_le _) (Nat.zero_le _) rfl ?_
  rintro _ _ ⟨rfl, D, rfl, hD⟩
  refine z_i2l (q := 8) dL_drop_7 rfl rfl ?_
  refine z_last (q := 9) dL_drop_8 ((zpT_o ho).trans hw) (by decide) (by decide) rfl ?_
  refine z_heq (zpT_zup ho) ?_
  refine z_goto (q := 0) (tg := 15) dL_drop_9 rfl ?_
  refine z_iconst (q := 16) dL_drop_15 zci_0 rfl ?_
  exact z_retiW dL_drop_16 rfl (⟨rfl, D, hD, rfl⟩)
set_option maxRecDepth 100000 in
set_option maxHeartbeats 4000000 in
theorem wx_drop_1 {g : zGl} {h : zHp} {b o : Nat} {d u : Nat → Nat → Int32} {x1 : Int32} (hc : zX g mX7_drop [.ref b, .int x1] (zpT g h b d) "java/lang/IndexOutOfBoundsException" (zXJ g h b u) 1 6) : zCW g mL_drop [(0, 9, 12, 28)] [.ref b, .int x1, .ref o] (zpT g h b d) (zWX g h b u 1) 1 6 := by
  refine zCW_ofA (lv := [some (.ref b), some (.int x1), some (.ref o), none]) (by decide) rfl (Nat.le_of_ble_eq_true rfl) ?_
  have hd : ∀ (q : Nat) (D : Nat → Nat → Int32), zJE D u → zA g (zZw g mL_drop [(0, 9, 12, 28)] (zWX g h b u 1) 1 6) 0 0 12 [some (.ref b), some (.int x1), some (.ref o), none] [.ref q] (zpT g (h.1, none) b D) := by
    intro q D hD
    refine z_astore_n (q := 13) dL_drop_12 (Nat.le_of_ble_eq_true rfl) rfl rfl ?_
    refine z_iconst (q := 14) dL_drop_13 zci_1 rfl ?_
    exact z_retiW dL_drop_14 rfl (⟨rfl, D, hD, rfl⟩)
  refine z_aload_n (q := 1) dL_drop_0 rfl rfl ?_
  refine z_iconst (q := 2) dL_drop_1 zci_0 rfl ?_
  refine z_aload_n (q := 3) dL_drop_2 rfl rfl ?_
  refine z_iload_n (q := 4) dL_drop_3 rfl rfl ?_
  refine z_cVX (av := [.int x1]) (pre := []) (x := (0, 9, 12, 28)) (suf := []) dL_drop_4 zkL_52 zw708 zt_mX7_drop rfl zT_0 rfl rfl (Nat.le_of_ble_eq_true rfl) hc (by decide) (by decide) rfl (fun z hz => absurd hz List.not_mem_nil) (by decide) (by decide) zyL_28 zca_I ?_
  rintro q _ ⟨D, hD, rfl⟩
  exact hd q D hD
set_option maxRecDepth 100000 in
set_option maxHeartbeats 4000000 in
theorem wr_setLifetime {g : zGl} {h : zHp} {b o : Nat} {d u : Nat → Nat → Int32} {w0 : Nat → Int64} {v : Int32} {x1 : Int32} (ho : o < b ∨ b + 286 ≤ o) (hw : h.1 o = some (zJ g 1 w0)) (hc : zC g mX7_setLifetime [.ref b, .int x1] (zpT g h b d) (zRJ g h b u v) 0 0) : zCW g mL_setLifetime [(0, 9, 12, 13)] [.ref b, .int x1, .ref o] (zpT g h b d) (zWR g h b o w0 u v) 1 6 := by
  refine zCW_ofA (lv := [some (.ref b), some (.int x1), some (.ref o), none]) (by decide) rfl (Nat.le_of_ble_eq_true rfl) ?_
  refine z_aload_n (q := 1) dL_setLifetime_0 rfl rfl ?_
  refine z_iconst (q := 2) dL_setLifetime_1 zci_0 rfl ?_
  refine z_aload_n (q := 3) dL_setLifetime_2 rfl rfl ?_
  refine z_iload_n (q := 4) dL_setLifetime_3 rfl rfl ?_
  refine z_V1 (q := 7) dL_setLifetime_4 zkL_55 zt_mX7_setLifetime rfl zT_0 rfl (Nat.le_of_ble_eq_true rfl) (hc) (Nat.zero_le _) (Nat.zero_le _) rfl ?_
  rintro _ _ ⟨rfl, D, rfl, hD⟩
  refine z_i2l (q := 8) dL_setLifetime_7 rfl rfl ?_
  refine z_last (q := 9) dL_setLifetime_8 ((zpT_o ho).trans hw) (by decide) (by decide) rfl ?_
  refine z_heq (zpT_zup ho) ?_
  refine z_goto (q := 0) (tg := 15) dL_setLifetime_9 rfl ?_
  refine z_iconst (q := 16) dL_setLifetime_15 zci_0 rfl ?_
  exact z_retiW dL_setLifetime_16 rfl (⟨rfl, D, hD, rfl⟩)
set_option maxRecDepth 100000 in
set_option maxHeartbeats 4000000 in
theorem wx_setLifetime_1 {g : zGl} {h : zHp} {b o : Nat} {d u : Nat → Nat → Int32} {x1 : Int32} (hc : zX g mX7_setLifetime [.ref b, .int x1] (zpT g h b d) "java/lang/IllegalArgumentException" (zXJ g h b u) 1 6) : zCW g mL_setLifetime [(0, 9, 12, 13)] [.ref b, .int x1, .ref o] (zpT g h b d) (zWX g h b u 1) 1 6 := by
  refine zCW_ofA (lv := [some (.ref b), some (.int x1), some (.ref o), none]) (by decide) rfl (Nat.le_of_ble_eq_true rfl) ?_
  have hd : ∀ (q : Nat) (D : Nat → Nat → Int32), zJE D u → zA g (zZw g mL_setLifetime [(0, 9, 12, 13)] (zWX g h b u 1) 1 6) 0 0 12 [some (.ref b), some (.int x1), some (.ref o), none] [.ref q] (zpT g (h.1, none) b D) := by
    intro q D hD
    refine z_astore_n (q := 13) dL_setLifetime_12 (Nat.le_of_ble_eq_true rfl) rfl rfl ?_
    refine z_iconst (q := 14) dL_setLifetime_13 zci_1 rfl ?_
    exact z_retiW dL_setLifetime_14 rfl (⟨rfl, D, hD, rfl⟩)
  refine z_aload_n (q := 1) dL_setLifetime_0 rfl rfl ?_
  refine z_iconst (q := 2) dL_setLifetime_1 zci_0 rfl ?_
  refine z_aload_n (q := 3) dL_setLifetime_2 rfl rfl ?_
  refine z_iload_n (q := 4) dL_setLifetime_3 rfl rfl ?_
  refine z_cVX (av := [.int x1]) (pre := []) (x := (0, 9, 12, 13)) (suf := []) dL_setLifetime_4 zkL_55 zw716 zt_mX7_setLifetime rfl zT_0 rfl rfl (Nat.le_of_ble_eq_true rfl) hc (by decide) (by decide) rfl (fun z hz => absurd hz List.not_mem_nil) (by decide) (by decide) zyL_13 zca_A ?_
  rintro q _ ⟨D, hD, rfl⟩
  exact hd q D hD
set_option maxRecDepth 100000 in
set_option maxHeartbeats 4000000 in
theorem wr_undo {g : zGl} {h : zHp} {b o : Nat} {d u : Nat → Nat → Int32} {w0 : Nat → Int64} {v : Int32}  (ho : o < b ∨ b + 286 ≤ o) (hw : h.1 o = some (zJ g 1 w0)) (hc : zC g mX7_undo [.ref b] (zpT g h b d) (zRJ g h b u v) 0 0) : zCW g mL_undo [(0, 8, 11, 15)] [.ref b, .ref o] (zpT g h b d) (zWR g h b o w0 u v) 1 6 := by
  refine zCW_ofA (lv := [some (.ref b), some (.ref o), none]) (by decide) rfl (Nat.le_of_ble_eq_true rfl) ?_
  refine z_aload_n (q := 1) dL_undo_0 rfl rfl ?_
  refine z_iconst (q := 2) dL_undo_1 zci_0 rfl ?_
  refine z_aload_n (q := 3) dL_undo_2 rfl rfl ?_
  refine z_V0 (q := 6) dL_undo_3 zkL_58 zt_mX7_undo rfl zT_0 rfl (Nat.le_of_ble_eq_true rfl) (hc) (Nat.zero_le _) (Nat.zero_le _) rfl ?_
  rintro _ _ ⟨rfl, D, rfl, hD⟩
  refine z_i2l (q := 7) dL_undo_6 rfl rfl ?_
  refine z_last (q := 8) dL_undo_7 ((zpT_o ho).trans hw) (by decide) (by decide) rfl ?_
  refine z_heq (zpT_zup ho) ?_
  refine z_goto (q := 0) (tg := 14) dL_undo_8 rfl ?_
  refine z_iconst (q := 15) dL_undo_14 zci_0 rfl ?_
  exact z_retiW dL_undo_15 rfl (⟨rfl, D, hD, rfl⟩)
set_option maxRecDepth 100000 in
set_option maxHeartbeats 4000000 in
theorem wx_undo_1 {g : zGl} {h : zHp} {b o : Nat} {d u : Nat → Nat → Int32}  (hc : zX g mX7_undo [.ref b] (zpT g h b d) "java/lang/IllegalStateException" (zXJ g h b u) 1 6) : zCW g mL_undo [(0, 8, 11, 15)] [.ref b, .ref o] (zpT g h b d) (zWX g h b u 1) 1 6 := by
  refine zCW_ofA (lv := [some (.ref b), some (.ref o), none]) (by decide) rfl (Nat.le_of_ble_eq_true rfl) ?_
  have hd : ∀ (q : Nat) (D : Nat → Nat → Int32), zJE D u → zA g (zZw g mL_undo [(0, 8, 11, 15)] (zWX g h b u 1) 1 6) 0 0 11 [some (.ref b), some (.ref o), none] [.ref q] (zpT g (h.1, none) b D) := by
    intro q D hD
    refine z_astore_n (q := 12) dL_undo_11 (Nat.le_of_ble_eq_true rfl) rfl rfl ?_
    refine z_iconst (q := 13) dL_undo_12 zci_1 rfl ?_
    exact z_retiW dL_undo_13 rfl (⟨rfl, D, hD, rfl⟩)
  refine z_aload_n (q := 1) dL_undo_0 rfl rfl ?_
  refine z_iconst (q := 2) dL_undo_1 zci_0 rfl ?_
  refine z_aload_n (q := 3) dL_undo_2 rfl rfl ?_
  refine z_cVX (av := []) (pre := []) (x := (0, 8, 11, 15)) (suf := []) dL_undo_3 zkL_58 zw723 zt_mX7_undo rfl zT_0 rfl rfl (Nat.le_of_ble_eq_true rfl) hc (by decide) (by decide) rfl (fun z hz => absurd hz List.not_mem_nil) (by decide) (by decide) zyL_15 zca_S ?_
  rintro q _ ⟨D, hD, rfl⟩
  exact hd q D hD
set_option maxRecDepth 100000 in
set_option maxHeartbeats 4000000 in
theorem wr_hops {g : zGl} {h : zHp} {b o : Nat} {d u : Nat → Nat → Int32} {w0 : Nat → Int64} {v : Int32} {x1 : Int32} {x2 : Int32} (ho : o < b ∨ b + 286 ≤ o) (hw : h.1 o = some (zJ g 1 w0)) (hc : zC g mX7_hops [.ref b, .int x1, .int x2] (zpT g h b d) (zRJ g h b u v) 0 0) : zCW g mL_hops [(0, 10, 13, 28)] [.ref b, .int x1, .int x2, .ref o] (zpT g h b d) (zWR g h b o w0 u v) 1 6 := by
  refine zCW_ofA (lv := [some (.ref b), some (.int x1), some (.int x2), some (.ref o), none]) (by decide) rfl (Nat.le_of_ble_eq_true rfl) ?_
  refine z_aload_n (q := 1) dL_hops_0 rfl rfl ?_
  refine z_iconst (q := 2) dL_hops_1 zci_0 rfl ?_
  refine z_aload_n (q := 3) dL_hops_2 rfl rfl ?_
  refine z_iload_n (q := 4) dL_hops_3 rfl rfl ?_
  refine z_iload_n (q := 5) dL_hops_4 rfl rfl ?_
  refine z_V2 (q := 8) dL_hops_5 zkL_61 zt_mX7_hops rfl zT_0 rfl (Nat.le_of_ble_eq_true rfl) (hc) (Nat.zero_le _) (Nat.zero_le _) rfl ?_
  rintro _ _ ⟨rfl, D, rfl, hD⟩
  refine z_i2l (q := 9) dL_hops_8 rfl rfl ?_
  refine z_last (q := 10) dL_hops_9 ((zpT_o ho).trans hw) (by decide) (by decide) rfl ?_
  refine z_heq (zpT_zup ho) ?_
  refine z_goto (q := 0) (tg := 17) dL_hops_10 rfl ?_
  refine z_iconst (q := 18) dL_hops_17 zci_0 rfl ?_
  exact z_retiW dL_hops_18 rfl (⟨rfl, D, hD, rfl⟩)
set_option maxRecDepth 100000 in
set_option maxHeartbeats 4000000 in
theorem wx_hops_1 {g : zGl} {h : zHp} {b o : Nat} {d u : Nat → Nat → Int32} {x1 : Int32} {x2 : Int32} (hc : zX g mX7_hops [.ref b, .int x1, .int x2] (zpT g h b d) "java/lang/IndexOutOfBoundsException" (zXJ g h b u) 1 6) : zCW g mL_hops [(0, 10, 13, 28)] [.ref b, .int x1, .int x2, .ref o] (zpT g h b d) (zWX g h b u 1) 1 6 := by
  refine zCW_ofA (lv := [some (.ref b), some (.int x1), some (.int x2), some (.ref o), none]) (by decide) rfl (Nat.le_of_ble_eq_true rfl) ?_
  have hd : ∀ (q : Nat) (D : Nat → Nat → Int32), zJE D u → zA g (zZw g mL_hops [(0, 10, 13, 28)] (zWX g h b u 1) 1 6) 0 0 13 [some (.ref b), some (.int x1), some (.int x2), some (.ref o), none] [.ref q] (zpT g (h.1, none) b D) := by
    intro q D hD
    refine z_astore (q := 15) dL_hops_13 (Nat.le_of_ble_eq_true rfl) rfl rfl ?_
    refine z_iconst (q := 16) dL_hops_15 zci_1 rfl ?_
    exact z_retiW dL_hops_16 rfl (⟨rfl, D, hD, rfl⟩)
  refine z_aload_n (q := 1) dL_hops_0 rfl rfl ?_
  refine z_iconst (q := 2) dL_hops_1 zci_0 rfl ?_
  refine z_aload_n (q := 3) dL_hops_2 rfl rfl ?_
  refine z_iload_n (q := 4) dL_hops_3 rfl rfl ?_
  refine z_iload_n (q := 5) dL_hops_4 rfl rfl ?_
  refine z_cVX (av := [.int x1, .int x2]) (pre := []) (x := (0, 10, 13, 28)) (suf := []) dL_hops_5 zkL_61 zw734 zt_mX7_hops rfl zT_0 rfl rfl (Nat.le_of_ble_eq_true rfl) hc (by decide) (by decide) rfl (fun z hz => absurd hz List.not_mem_nil) (by decide) (by decide) zyL_28 zca_I ?_
  rintro q _ ⟨D, hD, rfl⟩
  exact hd q D hD
set_option maxRecDepth 100000 in
set_option maxHeartbeats 4000000 in
theorem wr_conflicts {g : zGl} {h : zHp} {b o : Nat} {d u : Nat → Nat → Int32} {w0 : Nat → Int64} {v : Int32} {x1 : Int32} (ho : o < b ∨ b + 286 ≤ o) (hw : h.1 o = some (zJ g 1 w0)) (hc : zC g mX7_conflicts [.ref b, .int x1] (zpT g h b d) (zRJ g h b u v) 0 0) : zCW g mL_conflicts [(0, 9, 12, 13)] [.ref b, .int x1, .ref o] (zpT g h b d) (zWR g h b o w0 u v) 1 6 := by
  refine zCW_ofA (lv := [some (.ref b), some (.int x1), some (.ref o), none]) (by decide) rfl (Nat.le_of_ble_eq_true rfl) ?_
  refine z_aload_n (q := 1) dL_conflicts_0 rfl rfl ?_
  refine z_iconst (q := 2) dL_conflicts_1 zci_0 rfl ?_
  refine z_aload_n (q := 3) dL_conflicts_2 rfl rfl ?_
  refine z_iload_n (q := 4) dL_conflicts_3 rfl rfl ?_
  refine z_V1 (q := 7) dL_conflicts_4 zkL_64 zt_mX7_conflicts rfl zT_0 rfl (Nat.le_of_ble_eq_true rfl) (hc) (Nat.zero_le _) (Nat.zero_le _) rfl ?_
  rintro _ _ ⟨rfl, D, rfl, hD⟩
  refine z_i2l (q := 8) dL_conflicts_7 rfl rfl ?_
  refine z_last (q := 9) dL_conflicts_8 ((zpT_o ho).trans hw) (by decide) (by decide) rfl ?_
  refine z_heq (zpT_zup ho) ?_
  refine z_goto (q := 0) (tg := 15) dL_conflicts_9 rfl ?_
  refine z_iconst (q := 16) dL_conflicts_15 zci_0 rfl ?_
  exact z_retiW dL_conflicts_16 rfl (⟨rfl, D, hD, rfl⟩)
set_option maxRecDepth 100000 in
set_option maxHeartbeats 4000000 in
theorem wx_conflicts_1 {g : zGl} {h : zHp} {b o : Nat} {d u : Nat → Nat → Int32} {x1 : Int32} (hc : zX g mX7_conflicts [.ref b, .int x1] (zpT g h b d) "java/lang/IllegalArgumentException" (zXJ g h b u) 1 6) : zCW g mL_conflicts [(0, 9, 12, 13)] [.ref b, .int x1, .ref o] (zpT g h b d) (zWX g h b u 1) 1 6 := by
  refine zCW_ofA (lv := [some (.ref b), some (.int x1), some (.ref o), none]) (by decide) rfl (Nat.le_of_ble_eq_true rfl) ?_
  have hd : ∀ (q : Nat) (D : Nat → Nat → Int32), zJE D u → zA g (zZw g mL_conflicts [(0, 9, 12, 13)] (zWX g h b u 1) 1 6) 0 0 12 [some (.ref b), some (.int x1), some (.ref o), none] [.ref q] (zpT g (h.1, none) b D) := by
    intro q D hD
    refine z_astore_n (q := 13) dL_conflicts_12 (Nat.le_of_ble_eq_true rfl) rfl rfl ?_
    refine z_iconst (q := 14) dL_conflicts_13 zci_1 rfl ?_
    exact z_retiW dL_conflicts_14 rfl (⟨rfl, D, hD, rfl⟩)
  refine z_aload_n (q := 1) dL_conflicts_0 rfl rfl ?_
  refine z_iconst (q := 2) dL_conflicts_1 zci_0 rfl ?_
  refine z_aload_n (q := 3) dL_conflicts_2 rfl rfl ?_
  refine z_iload_n (q := 4) dL_conflicts_3 rfl rfl ?_
  refine z_cVX (av := [.int x1]) (pre := []) (x := (0, 9, 12, 13)) (suf := []) dL_conflicts_4 zkL_64 zw743 zt_mX7_conflicts rfl zT_0 rfl rfl (Nat.le_of_ble_eq_true rfl) hc (by decide) (by decide) rfl (fun z hz => absurd hz List.not_mem_nil) (by decide) (by decide) zyL_13 zca_A ?_
  rintro q _ ⟨D, hD, rfl⟩
  exact hd q D hD
set_option maxRecDepth 100000 in
set_option maxHeartbeats 4000000 in
theorem wr_finishedAfter {g : zGl} {h : zHp} {b o : Nat} {d u : Nat → Nat → Int32} {w0 : Nat → Int64} {v : Int32} {x1 : Int32} (ho : o < b ∨ b + 286 ≤ o) (hw : h.1 o = some (zJ g 1 w0)) (hc : zC g mX7_finishedAfter [.ref b, .int x1] (zpT g h b d) (zRJ g h b u v) 0 0) : zCW g mL_finishedAfter [(0, 9, 12, 13)] [.ref b, .int x1, .ref o] (zpT g h b d) (zWR g h b o w0 u v) 1 6 := by
  refine zCW_ofA (lv := [some (.ref b), some (.int x1), some (.ref o), none]) (by decide) rfl (Nat.le_of_ble_eq_true rfl) ?_
  refine z_aload_n (q := 1) dL_finishedAfter_0 rfl rfl ?_
  refine z_iconst (q := 2) dL_finishedAfter_1 zci_0 rfl ?_
  refine z_aload_n (q := 3) dL_finishedAfter_2 rfl rfl ?_
  refine z_iload_n (q := 4) dL_finishedAfter_3 rfl rfl ?_
  refine z_V1 (q := 7) dL_finishedAfter_4 zkL_67 zt_mX7_finishedAfter rfl zT_0 rfl (Nat.le_of_ble_eq_true rfl) (hc) (Nat.zero_le _) (Nat.zero_le _) rfl ?_
  rintro _ _ ⟨rfl, D, rfl, hD⟩
  refine z_i2l (q := 8) dL_finishedAfter_7 rfl rfl ?_
  refine z_last (q := 9) dL_finishedAfter_8 ((zpT_o ho).trans hw) (by decide) (by decide) rfl ?_
  refine z_heq (zpT_zup ho) ?_
  refine z_goto (q := 0) (tg := 15) dL_finishedAfter_9 rfl ?_
  refine z_iconst (q := 16) dL_finishedAfter_15 zci_0 rfl ?_
  exact z_retiW dL_finishedAfter_16 rfl (⟨rfl, D, hD, rfl⟩)
set_option maxRecDepth 100000 in
set_option maxHeartbeats 4000000 in
theorem wx_finishedAfter_1 {g : zGl} {h : zHp} {b o : Nat} {d u : Nat → Nat → Int32} {x1 : Int32} (hc : zX g mX7_finishedAfter [.ref b, .int x1] (zpT g h b d) "java/lang/IllegalArgumentException" (zXJ g h b u) 1 6) : zCW g mL_finishedAfter [(0, 9, 12, 13)] [.ref b, .int x1, .ref o] (zpT g h b d) (zWX g h b u 1) 1 6 := by
  refine zCW_ofA (lv := [some (.ref b), some (.int x1), some (.ref o), none]) (by decide) rfl (Nat.le_of_ble_eq_true rfl) ?_
  have hd : ∀ (q : Nat) (D : Nat → Nat → Int32), zJE D u → zA g (zZw g mL_finishedAfter [(0, 9, 12, 13)] (zWX g h b u 1) 1 6) 0 0 12 [some (.ref b), some (.int x1), some (.ref o), none] [.ref q] (zpT g (h.1, none) b D) := by
    intro q D hD
    refine z_astore_n (q := 13) dL_finishedAfter_12 (Nat.le_of_ble_eq_true rfl) rfl rfl ?_
    refine z_iconst (q := 14) dL_finishedAfter_13 zci_1 rfl ?_
    exact z_retiW dL_finishedAfter_14 rfl (⟨rfl, D, hD, rfl⟩)
  refine z_aload_n (q := 1) dL_finishedAfter_0 rfl rfl ?_
  refine z_iconst (q := 2) dL_finishedAfter_1 zci_0 rfl ?_
  refine z_aload_n (q := 3) dL_finishedAfter_2 rfl rfl ?_
  refine z_iload_n (q := 4) dL_finishedAfter_3 rfl rfl ?_
  refine z_cVX (av := [.int x1]) (pre := []) (x := (0, 9, 12, 13)) (suf := []) dL_finishedAfter_4 zkL_67 zw765 zt_mX7_finishedAfter rfl zT_0 rfl rfl (Nat.le_of_ble_eq_true rfl) hc (by decide) (by decide) rfl (fun z hz => absurd hz List.not_mem_nil) (by decide) (by decide) zyL_13 zca_A ?_
  rintro q _ ⟨D, hD, rfl⟩
  exact hd q D hD
set_option maxRecDepth 100000 in
set_option maxHeartbeats 4000000 in
theorem wr_knownAfter {g : zGl} {h : zHp} {b o : Nat} {d u : Nat → Nat → Int32} {w0 : Nat → Int64} {v : Int32} {x1 : Int32} (ho : o < b ∨ b + 286 ≤ o) (hw : h.1 o = some (zJ g 1 w0)) (hc : zC g mX7_knownAfter [.ref b, .int x1] (zpT g h b d) (zRJ g h b u v) 0 0) : zCW g mL_knownAfter [(0, 9, 12, 28)] [.ref b, .int x1, .ref o] (zpT g h b d) (zWR g h b o w0 u v) 1 6 := by
  refine zCW_ofA (lv := [some (.ref b), some (.int x1), some (.ref o), none]) (by decide) rfl (Nat.le_of_ble_eq_true rfl) ?_
  refine z_aload_n (q := 1) dL_knownAfter_0 rfl rfl ?_
  refine z_iconst (q := 2) dL_knownAfter_1 zci_0 rfl ?_
  refine z_aload_n (q := 3) dL_knownAfter_2 rfl rfl ?_
  refine z_iload_n (q := 4) dL_knownAfter_3 rfl rfl ?_
  refine z_V1 (q := 7) dL_knownAfter_4 zkL_70 zt_mX7_knownAfter rfl zT_0 rfl (Nat.le_of_ble_eq_true rfl) (hc) (Nat.zero_le _) (Nat.zero_le _) rfl ?_
  rintro _ _ ⟨rfl, D, rfl, hD⟩
  refine z_i2l (q := 8) dL_knownAfter_7 rfl rfl ?_
  refine z_last (q := 9) dL_knownAfter_8 ((zpT_o ho).trans hw) (by decide) (by decide) rfl ?_
  refine z_heq (zpT_zup ho) ?_
  refine z_goto (q := 0) (tg := 15) dL_knownAfter_9 rfl ?_
  refine z_iconst (q := 16) dL_knownAfter_15 zci_0 rfl ?_
  exact z_retiW dL_knownAfter_16 rfl (⟨rfl, D, hD, rfl⟩)
set_option maxRecDepth 100000 in
set_option maxHeartbeats 4000000 in
theorem wx_knownAfter_1 {g : zGl} {h : zHp} {b o : Nat} {d u : Nat → Nat → Int32} {x1 : Int32} (hc : zX g mX7_knownAfter [.ref b, .int x1] (zpT g h b d) "java/lang/IndexOutOfBoundsException" (zXJ g h b u) 1 6) : zCW g mL_knownAfter [(0, 9, 12, 28)] [.ref b, .int x1, .ref o] (zpT g h b d) (zWX g h b u 1) 1 6 := by
  refine zCW_ofA (lv := [some (.ref b), some (.int x1), some (.ref o), none]) (by decide) rfl (Nat.le_of_ble_eq_true rfl) ?_
  have hd : ∀ (q : Nat) (D : Nat → Nat → Int32), zJE D u → zA g (zZw g mL_knownAfter [(0, 9, 12, 28)] (zWX g h b u 1) 1 6) 0 0 12 [some (.ref b), some (.int x1), some (.ref o), none] [.ref q] (zpT g (h.1, none) b D) := by
    intro q D hD
    refine z_astore_n (q := 13) dL_knownAfter_12 (Nat.le_of_ble_eq_true rfl) rfl rfl ?_
    refine z_iconst (q := 14) dL_knownAfter_13 zci_1 rfl ?_
    exact z_retiW dL_knownAfter_14 rfl (⟨rfl, D, hD, rfl⟩)
  refine z_aload_n (q := 1) dL_knownAfter_0 rfl rfl ?_
  refine z_iconst (q := 2) dL_knownAfter_1 zci_0 rfl ?_
  refine z_aload_n (q := 3) dL_knownAfter_2 rfl rfl ?_
  refine z_iload_n (q := 4) dL_knownAfter_3 rfl rfl ?_
  refine z_cVX (av := [.int x1]) (pre := []) (x := (0, 9, 12, 28)) (suf := []) dL_knownAfter_4 zkL_70 zw772 zt_mX7_knownAfter rfl zT_0 rfl rfl (Nat.le_of_ble_eq_true rfl) hc (by decide) (by decide) rfl (fun z hz => absurd hz List.not_mem_nil) (by decide) (by decide) zyL_28 zca_I ?_
  rintro q _ ⟨D, hD, rfl⟩
  exact hd q D hD
set_option maxRecDepth 100000 in
set_option maxHeartbeats 4000000 in
theorem wr_wastedIf {g : zGl} {h : zHp} {b o : Nat} {d u : Nat → Nat → Int32} {w0 : Nat → Int64} {v : Int32} {x1 : Int32} {x2 : Int32} (ho : o < b ∨ b + 286 ≤ o) (hw : h.1 o = some (zJ g 1 w0)) (hc : zC g mX7_wastedIf [.ref b, .int x1, .int x2] (zpT g h b d) (zRJ g h b u v) 0 0) : zCW g mL_wastedIf [(0, 10, 13, 13)] [.ref b, .int x1, .int x2, .ref o] (zpT g h b d) (zWR g h b o w0 u v) 1 6 := by
  refine zCW_ofA (lv := [some (.ref b), some (.int x1), some (.int x2), some (.ref o), none]) (by decide) rfl (Nat.le_of_ble_eq_true rfl) ?_
  refine z_aload_n (q := 1) dL_wastedIf_0 rfl rfl ?_
  refine z_iconst (q := 2) dL_wastedIf_1 zci_0 rfl ?_
  refine z_aload_n (q := 3) dL_wastedIf_2 rfl rfl ?_
  refine z_iload_n (q := 4) dL_wastedIf_3 rfl rfl ?_
  refine z_iload_n (q := 5) dL_wastedIf_4 rfl rfl ?_
  refine z_V2 (q := 8) dL_wastedIf_5 zkL_73 zt_mX7_wastedIf rfl zT_0 rfl (Nat.le_of_ble_eq_true rfl) (hc) (Nat.zero_le _) (Nat.zero_le _) rfl ?_
  rintro _ _ ⟨rfl, D, rfl, hD⟩
  refine z_i2l (q := 9) dL_wastedIf_8 rfl rfl ?_
  refine z_last (q := 10) dL_wastedIf_9 ((zpT_o ho).trans hw) (by decide) (by decide) rfl ?_
  refine z_heq (zpT_zup ho) ?_
  refine z_goto (q := 0) (tg := 17) dL_wastedIf_10 rfl ?_
  refine z_iconst (q := 18) dL_wastedIf_17 zci_0 rfl ?_
  exact z_retiW dL_wastedIf_18 rfl (⟨rfl, D, hD, rfl⟩)
set_option maxRecDepth 100000 in
set_option maxHeartbeats 4000000 in
theorem wx_wastedIf_1 {g : zGl} {h : zHp} {b o : Nat} {d u : Nat → Nat → Int32} {x1 : Int32} {x2 : Int32} (hc : zX g mX7_wastedIf [.ref b, .int x1, .int x2] (zpT g h b d) "java/lang/IllegalArgumentException" (zXJ g h b u) 1 6) : zCW g mL_wastedIf [(0, 10, 13, 13)] [.ref b, .int x1, .int x2, .ref o] (zpT g h b d) (zWX g h b u 1) 1 6 := by
  refine zCW_ofA (lv := [some (.ref b), some (.int x1), some (.int x2), some (.ref o), none]) (by decide) rfl (Nat.le_of_ble_eq_true rfl) ?_
  have hd : ∀ (q : Nat) (D : Nat → Nat → Int32), zJE D u → zA g (zZw g mL_wastedIf [(0, 10, 13, 13)] (zWX g h b u 1) 1 6) 0 0 13 [some (.ref b), some (.int x1), some (.int x2), some (.ref o), none] [.ref q] (zpT g (h.1, none) b D) := by
    intro q D hD
    refine z_astore (q := 15) dL_wastedIf_13 (Nat.le_of_ble_eq_true rfl) rfl rfl ?_
    refine z_iconst (q := 16) dL_wastedIf_15 zci_1 rfl ?_
    exact z_retiW dL_wastedIf_16 rfl (⟨rfl, D, hD, rfl⟩)
  refine z_aload_n (q := 1) dL_wastedIf_0 rfl rfl ?_
  refine z_iconst (q := 2) dL_wastedIf_1 zci_0 rfl ?_
  refine z_aload_n (q := 3) dL_wastedIf_2 rfl rfl ?_
  refine z_iload_n (q := 4) dL_wastedIf_3 rfl rfl ?_
  refine z_iload_n (q := 5) dL_wastedIf_4 rfl rfl ?_
  refine z_cVX (av := [.int x1, .int x2]) (pre := []) (x := (0, 10, 13, 13)) (suf := []) dL_wastedIf_5 zkL_73 zw783 zt_mX7_wastedIf rfl zT_0 rfl rfl (Nat.le_of_ble_eq_true rfl) hc (by decide) (by decide) rfl (fun z hz => absurd hz List.not_mem_nil) (by decide) (by decide) zyL_13 zca_A ?_
  rintro q _ ⟨D, hD, rfl⟩
  exact hd q D hD
set_option maxRecDepth 100000 in
set_option maxHeartbeats 4000000 in
theorem wr_worstLoss {g : zGl} {h : zHp} {b o : Nat} {d u : Nat → Nat → Int32} {w0 : Nat → Int64} {v : Int32} {x1 : Int32} (ho : o < b ∨ b + 286 ≤ o) (hw : h.1 o = some (zJ g 1 w0)) (hc : zC g mX7_worstLoss [.ref b, .int x1] (zpT g h b d) (zRJ g h b u v) 0 0) : zCW g mL_worstLoss [(0, 9, 12, 13)] [.ref b, .int x1, .ref o] (zpT g h b d) (zWR g h b o w0 u v) 1 6 := by
  refine zCW_ofA (lv := [some (.ref b), some (.int x1), some (.ref o), none]) (by decide) rfl (Nat.le_of_ble_eq_true rfl) ?_
  refine z_aload_n (q := 1) dL_worstLoss_0 rfl rfl ?_
  refine z_iconst (q := 2) dL_worstLoss_1 zci_0 rfl ?_
  refine z_aload_n (q := 3) dL_worstLoss_2 rfl rfl ?_
  refine z_iload_n (q := 4) dL_worstLoss_3 rfl rfl ?_
  refine z_V1 (q := 7) dL_worstLoss_4 zkL_76 zt_mX7_worstLoss rfl zT_0 rfl (Nat.le_of_ble_eq_true rfl) (hc) (Nat.zero_le _) (Nat.zero_le _) rfl ?_
  rintro _ _ ⟨rfl, D, rfl, hD⟩
  refine z_i2l (q := 8) dL_worstLoss_7 rfl rfl ?_
  refine z_last (q := 9) dL_worstLoss_8 ((zpT_o ho).trans hw) (by decide) (by decide) rfl ?_
  refine z_heq (zpT_zup ho) ?_
  refine z_goto (q := 0) (tg := 15) dL_worstLoss_9 rfl ?_
  refine z_iconst (q := 16) dL_worstLoss_15 zci_0 rfl ?_
  exact z_retiW dL_worstLoss_16 rfl (⟨rfl, D, hD, rfl⟩)
set_option maxRecDepth 100000 in
set_option maxHeartbeats 4000000 in
theorem wx_worstLoss_1 {g : zGl} {h : zHp} {b o : Nat} {d u : Nat → Nat → Int32} {x1 : Int32} (hc : zX g mX7_worstLoss [.ref b, .int x1] (zpT g h b d) "java/lang/IllegalArgumentException" (zXJ g h b u) 1 6) : zCW g mL_worstLoss [(0, 9, 12, 13)] [.ref b, .int x1, .ref o] (zpT g h b d) (zWX g h b u 1) 1 6 := by
  refine zCW_ofA (lv := [some (.ref b), some (.int x1), some (.ref o), none]) (by decide) rfl (Nat.le_of_ble_eq_true rfl) ?_
  have hd : ∀ (q : Nat) (D : Nat → Nat → Int32), zJE D u → zA g (zZw g mL_worstLoss [(0, 9, 12, 13)] (zWX g h b u 1) 1 6) 0 0 12 [some (.ref b), some (.int x1), some (.ref o), none] [.ref q] (zpT g (h.1, none) b D) := by
    intro q D hD
    refine z_astore_n (q := 13) dL_worstLoss_12 (Nat.le_of_ble_eq_true rfl) rfl rfl ?_
    refine z_iconst (q := 14) dL_worstLoss_13 zci_1 rfl ?_
    exact z_retiW dL_worstLoss_14 rfl (⟨rfl, D, hD, rfl⟩)
  refine z_aload_n (q := 1) dL_worstLoss_0 rfl rfl ?_
  refine z_iconst (q := 2) dL_worstLoss_1 zci_0 rfl ?_
  refine z_aload_n (q := 3) dL_worstLoss_2 rfl rfl ?_
  refine z_iload_n (q := 4) dL_worstLoss_3 rfl rfl ?_
  refine z_cVX (av := [.int x1]) (pre := []) (x := (0, 9, 12, 13)) (suf := []) dL_worstLoss_4 zkL_76 zw790 zt_mX7_worstLoss rfl zT_0 rfl rfl (Nat.le_of_ble_eq_true rfl) hc (by decide) (by decide) rfl (fun z hz => absurd hz List.not_mem_nil) (by decide) (by decide) zyL_13 zca_A ?_
  rintro q _ ⟨D, hD, rfl⟩
  exact hd q D hD
set_option maxRecDepth 100000 in
set_option maxHeartbeats 4000000 in
theorem wr_bestShare {g : zGl} {h : zHp} {b o : Nat} {d u : Nat → Nat → Int32} {w0 : Nat → Int64} {v : Int32} {x1 : Int32} (ho : o < b ∨ b + 286 ≤ o) (hw : h.1 o = some (zJ g 1 w0)) (hc : zC g mX7_bestShare [.ref b, .int x1] (zpT g h b d) (zRJ g h b u v) 0 0) : zCW g mL_bestShare [(0, 9, 12, 28)] [.ref b, .int x1, .ref o] (zpT g h b d) (zWR g h b o w0 u v) 1 6 := by
  refine zCW_ofA (lv := [some (.ref b), some (.int x1), some (.ref o), none]) (by decide) rfl (Nat.le_of_ble_eq_true rfl) ?_
  refine z_aload_n (q := 1) dL_bestShare_0 rfl rfl ?_
  refine z_iconst (q := 2) dL_bestShare_1 zci_0 rfl ?_
  refine z_aload_n (q := 3) dL_bestShare_2 rfl rfl ?_
  refine z_iload_n (q := 4) dL_bestShare_3 rfl rfl ?_
  refine z_V1 (q := 7) dL_bestShare_4 zkL_79 zt_mX7_bestShare rfl zT_0 rfl (Nat.le_of_ble_eq_true rfl) (hc) (Nat.zero_le _) (Nat.zero_le _) rfl ?_
  rintro _ _ ⟨rfl, D, rfl, hD⟩
  refine z_i2l (q := 8) dL_bestShare_7 rfl rfl ?_
  refine z_last (q := 9) dL_bestShare_8 ((zpT_o ho).trans hw) (by decide) (by decide) rfl ?_
  refine z_heq (zpT_zup ho) ?_
  refine z_goto (q := 0) (tg := 15) dL_bestShare_9 rfl ?_
  refine z_iconst (q := 16) dL_bestShare_15 zci_0 rfl ?_
  exact z_retiW dL_bestShare_16 rfl (⟨rfl, D, hD, rfl⟩)
set_option maxRecDepth 100000 in
set_option maxHeartbeats 4000000 in
theorem wx_bestShare_1 {g : zGl} {h : zHp} {b o : Nat} {d u : Nat → Nat → Int32} {x1 : Int32} (hc : zX g mX7_bestShare [.ref b, .int x1] (zpT g h b d) "java/lang/IndexOutOfBoundsException" (zXJ g h b u) 1 6) : zCW g mL_bestShare [(0, 9, 12, 28)] [.ref b, .int x1, .ref o] (zpT g h b d) (zWX g h b u 1) 1 6 := by
  refine zCW_ofA (lv := [some (.ref b), some (.int x1), some (.ref o), none]) (by decide) rfl (Nat.le_of_ble_eq_true rfl) ?_
  have hd : ∀ (q : Nat) (D : Nat → Nat → Int32), zJE D u → zA g (zZw g mL_bestShare [(0, 9, 12, 28)] (zWX g h b u 1) 1 6) 0 0 12 [some (.ref b), some (.int x1), some (.ref o), none] [.ref q] (zpT g (h.1, none) b D) := by
    intro q D hD
    refine z_astore_n (q := 13) dL_bestShare_12 (Nat.le_of_ble_eq_true rfl) rfl rfl ?_
    refine z_iconst (q := 14) dL_bestShare_13 zci_1 rfl ?_
    exact z_retiW dL_bestShare_14 rfl (⟨rfl, D, hD, rfl⟩)
  refine z_aload_n (q := 1) dL_bestShare_0 rfl rfl ?_
  refine z_iconst (q := 2) dL_bestShare_1 zci_0 rfl ?_
  refine z_aload_n (q := 3) dL_bestShare_2 rfl rfl ?_
  refine z_iload_n (q := 4) dL_bestShare_3 rfl rfl ?_
  refine z_cVX (av := [.int x1]) (pre := []) (x := (0, 9, 12, 28)) (suf := []) dL_bestShare_4 zkL_79 zw805 zt_mX7_bestShare rfl zT_0 rfl rfl (Nat.le_of_ble_eq_true rfl) hc (by decide) (by decide) rfl (fun z hz => absurd hz List.not_mem_nil) (by decide) (by decide) zyL_28 zca_I ?_
  rintro q _ ⟨D, hD, rfl⟩
  exact hd q D hD
set_option maxRecDepth 100000 in
set_option maxHeartbeats 4000000 in
theorem wr_runScript {g : zGl} {h : zHp} {b o : Nat} {d u : Nat → Nat → Int32} {w0 : Nat → Int64} {v : Int32} {x1 : Int32} {x2 : Int64} (ho : o < b ∨ b + 286 ≤ o) (hw : h.1 o = some (zJ g 1 w0)) (hc : zC g mX7_runScript [.ref b, .int x1, .long x2] (zpT g h b d) (zRJ g h b u v) 0 0) : zCW g mL_runScript [(0, 11, 14, 13)] [.ref b, .int x1, .long x2, .ref o] (zpT g h b d) (zWR g h b o w0 u v) 1 6 := by
  refine zCW_ofA (lv := [some (.ref b), some (.int x1), some (.long x2), none, some (.ref o), none]) (by decide) rfl (Nat.le_of_ble_eq_true rfl) ?_
  refine z_aload (q := 2) dL_runScript_0 rfl rfl ?_
  refine z_iconst (q := 3) dL_runScript_2 zci_0 rfl ?_
  refine z_aload_n (q := 4) dL_runScript_3 rfl rfl ?_
  refine z_iload_n (q := 5) dL_runScript_4 rfl rfl ?_
  refine z_lload_n (q := 6) dL_runScript_5 rfl rfl ?_
  refine z_V2 (q := 9) dL_runScript_6 zkL_82 zt_mX7_runScript rfl zT_0 rfl (Nat.le_of_ble_eq_true rfl) (hc) (Nat.zero_le _) (Nat.zero_le _) rfl ?_
  rintro _ _ ⟨rfl, D, rfl, hD⟩
  refine z_i2l (q := 10) dL_runScript_9 rfl rfl ?_
  refine z_last (q := 11) dL_runScript_10 ((zpT_o ho).trans hw) (by decide) (by decide) rfl ?_
  refine z_heq (zpT_zup ho) ?_
  refine z_goto (q := 0) (tg := 18) dL_runScript_11 rfl ?_
  refine z_iconst (q := 19) dL_runScript_18 zci_0 rfl ?_
  exact z_retiW dL_runScript_19 rfl (⟨rfl, D, hD, rfl⟩)
set_option maxRecDepth 100000 in
set_option maxHeartbeats 4000000 in
theorem wx_runScript_1 {g : zGl} {h : zHp} {b o : Nat} {d u : Nat → Nat → Int32} {x1 : Int32} {x2 : Int64} (hc : zX g mX7_runScript [.ref b, .int x1, .long x2] (zpT g h b d) "java/lang/IllegalArgumentException" (zXJ g h b u) 1 6) : zCW g mL_runScript [(0, 11, 14, 13)] [.ref b, .int x1, .long x2, .ref o] (zpT g h b d) (zWX g h b u 1) 1 6 := by
  refine zCW_ofA (lv := [some (.ref b), some (.int x1), some (.long x2), none, some (.ref o), none]) (by decide) rfl (Nat.le_of_ble_eq_true rfl) ?_
  have hd : ∀ (q : Nat) (D : Nat → Nat → Int32), zJE D u → zA g (zZw g mL_runScript [(0, 11, 14, 13)] (zWX g h b u 1) 1 6) 0 0 14 [some (.ref b), some (.int x1), some (.long x2), none, some (.ref o), none] [.ref q] (zpT g (h.1, none) b D) := by
    intro q D hD
    refine z_astore (q := 16) dL_runScript_14 (Nat.le_of_ble_eq_true rfl) rfl rfl ?_
    refine z_iconst (q := 17) dL_runScript_16 zci_1 rfl ?_
    exact z_retiW dL_runScript_17 rfl (⟨rfl, D, hD, rfl⟩)
  refine z_aload (q := 2) dL_runScript_0 rfl rfl ?_
  refine z_iconst (q := 3) dL_runScript_2 zci_0 rfl ?_
  refine z_aload_n (q := 4) dL_runScript_3 rfl rfl ?_
  refine z_iload_n (q := 5) dL_runScript_4 rfl rfl ?_
  refine z_lload_n (q := 6) dL_runScript_5 rfl rfl ?_
  refine z_cVX (av := [.int x1, .long x2]) (pre := []) (x := (0, 11, 14, 13)) (suf := []) dL_runScript_6 zkL_82 zw842 zt_mX7_runScript rfl zT_0 rfl rfl (Nat.le_of_ble_eq_true rfl) hc (by decide) (by decide) rfl (fun z hz => absurd hz List.not_mem_nil) (by decide) (by decide) zyL_13 zca_A ?_
  rintro q _ ⟨D, hD, rfl⟩
  exact hd q D hD
set_option maxRecDepth 100000 in
set_option maxHeartbeats 4000000 in
theorem wr_simulate {g : zGl} {h : zHp} {b o : Nat} {d u : Nat → Nat → Int32} {w0 : Nat → Int64} {v : Int32} {x1 : Int64} {x2 : Int32} (ho : o < b ∨ b + 286 ≤ o) (hw : h.1 o = some (zJ g 1 w0)) (hc : zC g mX7_simulate [.ref b, .long x1, .int x2] (zpT g h b d) (zRJ g h b u v) 0 0) : zCW g mL_simulate [(0, 11, 14, 13)] [.ref b, .long x1, .int x2, .ref o] (zpT g h b d) (zWR g h b o w0 u v) 1 6 := by
  refine zCW_ofA (lv := [some (.ref b), some (.long x1), none, some (.int x2), some (.ref o), none]) (by decide) rfl (Nat.le_of_ble_eq_true rfl) ?_
  refine z_aload (q := 2) dL_simulate_0 rfl rfl ?_
  refine z_iconst (q := 3) dL_simulate_2 zci_0 rfl ?_
  refine z_aload_n (q := 4) dL_simulate_3 rfl rfl ?_
  refine z_lload_n (q := 5) dL_simulate_4 rfl rfl ?_
  refine z_iload_n (q := 6) dL_simulate_5 rfl rfl ?_
  refine z_V2 (q := 9) dL_simulate_6 zkL_86 zt_mX7_simulate rfl zT_0 rfl (Nat.le_of_ble_eq_true rfl) (hc) (Nat.zero_le _) (Nat.zero_le _) rfl ?_
  rintro _ _ ⟨rfl, D, rfl, hD⟩
  refine z_i2l (q := 10) dL_simulate_9 rfl rfl ?_
  refine z_last (q := 11) dL_simulate_10 ((zpT_o ho).trans hw) (by decide) (by decide) rfl ?_
  refine z_heq (zpT_zup ho) ?_
  refine z_goto (q := 0) (tg := 18) dL_simulate_11 rfl ?_
  refine z_iconst (q := 19) dL_simulate_18 zci_0 rfl ?_
  exact z_retiW dL_simulate_19 rfl (⟨rfl, D, hD, rfl⟩)
set_option maxRecDepth 100000 in
set_option maxHeartbeats 4000000 in
theorem wx_simulate_1 {g : zGl} {h : zHp} {b o : Nat} {d u : Nat → Nat → Int32} {x1 : Int64} {x2 : Int32} (hc : zX g mX7_simulate [.ref b, .long x1, .int x2] (zpT g h b d) "java/lang/IllegalArgumentException" (zXJ g h b u) 1 6) : zCW g mL_simulate [(0, 11, 14, 13)] [.ref b, .long x1, .int x2, .ref o] (zpT g h b d) (zWX g h b u 1) 1 6 := by
  refine zCW_ofA (lv := [some (.ref b), some (.long x1), none, some (.int x2), some (.ref o), none]) (by decide) rfl (Nat.le_of_ble_eq_true rfl) ?_
  have hd : ∀ (q : Nat) (D : Nat → Nat → Int32), zJE D u → zA g (zZw g mL_simulate [(0, 11, 14, 13)] (zWX g h b u 1) 1 6) 0 0 14 [some (.ref b), some (.long x1), none, some (.int x2), some (.ref o), none] [.ref q] (zpT g (h.1, none) b D) := by
    intro q D hD
    refine z_astore (q := 16) dL_simulate_14 (Nat.le_of_ble_eq_true rfl) rfl rfl ?_
    refine z_iconst (q := 17) dL_simulate_16 zci_1 rfl ?_
    exact z_retiW dL_simulate_17 rfl (⟨rfl, D, hD, rfl⟩)
  refine z_aload (q := 2) dL_simulate_0 rfl rfl ?_
  refine z_iconst (q := 3) dL_simulate_2 zci_0 rfl ?_
  refine z_aload_n (q := 4) dL_simulate_3 rfl rfl ?_
  refine z_lload_n (q := 5) dL_simulate_4 rfl rfl ?_
  refine z_iload_n (q := 6) dL_simulate_5 rfl rfl ?_
  refine z_cVX (av := [.long x1, .int x2]) (pre := []) (x := (0, 11, 14, 13)) (suf := []) dL_simulate_6 zkL_86 zw867 zt_mX7_simulate rfl zT_0 rfl rfl (Nat.le_of_ble_eq_true rfl) hc (by decide) (by decide) rfl (fun z hz => absurd hz List.not_mem_nil) (by decide) (by decide) zyL_13 zca_A ?_
  rintro q _ ⟨D, hD, rfl⟩
  exact hd q D hD
set_option maxRecDepth 100000 in
set_option maxHeartbeats 4000000 in
theorem wr_save {g : zGl} {h : zHp} {b o : Nat} {d u : Nat → Nat → Int32} {w0 : Nat → Int64} {v : Int32} {x1 : Int32} (ho : o < b ∨ b + 286 ≤ o) (hw : h.1 o = some (zJ g 1 w0)) (hc : zC g mX7_save [.ref b, .int x1] (zpT g h b d) (zRJ g h b u v) 0 0) : zCW g mL_save [(0, 9, 12, 28)] [.ref b, .int x1, .ref o] (zpT g h b d) (zWR g h b o w0 u v) 1 6 := by
  refine zCW_ofA (lv := [some (.ref b), some (.int x1), some (.ref o), none]) (by decide) rfl (Nat.le_of_ble_eq_true rfl) ?_
  refine z_aload_n (q := 1) dL_save_0 rfl rfl ?_
  refine z_iconst (q := 2) dL_save_1 zci_0 rfl ?_
  refine z_aload_n (q := 3) dL_save_2 rfl rfl ?_
  refine z_iload_n (q := 4) dL_save_3 rfl rfl ?_
  refine z_V1 (q := 7) dL_save_4 zkL_90 zt_mX7_save rfl zT_0 rfl (Nat.le_of_ble_eq_true rfl) (hc) (Nat.zero_le _) (Nat.zero_le _) rfl ?_
  rintro _ _ ⟨rfl, D, rfl, hD⟩
  refine z_i2l (q := 8) dL_save_7 rfl rfl ?_
  refine z_last (q := 9) dL_save_8 ((zpT_o ho).trans hw) (by decide) (by decide) rfl ?_
  refine z_heq (zpT_zup ho) ?_
  refine z_goto (q := 0) (tg := 15) dL_save_9 rfl ?_
  refine z_iconst (q := 16) dL_save_15 zci_0 rfl ?_
  exact z_retiW dL_save_16 rfl (⟨rfl, D, hD, rfl⟩)
set_option maxRecDepth 100000 in
set_option maxHeartbeats 4000000 in
theorem wx_save_1 {g : zGl} {h : zHp} {b o : Nat} {d u : Nat → Nat → Int32} {x1 : Int32} (hc : zX g mX7_save [.ref b, .int x1] (zpT g h b d) "java/lang/IndexOutOfBoundsException" (zXJ g h b u) 1 6) : zCW g mL_save [(0, 9, 12, 28)] [.ref b, .int x1, .ref o] (zpT g h b d) (zWX g h b u 1) 1 6 := by
  refine zCW_ofA (lv := [some (.ref b), some (.int x1), some (.ref o), none]) (by decide) rfl (Nat.le_of_ble_eq_true rfl) ?_
  have hd : ∀ (q : Nat) (D : Nat → Nat → Int32), zJE D u → zA g (zZw g mL_save [(0, 9, 12, 28)] (zWX g h b u 1) 1 6) 0 0 12 [some (.ref b), some (.int x1), some (.ref o), none] [.ref q] (zpT g (h.1, none) b D) := by
    intro q D hD
    refine z_astore_n (q := 13) dL_save_12 (Nat.le_of_ble_eq_true rfl) rfl rfl ?_
    refine z_iconst (q := 14) dL_save_13 zci_1 rfl ?_
    exact z_retiW dL_save_14 rfl (⟨rfl, D, hD, rfl⟩)
  refine z_aload_n (q := 1) dL_save_0 rfl rfl ?_
  refine z_iconst (q := 2) dL_save_1 zci_0 rfl ?_
  refine z_aload_n (q := 3) dL_save_2 rfl rfl ?_
  refine z_iload_n (q := 4) dL_save_3 rfl rfl ?_
  refine z_cVX (av := [.int x1]) (pre := []) (x := (0, 9, 12, 28)) (suf := []) dL_save_4 zkL_90 zw879 zt_mX7_save rfl zT_0 rfl rfl (Nat.le_of_ble_eq_true rfl) hc (by decide) (by decide) rfl (fun z hz => absurd hz List.not_mem_nil) (by decide) (by decide) zyL_28 zca_I ?_
  rintro q _ ⟨D, hD, rfl⟩
  exact hd q D hD
set_option maxRecDepth 100000 in
set_option maxHeartbeats 4000000 in
theorem wr_restore {g : zGl} {h : zHp} {b o : Nat} {d u : Nat → Nat → Int32} {w0 : Nat → Int64} {v : Int32} {x1 : Int32} (ho : o < b ∨ b + 286 ≤ o) (hw : h.1 o = some (zJ g 1 w0)) (hc : zC g mX7_restore [.ref b, .int x1] (zpT g h b d) (zRJ g h b u v) 0 0) : zCW g mL_restore [(0, 9, 12, 28), (0, 9, 15, 15)] [.ref b, .int x1, .ref o] (zpT g h b d) (zWR g h b o w0 u v) 1 6 := by
  refine zCW_ofA (lv := [some (.ref b), some (.int x1), some (.ref o), none]) (by decide) rfl (Nat.le_of_ble_eq_true rfl) ?_
  refine z_aload_n (q := 1) dL_restore_0 rfl rfl ?_
  refine z_iconst (q := 2) dL_restore_1 zci_0 rfl ?_
  refine z_aload_n (q := 3) dL_restore_2 rfl rfl ?_
  refine z_iload_n (q := 4) dL_restore_3 rfl rfl ?_
  refine z_V1 (q := 7) dL_restore_4 zkL_93 zt_mX7_restore rfl zT_0 rfl (Nat.le_of_ble_eq_true rfl) (hc) (Nat.zero_le _) (Nat.zero_le _) rfl ?_
  rintro _ _ ⟨rfl, D, rfl, hD⟩
  refine z_i2l (q := 8) dL_restore_7 rfl rfl ?_
  refine z_last (q := 9) dL_restore_8 ((zpT_o ho).trans hw) (by decide) (by decide) rfl ?_
  refine z_heq (zpT_zup ho) ?_
  refine z_goto (q := 0) (tg := 18) dL_restore_9 rfl ?_
  refine z_iconst (q := 19) dL_restore_18 zci_0 rfl ?_
  exact z_retiW dL_restore_19 rfl (⟨rfl, D, hD, rfl⟩)
set_option maxRecDepth 100000 in
set_option maxHeartbeats 4000000 in
theorem wx_restore_1 {g : zGl} {h : zHp} {b o : Nat} {d u : Nat → Nat → Int32} {x1 : Int32} (hc : zX g mX7_restore [.ref b, .int x1] (zpT g h b d) "java/lang/IndexOutOfBoundsException" (zXJ g h b u) 1 6) : zCW g mL_restore [(0, 9, 12, 28), (0, 9, 15, 15)] [.ref b, .int x1, .ref o] (zpT g h b d) (zWX g h b u 1) 1 6 := by
  refine zCW_ofA (lv := [some (.ref b), some (.int x1), some (.ref o), none]) (by decide) rfl (Nat.le_of_ble_eq_true rfl) ?_
  have hd : ∀ (q : Nat) (D : Nat → Nat → Int32), zJE D u → zA g (zZw g mL_restore [(0, 9, 12, 28), (0, 9, 15, 15)] (zWX g h b u 1) 1 6) 0 0 12 [some (.ref b), some (.int x1), some (.ref o), none] [.ref q] (zpT g (h.1, none) b D) := by
    intro q D hD
    refine z_astore_n (q := 13) dL_restore_12 (Nat.le_of_ble_eq_true rfl) rfl rfl ?_
    refine z_iconst (q := 14) dL_restore_13 zci_1 rfl ?_
    exact z_retiW dL_restore_14 rfl (⟨rfl, D, hD, rfl⟩)
  refine z_aload_n (q := 1) dL_restore_0 rfl rfl ?_
  refine z_iconst (q := 2) dL_restore_1 zci_0 rfl ?_
  refine z_aload_n (q := 3) dL_restore_2 rfl rfl ?_
  refine z_iload_n (q := 4) dL_restore_3 rfl rfl ?_
  refine z_cVX (av := [.int x1]) (pre := []) (x := (0, 9, 12, 28)) (suf := [(0, 9, 15, 15)]) dL_restore_4 zkL_93 zw886 zt_mX7_restore rfl zT_0 rfl rfl (Nat.le_of_ble_eq_true rfl) hc (by decide) (by decide) rfl (fun z hz => absurd hz List.not_mem_nil) (by decide) (by decide) zyL_28 zca_I ?_
  rintro q _ ⟨D, hD, rfl⟩
  exact hd q D hD
set_option maxRecDepth 100000 in
set_option maxHeartbeats 4000000 in
theorem wx_restore_2 {g : zGl} {h : zHp} {b o : Nat} {d u : Nat → Nat → Int32} {x1 : Int32} (hc : zX g mX7_restore [.ref b, .int x1] (zpT g h b d) "java/lang/IllegalStateException" (zXJ g h b u) 1 6) : zCW g mL_restore [(0, 9, 12, 28), (0, 9, 15, 15)] [.ref b, .int x1, .ref o] (zpT g h b d) (zWX g h b u 2) 1 6 := by
  refine zCW_ofA (lv := [some (.ref b), some (.int x1), some (.ref o), none]) (by decide) rfl (Nat.le_of_ble_eq_true rfl) ?_
  have hd : ∀ (q : Nat) (D : Nat → Nat → Int32), zJE D u → zA g (zZw g mL_restore [(0, 9, 12, 28), (0, 9, 15, 15)] (zWX g h b u 2) 1 6) 0 0 15 [some (.ref b), some (.int x1), some (.ref o), none] [.ref q] (zpT g (h.1, none) b D) := by
    intro q D hD
    refine z_astore_n (q := 16) dL_restore_15 (Nat.le_of_ble_eq_true rfl) rfl rfl ?_
    refine z_iconst (q := 17) dL_restore_16 zci_2 rfl ?_
    exact z_retiW dL_restore_17 rfl (⟨rfl, D, hD, rfl⟩)
  refine z_aload_n (q := 1) dL_restore_0 rfl rfl ?_
  refine z_iconst (q := 2) dL_restore_1 zci_0 rfl ?_
  refine z_aload_n (q := 3) dL_restore_2 rfl rfl ?_
  refine z_iload_n (q := 4) dL_restore_3 rfl rfl ?_
  refine z_cVX (av := [.int x1]) (pre := [(0, 9, 12, 28)]) (x := (0, 9, 15, 15)) (suf := []) dL_restore_4 zkL_93 zw886 zt_mX7_restore rfl zT_0 rfl rfl (Nat.le_of_ble_eq_true rfl) hc (by decide) (by decide) rfl (fun z hz => by rcases List.mem_singleton.mp hz with rfl; exact ⟨by decide, _, zyL_28, fun U hU => hU.2.1.2⟩) (by decide) (by decide) zyL_15 zca_S ?_
  rintro q _ ⟨D, hD, rfl⟩
  exact hd q D hD
