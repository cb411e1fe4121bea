/-! ===== the law: actions ===== -/
theorem zlw_step : Cond.methodLink RL 135 mL_step.1 ∈ zTb := List.mem_filter.mpr ⟨List.mem_append_right _ (List.mem_of_getElem? (i := 581) (by decide +kernel)), by decide +kernel⟩
theorem zcw_step : Cond.codeWith mL_step.1 mL_step.2.1 mL_step.2.2.1 mL_step.2.2.2.1 [(0, 9, 12, 13)] ∈ zTb := List.mem_filter.mpr ⟨List.mem_append_right _ (List.mem_of_getElem? (i := 583) (by decide +kernel)), by decide +kernel⟩
theorem zcn_step : mL_step.1.cls ≠ "java/lang/invoke/MethodHandle" ∧ mL_step.1.cls ≠ "java/lang/invoke/VarHandle" ∧ (parseMethodDescriptor mL_step.1.desc).map (fun d => d.parameters.length) = some 3 := ⟨by decide +kernel, by decide +kernel, by decide +kernel⟩
set_option maxRecDepth 100000 in
set_option maxHeartbeats 4000000 in
theorem op_step {g : zGl} {nm : String} {b0 L : Nat} {xs : Nat → Int32} {k n i : Nat} {d u : Nat → Nat → Int32} {w : Nat → Int64} {l5 l6 : Option Value} (hi : i + 4 ≤ L) (hL : L ≤ 2048) (hk : 1 ≤ k) (hn : 6 ≤ n) (hJE : zJE d u) (kk : ∀ (d u : Nat → Nat → Int32) (w : Nat → Int64) (l5 l6 : Option Value), zJE d u → zA g (zZl g nm b0 L xs) (k - 1) (n - 6) 1804 [some (.ref b0), some (.ref (zgB g)), some (.ref (zgB g + 286)), some (.ref (zgB g + 298)), some (.int (nI i)), l5, l6] [] (zHl g d u w)) : zA g (zZl g nm b0 L xs) k n 566 [some (.ref b0), some (.ref (zgB g)), some (.ref (zgB g + 286)), some (.ref (zgB g + 298)), some (.int (nI i)), l5, l6] [] (zHl g d u w) := by
  obtain ⟨n0, K, hJ⟩ := hJE
  have hR := hJ.1
  have hn6 := zR_n6 hR
  have hK8 := zR_K8 hR
  have f0 := zR_f0 hR
  have f1 := zR_f1 hR
  obtain ⟨Lt, hLt, -, hLs, -⟩ := id hJ.2.1
  obtain ⟨-, c, -, hc14, -, -, hc9, -⟩ := id hJ.2.2.1
  refine z_heq (show zHl g d u w = zpT g (zpM g (zHE g w) (zgB g + 286) u) (zgB g) d from rfl) ?_
  obtain ⟨x1, e1⟩ : ∃ x, xs (i + 1) = x := ⟨_, rfl⟩
  cases hv : qBt x1 1 99 with
  | false =>
    refine z_aload_n (q := 567) dL_law_566 rfl rfl ?_
    refine z_aload_n (q := 568) dL_law_567 rfl rfl ?_
    refine z_iload (q := 570) dL_law_568 rfl rfl ?_
    refine z_iconst (q := 571) dL_law_570 zci_1 rfl ?_
    refine z_iaddN (q := 572) dL_law_571 rfl ?_
    refine z_sld (q := 573) dL_law_572 (by omega) (by omega) rfl ?_
    refine z_eqi e1 ?_
    refine z_aload_n (q := 574) dL_law_573 rfl rfl ?_
    refine z_cSW (q := 577) (av := [.ref (zgB g), .int x1, .ref (zgB g + 298)]) dL_law_574 zlw_step zcw_step zdL zt_mL_step zcn_step rfl rfl (Nat.le_of_ble_eq_true rfl) (wx_step_1 (o := zgB g + 298) (cx_X7_step1 hJ hv)) hk hn rfl ?_
    rintro _ _ ⟨rfl, D, hD, rfl⟩
    refine z_heq (show _ = zpM g (zpT g (zHE g w) (zgB g) D) (zgB g + 286) u from zHl_M (d := D) (u := u) (w := w)) ?_
    refine z_istore (q := 579) dL_law_577 (Nat.le_of_ble_eq_true rfl) rfl rfl ?_
    refine z_aload_n (q := 580) dL_law_579 rfl rfl ?_
    refine z_aload_n (q := 581) dL_law_580 rfl rfl ?_
    refine z_iload (q := 583) dL_law_581 rfl rfl ?_
    refine z_iconst (q := 584) dL_law_583 zci_1 rfl ?_
    refine z_iaddN (q := 585) dL_law_584 rfl ?_
    refine z_sld (q := 586) dL_law_585 (by omega) (by omega) rfl ?_
    refine z_eqi e1 ?_
    refine z_V1 (q := 589) dL_law_586 zkL_137 zt_mX8_step rfl zpM_0 rfl (Nat.le_of_ble_eq_true rfl) (ct_X8_step1 hv) (Nat.zero_le _) (Nat.zero_le _) rfl ?_
    rintro _ _ ⟨rfl, U, rfl, hSU, hU0⟩
    refine z_istore (q := 591) dL_law_589 (Nat.le_of_ble_eq_true rfl) rfl rfl ?_
    refine z_aload_n (q := 592) dL_law_591 rfl rfl ?_
    refine z_v0 (q := 595) dL_law_592 zkL_106 zt_mX8_thrown rfl zpM_0 rfl (Nat.le_of_ble_eq_true rfl) (ct_X8_thrown) rfl ?_
    refine z_eqi hU0 ?_
    refine z_iload (q := 597) dL_law_595 rfl rfl ?_
    refine z_icmp_eqN (tg := 602) (q := 600) dL_law_597 rfl rfl (by omega) (by omega) ?_ ?_
    · intro hc597
      refine z_iload (q := 604) dL_law_602 rfl rfl ?_
      refine z_if_ne (tg := 619) (q := 607) dL_law_604 rfl rfl ?_ ?_
      · intro hc604
        refine z_goto (q := 0) (tg := 1804) dL_law_619 rfl ?_
        refine z_heq (zHl_M (g := g)).symm ?_
        exact kk D U _ _ _ (zJE_Sc hSU hD)
      · intro hc604
        exact absurd hc604 (by decide)
    · intro hc597
      exact absurd hc597 (by decide)
  | true =>
    obtain ⟨a, ha1, ha2, rfl⟩ := qBt_t hv (by decide) (by decide)
    refine z_aload_n (q := 567) dL_law_566 rfl rfl ?_
    refine z_aload_n (q := 568) dL_law_567 rfl rfl ?_
    refine z_iload (q := 570) dL_law_568 rfl rfl ?_
    refine z_iconst (q := 571) dL_law_570 zci_1 rfl ?_
    refine z_iaddN (q := 572) dL_law_571 rfl ?_
    refine z_sld (q := 573) dL_law_572 (by omega) (by omega) rfl ?_
    refine z_eqi e1 ?_
    refine z_aload_n (q := 574) dL_law_573 rfl rfl ?_
    refine z_cSW (q := 577) (av := [.ref (zgB g), .int (nI a), .ref (zgB g + 298)]) dL_law_574 zlw_step zcw_step zdL zt_mL_step zcn_step rfl rfl (Nat.le_of_ble_eq_true rfl) (wr_step (Or.inr (by omega)) zHl_o (ct_X7_step0 hJ hc9 hc14 ha1 ha2)) hk hn rfl ?_
    rintro _ _ ⟨rfl, D, hD, rfl⟩
    refine z_heq ((congrArg (fun H => zpT g H (zgB g) D) zHl_w).trans (zHl_M (d := D) (u := u))) ?_
    refine z_istore (q := 579) dL_law_577 (Nat.le_of_ble_eq_true rfl) rfl rfl ?_
    refine z_aload_n (q := 580) dL_law_579 rfl rfl ?_
    refine z_aload_n (q := 581) dL_law_580 rfl rfl ?_
    refine z_iload (q := 583) dL_law_581 rfl rfl ?_
    refine z_iconst (q := 584) dL_law_583 zci_1 rfl ?_
    refine z_iaddN (q := 585) dL_law_584 rfl ?_
    refine z_sld (q := 586) dL_law_585 (by omega) (by omega) rfl ?_
    refine z_eqi e1 ?_
    refine z_V1 (q := 589) dL_law_586 zkL_137 zt_mX8_step rfl zpM_0 rfl (Nat.le_of_ble_eq_true rfl) (ct_X8_step0 f0 hn6 f1 hK8 hc9 hc14 ha1 ha2) (Nat.zero_le _) (Nat.zero_le _) rfl ?_
    rintro _ _ ⟨rfl, U, rfl, hSU, hU0⟩
    refine z_istore (q := 591) dL_law_589 (Nat.le_of_ble_eq_true rfl) rfl rfl ?_
    refine z_aload_n (q := 592) dL_law_591 rfl rfl ?_
    refine z_v0 (q := 595) dL_law_592 zkL_106 zt_mX8_thrown rfl zpM_0 rfl (Nat.le_of_ble_eq_true rfl) (ct_X8_thrown) rfl ?_
    refine z_eqi hU0 ?_
    refine z_iload (q := 597) dL_law_595 rfl rfl ?_
    refine z_icmp_eqN (tg := 602) (q := 600) dL_law_597 rfl rfl (by omega) (by omega) ?_ ?_
    · intro hc597
      refine z_iload (q := 604) dL_law_602 rfl rfl ?_
      refine z_if_ne (tg := 619) (q := 607) dL_law_604 rfl rfl ?_ ?_
      · intro hc604
        exact absurd hc604 (by decide)
      · intro hc604
        refine z_aload_n (q := 608) dL_law_607 rfl rfl ?_
        refine z_iconst (q := 609) dL_law_608 zci_0 rfl ?_
        refine z_lald (q := 610) dL_law_609 zMl_o (by omega) (by omega) rfl ?_
        refine z_iload (q := 612) dL_law_610 rfl rfl ?_
        refine z_i2l (q := 613) dL_law_612 rfl rfl ?_
        refine z_lcmp (q := 614) dL_law_613 rfl ?_
        refine z_eqi (show lg_cmp (va_up w 0 _ 0) _ = nI 0 by rw [zu_eq, cmp_0]) ?_
        refine z_if_eq (tg := 619) (q := 617) dL_law_614 rfl rfl ?_ ?_
        · intro hc614
          refine z_goto (q := 0) (tg := 1804) dL_law_619 rfl ?_
          refine z_heq (zHl_M (g := g)).symm ?_
          exact kk D U _ _ _ (zJE_Sc hSU hD)
        · intro hc614
          exact absurd hc614 (by decide)
    · intro hc597
      exact absurd hc597 (by decide)
theorem zlw_setRange : Cond.methodLink RL 138 mL_setRange.1 ∈ zTb := List.mem_filter.mpr ⟨List.mem_append_right _ (List.mem_of_getElem? (i := 651) (by decide +kernel)), by decide +kernel⟩
theorem zcw_setRange : Cond.codeWith mL_setRange.1 mL_setRange.2.1 mL_setRange.2.2.1 mL_setRange.2.2.2.1 [(0, 10, 13, 28), (0, 10, 17, 13)] ∈ zTb := List.mem_filter.mpr ⟨List.mem_append_right _ (List.mem_of_getElem? (i := 653) (by decide +kernel)), by decide +kernel⟩
theorem zcn_setRange : mL_setRange.1.cls ≠ "java/lang/invoke/MethodHandle" ∧ mL_setRange.1.cls ≠ "java/lang/invoke/VarHandle" ∧ (parseMethodDescriptor mL_setRange.1.desc).map (fun d => d.parameters.length) = some 4 := ⟨by decide +kernel, by decide +kernel, by decide +kernel⟩
set_option maxRecDepth 100000 in
set_option maxHeartbeats 4000000 in
theorem op_setRange {g : zGl} {nm : String} {b0 L : Nat} {xs : Nat → Int32} {k n i : Nat} {d u : Nat → Nat → Int32} {w : Nat → Int64} {l5 l6 : Option Value} (hi : i + 4 ≤ L) (hL : L ≤ 2048) (hk : 1 ≤ k) (hn : 6 ≤ n) (hJE : zJE d u) (kk : ∀ (d u : Nat → Nat → Int32) (w : Nat → Int64) (l5 l6 : Option Value), zJE d u → zA g (zZl g nm b0 L xs) (k - 1) (n - 6) 1804 [some (.ref b0), some (.ref (zgB g)), some (.ref (zgB g + 286)), some (.ref (zgB g + 298)), some (.int (nI i)), l5, l6] [] (zHl g d u w)) : zA g (zZl g nm b0 L xs) k n 622 [some (.ref b0), some (.ref (zgB g)), some (.ref (zgB g + 286)), some (.ref (zgB g + 298)), some (.int (nI i)), l5, l6] [] (zHl g d u w) := by
  obtain ⟨n0, K, hJ⟩ := hJE
  have hR := hJ.1
  have hn6 := zR_n6 hR
  have hK8 := zR_K8 hR
  have f0 := zR_f0 hR
  have f1 := zR_f1 hR
  obtain ⟨Lt, hLt, -, hLs, -⟩ := id hJ.2.1
  obtain ⟨-, c, -, hc14, -, -, hc9, -⟩ := id hJ.2.2.1
  refine z_heq (show zHl g d u w = zpT g (zpM g (zHE g w) (zgB g + 286) u) (zgB g) d from rfl) ?_
  obtain ⟨x1, e1⟩ : ∃ x, xs (i + 1) = x := ⟨_, rfl⟩
  obtain ⟨x2, e2⟩ : ∃ x, xs (i + 2) = x := ⟨_, rfl⟩
  cases hv : qHas x1 n0 with
  | false =>
    refine z_aload_n (q := 623) dL_law_622 rfl rfl ?_
    refine z_aload_n (q := 624) dL_law_623 rfl rfl ?_
    refine z_iload (q := 626) dL_law_624 rfl rfl ?_
    refine z_iconst (q := 627) dL_law_626 zci_1 rfl ?_
    refine z_iaddN (q := 628) dL_law_627 rfl ?_
    refine z_sld (q := 629) dL_law_628 (by omega) (by omega) rfl ?_
    refine z_eqi e1 ?_
    refine z_aload_n (q := 630) dL_law_629 rfl rfl ?_
    refine z_iload (q := 632) dL_law_630 rfl rfl ?_
    refine z_iconst (q := 633) dL_law_632 zci_2 rfl ?_
    refine z_iaddN (q := 634) dL_law_633 rfl ?_
    refine z_sld (q := 635) dL_law_634 (by omega) (by omega) rfl ?_
    refine z_eqi e2 ?_
    refine z_aload_n (q := 636) dL_law_635 rfl rfl ?_
    refine z_cSW (q := 639) (av := [.ref (zgB g), .int x1, .int x2, .ref (zgB g + 298)]) dL_law_636 zlw_setRange zcw_setRange zdL zt_mL_setRange zcn_setRange rfl rfl (Nat.le_of_ble_eq_true rfl) (wx_setRange_1 (o := zgB g + 298) (cx_X7_setRange1 hJ hv)) hk hn rfl ?_
    rintro _ _ ⟨rfl, D, hD, rfl⟩
    refine z_heq (show _ = zpM g (zpT g (zHE g w) (zgB g) D) (zgB g + 286) u from zHl_M (d := D) (u := u) (w := w)) ?_
    refine z_istore (q := 641) dL_law_639 (Nat.le_of_ble_eq_true rfl) rfl rfl ?_
    refine z_aload_n (q := 642) dL_law_641 rfl rfl ?_
    refine z_aload_n (q := 643) dL_law_642 rfl rfl ?_
    refine z_iload (q := 645) dL_law_643 rfl rfl ?_
    refine z_iconst (q := 646) dL_law_645 zci_1 rfl ?_
    refine z_iaddN (q := 647) dL_law_646 rfl ?_
    refine z_sld (q := 648) dL_law_647 (by omega) (by omega) rfl ?_
    refine z_eqi e1 ?_
    refine z_aload_n (q := 649) dL_law_648 rfl rfl ?_
    refine z_iload (q := 651) dL_law_649 rfl rfl ?_
    refine z_iconst (q := 652) dL_law_651 zci_2 rfl ?_
    refine z_iaddN (q := 653) dL_law_652 rfl ?_
    refine z_sld (q := 654) dL_law_653 (by omega) (by omega) rfl ?_
    refine z_eqi e2 ?_
    refine z_V2 (q := 657) dL_law_654 zkL_140 zt_mX8_setRange rfl zpM_0 rfl (Nat.le_of_ble_eq_true rfl) (ct_X8_setRange1 f0 hn6 hv) (Nat.zero_le _) (Nat.zero_le _) rfl ?_
    rintro _ _ ⟨rfl, U, rfl, hSU, hU0⟩
    refine z_istore (q := 659) dL_law_657 (Nat.le_of_ble_eq_true rfl) rfl rfl ?_
    refine z_aload_n (q := 660) dL_law_659 rfl rfl ?_
    refine z_v0 (q := 663) dL_law_660 zkL_106 zt_mX8_thrown rfl zpM_0 rfl (Nat.le_of_ble_eq_true rfl) (ct_X8_thrown) rfl ?_
    refine z_eqi hU0 ?_
    refine z_iload (q := 665) dL_law_663 rfl rfl ?_
    refine z_icmp_eqN (tg := 670) (q := 668) dL_law_665 rfl rfl (by omega) (by omega) ?_ ?_
    · intro hc665
      refine z_iload (q := 672) dL_law_670 rfl rfl ?_
      refine z_if_ne (tg := 687) (q := 675) dL_law_672 rfl rfl ?_ ?_
      · intro hc672
        refine z_goto (q := 0) (tg := 1804) dL_law_687 rfl ?_
        refine z_heq (zHl_M (g := g)).symm ?_
        exact kk D U _ _ _ (zJE_Sc hSU hD)
      · intro hc672
        exact absurd hc672 (by decide)
    · intro hc665
      exact absurd hc665 (by decide)
  | true =>
    cases hv2 : qBt x2 0 22 with
    | false =>
      refine z_aload_n (q := 623) dL_law_622 rfl rfl ?_
      refine z_aload_n (q := 624) dL_law_623 rfl rfl ?_
      refine z_iload (q := 626) dL_law_624 rfl rfl ?_
      refine z_iconst (q := 627) dL_law_626 zci_1 rfl ?_
      refine z_iaddN (q := 628) dL_law_627 rfl ?_
      refine z_sld (q := 629) dL_law_628 (by omega) (by omega) rfl ?_
      refine z_eqi e1 ?_
      refine z_aload_n (q := 630) dL_law_629 rfl rfl ?_
      refine z_iload (q := 632) dL_law_630 rfl rfl ?_
      refine z_iconst (q := 633) dL_law_632 zci_2 rfl ?_
      refine z_iaddN (q := 634) dL_law_633 rfl ?_
      refine z_sld (q := 635) dL_law_634 (by omega) (by omega) rfl ?_
      refine z_eqi e2 ?_
      refine z_aload_n (q := 636) dL_law_635 rfl rfl ?_
      refine z_cSW (q := 639) (av := [.ref (zgB g), .int x1, .int x2, .ref (zgB g + 298)]) dL_law_636 zlw_setRange zcw_setRange zdL zt_mL_setRange zcn_setRange rfl rfl (Nat.le_of_ble_eq_true rfl) (wx_setRange_2 (o := zgB g + 298) (cx_X7_setRange2 hJ hv hv2)) hk hn rfl ?_
      rintro _ _ ⟨rfl, D, hD, rfl⟩
      refine z_heq (show _ = zpM g (zpT g (zHE g w) (zgB g) D) (zgB g + 286) u from zHl_M (d := D) (u := u) (w := w)) ?_
      refine z_istore (q := 641) dL_law_639 (Nat.le_of_ble_eq_true rfl) rfl rfl ?_
      refine z_aload_n (q := 642) dL_law_641 rfl rfl ?_
      refine z_aload_n (q := 643) dL_law_642 rfl rfl ?_
      refine z_iload (q := 645) dL_law_643 rfl rfl ?_
      refine z_iconst (q := 646) dL_law_645 zci_1 rfl ?_
      refine z_iaddN (q := 647) dL_law_646 rfl ?_
      refine z_sld (q := 648) dL_law_647 (by omega) (by omega) rfl ?_
      refine z_eqi e1 ?_
      refine z_aload_n (q := 649) dL_law_648 rfl rfl ?_
      refine z_iload (q := 651) dL_law_649 rfl rfl ?_
      refine z_iconst (q := 652) dL_law_651 zci_2 rfl ?_
      refine z_iaddN (q := 653) dL_law_652 rfl ?_
      refine z_sld (q := 654) dL_law_653 (by omega) (by omega) rfl ?_
      refine z_eqi e2 ?_
      refine z_V2 (q := 657) dL_law_654 zkL_140 zt_mX8_setRange rfl zpM_0 rfl (Nat.le_of_ble_eq_true rfl) (ct_X8_setRange2 f0 hn6 hv hv2) (Nat.zero_le _) (Nat.zero_le _) rfl ?_
      rintro _ _ ⟨rfl, U, rfl, hSU, hU0⟩
      refine z_istore (q := 659) dL_law_657 (Nat.le_of_ble_eq_true rfl) rfl rfl ?_
      refine z_aload_n (q := 660) dL_law_659 rfl rfl ?_
      refine z_v0 (q := 663) dL_law_660 zkL_106 zt_mX8_thrown rfl zpM_0 rfl (Nat.le_of_ble_eq_true rfl) (ct_X8_thrown) rfl ?_
      refine z_eqi hU0 ?_
      refine z_iload (q := 665) dL_law_663 rfl rfl ?_
      refine z_icmp_eqN (tg := 670) (q := 668) dL_law_665 rfl rfl (by omega) (by omega) ?_ ?_
      · intro hc665
        refine z_iload (q := 672) dL_law_670 rfl rfl ?_
        refine z_if_ne (tg := 687) (q := 675) dL_law_672 rfl rfl ?_ ?_
        · intro hc672
          refine z_goto (q := 0) (tg := 1804) dL_law_687 rfl ?_
          refine z_heq (zHl_M (g := g)).symm ?_
          exact kk D U _ _ _ (zJE_Sc hSU hD)
        · intro hc672
          exact absurd hc672 (by decide)
      · intro hc665
        exact absurd hc665 (by decide)
    | true =>
      obtain ⟨a, ha, rfl⟩ := qHas_t hv (by omega)
      refine z_aload_n (q := 623) dL_law_622 rfl rfl ?_
      refine z_aload_n (q := 624) dL_law_623 rfl rfl ?_
      refine z_iload (q := 626) dL_law_624 rfl rfl ?_
      refine z_iconst (q := 627) dL_law_626 zci_1 rfl ?_
      refine z_iaddN (q := 628) dL_law_627 rfl ?_
      refine z_sld (q := 629) dL_law_628 (by omega) (by omega) rfl ?_
      refine z_eqi e1 ?_
      refine z_aload_n (q := 630) dL_law_629 rfl rfl ?_
      refine z_iload (q := 632) dL_law_630 rfl rfl ?_
      refine z_iconst (q := 633) dL_law_632 zci_2 rfl ?_
      refine z_iaddN (q := 634) dL_law_633 rfl ?_
      refine z_sld (q := 635) dL_law_634 (by omega) (by omega) rfl ?_
      refine z_eqi e2 ?_
      refine z_aload_n (q := 636) dL_law_635 rfl rfl ?_
      refine z_cSW (q := 639) (av := [.ref (zgB g), .int (nI a), .int x2, .ref (zgB g + 298)]) dL_law_636 zlw_setRange zcw_setRange zdL zt_mL_setRange zcn_setRange rfl rfl (Nat.le_of_ble_eq_true rfl) (wr_setRange (Or.inr (by omega)) zHl_o (ct_X7_setRange0 hJ hc9 hc14 ha hv2)) hk hn rfl ?_
      rintro _ _ ⟨rfl, D, hD, rfl⟩
      refine z_heq ((congrArg (fun H => zpT g H (zgB g) D) zHl_w).trans (zHl_M (d := D) (u := u))) ?_
      refine z_istore (q := 641) dL_law_639 (Nat.le_of_ble_eq_true rfl) rfl rfl ?_
      refine z_aload_n (q := 642) dL_law_641 rfl rfl ?_
      refine z_aload_n (q := 643) dL_law_642 rfl rfl ?_
      refine z_iload (q := 645) dL_law_643 rfl rfl ?_
      refine z_iconst (q := 646) dL_law_645 zci_1 rfl ?_
      refine z_iaddN (q := 647) dL_law_646 rfl ?_
      refine z_sld (q := 648) dL_law_647 (by omega) (by omega) rfl ?_
      refine z_eqi e1 ?_
      refine z_aload_n (q := 649) dL_law_648 rfl rfl ?_
      refine z_iload (q := 651) dL_law_649 rfl rfl ?_
      refine z_iconst (q := 652) dL_law_651 zci_2 rfl ?_
      refine z_iaddN (q := 653) dL_law_652 rfl ?_
      refine z_sld (q := 654) dL_law_653 (by omega) (by omega) rfl ?_
      refine z_eqi e2 ?_
      refine z_V2 (q := 657) dL_law_654 zkL_140 zt_mX8_setRange rfl zpM_0 rfl (Nat.le_of_ble_eq_true rfl) (ct_X8_setRange0 f0 hn6 hc9 hc14 ha hv2) (Nat.zero_le _) (Nat.zero_le _) rfl ?_
      rintro _ _ ⟨rfl, U, rfl, hSU, hU0⟩
      refine z_istore (q := 659) dL_law_657 (Nat.le_of_ble_eq_true rfl) rfl rfl ?_
      refine z_aload_n (q := 660) dL_law_659 rfl rfl ?_
      refine z_v0 (q := 663) dL_law_660 zkL_106 zt_mX8_thrown rfl zpM_0 rfl (Nat.le_of_ble_eq_true rfl) (ct_X8_thrown) rfl ?_
      refine z_eqi hU0 ?_
      refine z_iload (q := 665) dL_law_663 rfl rfl ?_
      refine z_icmp_eqN (tg := 670) (q := 668) dL_law_665 rfl rfl (by omega) (by omega) ?_ ?_
      · intro hc665
        refine z_iload (q := 672) dL_law_670 rfl rfl ?_
        refine z_if_ne (tg := 687) (q := 675) dL_law_672 rfl rfl ?_ ?_
        · intro hc672
          exact absurd hc672 (by decide)
        · intro hc672
          refine z_aload_n (q := 676) dL_law_675 rfl rfl ?_
          refine z_iconst (q := 677) dL_law_676 zci_0 rfl ?_
          refine z_lald (q := 678) dL_law_677 zMl_o (by omega) (by omega) rfl ?_
          refine z_iload (q := 680) dL_law_678 rfl rfl ?_
          refine z_i2l (q := 681) dL_law_680 rfl rfl ?_
          refine z_lcmp (q := 682) dL_law_681 rfl ?_
          refine z_eqi (show lg_cmp (va_up w 0 _ 0) _ = nI 0 by rw [zu_eq, cmp_0]) ?_
          refine z_if_eq (tg := 687) (q := 685) dL_law_682 rfl rfl ?_ ?_
          · intro hc682
            refine z_goto (q := 0) (tg := 1804) dL_law_687 rfl ?_
            refine z_heq (zHl_M (g := g)).symm ?_
            exact kk D U _ _ _ (zJE_Sc hSU hD)
          · intro hc682
            exact absurd hc682 (by decide)
      · intro hc665
        exact absurd hc665 (by decide)
theorem zlw_put : Cond.methodLink RL 141 mL_put.1 ∈ zTb := List.mem_filter.mpr ⟨List.mem_append_right _ (List.mem_of_getElem? (i := 658) (by decide +kernel)), by decide +kernel⟩
theorem zcw_put : Cond.codeWith mL_put.1 mL_put.2.1 mL_put.2.2.1 mL_put.2.2.2.1 [(0, 12, 15, 28), (0, 12, 19, 13)] ∈ zTb := List.mem_filter.mpr ⟨List.mem_append_right _ (List.mem_of_getElem? (i := 660) (by decide +kernel)), by decide +kernel⟩
theorem zcn_put : mL_put.1.cls ≠ "java/lang/invoke/MethodHandle" ∧ mL_put.1.cls ≠ "java/lang/invoke/VarHandle" ∧ (parseMethodDescriptor mL_put.1.desc).map (fun d => d.parameters.length) = some 5 := ⟨by decide +kernel, by decide +kernel, by decide +kernel⟩
set_option maxRecDepth 100000 in
set_option maxHeartbeats 4000000 in
theorem op_put {g : zGl} {nm : String} {b0 L : Nat} {xs : Nat → Int32} {k n i : Nat} {d u : Nat → Nat → Int32} {w : Nat → Int64} {l5 l6 : Option Value} (hi : i + 4 ≤ L) (hL : L ≤ 2048) (hk : 1 ≤ k) (hn : 6 ≤ n) (hJE : zJE d u) (kk : ∀ (d u : Nat → Nat → Int32) (w : Nat → Int64) (l5 l6 : Option Value), zJE d u → zA g (zZl g nm b0 L xs) (k - 1) (n - 6) 1804 [some (.ref b0), some (.ref (zgB g)), some (.ref (zgB g + 286)), some (.ref (zgB g + 298)), some (.int (nI i)), l5, l6] [] (zHl g d u w)) : zA g (zZl g nm b0 L xs) k n 690 [some (.ref b0), some (.ref (zgB g)), some (.ref (zgB g + 286)), some (.ref (zgB g + 298)), some (.int (nI i)), l5, l6] [] (zHl g d u w) := by
  obtain ⟨n0, K, hJ⟩ := hJE
  have hR := hJ.1
  have hn6 := zR_n6 hR
  have hK8 := zR_K8 hR
  have f0 := zR_f0 hR
  have f1 := zR_f1 hR
  obtain ⟨Lt, hLt, -, hLs, -⟩ := id hJ.2.1
  obtain ⟨-, c, -, hc14, -, -, hc9, -⟩ := id hJ.2.2.1
  refine z_heq (show zHl g d u w = zpT g (zpM g (zHE g w) (zgB g + 286) u) (zgB g) d from rfl) ?_
  obtain ⟨x1, e1⟩ : ∃ x, xs (i + 1) = x := ⟨_, rfl⟩
  obtain ⟨x2, e2⟩ : ∃ x, xs (i + 2) = x := ⟨_, rfl⟩
  obtain ⟨x3, e3⟩ : ∃ x, xs (i + 3) = x := ⟨_, rfl⟩
  cases hv : qHas x1 n0 with
  | false =>
    refine z_aload_n (q := 691) dL_law_690 rfl rfl ?_
    refine z_aload_n (q := 692) dL_law_691 rfl rfl ?_
    refine z_iload (q := 694) dL_law_692 rfl rfl ?_
    refine z_iconst (q := 695) dL_law_694 zci_1 rfl ?_
    refine z_iaddN (q := 696) dL_law_695 rfl ?_
    refine z_sld (q := 697) dL_law_696 (by omega) (by omega) rfl ?_
    refine z_eqi e1 ?_
    refine z_aload_n (q := 698) dL_law_697 rfl rfl ?_
    refine z_iload (q := 700) dL_law_698 rfl rfl ?_
    refine z_iconst (q := 701) dL_law_700 zci_2 rfl ?_
    refine z_iaddN (q := 702) dL_law_701 rfl ?_
    refine z_sld (q := 703) dL_law_702 (by omega) (by omega) rfl ?_
    refine z_eqi e2 ?_
    refine z_aload_n (q := 704) dL_law_703 rfl rfl ?_
    refine z_iload (q := 706) dL_law_704 rfl rfl ?_
    refine z_iconst (q := 707) dL_law_706 zci_3 rfl ?_
    refine z_iaddN (q := 708) dL_law_707 rfl ?_
    refine z_sld (q := 709) dL_law_708 (by omega) (by omega) rfl ?_
    refine z_eqi e3 ?_
    refine z_aload_n (q := 710) dL_law_709 rfl rfl ?_
    refine z_cSW (q := 713) (av := [.ref (zgB g), .int x1, .int x2, .int x3, .ref (zgB g + 298)]) dL_law_710 zlw_put zcw_put zdL zt_mL_put zcn_put rfl rfl (Nat.le_of_ble_eq_true rfl) (wx_put_1 (o := zgB g + 298) (cx_X7_put1 hJ hv)) hk hn rfl ?_
    rintro _ _ ⟨rfl, D, hD, rfl⟩
    refine z_heq (show _ = zpM g (zpT g (zHE g w) (zgB g) D) (zgB g + 286) u from zHl_M (d := D) (u := u) (w := w)) ?_
    refine z_istore (q := 715) dL_law_713 (Nat.le_of_ble_eq_true rfl) rfl rfl ?_
    refine z_aload_n (q := 716) dL_law_715 rfl rfl ?_
    refine z_aload_n (q := 717) dL_law_716 rfl rfl ?_
    refine z_iload (q := 719) dL_law_717 rfl rfl ?_
    refine z_iconst (q := 720) dL_law_719 zci_1 rfl ?_
    refine z_iaddN (q := 721) dL_law_720 rfl ?_
    refine z_sld (q := 722) dL_law_721 (by omega) (by omega) rfl ?_
    refine z_eqi e1 ?_
    refine z_aload_n (q := 723) dL_law_722 rfl rfl ?_
    refine z_iload (q := 725) dL_law_723 rfl rfl ?_
    refine z_iconst (q := 726) dL_law_725 zci_2 rfl ?_
    refine z_iaddN (q := 727) dL_law_726 rfl ?_
    refine z_sld (q := 728) dL_law_727 (by omega) (by omega) rfl ?_
    refine z_eqi e2 ?_
    refine z_aload_n (q := 729) dL_law_728 rfl rfl ?_
    refine z_iload (q := 731) dL_law_729 rfl rfl ?_
    refine z_iconst (q := 732) dL_law_731 zci_3 rfl ?_
    refine z_iaddN (q := 733) dL_law_732 rfl ?_
    refine z_sld (q := 734) dL_law_733 (by omega) (by omega) rfl ?_
    refine z_eqi e3 ?_
    refine z_V3 (q := 737) dL_law_734 zkL_143 zt_mX8_put rfl zpM_0 rfl (Nat.le_of_ble_eq_true rfl) (ct_X8_put1 f0 hn6 hv) (Nat.zero_le _) (Nat.zero_le _) rfl ?_
    rintro _ _ ⟨rfl, U, rfl, hSU, hU0⟩
    refine z_istore (q := 739) dL_law_737 (Nat.le_of_ble_eq_true rfl) rfl rfl ?_
    refine z_aload_n (q := 740) dL_law_739 rfl rfl ?_
    refine z_v0 (q := 743) dL_law_740 zkL_106 zt_mX8_thrown rfl zpM_0 rfl (Nat.le_of_ble_eq_true rfl) (ct_X8_thrown) rfl ?_
    refine z_eqi hU0 ?_
    refine z_iload (q := 745) dL_law_743 rfl rfl ?_
    refine z_icmp_eqN (tg := 750) (q := 748) dL_law_745 rfl rfl (by omega) (by omega) ?_ ?_
    · intro hc745
      refine z_iload (q := 752) dL_law_750 rfl rfl ?_
      refine z_if_ne (tg := 767) (q := 755) dL_law_752 rfl rfl ?_ ?_
      · intro hc752
        refine z_goto (q := 0) (tg := 1804) dL_law_767 rfl ?_
        refine z_heq (zHl_M (g := g)).symm ?_
        exact kk D U _ _ _ (zJE_Sc hSU hD)
      · intro hc752
        exact absurd hc752 (by decide)
    · intro hc745
      exact absurd hc745 (by decide)
  | true =>
    cases hv2 : (qBt x2 0 11 && qBt x3 0 11) with
    | false =>
      refine z_aload_n (q := 691) dL_law_690 rfl rfl ?_
      refine z_aload_n (q := 692) dL_law_691 rfl rfl ?_
      refine z_iload (q := 694) dL_law_692 rfl rfl ?_
      refine z_iconst (q := 695) dL_law_694 zci_1 rfl ?_
      refine z_iaddN (q := 696) dL_law_695 rfl ?_
      refine z_sld (q := 697) dL_law_696 (by omega) (by omega) rfl ?_
      refine z_eqi e1 ?_
      refine z_aload_n (q := 698) dL_law_697 rfl rfl ?_
      refine z_iload (q := 700) dL_law_698 rfl rfl ?_
      refine z_iconst (q := 701) dL_law_700 zci_2 rfl ?_
      refine z_iaddN (q := 702) dL_law_701 rfl ?_
      refine z_sld (q := 703) dL_law_702 (by omega) (by omega) rfl ?_
      refine z_eqi e2 ?_
      refine z_aload_n (q := 704) dL_law_703 rfl rfl ?_
      refine z_iload (q := 706) dL_law_704 rfl rfl ?_
      refine z_iconst (q := 707) dL_law_706 zci_3 rfl ?_
      refine z_iaddN (q := 708) dL_law_707 rfl ?_
      refine z_sld (q := 709) dL_law_708 (by omega) (by omega) rfl ?_
      refine z_eqi e3 ?_
      refine z_aload_n (q := 710) dL_law_709 rfl rfl ?_
      refine z_cSW (q := 713) (av := [.ref (zgB g), .int x1, .int x2, .int x3, .ref (zgB g + 298)]) dL_law_710 zlw_put zcw_put zdL zt_mL_put zcn_put rfl rfl (Nat.le_of_ble_eq_true rfl) (wx_put_2 (o := zgB g + 298) (cx_X7_put2 hJ hv hv2)) hk hn rfl ?_
      rintro _ _ ⟨rfl, D, hD, rfl⟩
      refine z_heq (show _ = zpM g (zpT g (zHE g w) (zgB g) D) (zgB g + 286) u from zHl_M (d := D) (u := u) (w := w)) ?_
      refine z_istore (q := 715) dL_law_713 (Nat.le_of_ble_eq_true rfl) rfl rfl ?_
      refine z_aload_n (q := 716) dL_law_715 rfl rfl ?_
      refine z_aload_n (q := 717) dL_law_716 rfl rfl ?_
      refine z_iload (q := 719) dL_law_717 rfl rfl ?_
      refine z_iconst (q := 720) dL_law_719 zci_1 rfl ?_
      refine z_iaddN (q := 721) dL_law_720 rfl ?_
      refine z_sld (q := 722) dL_law_721 (by omega) (by omega) rfl ?_
      refine z_eqi e1 ?_
      refine z_aload_n (q := 723) dL_law_722 rfl rfl ?_
      refine z_iload (q := 725) dL_law_723 rfl rfl ?_
      refine z_iconst (q := 726) dL_law_725 zci_2 rfl ?_
      refine z_iaddN (q := 727) dL_law_726 rfl ?_
      refine z_sld (q := 728) dL_law_727 (by omega) (by omega) rfl ?_
      refine z_eqi e2 ?_
      refine z_aload_n (q := 729) dL_law_728 rfl rfl ?_
      refine z_iload (q := 731) dL_law_729 rfl rfl ?_
      refine z_iconst (q := 732) dL_law_731 zci_3 rfl ?_
      refine z_iaddN (q := 733) dL_law_732 rfl ?_
      refine z_sld (q := 734) dL_law_733 (by omega) (by omega) rfl ?_
      refine z_eqi e3 ?_
      refine z_V3 (q := 737) dL_law_734 zkL_143 zt_mX8_put rfl zpM_0 rfl (Nat.le_of_ble_eq_true rfl) (ct_X8_put2 f0 hn6 hv hv2) (Nat.zero_le _) (Nat.zero_le _) rfl ?_
      rintro _ _ ⟨rfl, U, rfl, hSU, hU0⟩
      refine z_istore (q := 739) dL_law_737 (Nat.le_of_ble_eq_true rfl) rfl rfl ?_
      refine z_aload_n (q := 740) dL_law_739 rfl rfl ?_
      refine z_v0 (q := 743) dL_law_740 zkL_106 zt_mX8_thrown rfl zpM_0 rfl (Nat.le_of_ble_eq_true rfl) (ct_X8_thrown) rfl ?_
      refine z_eqi hU0 ?_
      refine z_iload (q := 745) dL_law_743 rfl rfl ?_
      refine z_icmp_eqN (tg := 750) (q := 748) dL_law_745 rfl rfl (by omega) (by omega) ?_ ?_
      · intro hc745
        refine z_iload (q := 752) dL_law_750 rfl rfl ?_
        refine z_if_ne (tg := 767) (q := 755) dL_law_752 rfl rfl ?_ ?_
        · intro hc752
          refine z_goto (q := 0) (tg := 1804) dL_law_767 rfl ?_
          refine z_heq (zHl_M (g := g)).symm ?_
          exact kk D U _ _ _ (zJE_Sc hSU hD)
        · intro hc752
          exact absurd hc752 (by decide)
      · intro hc745
        exact absurd hc745 (by decide)
    | true =>
      obtain ⟨a, ha, rfl⟩ := qHas_t hv (by omega)
      refine z_aload_n (q := 691) dL_law_690 rfl rfl ?_
      refine z_aload_n (q := 692) dL_law_691 rfl rfl ?_
      refine z_iload (q := 694) dL_law_692 rfl rfl ?_
      refine z_iconst (q := 695) dL_law_694 zci_1 rfl ?_
      refine z_iaddN (q := 696) dL_law_695 rfl ?_
      refine z_sld (q := 697) dL_law_696 (by omega) (by omega) rfl ?_
      refine z_eqi e1 ?_
      refine z_aload_n (q := 698) dL_law_697 rfl rfl ?_
      refine z_iload (q := 700) dL_law_698 rfl rfl ?_
      refine z_iconst (q := 701) dL_law_700 zci_2 rfl ?_
      refine z_iaddN (q := 702) dL_law_701 rfl ?_
      refine z_sld (q := 703) dL_law_702 (by omega) (by omega) rfl ?_
      refine z_eqi e2 ?_
      refine z_aload_n (q := 704) dL_law_703 rfl rfl ?_
      refine z_iload (q := 706) dL_law_704 rfl rfl ?_
      refine z_iconst (q := 707) dL_law_706 zci_3 rfl ?_
      refine z_iaddN (q := 708) dL_law_707 rfl ?_
      refine z_sld (q := 709) dL_law_708 (by omega) (by omega) rfl ?_
      refine z_eqi e3 ?_
      refine z_aload_n (q := 710) dL_law_709 rfl rfl ?_
      refine z_cSW (q := 713) (av := [.ref (zgB g), .int (nI a), .int x2, .int x3, .ref (zgB g + 298)]) dL_law_710 zlw_put zcw_put zdL zt_mL_put zcn_put rfl rfl (Nat.le_of_ble_eq_true rfl) (wr_put (Or.inr (by omega)) zHl_o (ct_X7_put0 hJ hc9 hc14 ha hv2)) hk hn rfl ?_
      rintro _ _ ⟨rfl, D, hD, rfl⟩
      refine z_heq ((congrArg (fun H => zpT g H (zgB g) D) zHl_w).trans (zHl_M (d := D) (u := u))) ?_
      refine z_istore (q := 715) dL_law_713 (Nat.le_of_ble_eq_true rfl) rfl rfl ?_
      refine z_aload_n (q := 716) dL_law_715 rfl rfl ?_
      refine z_aload_n (q := 717) dL_law_716 rfl rfl ?_
      refine z_iload (q := 719) dL_law_717 rfl rfl ?_
      refine z_iconst (q := 720) dL_law_719 zci_1 rfl ?_
      refine z_iaddN (q := 721) dL_law_720 rfl ?_
      refine z_sld (q := 722) dL_law_721 (by omega) (by omega) rfl ?_
      refine z_eqi e1 ?_
      refine z_aload_n (q := 723) dL_law_722 rfl rfl ?_
      refine z_iload (q := 725) dL_law_723 rfl rfl ?_
      refine z_iconst (q := 726) dL_law_725 zci_2 rfl ?_
      refine z_iaddN (q := 727) dL_law_726 rfl ?_
      refine z_sld (q := 728) dL_law_727 (by omega) (by omega) rfl ?_
      refine z_eqi e2 ?_
      refine z_aload_n (q := 729) dL_law_728 rfl rfl ?_
      refine z_iload (q := 731) dL_law_729 rfl rfl ?_
      refine z_iconst (q := 732) dL_law_731 zci_3 rfl ?_
      refine z_iaddN (q := 733) dL_law_732 rfl ?_
      refine z_sld (q := 734) dL_law_733 (by omega) (by omega) rfl ?_
      refine z_eqi e3 ?_
      refine z_V3 (q := 737) dL_law_734 zkL_143 zt_mX8_put rfl zpM_0 rfl (Nat.le_of_ble_eq_true rfl) (ct_X8_put0 f0 hn6 hc9 hc14 ha hv2) (Nat.zero_le _) (Nat.zero_le _) rfl ?_
      rintro _ _ ⟨rfl, U, rfl, hSU, hU0⟩
      refine z_istore (q := 739) dL_law_737 (Nat.le_of_ble_eq_true rfl) rfl rfl ?_
      refine z_aload_n (q := 740) dL_law_739 rfl rfl ?_
      refine z_v0 (q := 743) dL_law_740 zkL_106 zt_mX8_thrown rfl zpM_0 rfl (Nat.le_of_ble_eq_true rfl) (ct_X8_thrown) rfl ?_
      refine z_eqi hU0 ?_
      refine z_iload (q := 745) dL_law_743 rfl rfl ?_
      refine z_icmp_eqN (tg := 750) (q := 748) dL_law_745 rfl rfl (by omega) (by omega) ?_ ?_
      · intro hc745
        refine z_iload (q := 752) dL_law_750 rfl rfl ?_
        refine z_if_ne (tg := 767) (q := 755) dL_law_752 rfl rfl ?_ ?_
        · intro hc752
          exact absurd hc752 (by decide)
        · intro hc752
          refine z_aload_n (q := 756) dL_law_755 rfl rfl ?_
          refine z_iconst (q := 757) dL_law_756 zci_0 rfl ?_
          refine z_lald (q := 758) dL_law_757 zMl_o (by omega) (by omega) rfl ?_
          refine z_iload (q := 760) dL_law_758 rfl rfl ?_
          refine z_i2l (q := 761) dL_law_760 rfl rfl ?_
          refine z_lcmp (q := 762) dL_law_761 rfl ?_
          refine z_eqi (show lg_cmp (va_up w 0 _ 0) _ = nI 0 by rw [zu_eq, cmp_0]) ?_
          refine z_if_eq (tg := 767) (q := 765) dL_law_762 rfl rfl ?_ ?_
          · intro hc762
            refine z_goto (q := 0) (tg := 1804) dL_law_767 rfl ?_
            refine z_heq (zHl_M (g := g)).symm ?_
            exact kk D U _ _ _ (zJE_Sc hSU hD)
          · intro hc762
            exact absurd hc762 (by decide)
      · intro hc745
        exact absurd hc745 (by decide)
theorem zlw_toggle : Cond.methodLink RL 144 mL_toggle.1 ∈ zTb := List.mem_filter.mpr ⟨List.mem_append_right _ (List.mem_of_getElem? (i := 670) (by decide +kernel)), by decide +kernel⟩
theorem zcw_toggle : Cond.codeWith mL_toggle.1 mL_toggle.2.1 mL_toggle.2.2.1 mL_toggle.2.2.2.1 [(0, 9, 12, 28)] ∈ zTb := List.mem_filter.mpr ⟨List.mem_append_right _ (List.mem_of_getElem? (i := 672) (by decide +kernel)), by decide +kernel⟩
theorem zcn_toggle : mL_toggle.1.cls ≠ "java/lang/invoke/MethodHandle" ∧ mL_toggle.1.cls ≠ "java/lang/invoke/VarHandle" ∧ (parseMethodDescriptor mL_toggle.1.desc).map (fun d => d.parameters.length) = some 3 := ⟨by decide +kernel, by decide +kernel, by decide +kernel⟩
set_option maxRecDepth 100000 in
set_option maxHeartbeats 4000000 in
theorem op_toggle {g : zGl} {nm : String} {b0 L : Nat} {xs : Nat → Int32} {k n i : Nat} {d u : Nat → Nat → Int32} {w : Nat → Int64} {l5 l6 : Option Value} (hi : i + 4 ≤ L) (hL : L ≤ 2048) (hk : 1 ≤ k) (hn : 6 ≤ n) (hJE : zJE d u) (kk : ∀ (d u : Nat → Nat → Int32) (w : Nat → Int64) (l5 l6 : Option Value), zJE d u → zA g (zZl g nm b0 L xs) (k - 1) (n - 6) 1804 [some (.ref b0), some (.ref (zgB g)), some (.ref (zgB g + 286)), some (.ref (zgB g + 298)), some (.int (nI i)), l5, l6] [] (zHl g d u w)) : zA g (zZl g nm b0 L xs) k n 770 [some (.ref b0), some (.ref (zgB g)), some (.ref (zgB g + 286)), some (.ref (zgB g + 298)), some (.int (nI i)), l5, l6] [] (zHl g d u w) := by
  obtain ⟨n0, K, hJ⟩ := hJE
  have hR := hJ.1
  have hn6 := zR_n6 hR
  have hK8 := zR_K8 hR
  have f0 := zR_f0 hR
  have f1 := zR_f1 hR
  obtain ⟨Lt, hLt, -, hLs, -⟩ := id hJ.2.1
  obtain ⟨-, c, -, hc14, -, -, hc9, -⟩ := id hJ.2.2.1
  refine z_heq (show zHl g d u w = zpT g (zpM g (zHE g w) (zgB g + 286) u) (zgB g) d from rfl) ?_
  obtain ⟨x1, e1⟩ : ∃ x, xs (i + 1) = x := ⟨_, rfl⟩
  cases hv : qHas x1 n0 with
  | false =>
    refine z_aload_n (q := 771) dL_law_770 rfl rfl ?_
    refine z_aload_n (q := 772) dL_law_771 rfl rfl ?_
    refine z_iload (q := 774) dL_law_772 rfl rfl ?_
    refine z_iconst (q := 775) dL_law_774 zci_1 rfl ?_
    refine z_iaddN (q := 776) dL_law_775 rfl ?_
    refine z_sld (q := 777) dL_law_776 (by omega) (by omega) rfl ?_
    refine z_eqi e1 ?_
    refine z_aload_n (q := 778) dL_law_777 rfl rfl ?_
    refine z_cSW (q := 781) (av := [.ref (zgB g), .int x1, .ref (zgB g + 298)]) dL_law_778 zlw_toggle zcw_toggle zdL zt_mL_toggle zcn_toggle rfl rfl (Nat.le_of_ble_eq_true rfl) (wx_toggle_1 (o := zgB g + 298) (cx_X7_toggle1 hJ hv)) hk hn rfl ?_
    rintro _ _ ⟨rfl, D, hD, rfl⟩
    refine z_heq (show _ = zpM g (zpT g (zHE g w) (zgB g) D) (zgB g + 286) u from zHl_M (d := D) (u := u) (w := w)) ?_
    refine z_istore (q := 783) dL_law_781 (Nat.le_of_ble_eq_true rfl) rfl rfl ?_
    refine z_aload_n (q := 784) dL_law_783 rfl rfl ?_
    refine z_aload_n (q := 785) dL_law_784 rfl rfl ?_
    refine z_iload (q := 787) dL_law_785 rfl rfl ?_
    refine z_iconst (q := 788) dL_law_787 zci_1 rfl ?_
    refine z_iaddN (q := 789) dL_law_788 rfl ?_
    refine z_sld (q := 790) dL_law_789 (by omega) (by omega) rfl ?_
    refine z_eqi e1 ?_
    refine z_V1 (q := 793) dL_law_790 zkL_146 zt_mX8_toggle rfl zpM_0 rfl (Nat.le_of_ble_eq_true rfl) (ct_X8_toggle1 f0 hn6 hv) (Nat.zero_le _) (Nat.zero_le _) rfl ?_
    rintro _ _ ⟨rfl, U, rfl, hSU, hU0⟩
    refine z_istore (q := 795) dL_law_793 (Nat.le_of_ble_eq_true rfl) rfl rfl ?_
    refine z_aload_n (q := 796) dL_law_795 rfl rfl ?_
    refine z_v0 (q := 799) dL_law_796 zkL_106 zt_mX8_thrown rfl zpM_0 rfl (Nat.le_of_ble_eq_true rfl) (ct_X8_thrown) rfl ?_
    refine z_eqi hU0 ?_
    refine z_iload (q := 801) dL_law_799 rfl rfl ?_
    refine z_icmp_eqN (tg := 806) (q := 804) dL_law_801 rfl rfl (by omega) (by omega) ?_ ?_
    · intro hc801
      refine z_iload (q := 808) dL_law_806 rfl rfl ?_
      refine z_if_ne (tg := 823) (q := 811) dL_law_808 rfl rfl ?_ ?_
      · intro hc808
        refine z_goto (q := 0) (tg := 1804) dL_law_823 rfl ?_
        refine z_heq (zHl_M (g := g)).symm ?_
        exact kk D U _ _ _ (zJE_Sc hSU hD)
      · intro hc808
        exact absurd hc808 (by decide)
    · intro hc801
      exact absurd hc801 (by decide)
  | true =>
    obtain ⟨a, ha, rfl⟩ := qHas_t hv (by omega)
    refine z_aload_n (q := 771) dL_law_770 rfl rfl ?_
    refine z_aload_n (q := 772) dL_law_771 rfl rfl ?_
    refine z_iload (q := 774) dL_law_772 rfl rfl ?_
    refine z_iconst (q := 775) dL_law_774 zci_1 rfl ?_
    refine z_iaddN (q := 776) dL_law_775 rfl ?_
    refine z_sld (q := 777) dL_law_776 (by omega) (by omega) rfl ?_
    refine z_eqi e1 ?_
    refine z_aload_n (q := 778) dL_law_777 rfl rfl ?_
    refine z_cSW (q := 781) (av := [.ref (zgB g), .int (nI a), .ref (zgB g + 298)]) dL_law_778 zlw_toggle zcw_toggle zdL zt_mL_toggle zcn_toggle rfl rfl (Nat.le_of_ble_eq_true rfl) (wr_toggle (Or.inr (by omega)) zHl_o (ct_X7_toggle0 hJ hc9 hc14 ha)) hk hn rfl ?_
    rintro _ _ ⟨rfl, D, hD, rfl⟩
    refine z_heq ((congrArg (fun H => zpT g H (zgB g) D) zHl_w).trans (zHl_M (d := D) (u := u))) ?_
    refine z_istore (q := 783) dL_law_781 (Nat.le_of_ble_eq_true rfl) rfl rfl ?_
    refine z_aload_n (q := 784) dL_law_783 rfl rfl ?_
    refine z_aload_n (q := 785) dL_law_784 rfl rfl ?_
    refine z_iload (q := 787) dL_law_785 rfl rfl ?_
    refine z_iconst (q := 788) dL_law_787 zci_1 rfl ?_
    refine z_iaddN (q := 789) dL_law_788 rfl ?_
    refine z_sld (q := 790) dL_law_789 (by omega) (by omega) rfl ?_
    refine z_eqi e1 ?_
    refine z_V1 (q := 793) dL_law_790 zkL_146 zt_mX8_toggle rfl zpM_0 rfl (Nat.le_of_ble_eq_true rfl) (ct_X8_toggle0 f0 hn6 hc9 hc14 ha) (Nat.zero_le _) (Nat.zero_le _) rfl ?_
    rintro _ _ ⟨rfl, U, rfl, hSU, hU0⟩
    refine z_istore (q := 795) dL_law_793 (Nat.le_of_ble_eq_true rfl) rfl rfl ?_
    refine z_aload_n (q := 796) dL_law_795 rfl rfl ?_
    refine z_v0 (q := 799) dL_law_796 zkL_106 zt_mX8_thrown rfl zpM_0 rfl (Nat.le_of_ble_eq_true rfl) (ct_X8_thrown) rfl ?_
    refine z_eqi hU0 ?_
    refine z_iload (q := 801) dL_law_799 rfl rfl ?_
    refine z_icmp_eqN (tg := 806) (q := 804) dL_law_801 rfl rfl (by omega) (by omega) ?_ ?_
    · intro hc801
      refine z_iload (q := 808) dL_law_806 rfl rfl ?_
      refine z_if_ne (tg := 823) (q := 811) dL_law_808 rfl rfl ?_ ?_
      · intro hc808
        exact absurd hc808 (by decide)
      · intro hc808
        refine z_aload_n (q := 812) dL_law_811 rfl rfl ?_
        refine z_iconst (q := 813) dL_law_812 zci_0 rfl ?_
        refine z_lald (q := 814) dL_law_813 zMl_o (by omega) (by omega) rfl ?_
        refine z_iload (q := 816) dL_law_814 rfl rfl ?_
        refine z_i2l (q := 817) dL_law_816 rfl rfl ?_
        refine z_lcmp (q := 818) dL_law_817 rfl ?_
        refine z_eqi (show lg_cmp (va_up w 0 _ 0) _ = nI 0 by rw [zu_eq, cmp_0]) ?_
        refine z_if_eq (tg := 823) (q := 821) dL_law_818 rfl rfl ?_ ?_
        · intro hc818
          refine z_goto (q := 0) (tg := 1804) dL_law_823 rfl ?_
          refine z_heq (zHl_M (g := g)).symm ?_
          exact kk D U _ _ _ (zJE_Sc hSU hD)
        · intro hc818
          exact absurd hc818 (by decide)
    · intro hc801
      exact absurd hc801 (by decide)
theorem zlw_handOver : Cond.methodLink RL 147 mL_handOver.1 ∈ zTb := List.mem_filter.mpr ⟨List.mem_append_right _ (List.mem_of_getElem? (i := 687) (by decide +kernel)), by decide +kernel⟩
theorem zcw_handOver : Cond.codeWith mL_handOver.1 mL_handOver.2.1 mL_handOver.2.2.1 mL_handOver.2.2.2.1 [(0, 10, 13, 28), (0, 10, 17, 13), (0, 10, 21, 15)] ∈ zTb := List.mem_filter.mpr ⟨List.mem_append_right _ (List.mem_of_getElem? (i := 689) (by decide +kernel)), by decide +kernel⟩
theorem zcn_handOver : mL_handOver.1.cls ≠ "java/lang/invoke/MethodHandle" ∧ mL_handOver.1.cls ≠ "java/lang/invoke/VarHandle" ∧ (parseMethodDescriptor mL_handOver.1.desc).map (fun d => d.parameters.length) = some 4 := ⟨by decide +kernel, by decide +kernel, by decide +kernel⟩
set_option maxRecDepth 100000 in
set_option maxHeartbeats 4000000 in
theorem op_handOver {g : zGl} {nm : String} {b0 L : Nat} {xs : Nat → Int32} {k n i : Nat} {d u : Nat → Nat → Int32} {w : Nat → Int64} {l5 l6 : Option Value} (hi : i + 4 ≤ L) (hL : L ≤ 2048) (hk : 1 ≤ k) (hn : 6 ≤ n) (hJE : zJE d u) (kk : ∀ (d u : Nat → Nat → Int32) (w : Nat → Int64) (l5 l6 : Option Value), zJE d u → zA g (zZl g nm b0 L xs) (k - 1) (n - 6) 1804 [some (.ref b0), some (.ref (zgB g)), some (.ref (zgB g + 286)), some (.ref (zgB g + 298)), some (.int (nI i)), l5, l6] [] (zHl g d u w)) : zA g (zZl g nm b0 L xs) k n 826 [some (.ref b0), some (.ref (zgB g)), some (.ref (zgB g + 286)), some (.ref (zgB g + 298)), some (.int (nI i)), l5, l6] [] (zHl g d u w) := by
  obtain ⟨n0, K, hJ⟩ := hJE
  have hR := hJ.1
  have hn6 := zR_n6 hR
  have hK8 := zR_K8 hR
  have f0 := zR_f0 hR
  have f1 := zR_f1 hR
  obtain ⟨Lt, hLt, -, hLs, -⟩ := id hJ.2.1
  obtain ⟨-, c, -, hc14, -, -, hc9, -⟩ := id hJ.2.2.1
  refine z_heq (show zHl g d u w = zpT g (zpM g (zHE g w) (zgB g + 286) u) (zgB g) d from rfl) ?_
  obtain ⟨x1, e1⟩ : ∃ x, xs (i + 1) = x := ⟨_, rfl⟩
  obtain ⟨x2, e2⟩ : ∃ x, xs (i + 2) = x := ⟨_, rfl⟩
  cases hv : (qHas x1 n0 && qHas x2 n0) with
  | false =>
    refine z_aload_n (q := 827) dL_law_826 rfl rfl ?_
    refine z_aload_n (q := 828) dL_law_827 rfl rfl ?_
    refine z_iload (q := 830) dL_law_828 rfl rfl ?_
    refine z_iconst (q := 831) dL_law_830 zci_1 rfl ?_
    refine z_iaddN (q := 832) dL_law_831 rfl ?_
    refine z_sld (q := 833) dL_law_832 (by omega) (by omega) rfl ?_
    refine z_eqi e1 ?_
    refine z_aload_n (q := 834) dL_law_833 rfl rfl ?_
    refine z_iload (q := 836) dL_law_834 rfl rfl ?_
    refine z_iconst (q := 837) dL_law_836 zci_2 rfl ?_
    refine z_iaddN (q := 838) dL_law_837 rfl ?_
    refine z_sld (q := 839) dL_law_838 (by omega) (by omega) rfl ?_
    refine z_eqi e2 ?_
    refine z_aload_n (q := 840) dL_law_839 rfl rfl ?_
    refine z_cSW (q := 843) (av := [.ref (zgB g), .int x1, .int x2, .ref (zgB g + 298)]) dL_law_840 zlw_handOver zcw_handOver zdL zt_mL_handOver zcn_handOver rfl rfl (Nat.le_of_ble_eq_true rfl) (wx_handOver_1 (o := zgB g + 298) (cx_X7_handOver1 hJ hv)) hk hn rfl ?_
    rintro _ _ ⟨rfl, D, hD, rfl⟩
    refine z_heq (show _ = zpM g (zpT g (zHE g w) (zgB g) D) (zgB g + 286) u from zHl_M (d := D) (u := u) (w := w)) ?_
    refine z_istore (q := 845) dL_law_843 (Nat.le_of_ble_eq_true rfl) rfl rfl ?_
    refine z_aload_n (q := 846) dL_law_845 rfl rfl ?_
    refine z_aload_n (q := 847) dL_law_846 rfl rfl ?_
    refine z_iload (q := 849) dL_law_847 rfl rfl ?_
    refine z_iconst (q := 850) dL_law_849 zci_1 rfl ?_
    refine z_iaddN (q := 851) dL_law_850 rfl ?_
    refine z_sld (q := 852) dL_law_851 (by omega) (by omega) rfl ?_
    refine z_eqi e1 ?_
    refine z_aload_n (q := 853) dL_law_852 rfl rfl ?_
    refine z_iload (q := 855) dL_law_853 rfl rfl ?_
    refine z_iconst (q := 856) dL_law_855 zci_2 rfl ?_
    refine z_iaddN (q := 857) dL_law_856 rfl ?_
    refine z_sld (q := 858) dL_law_857 (by omega) (by omega) rfl ?_
    refine z_eqi e2 ?_
    refine z_V2 (q := 861) dL_law_858 zkL_149 zt_mX8_handOver rfl zpM_0 rfl (Nat.le_of_ble_eq_true rfl) (ct_X8_handOver1 f0 hn6 hv) (Nat.zero_le _) (Nat.zero_le _) rfl ?_
    rintro _ _ ⟨rfl, U, rfl, hSU, hU0⟩
    refine z_istore (q := 863) dL_law_861 (Nat.le_of_ble_eq_true rfl) rfl rfl ?_
    refine z_aload_n (q := 864) dL_law_863 rfl rfl ?_
    refine z_v0 (q := 867) dL_law_864 zkL_106 zt_mX8_thrown rfl zpM_0 rfl (Nat.le_of_ble_eq_true rfl) (ct_X8_thrown) rfl ?_
    refine z_eqi hU0 ?_
    refine z_iload (q := 869) dL_law_867 rfl rfl ?_
    refine z_icmp_eqN (tg := 874) (q := 872) dL_law_869 rfl rfl (by omega) (by omega) ?_ ?_
    · intro hc869
      refine z_iload (q := 876) dL_law_874 rfl rfl ?_
      refine z_if_ne (tg := 891) (q := 879) dL_law_876 rfl rfl ?_ ?_
      · intro hc876
        refine z_goto (q := 0) (tg := 1804) dL_law_891 rfl ?_
        refine z_heq (zHl_M (g := g)).symm ?_
        exact kk D U _ _ _ (zJE_Sc hSU hD)
      · intro hc876
        exact absurd hc876 (by decide)
    · intro hc869
      exact absurd hc869 (by decide)
  | true =>
    obtain ⟨hx, hy⟩ := Bool.and_eq_true_iff.mp hv
    clear hv
    obtain ⟨a, ha, rfl⟩ := qHas_t hx (by omega)
    obtain ⟨t, ht, rfl⟩ := qHas_t hy (by omega)
    by_cases hab : a = t
    · subst hab
      refine z_aload_n (q := 827) dL_law_826 rfl rfl ?_
      refine z_aload_n (q := 828) dL_law_827 rfl rfl ?_
      refine z_iload (q := 830) dL_law_828 rfl rfl ?_
      refine z_iconst (q := 831) dL_law_830 zci_1 rfl ?_
      refine z_iaddN (q := 832) dL_law_831 rfl ?_
      refine z_sld (q := 833) dL_law_832 (by omega) (by omega) rfl ?_
      refine z_eqi e1 ?_
      refine z_aload_n (q := 834) dL_law_833 rfl rfl ?_
      refine z_iload (q := 836) dL_law_834 rfl rfl ?_
      refine z_iconst (q := 837) dL_law_836 zci_2 rfl ?_
      refine z_iaddN (q := 838) dL_law_837 rfl ?_
      refine z_sld (q := 839) dL_law_838 (by omega) (by omega) rfl ?_
      refine z_eqi e2 ?_
      refine z_aload_n (q := 840) dL_law_839 rfl rfl ?_
      refine z_cSW (q := 843) (av := [.ref (zgB g), .int (nI a), .int (nI a), .ref (zgB g + 298)]) dL_law_840 zlw_handOver zcw_handOver zdL zt_mL_handOver zcn_handOver rfl rfl (Nat.le_of_ble_eq_true rfl) (wx_handOver_2 (o := zgB g + 298) (cx_X7_handOver2 hJ ha)) hk hn rfl ?_
      rintro _ _ ⟨rfl, D, hD, rfl⟩
      refine z_heq (show _ = zpM g (zpT g (zHE g w) (zgB g) D) (zgB g + 286) u from zHl_M (d := D) (u := u) (w := w)) ?_
      refine z_istore (q := 845) dL_law_843 (Nat.le_of_ble_eq_true rfl) rfl rfl ?_
      refine z_aload_n (q := 846) dL_law_845 rfl rfl ?_
      refine z_aload_n (q := 847) dL_law_846 rfl rfl ?_
      refine z_iload (q := 849) dL_law_847 rfl rfl ?_
      refine z_iconst (q := 850) dL_law_849 zci_1 rfl ?_
      refine z_iaddN (q := 851) dL_law_850 rfl ?_
      refine z_sld (q := 852) dL_law_851 (by omega) (by omega) rfl ?_
      refine z_eqi e1 ?_
      refine z_aload_n (q := 853) dL_law_852 rfl rfl ?_
      refine z_iload (q := 855) dL_law_853 rfl rfl ?_
      refine z_iconst (q := 856) dL_law_855 zci_2 rfl ?_
      refine z_iaddN (q := 857) dL_law_856 rfl ?_
      refine z_sld (q := 858) dL_law_857 (by omega) (by omega) rfl ?_
      refine z_eqi e2 ?_
      refine z_V2 (q := 861) dL_law_858 zkL_149 zt_mX8_handOver rfl zpM_0 rfl (Nat.le_of_ble_eq_true rfl) (ct_X8_handOver2 f0 hn6 ha) (Nat.zero_le _) (Nat.zero_le _) rfl ?_
      rintro _ _ ⟨rfl, U, rfl, hSU, hU0⟩
      refine z_istore (q := 863) dL_law_861 (Nat.le_of_ble_eq_true rfl) rfl rfl ?_
      refine z_aload_n (q := 864) dL_law_863 rfl rfl ?_
      refine z_v0 (q := 867) dL_law_864 zkL_106 zt_mX8_thrown rfl zpM_0 rfl (Nat.le_of_ble_eq_true rfl) (ct_X8_thrown) rfl ?_
      refine z_eqi hU0 ?_
      refine z_iload (q := 869) dL_law_867 rfl rfl ?_
      refine z_icmp_eqN (tg := 874) (q := 872) dL_law_869 rfl rfl (by omega) (by omega) ?_ ?_
      · intro hc869
        refine z_iload (q := 876) dL_law_874 rfl rfl ?_
        refine z_if_ne (tg := 891) (q := 879) dL_law_876 rfl rfl ?_ ?_
        · intro hc876
          refine z_goto (q := 0) (tg := 1804) dL_law_891 rfl ?_
          refine z_heq (zHl_M (g := g)).symm ?_
          exact kk D U _ _ _ (zJE_Sc hSU hD)
        · intro hc876
          exact absurd hc876 (by decide)
      · intro hc869
        exact absurd hc869 (by decide)
    · cases hv : qCan (u 3) K a t with
      | false =>
        refine z_aload_n (q := 827) dL_law_826 rfl rfl ?_
        refine z_aload_n (q := 828) dL_law_827 rfl rfl ?_
        refine z_iload (q := 830) dL_law_828 rfl rfl ?_
        refine z_iconst (q := 831) dL_law_830 zci_1 rfl ?_
        refine z_iaddN (q := 832) dL_law_831 rfl ?_
        refine z_sld (q := 833) dL_law_832 (by omega) (by omega) rfl ?_
        refine z_eqi e1 ?_
        refine z_aload_n (q := 834) dL_law_833 rfl rfl ?_
        refine z_iload (q := 836) dL_law_834 rfl rfl ?_
        refine z_iconst (q := 837) dL_law_836 zci_2 rfl ?_
        refine z_iaddN (q := 838) dL_law_837 rfl ?_
        refine z_sld (q := 839) dL_law_838 (by omega) (by omega) rfl ?_
        refine z_eqi e2 ?_
        refine z_aload_n (q := 840) dL_law_839 rfl rfl ?_
        refine z_cSW (q := 843) (av := [.ref (zgB g), .int (nI a), .int (nI t), .ref (zgB g + 298)]) dL_law_840 zlw_handOver zcw_handOver zdL zt_mL_handOver zcn_handOver rfl rfl (Nat.le_of_ble_eq_true rfl) (wx_handOver_3 (o := zgB g + 298) (cx_X7_handOver3 hJ ha ht hab hv)) hk hn rfl ?_
        rintro _ _ ⟨rfl, D, hD, rfl⟩
        refine z_heq (show _ = zpM g (zpT g (zHE g w) (zgB g) D) (zgB g + 286) u from zHl_M (d := D) (u := u) (w := w)) ?_
        refine z_istore (q := 845) dL_law_843 (Nat.le_of_ble_eq_true rfl) rfl rfl ?_
        refine z_aload_n (q := 846) dL_law_845 rfl rfl ?_
        refine z_aload_n (q := 847) dL_law_846 rfl rfl ?_
        refine z_iload (q := 849) dL_law_847 rfl rfl ?_
        refine z_iconst (q := 850) dL_law_849 zci_1 rfl ?_
        refine z_iaddN (q := 851) dL_law_850 rfl ?_
        refine z_sld (q := 852) dL_law_851 (by omega) (by omega) rfl ?_
        refine z_eqi e1 ?_
        refine z_aload_n (q := 853) dL_law_852 rfl rfl ?_
        refine z_iload (q := 855) dL_law_853 rfl rfl ?_
        refine z_iconst (q := 856) dL_law_855 zci_2 rfl ?_
        refine z_iaddN (q := 857) dL_law_856 rfl ?_
        refine z_sld (q := 858) dL_law_857 (by omega) (by omega) rfl ?_
        refine z_eqi e2 ?_
        refine z_V2 (q := 861) dL_law_858 zkL_149 zt_mX8_handOver rfl zpM_0 rfl (Nat.le_of_ble_eq_true rfl) (ct_X8_handOver3 f0 hn6 f1 hK8 ha ht hab hv) (Nat.zero_le _) (Nat.zero_le _) rfl ?_
        rintro _ _ ⟨rfl, U, rfl, hSU, hU0⟩
        refine z_istore (q := 863) dL_law_861 (Nat.le_of_ble_eq_true rfl) rfl rfl ?_
        refine z_aload_n (q := 864) dL_law_863 rfl rfl ?_
        refine z_v0 (q := 867) dL_law_864 zkL_106 zt_mX8_thrown rfl zpM_0 rfl (Nat.le_of_ble_eq_true rfl) (ct_X8_thrown) rfl ?_
        refine z_eqi hU0 ?_
        refine z_iload (q := 869) dL_law_867 rfl rfl ?_
        refine z_icmp_eqN (tg := 874) (q := 872) dL_law_869 rfl rfl (by omega) (by omega) ?_ ?_
        · intro hc869
          refine z_iload (q := 876) dL_law_874 rfl rfl ?_
          refine z_if_ne (tg := 891) (q := 879) dL_law_876 rfl rfl ?_ ?_
          · intro hc876
            refine z_goto (q := 0) (tg := 1804) dL_law_891 rfl ?_
            refine z_heq (zHl_M (g := g)).symm ?_
            exact kk D U _ _ _ (zJE_Sc hSU hD)
          · intro hc876
            exact absurd hc876 (by decide)
        · intro hc869
          exact absurd hc869 (by decide)
      | true =>
        obtain ⟨q, hq⟩ : ∃ q, qOwnTask (u 3) K a = some q := by
          rw [qCan, Bool.and_eq_true, Bool.and_eq_true] at hv
          exact Option.isSome_iff_exists.mp hv.1.2
        refine z_aload_n (q := 827) dL_law_826 rfl rfl ?_
        refine z_aload_n (q := 828) dL_law_827 rfl rfl ?_
        refine z_iload (q := 830) dL_law_828 rfl rfl ?_
        refine z_iconst (q := 831) dL_law_830 zci_1 rfl ?_
        refine z_iaddN (q := 832) dL_law_831 rfl ?_
        refine z_sld (q := 833) dL_law_832 (by omega) (by omega) rfl ?_
        refine z_eqi e1 ?_
        refine z_aload_n (q := 834) dL_law_833 rfl rfl ?_
        refine z_iload (q := 836) dL_law_834 rfl rfl ?_
        refine z_iconst (q := 837) dL_law_836 zci_2 rfl ?_
        refine z_iaddN (q := 838) dL_law_837 rfl ?_
        refine z_sld (q := 839) dL_law_838 (by omega) (by omega) rfl ?_
        refine z_eqi e2 ?_
        refine z_aload_n (q := 840) dL_law_839 rfl rfl ?_
        refine z_cSW (q := 843) (av := [.ref (zgB g), .int (nI a), .int (nI t), .ref (zgB g + 298)]) dL_law_840 zlw_handOver zcw_handOver zdL zt_mL_handOver zcn_handOver rfl rfl (Nat.le_of_ble_eq_true rfl) (wr_handOver (Or.inr (by omega)) zHl_o (ct_X7_handOver0 hJ hc9 hc14 ha ht hab hv hq)) hk hn rfl ?_
        rintro _ _ ⟨rfl, D, hD, rfl⟩
        refine z_heq ((congrArg (fun H => zpT g H (zgB g) D) zHl_w).trans (zHl_M (d := D) (u := u))) ?_
        refine z_istore (q := 845) dL_law_843 (Nat.le_of_ble_eq_true rfl) rfl rfl ?_
        refine z_aload_n (q := 846) dL_law_845 rfl rfl ?_
        refine z_aload_n (q := 847) dL_law_846 rfl rfl ?_
        refine z_iload (q := 849) dL_law_847 rfl rfl ?_
        refine z_iconst (q := 850) dL_law_849 zci_1 rfl ?_
        refine z_iaddN (q := 851) dL_law_850 rfl ?_
        refine z_sld (q := 852) dL_law_851 (by omega) (by omega) rfl ?_
        refine z_eqi e1 ?_
        refine z_aload_n (q := 853) dL_law_852 rfl rfl ?_
        refine z_iload (q := 855) dL_law_853 rfl rfl ?_
        refine z_iconst (q := 856) dL_law_855 zci_2 rfl ?_
        refine z_iaddN (q := 857) dL_law_856 rfl ?_
        refine z_sld (q := 858) dL_law_857 (by omega) (by omega) rfl ?_
        refine z_eqi e2 ?_
        refine z_V2 (q := 861) dL_law_858 zkL_149 zt_mX8_handOver rfl zpM_0 rfl (Nat.le_of_ble_eq_true rfl) (ct_X8_handOver0 f0 hn6 f1 hK8 hc9 hc14 ha ht hab hv hq) (Nat.zero_le _) (Nat.zero_le _) rfl ?_
        rintro _ _ ⟨rfl, U, rfl, hSU, hU0⟩
        refine z_istore (q := 863) dL_law_861 (Nat.le_of_ble_eq_true rfl) rfl rfl ?_
        refine z_aload_n (q := 864) dL_law_863 rfl rfl ?_
        refine z_v0 (q := 867) dL_law_864 zkL_106 zt_mX8_thrown rfl zpM_0 rfl (Nat.le_of_ble_eq_true rfl) (ct_X8_thrown) rfl ?_
        refine z_eqi hU0 ?_
        refine z_iload (q := 869) dL_law_867 rfl rfl ?_
        refine z_icmp_eqN (tg := 874) (q := 872) dL_law_869 rfl rfl (by omega) (by omega) ?_ ?_
        · intro hc869
          refine z_iload (q := 876) dL_law_874 rfl rfl ?_
          refine z_if_ne (tg := 891) (q := 879) dL_law_876 rfl rfl ?_ ?_
          · intro hc876
            exact absurd hc876 (by decide)
          · intro hc876
            refine z_aload_n (q := 880) dL_law_879 rfl rfl ?_
            refine z_iconst (q := 881) dL_law_880 zci_0 rfl ?_
            refine z_lald (q := 882) dL_law_881 zMl_o (by omega) (by omega) rfl ?_
            refine z_iload (q := 884) dL_law_882 rfl rfl ?_
            refine z_i2l (q := 885) dL_law_884 rfl rfl ?_
            refine z_lcmp (q := 886) dL_law_885 rfl ?_
            refine z_eqi (show lg_cmp (va_up w 0 _ 0) _ = nI 0 by rw [zu_eq, cmp_0]) ?_
            refine z_if_eq (tg := 891) (q := 889) dL_law_886 rfl rfl ?_ ?_
            · intro hc886
              refine z_goto (q := 0) (tg := 1804) dL_law_891 rfl ?_
              refine z_heq (zHl_M (g := g)).symm ?_
              exact kk D U _ _ _ (zJE_Sc hSU hD)
            · intro hc886
              exact absurd hc886 (by decide)
        · intro hc869
          exact absurd hc869 (by decide)
theorem zlw_drop : Cond.methodLink RL 150 mL_drop.1 ∈ zTb := List.mem_filter.mpr ⟨List.mem_append_right _ (List.mem_of_getElem? (i := 705) (by decide +kernel)), by decide +kernel⟩
theorem zcw_drop : Cond.codeWith mL_drop.1 mL_drop.2.1 mL_drop.2.2.1 mL_drop.2.2.2.1 [(0, 9, 12, 28)] ∈ zTb := List.mem_filter.mpr ⟨List.mem_append_right _ (List.mem_of_getElem? (i := 707) (by decide +kernel)), by decide +kernel⟩
theorem zcn_drop : mL_drop.1.cls ≠ "java/lang/invoke/MethodHandle" ∧ mL_drop.1.cls ≠ "java/lang/invoke/VarHandle" ∧ (parseMethodDescriptor mL_drop.1.desc).map (fun d => d.parameters.length) = some 3 := ⟨by decide +kernel, by decide +kernel, by decide +kernel⟩
set_option maxRecDepth 100000 in
set_option maxHeartbeats 4000000 in
theorem op_drop {g : zGl} {nm : String} {b0 L : Nat} {xs : Nat → Int32} {k n i : Nat} {d u : Nat → Nat → Int32} {w : Nat → Int64} {l5 l6 : Option Value} (hi : i + 4 ≤ L) (hL : L ≤ 2048) (hk : 1 ≤ k) (hn : 6 ≤ n) (hJE : zJE d u) (kk : ∀ (d u : Nat → Nat → Int32) (w : Nat → Int64) (l5 l6 : Option Value), zJE d u → zA g (zZl g nm b0 L xs) (k - 1) (n - 6) 1804 [some (.ref b0), some (.ref (zgB g)), some (.ref (zgB g + 286)), some (.ref (zgB g + 298)), some (.int (nI i)), l5, l6] [] (zHl g d u w)) : zA g (zZl g nm b0 L xs) k n 894 [some (.ref b0), some (.ref (zgB g)), some (.ref (zgB g + 286)), some (.ref (zgB g + 298)), some (.int (nI i)), l5, l6] [] (zHl g d u w) := by
  obtain ⟨n0, K, hJ⟩ := hJE
  have hR := hJ.1
  have hn6 := zR_n6 hR
  have hK8 := zR_K8 hR
  have f0 := zR_f0 hR
  have f1 := zR_f1 hR
  obtain ⟨Lt, hLt, -, hLs, -⟩ := id hJ.2.1
  obtain ⟨-, c, -, hc14, -, -, hc9, -⟩ := id hJ.2.2.1
  refine z_heq (show zHl g d u w = zpT g (zpM g (zHE g w) (zgB g + 286) u) (zgB g) d from rfl) ?_
  obtain ⟨x1, e1⟩ : ∃ x, xs (i + 1) = x := ⟨_, rfl⟩
  cases hv : qHas x1 n0 with
  | false =>
    refine z_aload_n (q := 895) dL_law_894 rfl rfl ?_
    refine z_aload_n (q := 896) dL_law_895 rfl rfl ?_
    refine z_iload (q := 898) dL_law_896 rfl rfl ?_
    refine z_iconst (q := 899) dL_law_898 zci_1 rfl ?_
    refine z_iaddN (q := 900) dL_law_899 rfl ?_
    refine z_sld (q := 901) dL_law_900 (by omega) (by omega) rfl ?_
    refine z_eqi e1 ?_
    refine z_aload_n (q := 902) dL_law_901 rfl rfl ?_
    refine z_cSW (q := 905) (av := [.ref (zgB g), .int x1, .ref (zgB g + 298)]) dL_law_902 zlw_drop zcw_drop zdL zt_mL_drop zcn_drop rfl rfl (Nat.le_of_ble_eq_true rfl) (wx_drop_1 (o := zgB g + 298) (cx_X7_drop1 hJ hv)) hk hn rfl ?_
    rintro _ _ ⟨rfl, D, hD, rfl⟩
    refine z_heq (show _ = zpM g (zpT g (zHE g w) (zgB g) D) (zgB g + 286) u from zHl_M (d := D) (u := u) (w := w)) ?_
    refine z_istore (q := 907) dL_law_905 (Nat.le_of_ble_eq_true rfl) rfl rfl ?_
    refine z_aload_n (q := 908) dL_law_907 rfl rfl ?_
    refine z_aload_n (q := 909) dL_law_908 rfl rfl ?_
    refine z_iload (q := 911) dL_law_909 rfl rfl ?_
    refine z_iconst (q := 912) dL_law_911 zci_1 rfl ?_
    refine z_iaddN (q := 913) dL_law_912 rfl ?_
    refine z_sld (q := 914) dL_law_913 (by omega) (by omega) rfl ?_
    refine z_eqi e1 ?_
    refine z_V1 (q := 917) dL_law_914 zkL_152 zt_mX8_drop rfl zpM_0 rfl (Nat.le_of_ble_eq_true rfl) (ct_X8_drop1 f0 hn6 hv) (Nat.zero_le _) (Nat.zero_le _) rfl ?_
    rintro _ _ ⟨rfl, U, rfl, hSU, hU0⟩
    refine z_istore (q := 919) dL_law_917 (Nat.le_of_ble_eq_true rfl) rfl rfl ?_
    refine z_aload_n (q := 920) dL_law_919 rfl rfl ?_
    refine z_v0 (q := 923) dL_law_920 zkL_106 zt_mX8_thrown rfl zpM_0 rfl (Nat.le_of_ble_eq_true rfl) (ct_X8_thrown) rfl ?_
    refine z_eqi hU0 ?_
    refine z_iload (q := 925) dL_law_923 rfl rfl ?_
    refine z_icmp_eqN (tg := 930) (q := 928) dL_law_925 rfl rfl (by omega) (by omega) ?_ ?_
    · intro hc925
      refine z_iload (q := 932) dL_law_930 rfl rfl ?_
      refine z_if_ne (tg := 947) (q := 935) dL_law_932 rfl rfl ?_ ?_
      · intro hc932
        refine z_goto (q := 0) (tg := 1804) dL_law_947 rfl ?_
        refine z_heq (zHl_M (g := g)).symm ?_
        exact kk D U _ _ _ (zJE_Sc hSU hD)
      · intro hc932
        exact absurd hc932 (by decide)
    · intro hc925
      exact absurd hc925 (by decide)
  | true =>
    obtain ⟨a, ha, rfl⟩ := qHas_t hv (by omega)
    refine z_aload_n (q := 895) dL_law_894 rfl rfl ?_
    refine z_aload_n (q := 896) dL_law_895 rfl rfl ?_
    refine z_iload (q := 898) dL_law_896 rfl rfl ?_
    refine z_iconst (q := 899) dL_law_898 zci_1 rfl ?_
    refine z_iaddN (q := 900) dL_law_899 rfl ?_
    refine z_sld (q := 901) dL_law_900 (by omega) (by omega) rfl ?_
    refine z_eqi e1 ?_
    refine z_aload_n (q := 902) dL_law_901 rfl rfl ?_
    refine z_cSW (q := 905) (av := [.ref (zgB g), .int (nI a), .ref (zgB g + 298)]) dL_law_902 zlw_drop zcw_drop zdL zt_mL_drop zcn_drop rfl rfl (Nat.le_of_ble_eq_true rfl) (wr_drop (Or.inr (by omega)) zHl_o (ct_X7_drop0 hJ hc9 hc14 ha)) hk hn rfl ?_
    rintro _ _ ⟨rfl, D, hD, rfl⟩
    refine z_heq ((congrArg (fun H => zpT g H (zgB g) D) zHl_w).trans (zHl_M (d := D) (u := u))) ?_
    refine z_istore (q := 907) dL_law_905 (Nat.le_of_ble_eq_true rfl) rfl rfl ?_
    refine z_aload_n (q := 908) dL_law_907 rfl rfl ?_
    refine z_aload_n (q := 909) dL_law_908 rfl rfl ?_
    refine z_iload (q := 911) dL_law_909 rfl rfl ?_
    refine z_iconst (q := 912) dL_law_911 zci_1 rfl ?_
    refine z_iaddN (q := 913) dL_law_912 rfl ?_
    refine z_sld (q := 914) dL_law_913 (by omega) (by omega) rfl ?_
    refine z_eqi e1 ?_
    refine z_V1 (q := 917) dL_law_914 zkL_152 zt_mX8_drop rfl zpM_0 rfl (Nat.le_of_ble_eq_true rfl) (ct_X8_drop0 f0 hn6 f1 hK8 hc9 hc14 ha) (Nat.zero_le _) (Nat.zero_le _) rfl ?_
    rintro _ _ ⟨rfl, U, rfl, hSU, hU0⟩
    refine z_istore (q := 919) dL_law_917 (Nat.le_of_ble_eq_true rfl) rfl rfl ?_
    refine z_aload_n (q := 920) dL_law_919 rfl rfl ?_
    refine z_v0 (q := 923) dL_law_920 zkL_106 zt_mX8_thrown rfl zpM_0 rfl (Nat.le_of_ble_eq_true rfl) (ct_X8_thrown) rfl ?_
    refine z_eqi hU0 ?_
    refine z_iload (q := 925) dL_law_923 rfl rfl ?_
    refine z_icmp_eqN (tg := 930) (q := 928) dL_law_925 rfl rfl (by omega) (by omega) ?_ ?_
    · intro hc925
      refine z_iload (q := 932) dL_law_930 rfl rfl ?_
      refine z_if_ne (tg := 947) (q := 935) dL_law_932 rfl rfl ?_ ?_
      · intro hc932
        exact absurd hc932 (by decide)
      · intro hc932
        refine z_aload_n (q := 936) dL_law_935 rfl rfl ?_
        refine z_iconst (q := 937) dL_law_936 zci_0 rfl ?_
        refine z_lald (q := 938) dL_law_937 zMl_o (by omega) (by omega) rfl ?_
        refine z_iload (q := 940) dL_law_938 rfl rfl ?_
        refine z_i2l (q := 941) dL_law_940 rfl rfl ?_
        refine z_lcmp (q := 942) dL_law_941 rfl ?_
        refine z_eqi (show lg_cmp (va_up w 0 _ 0) _ = nI 0 by rw [zu_eq, cmp_0]) ?_
        refine z_if_eq (tg := 947) (q := 945) dL_law_942 rfl rfl ?_ ?_
        · intro hc942
          refine z_goto (q := 0) (tg := 1804) dL_law_947 rfl ?_
          refine z_heq (zHl_M (g := g)).symm ?_
          exact kk D U _ _ _ (zJE_Sc hSU hD)
        · intro hc942
          exact absurd hc942 (by decide)
    · intro hc925
      exact absurd hc925 (by decide)
theorem zlw_setLifetime : Cond.methodLink RL 153 mL_setLifetime.1 ∈ zTb := List.mem_filter.mpr ⟨List.mem_append_right _ (List.mem_of_getElem? (i := 713) (by decide +kernel)), by decide +kernel⟩
theorem zcw_setLifetime : Cond.codeWith mL_setLifetime.1 mL_setLifetime.2.1 mL_setLifetime.2.2.1 mL_setLifetime.2.2.2.1 [(0, 9, 12, 13)] ∈ zTb := List.mem_filter.mpr ⟨List.mem_append_right _ (List.mem_of_getElem? (i := 715) (by decide +kernel)), by decide +kernel⟩
theorem zcn_setLifetime : mL_setLifetime.1.cls ≠ "java/lang/invoke/MethodHandle" ∧ mL_setLifetime.1.cls ≠ "java/lang/invoke/VarHandle" ∧ (parseMethodDescriptor mL_setLifetime.1.desc).map (fun d => d.parameters.length) = some 3 := ⟨by decide +kernel, by decide +kernel, by decide +kernel⟩
set_option maxRecDepth 100000 in
set_option maxHeartbeats 4000000 in
theorem op_setLifetime {g : zGl} {nm : String} {b0 L : Nat} {xs : Nat → Int32} {k n i : Nat} {d u : Nat → Nat → Int32} {w : Nat → Int64} {l5 l6 : Option Value} (hi : i + 4 ≤ L) (hL : L ≤ 2048) (hk : 1 ≤ k) (hn : 6 ≤ n) (hJE : zJE d u) (kk : ∀ (d u : Nat → Nat → Int32) (w : Nat → Int64) (l5 l6 : Option Value), zJE d u → zA g (zZl g nm b0 L xs) (k - 1) (n - 6) 1804 [some (.ref b0), some (.ref (zgB g)), some (.ref (zgB g + 286)), some (.ref (zgB g + 298)), some (.int (nI i)), l5, l6] [] (zHl g d u w)) : zA g (zZl g nm b0 L xs) k n 950 [some (.ref b0), some (.ref (zgB g)), some (.ref (zgB g + 286)), some (.ref (zgB g + 298)), some (.int (nI i)), l5, l6] [] (zHl g d u w) := by
  obtain ⟨n0, K, hJ⟩ := hJE
  have hR := hJ.1
  have hn6 := zR_n6 hR
  have hK8 := zR_K8 hR
  have f0 := zR_f0 hR
  have f1 := zR_f1 hR
  obtain ⟨Lt, hLt, -, hLs, -⟩ := id hJ.2.1
  obtain ⟨-, c, -, hc14, -, -, hc9, -⟩ := id hJ.2.2.1
  refine z_heq (show zHl g d u w = zpT g (zpM g (zHE g w) (zgB g + 286) u) (zgB g) d from rfl) ?_
  obtain ⟨x1, e1⟩ : ∃ x, xs (i + 1) = x := ⟨_, rfl⟩
  cases hv : qBt x1 1 20 with
  | false =>
    refine z_aload_n (q := 951) dL_law_950 rfl rfl ?_
    refine z_aload_n (q := 952) dL_law_951 rfl rfl ?_
    refine z_iload (q := 954) dL_law_952 rfl rfl ?_
    refine z_iconst (q := 955) dL_law_954 zci_1 rfl ?_
    refine z_iaddN (q := 956) dL_law_955 rfl ?_
    refine z_sld (q := 957) dL_law_956 (by omega) (by omega) rfl ?_
    refine z_eqi e1 ?_
    refine z_aload_n (q := 958) dL_law_957 rfl rfl ?_
    refine z_cSW (q := 961) (av := [.ref (zgB g), .int x1, .ref (zgB g + 298)]) dL_law_958 zlw_setLifetime zcw_setLifetime zdL zt_mL_setLifetime zcn_setLifetime rfl rfl (Nat.le_of_ble_eq_true rfl) (wx_setLifetime_1 (o := zgB g + 298) (cx_X7_setLifetime1 hJ hv)) hk hn rfl ?_
    rintro _ _ ⟨rfl, D, hD, rfl⟩
    refine z_heq (show _ = zpM g (zpT g (zHE g w) (zgB g) D) (zgB g + 286) u from zHl_M (d := D) (u := u) (w := w)) ?_
    refine z_istore (q := 963) dL_law_961 (Nat.le_of_ble_eq_true rfl) rfl rfl ?_
    refine z_aload_n (q := 964) dL_law_963 rfl rfl ?_
    refine z_aload_n (q := 965) dL_law_964 rfl rfl ?_
    refine z_iload (q := 967) dL_law_965 rfl rfl ?_
    refine z_iconst (q := 968) dL_law_967 zci_1 rfl ?_
    refine z_iaddN (q := 969) dL_law_968 rfl ?_
    refine z_sld (q := 970) dL_law_969 (by omega) (by omega) rfl ?_
    refine z_eqi e1 ?_
    refine z_V1 (q := 973) dL_law_970 zkL_155 zt_mX8_setLifetime rfl zpM_0 rfl (Nat.le_of_ble_eq_true rfl) (ct_X8_setLifetime1 hv) (Nat.zero_le _) (Nat.zero_le _) rfl ?_
    rintro _ _ ⟨rfl, U, rfl, hSU, hU0⟩
    refine z_istore (q := 975) dL_law_973 (Nat.le_of_ble_eq_true rfl) rfl rfl ?_
    refine z_aload_n (q := 976) dL_law_975 rfl rfl ?_
    refine z_v0 (q := 979) dL_law_976 zkL_106 zt_mX8_thrown rfl zpM_0 rfl (Nat.le_of_ble_eq_true rfl) (ct_X8_thrown) rfl ?_
    refine z_eqi hU0 ?_
    refine z_iload (q := 981) dL_law_979 rfl rfl ?_
    refine z_icmp_eqN (tg := 986) (q := 984) dL_law_981 rfl rfl (by omega) (by omega) ?_ ?_
    · intro hc981
      refine z_iload (q := 988) dL_law_986 rfl rfl ?_
      refine z_if_ne (tg := 1003) (q := 991) dL_law_988 rfl rfl ?_ ?_
      · intro hc988
        refine z_goto (q := 0) (tg := 1804) dL_law_1003 rfl ?_
        refine z_heq (zHl_M (g := g)).symm ?_
        exact kk D U _ _ _ (zJE_Sc hSU hD)
      · intro hc988
        exact absurd hc988 (by decide)
    · intro hc981
      exact absurd hc981 (by decide)
  | true =>
    refine z_aload_n (q := 951) dL_law_950 rfl rfl ?_
    refine z_aload_n (q := 952) dL_law_951 rfl rfl ?_
    refine z_iload (q := 954) dL_law_952 rfl rfl ?_
    refine z_iconst (q := 955) dL_law_954 zci_1 rfl ?_
    refine z_iaddN (q := 956) dL_law_955 rfl ?_
    refine z_sld (q := 957) dL_law_956 (by omega) (by omega) rfl ?_
    refine z_eqi e1 ?_
    refine z_aload_n (q := 958) dL_law_957 rfl rfl ?_
    refine z_cSW (q := 961) (av := [.ref (zgB g), .int x1, .ref (zgB g + 298)]) dL_law_958 zlw_setLifetime zcw_setLifetime zdL zt_mL_setLifetime zcn_setLifetime rfl rfl (Nat.le_of_ble_eq_true rfl) (wr_setLifetime (Or.inr (by omega)) zHl_o (ct_X7_setLifetime0 hJ hc9 hc14 hv)) hk hn rfl ?_
    rintro _ _ ⟨rfl, D, hD, rfl⟩
    refine z_heq ((congrArg (fun H => zpT g H (zgB g) D) zHl_w).trans (zHl_M (d := D) (u := u))) ?_
    refine z_istore (q := 963) dL_law_961 (Nat.le_of_ble_eq_true rfl) rfl rfl ?_
    refine z_aload_n (q := 964) dL_law_963 rfl rfl ?_
    refine z_aload_n (q := 965) dL_law_964 rfl rfl ?_
    refine z_iload (q := 967) dL_law_965 rfl rfl ?_
    refine z_iconst (q := 968) dL_law_967 zci_1 rfl ?_
    refine z_iaddN (q := 969) dL_law_968 rfl ?_
    refine z_sld (q := 970) dL_law_969 (by omega) (by omega) rfl ?_
    refine z_eqi e1 ?_
    refine z_V1 (q := 973) dL_law_970 zkL_155 zt_mX8_setLifetime rfl zpM_0 rfl (Nat.le_of_ble_eq_true rfl) (ct_X8_setLifetime0 hc9 hc14 hv) (Nat.zero_le _) (Nat.zero_le _) rfl ?_
    rintro _ _ ⟨rfl, U, rfl, hSU, hU0⟩
    refine z_istore (q := 975) dL_law_973 (Nat.le_of_ble_eq_true rfl) rfl rfl ?_
    refine z_aload_n (q := 976) dL_law_975 rfl rfl ?_
    refine z_v0 (q := 979) dL_law_976 zkL_106 zt_mX8_thrown rfl zpM_0 rfl (Nat.le_of_ble_eq_true rfl) (ct_X8_thrown) rfl ?_
    refine z_eqi hU0 ?_
    refine z_iload (q := 981) dL_law_979 rfl rfl ?_
    refine z_icmp_eqN (tg := 986) (q := 984) dL_law_981 rfl rfl (by omega) (by omega) ?_ ?_
    · intro hc981
      refine z_iload (q := 988) dL_law_986 rfl rfl ?_
      refine z_if_ne (tg := 1003) (q := 991) dL_law_988 rfl rfl ?_ ?_
      · intro hc988
        exact absurd hc988 (by decide)
      · intro hc988
        refine z_aload_n (q := 992) dL_law_991 rfl rfl ?_
        refine z_iconst (q := 993) dL_law_992 zci_0 rfl ?_
        refine z_lald (q := 994) dL_law_993 zMl_o (by omega) (by omega) rfl ?_
        refine z_iload (q := 996) dL_law_994 rfl rfl ?_
        refine z_i2l (q := 997) dL_law_996 rfl rfl ?_
        refine z_lcmp (q := 998) dL_law_997 rfl ?_
        refine z_eqi (show lg_cmp (va_up w 0 _ 0) _ = nI 0 by rw [zu_eq, cmp_0]) ?_
        refine z_if_eq (tg := 1003) (q := 1001) dL_law_998 rfl rfl ?_ ?_
        · intro hc998
          refine z_goto (q := 0) (tg := 1804) dL_law_1003 rfl ?_
          refine z_heq (zHl_M (g := g)).symm ?_
          exact kk D U _ _ _ (zJE_Sc hSU hD)
        · intro hc998
          exact absurd hc998 (by decide)
    · intro hc981
      exact absurd hc981 (by decide)
theorem zlw_undo : Cond.methodLink RL 156 mL_undo.1 ∈ zTb := List.mem_filter.mpr ⟨List.mem_append_right _ (List.mem_of_getElem? (i := 720) (by decide +kernel)), by decide +kernel⟩
theorem zcw_undo : Cond.codeWith mL_undo.1 mL_undo.2.1 mL_undo.2.2.1 mL_undo.2.2.2.1 [(0, 8, 11, 15)] ∈ zTb := List.mem_filter.mpr ⟨List.mem_append_right _ (List.mem_of_getElem? (i := 722) (by decide +kernel)), by decide +kernel⟩
theorem zcn_undo : mL_undo.1.cls ≠ "java/lang/invoke/MethodHandle" ∧ mL_undo.1.cls ≠ "java/lang/invoke/VarHandle" ∧ (parseMethodDescriptor mL_undo.1.desc).map (fun d => d.parameters.length) = some 2 := ⟨by decide +kernel, by decide +kernel, by decide +kernel⟩
set_option maxRecDepth 100000 in
set_option maxHeartbeats 4000000 in
theorem op_undo {g : zGl} {nm : String} {b0 L : Nat} {xs : Nat → Int32} {k n i : Nat} {d u : Nat → Nat → Int32} {w : Nat → Int64} {l5 l6 : Option Value} (hi : i + 4 ≤ L) (hL : L ≤ 2048) (hk : 1 ≤ k) (hn : 6 ≤ n) (hJE : zJE d u) (kk : ∀ (d u : Nat → Nat → Int32) (w : Nat → Int64) (l5 l6 : Option Value), zJE d u → zA g (zZl g nm b0 L xs) (k - 1) (n - 6) 1804 [some (.ref b0), some (.ref (zgB g)), some (.ref (zgB g + 286)), some (.ref (zgB g + 298)), some (.int (nI i)), l5, l6] [] (zHl g d u w)) : zA g (zZl g nm b0 L xs) k n 1006 [some (.ref b0), some (.ref (zgB g)), some (.ref (zgB g + 286)), some (.ref (zgB g + 298)), some (.int (nI i)), l5, l6] [] (zHl g d u w) := by
  obtain ⟨n0, K, hJ⟩ := hJE
  have hR := hJ.1
  have hn6 := zR_n6 hR
  have hK8 := zR_K8 hR
  have f0 := zR_f0 hR
  have f1 := zR_f1 hR
  obtain ⟨Lt, hLt, -, hLs, -⟩ := id hJ.2.1
  obtain ⟨-, c, -, hc14, -, -, hc9, -⟩ := id hJ.2.2.1
  refine z_heq (show zHl g d u w = zpT g (zpM g (zHE g w) (zgB g + 286) u) (zgB g) d from rfl) ?_
  cases c with
  | zero =>
    refine z_aload_n (q := 1007) dL_law_1006 rfl rfl ?_
    refine z_aload_n (q := 1008) dL_law_1007 rfl rfl ?_
    refine z_cSW (q := 1011) (av := [.ref (zgB g), .ref (zgB g + 298)]) dL_law_1008 zlw_undo zcw_undo zdL zt_mL_undo zcn_undo rfl rfl (Nat.le_of_ble_eq_true rfl) (wx_undo_1 (o := zgB g + 298) (cx_X7_undo1 hJ hc9)) hk hn rfl ?_
    rintro _ _ ⟨rfl, D, hD, rfl⟩
    refine z_heq (show _ = zpM g (zpT g (zHE g w) (zgB g) D) (zgB g + 286) u from zHl_M (d := D) (u := u) (w := w)) ?_
    refine z_istore (q := 1013) dL_law_1011 (Nat.le_of_ble_eq_true rfl) rfl rfl ?_
    refine z_aload_n (q := 1014) dL_law_1013 rfl rfl ?_
    refine z_V0 (q := 1017) dL_law_1014 zkL_158 zt_mX8_undo rfl zpM_0 rfl (Nat.le_of_ble_eq_true rfl) (ct_X8_undo1 hc9) (Nat.zero_le _) (Nat.zero_le _) rfl ?_
    rintro _ _ ⟨rfl, U, rfl, hSU, hU0⟩
    refine z_istore (q := 1019) dL_law_1017 (Nat.le_of_ble_eq_true rfl) rfl rfl ?_
    refine z_aload_n (q := 1020) dL_law_1019 rfl rfl ?_
    refine z_v0 (q := 1023) dL_law_1020 zkL_106 zt_mX8_thrown rfl zpM_0 rfl (Nat.le_of_ble_eq_true rfl) (ct_X8_thrown) rfl ?_
    refine z_eqi hU0 ?_
    refine z_iload (q := 1025) dL_law_1023 rfl rfl ?_
    refine z_icmp_eqN (tg := 1030) (q := 1028) dL_law_1025 rfl rfl (by omega) (by omega) ?_ ?_
    · intro hc1025
      refine z_iload (q := 1032) dL_law_1030 rfl rfl ?_
      refine z_if_ne (tg := 1047) (q := 1035) dL_law_1032 rfl rfl ?_ ?_
      · intro hc1032
        refine z_goto (q := 0) (tg := 1804) dL_law_1047 rfl ?_
        refine z_heq (zHl_M (g := g)).symm ?_
        exact kk D U _ _ _ (zJE_Sc hSU hD)
      · intro hc1032
        exact absurd hc1032 (by decide)
    · intro hc1025
      exact absurd hc1025 (by decide)
  | succ c =>
    refine z_aload_n (q := 1007) dL_law_1006 rfl rfl ?_
    refine z_aload_n (q := 1008) dL_law_1007 rfl rfl ?_
    refine z_cSW (q := 1011) (av := [.ref (zgB g), .ref (zgB g + 298)]) dL_law_1008 zlw_undo zcw_undo zdL zt_mL_undo zcn_undo rfl rfl (Nat.le_of_ble_eq_true rfl) (wr_undo (Or.inr (by omega)) zHl_o (ct_X7_undo0 hJ hc9 (by omega))) hk hn rfl ?_
    rintro _ _ ⟨rfl, D, hD, rfl⟩
    refine z_heq ((congrArg (fun H => zpT g H (zgB g) D) zHl_w).trans (zHl_M (d := D) (u := u))) ?_
    refine z_istore (q := 1013) dL_law_1011 (Nat.le_of_ble_eq_true rfl) rfl rfl ?_
    refine z_aload_n (q := 1014) dL_law_1013 rfl rfl ?_
    refine z_V0 (q := 1017) dL_law_1014 zkL_158 zt_mX8_undo rfl zpM_0 rfl (Nat.le_of_ble_eq_true rfl) (ct_X8_undo0 hc9 (by omega)) (Nat.zero_le _) (Nat.zero_le _) rfl ?_
    rintro _ _ ⟨rfl, U, rfl, hSU, hU0⟩
    refine z_istore (q := 1019) dL_law_1017 (Nat.le_of_ble_eq_true rfl) rfl rfl ?_
    refine z_aload_n (q := 1020) dL_law_1019 rfl rfl ?_
    refine z_v0 (q := 1023) dL_law_1020 zkL_106 zt_mX8_thrown rfl zpM_0 rfl (Nat.le_of_ble_eq_true rfl) (ct_X8_thrown) rfl ?_
    refine z_eqi hU0 ?_
    refine z_iload (q := 1025) dL_law_1023 rfl rfl ?_
    refine z_icmp_eqN (tg := 1030) (q := 1028) dL_law_1025 rfl rfl (by omega) (by omega) ?_ ?_
    · intro hc1025
      refine z_iload (q := 1032) dL_law_1030 rfl rfl ?_
      refine z_if_ne (tg := 1047) (q := 1035) dL_law_1032 rfl rfl ?_ ?_
      · intro hc1032
        exact absurd hc1032 (by decide)
      · intro hc1032
        refine z_aload_n (q := 1036) dL_law_1035 rfl rfl ?_
        refine z_iconst (q := 1037) dL_law_1036 zci_0 rfl ?_
        refine z_lald (q := 1038) dL_law_1037 zMl_o (by omega) (by omega) rfl ?_
        refine z_iload (q := 1040) dL_law_1038 rfl rfl ?_
        refine z_i2l (q := 1041) dL_law_1040 rfl rfl ?_
        refine z_lcmp (q := 1042) dL_law_1041 rfl ?_
        refine z_eqi (show lg_cmp (va_up w 0 _ 0) _ = nI 0 by rw [zu_eq, cmp_0]) ?_
        refine z_if_eq (tg := 1047) (q := 1045) dL_law_1042 rfl rfl ?_ ?_
        · intro hc1042
          refine z_goto (q := 0) (tg := 1804) dL_law_1047 rfl ?_
          refine z_heq (zHl_M (g := g)).symm ?_
          exact kk D U _ _ _ (zJE_Sc hSU hD)
        · intro hc1042
          exact absurd hc1042 (by decide)
    · intro hc1025
      exact absurd hc1025 (by decide)
