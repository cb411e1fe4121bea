/-! ===== the reference: note, hops, groups, ranges, conflicts ===== -/
def qNote (f : Nat → Int32) (a t w : Nat) : Int32 := if w = 0 ∨ f (72 + 4 * (8 * a + t)) = nI 1 then f (72 + 4 * (8 * a + t) + w) else -9
set_option maxRecDepth 100000 in
set_option maxHeartbeats 4000000 in
theorem ct_X8_note1 {g : zGl} {h : zHp} {m n K : Nat} {x y z : Int32} {u : Nat → Nat → Int32} (hn : u 3 0 = nI n) (hn6 : n ≤ 6) (hK : u 3 1 = nI K) (hK8 : K ≤ 8) (hv : (qHas x n && qHas y K) = false) : zC g mX8_note_ [.ref m, .int x, .int y, .int z] (zpM g h m u) (zMP g h m u (nI 1) (nI 0)) 0 0 := by
  refine zC_ofA (lv := [some (.ref m), some (.int x), some (.int y), some (.int z), none]) (by decide) rfl (Nat.le_of_ble_eq_true rfl) ?_
  by_cases hx : qHas x n = true
  · have hy : qHas y K = false := by simpa [hx] using hv
    refine z_aload_n (q := 1) dX8_note__0 rfl rfl ?_
    refine z_aload_n (q := 2) dX8_note__1 rfl rfl ?_
    refine z_iload_n (q := 3) dX8_note__2 rfl rfl ?_
    refine z_v1 (q := 6) dX8_note__3 zkX8_159 zt_mX8_isAgent rfl (by first | exact zpM_0 | exact zpM_a rfl | exact zpM_8) rfl (Nat.le_of_ble_eq_true rfl) (ct_X8_isAgent (by assumption) (by omega)) rfl ?_
    refine z_eqi ((congrArg zbi (hx)).trans zbi_t) ?_
    refine z_if_eq (tg := 17) (q := 9) dX8_note__6 rfl rfl ?_ ?_
    · intro hc6
      exact absurd hc6 (by decide)
    · intro hc6
      refine z_aload_n (q := 10) dX8_note__9 rfl rfl ?_
      refine z_iload_n (q := 11) dX8_note__10 rfl rfl ?_
      refine z_v1 (q := 14) dX8_note__11 zkX8_162 zt_mX8_isTask rfl (by first | exact zpM_0 | exact zpM_a rfl | exact zpM_8) rfl (Nat.le_of_ble_eq_true rfl) (ct_X8_isTask (by assumption) (by omega)) rfl ?_
      refine z_eqi ((congrArg zbi (hy)).trans zbi_f) ?_
      refine z_if_ne (tg := 21) (q := 17) dX8_note__14 rfl rfl ?_ ?_
      · intro hc14
        exact absurd hc14 (by decide)
      · intro hc14
        refine z_iconst (q := 18) dX8_note__17 zci_1 rfl ?_
        refine z_goto (q := 0) (tg := 38) dX8_note__18 rfl ?_
        refine z_x1 (q := 41) dX8_note__38 zkX8_126 zt_mX8_refused rfl (by first | exact zpM_0 | exact zpM_a rfl | exact zpM_8) rfl (Nat.le_of_ble_eq_true rfl) (ct_X8_refused) rfl ?_
        refine z_eqi (show zbi (!decide (nI 1 ≤ 0)) = nI 1 by decide) ?_
        refine z_if_eq (tg := 46) (q := 44) dX8_note__41 rfl rfl ?_ ?_
        · intro hc41
          exact absurd hc41 (by decide)
        · intro hc41
          refine z_iconst (q := 45) dX8_note__44 zci_0 rfl ?_
          exact z_reti dX8_note__45 rfl (zMP_i rfl zSc_rf rfl)
  · have hx : qHas x n = false := by simpa using hx
    refine z_aload_n (q := 1) dX8_note__0 rfl rfl ?_
    refine z_aload_n (q := 2) dX8_note__1 rfl rfl ?_
    refine z_iload_n (q := 3) dX8_note__2 rfl rfl ?_
    refine z_v1 (q := 6) dX8_note__3 zkX8_159 zt_mX8_isAgent rfl (by first | exact zpM_0 | exact zpM_a rfl | exact zpM_8) rfl (Nat.le_of_ble_eq_true rfl) (ct_X8_isAgent (by assumption) (by omega)) rfl ?_
    refine z_eqi ((congrArg zbi (hx)).trans zbi_f) ?_
    refine z_if_eq (tg := 17) (q := 9) dX8_note__6 rfl rfl ?_ ?_
    · intro hc6
      refine z_iconst (q := 18) dX8_note__17 zci_1 rfl ?_
      refine z_goto (q := 0) (tg := 38) dX8_note__18 rfl ?_
      refine z_x1 (q := 41) dX8_note__38 zkX8_126 zt_mX8_refused rfl (by first | exact zpM_0 | exact zpM_a rfl | exact zpM_8) rfl (Nat.le_of_ble_eq_true rfl) (ct_X8_refused) rfl ?_
      refine z_eqi (show zbi (!decide (nI 1 ≤ 0)) = nI 1 by decide) ?_
      refine z_if_eq (tg := 46) (q := 44) dX8_note__41 rfl rfl ?_ ?_
      · intro hc41
        exact absurd hc41 (by decide)
      · intro hc41
        refine z_iconst (q := 45) dX8_note__44 zci_0 rfl ?_
        exact z_reti dX8_note__45 rfl (zMP_i rfl zSc_rf rfl)
    · intro hc6
      exact absurd hc6 (by decide)
set_option maxRecDepth 100000 in
set_option maxHeartbeats 4000000 in
theorem ct_X8_note2 {g : zGl} {h : zHp} {m n K : Nat} {x y z : Int32} {u : Nat → Nat → Int32} (hn : u 3 0 = nI n) (hn6 : n ≤ 6) (hK : u 3 1 = nI K) (hK8 : K ≤ 8) (hx : qHas x n = true) (hy : qHas y K = true) (hv2 : qBt z 0 3 = false) : zC g mX8_note_ [.ref m, .int x, .int y, .int z] (zpM g h m u) (zMP g h m u (nI 2) (nI 0)) 0 0 := by
  refine zC_ofA (lv := [some (.ref m), some (.int x), some (.int y), some (.int z), none]) (by decide) rfl (Nat.le_of_ble_eq_true rfl) ?_
  refine z_aload_n (q := 1) dX8_note__0 rfl rfl ?_
  refine z_aload_n (q := 2) dX8_note__1 rfl rfl ?_
  refine z_iload_n (q := 3) dX8_note__2 rfl rfl ?_
  refine z_v1 (q := 6) dX8_note__3 zkX8_159 zt_mX8_isAgent rfl (by first | exact zpM_0 | exact zpM_a rfl | exact zpM_8) rfl (Nat.le_of_ble_eq_true rfl) (ct_X8_isAgent (by assumption) (by omega)) rfl ?_
  refine z_eqi ((congrArg zbi (hx)).trans zbi_t) ?_
  refine z_if_eq (tg := 17) (q := 9) dX8_note__6 rfl rfl ?_ ?_
  · intro hc6
    exact absurd hc6 (by decide)
  · intro hc6
    refine z_aload_n (q := 10) dX8_note__9 rfl rfl ?_
    refine z_iload_n (q := 11) dX8_note__10 rfl rfl ?_
    refine z_v1 (q := 14) dX8_note__11 zkX8_162 zt_mX8_isTask rfl (by first | exact zpM_0 | exact zpM_a rfl | exact zpM_8) rfl (Nat.le_of_ble_eq_true rfl) (ct_X8_isTask (by assumption) (by omega)) rfl ?_
    refine z_eqi ((congrArg zbi (hy)).trans zbi_t) ?_
    refine z_if_ne (tg := 21) (q := 17) dX8_note__14 rfl rfl ?_ ?_
    · intro hc14
      refine z_iload_n (q := 22) dX8_note__21 rfl rfl ?_
      refine z_i2l (q := 23) dX8_note__22 rfl rfl ?_
      refine z_lconst (q := 24) (v := 0) dX8_note__23 (by decide) rfl ?_
      refine z_ldc2 (q := 27) dX8_note__24 zqX8_170 rfl ?_
      refine z_s3 (q := 30) dX8_note__27 zkX8_57 zt_mX8_in rfl (Nat.le_of_ble_eq_true rfl) (ct_X8_in) rfl ?_
      refine z_eqi ((congrArg zbi ((qIn_bt (by decide) (by decide) (by decide) (by decide)).trans hv2)).trans zbi_f) ?_
      refine z_if_ne (tg := 37) (q := 33) dX8_note__30 rfl rfl ?_ ?_
      · intro hc30
        exact absurd hc30 (by decide)
      · intro hc30
        refine z_iconst (q := 34) dX8_note__33 zci_2 rfl ?_
        refine z_goto (q := 0) (tg := 38) dX8_note__34 rfl ?_
        refine z_x1 (q := 41) dX8_note__38 zkX8_126 zt_mX8_refused rfl (by first | exact zpM_0 | exact zpM_a rfl | exact zpM_8) rfl (Nat.le_of_ble_eq_true rfl) (ct_X8_refused) rfl ?_
        refine z_eqi (show zbi (!decide (nI 2 ≤ 0)) = nI 1 by decide) ?_
        refine z_if_eq (tg := 46) (q := 44) dX8_note__41 rfl rfl ?_ ?_
        · intro hc41
          exact absurd hc41 (by decide)
        · intro hc41
          refine z_iconst (q := 45) dX8_note__44 zci_0 rfl ?_
          exact z_reti dX8_note__45 rfl (zMP_i rfl zSc_rf rfl)
    · intro hc14
      exact absurd hc14 (by decide)
theorem nI_z {w : Nat} (hw : w < 2 ^ 31) : nI w = 0 ↔ w = 0 := nI_eq hw (by decide)
set_option maxRecDepth 100000 in
set_option maxHeartbeats 4000000 in
theorem ct_X8_note0 {g : zGl} {h : zHp} {m n K a t w : Nat} {u : Nat → Nat → Int32} (hn : u 3 0 = nI n) (hn6 : n ≤ 6) (hK : u 3 1 = nI K) (hK8 : K ≤ 8) (ha : a < n) (ht : t < K) (hw : w ≤ 3) : zC g mX8_note_ [.ref m, .int (nI a), .int (nI t), .int (nI w)] (zpM g h m u) (zMP g h m u (nI 0) (qNote (u 3) a t w)) 0 0 := by
  have hx : qHas (nI a) n = true := qHas_i ha (by omega)
  have hy : qHas (nI t) K = true := qHas_i ht (by omega)
  have hz : qBt (nI w) 0 3 = true := qBt_i (by omega) hw (by decide)
  refine zC_ofA (lv := [some (.ref m), some (.int (nI a)), some (.int (nI t)), some (.int (nI w)), none]) (by decide) rfl (Nat.le_of_ble_eq_true rfl) ?_
  refine z_aload_n (q := 1) dX8_note__0 rfl rfl ?_
  refine z_aload_n (q := 2) dX8_note__1 rfl rfl ?_
  refine z_iload_n (q := 3) dX8_note__2 rfl rfl ?_
  refine z_v1 (q := 6) dX8_note__3 zkX8_159 zt_mX8_isAgent rfl (by first | exact zpM_0 | exact zpM_a rfl | exact zpM_8) rfl (Nat.le_of_ble_eq_true rfl) (ct_X8_isAgent (by assumption) (by omega)) rfl ?_
  refine z_eqi ((congrArg zbi (hx)).trans zbi_t) ?_
  refine z_if_eq (tg := 17) (q := 9) dX8_note__6 rfl rfl ?_ ?_
  · intro hc6
    exact absurd hc6 (by decide)
  · intro hc6
    refine z_aload_n (q := 10) dX8_note__9 rfl rfl ?_
    refine z_iload_n (q := 11) dX8_note__10 rfl rfl ?_
    refine z_v1 (q := 14) dX8_note__11 zkX8_162 zt_mX8_isTask rfl (by first | exact zpM_0 | exact zpM_a rfl | exact zpM_8) rfl (Nat.le_of_ble_eq_true rfl) (ct_X8_isTask (by assumption) (by omega)) rfl ?_
    refine z_eqi ((congrArg zbi (hy)).trans zbi_t) ?_
    refine z_if_ne (tg := 21) (q := 17) dX8_note__14 rfl rfl ?_ ?_
    · intro hc14
      refine z_iload_n (q := 22) dX8_note__21 rfl rfl ?_
      refine z_i2l (q := 23) dX8_note__22 rfl rfl ?_
      refine z_lconst (q := 24) (v := 0) dX8_note__23 (by decide) rfl ?_
      refine z_ldc2 (q := 27) dX8_note__24 zqX8_170 rfl ?_
      refine z_s3 (q := 30) dX8_note__27 zkX8_57 zt_mX8_in rfl (Nat.le_of_ble_eq_true rfl) (ct_X8_in) rfl ?_
      refine z_eqi ((congrArg zbi ((qIn_bt (by decide) (by decide) (by decide) (by decide)).trans hz)).trans zbi_t) ?_
      refine z_if_ne (tg := 37) (q := 33) dX8_note__30 rfl rfl ?_ ?_
      · intro hc30
        refine z_iconst (q := 38) dX8_note__37 zci_0 rfl ?_
        refine z_x1 (q := 41) dX8_note__38 zkX8_126 zt_mX8_refused rfl (by first | exact zpM_0 | exact zpM_a rfl | exact zpM_8) rfl (Nat.le_of_ble_eq_true rfl) (ct_X8_refused) rfl ?_
        refine z_eqi (show zbi (!decide (nI 0 ≤ 0)) = nI 0 by decide) ?_
        refine z_if_eq (tg := 46) (q := 44) dX8_note__41 rfl rfl ?_ ?_
        · intro hc41
          generalize hU : va_up u 0 (va_up (u 0) 0 (nI 0)) = U
          have hS : zSc u U := by subst hU; exact zSc_rf
          have hrf : U 0 0 = nI 0 := by subst hU; rfl
          have h3 : U 3 = u 3 := hS.2.1
          refine z_iload_n (q := 47) dX8_note__46 rfl rfl ?_
          refine z_iload_n (q := 48) dX8_note__47 rfl rfl ?_
          refine z_s2 (q := 51) dX8_note__48 zkX8_83 zt_mX8_noteAt rfl (Nat.le_of_ble_eq_true rfl) (ct_X8_noteAt) rfl ?_
          refine z_istore (q := 53) dX8_note__51 (Nat.le_of_ble_eq_true rfl) rfl rfl ?_
          refine z_iload_n (q := 54) dX8_note__53 rfl rfl ?_
          refine z_if_eq (tg := 70) (q := 57) dX8_note__54 rfl rfl ?_ ?_
          · intro hc54
            rw [nI_z (by omega)] at hc54
            refine z_aload_n (q := 71) dX8_note__70 rfl rfl ?_
            refine z_get (q := 74) dX8_note__71 zfX8_16 (by first | exact zpM_0 | exact zpM_a rfl | exact zpM_8) rfl rfl ?_
            refine z_iload (q := 76) dX8_note__74 rfl rfl ?_
            refine z_iload_n (q := 77) dX8_note__76 rfl rfl ?_
            refine z_iaddN (q := 78) dX8_note__77 rfl ?_
            refine z_iald (q := 79) dX8_note__78 (by first | exact zpM_0 | exact zpM_a rfl | exact zpM_8) (by omega) (by omega) rfl ?_
            refine z_goto (q := 0) (tg := 84) dX8_note__79 rfl ?_
            exact z_reti dX8_note__84 rfl (zMP_i (by first | (simp [qNote, h3, hc54]; done) | simp_all [qNote]) hS hrf)
          · intro hc54
            rw [nI_z (by omega)] at hc54
            refine z_aload_n (q := 58) dX8_note__57 rfl rfl ?_
            refine z_get (q := 61) dX8_note__58 zfX8_16 (by first | exact zpM_0 | exact zpM_a rfl | exact zpM_8) rfl rfl ?_
            refine z_iload (q := 63) dX8_note__61 rfl rfl ?_
            refine z_iconst (q := 64) dX8_note__63 zci_0 rfl ?_
            refine z_iadd0 (q := 65) dX8_note__64 rfl ?_
            refine z_iald (q := 66) dX8_note__65 (by first | exact zpM_0 | exact zpM_a rfl | exact zpM_8) (by omega) (by omega) rfl ?_
            refine z_iconst (q := 67) dX8_note__66 zci_1 rfl ?_
            refine z_icmp_ne (tg := 82) (q := 70) dX8_note__67 rfl rfl ?_ ?_
            · intro hc67
              rw [h3] at hc67
              refine z_bipush (q := 84) dX8_note__82 zcb_m9 rfl ?_
              exact z_reti dX8_note__84 rfl (zMP_i (by first | (simp [qNote, h3, hc54, hc67]; done) | simp_all [qNote]) hS hrf)
            · intro hc67
              rw [h3] at hc67
              refine z_aload_n (q := 71) dX8_note__70 rfl rfl ?_
              refine z_get (q := 74) dX8_note__71 zfX8_16 (by first | exact zpM_0 | exact zpM_a rfl | exact zpM_8) rfl rfl ?_
              refine z_iload (q := 76) dX8_note__74 rfl rfl ?_
              refine z_iload_n (q := 77) dX8_note__76 rfl rfl ?_
              refine z_iaddN (q := 78) dX8_note__77 rfl ?_
              refine z_iald (q := 79) dX8_note__78 (by first | exact zpM_0 | exact zpM_a rfl | exact zpM_8) (by omega) (by omega) rfl ?_
              refine z_goto (q := 0) (tg := 84) dX8_note__79 rfl ?_
              exact z_reti dX8_note__84 rfl (zMP_i (by first | (simp [qNote, h3, hc54, hc67]; done) | simp_all [qNote]) hS hrf)
        · intro hc41
          exact absurd hc41 (by decide)
      · intro hc30
        exact absurd hc30 (by decide)
    · intro hc14
      exact absurd hc14 (by decide)
set_option maxRecDepth 100000 in
set_option maxHeartbeats 4000000 in
theorem ct_X8_hops1 {g : zGl} {h : zHp} {m n : Nat} {x y : Int32} {u : Nat → Nat → Int32} (hn : u 3 0 = nI n) (hn6 : n ≤ 6) (hv : (qHas x n && qHas y n) = false) : zC g mX8_hops [.ref m, .int x, .int y] (zpM g h m u) (zMP g h m u (nI 1) (nI 0)) 0 0 := by
  refine zC_ofA (lv := [some (.ref m), some (.int x), some (.int y)]) (by decide) rfl (Nat.le_of_ble_eq_true rfl) ?_
  by_cases hx : qHas x n = true
  · have hy : qHas y n = false := by simpa [hx] using hv
    refine z_aload_n (q := 1) dX8_hops_0 rfl rfl ?_
    refine z_aload_n (q := 2) dX8_hops_1 rfl rfl ?_
    refine z_iload_n (q := 3) dX8_hops_2 rfl rfl ?_
    refine z_v1 (q := 6) dX8_hops_3 zkX8_159 zt_mX8_isAgent rfl (by first | exact zpM_0 | exact zpM_a rfl | exact zpM_8) rfl (Nat.le_of_ble_eq_true rfl) (ct_X8_isAgent (by assumption) (by omega)) rfl ?_
    refine z_eqi ((congrArg zbi (hx)).trans zbi_t) ?_
    refine z_if_eq (tg := 21) (q := 9) dX8_hops_6 rfl rfl ?_ ?_
    · intro hc6
      exact absurd hc6 (by decide)
    · intro hc6
      refine z_aload_n (q := 10) dX8_hops_9 rfl rfl ?_
      refine z_iload_n (q := 11) dX8_hops_10 rfl rfl ?_
      refine z_v1 (q := 14) dX8_hops_11 zkX8_159 zt_mX8_isAgent rfl (by first | exact zpM_0 | exact zpM_a rfl | exact zpM_8) rfl (Nat.le_of_ble_eq_true rfl) (ct_X8_isAgent (by assumption) (by omega)) rfl ?_
      refine z_eqi ((congrArg zbi (hy)).trans zbi_f) ?_
      refine z_if_eq (tg := 21) (q := 17) dX8_hops_14 rfl rfl ?_ ?_
      · intro hc14
        refine z_iconst (q := 22) dX8_hops_21 zci_1 rfl ?_
        refine z_x1 (q := 25) dX8_hops_22 zkX8_126 zt_mX8_refused rfl (by first | exact zpM_0 | exact zpM_a rfl | exact zpM_8) rfl (Nat.le_of_ble_eq_true rfl) (ct_X8_refused) rfl ?_
        refine z_eqi (show zbi (!decide (nI 1 ≤ 0)) = nI 1 by decide) ?_
        refine z_if_eq (tg := 30) (q := 28) dX8_hops_25 rfl rfl ?_ ?_
        · intro hc25
          exact absurd hc25 (by decide)
        · intro hc25
          refine z_iconst (q := 29) dX8_hops_28 zci_0 rfl ?_
          exact z_reti dX8_hops_29 rfl (zMP_i rfl zSc_rf rfl)
      · intro hc14
        exact absurd hc14 (by decide)
  · have hx : qHas x n = false := by simpa using hx
    refine z_aload_n (q := 1) dX8_hops_0 rfl rfl ?_
    refine z_aload_n (q := 2) dX8_hops_1 rfl rfl ?_
    refine z_iload_n (q := 3) dX8_hops_2 rfl rfl ?_
    refine z_v1 (q := 6) dX8_hops_3 zkX8_159 zt_mX8_isAgent rfl (by first | exact zpM_0 | exact zpM_a rfl | exact zpM_8) rfl (Nat.le_of_ble_eq_true rfl) (ct_X8_isAgent (by assumption) (by omega)) rfl ?_
    refine z_eqi ((congrArg zbi (hx)).trans zbi_f) ?_
    refine z_if_eq (tg := 21) (q := 9) dX8_hops_6 rfl rfl ?_ ?_
    · intro hc6
      refine z_iconst (q := 22) dX8_hops_21 zci_1 rfl ?_
      refine z_x1 (q := 25) dX8_hops_22 zkX8_126 zt_mX8_refused rfl (by first | exact zpM_0 | exact zpM_a rfl | exact zpM_8) rfl (Nat.le_of_ble_eq_true rfl) (ct_X8_refused) rfl ?_
      refine z_eqi (show zbi (!decide (nI 1 ≤ 0)) = nI 1 by decide) ?_
      refine z_if_eq (tg := 30) (q := 28) dX8_hops_25 rfl rfl ?_ ?_
      · intro hc25
        exact absurd hc25 (by decide)
      · intro hc25
        refine z_iconst (q := 29) dX8_hops_28 zci_0 rfl ?_
        exact z_reti dX8_hops_29 rfl (zMP_i rfl zSc_rf rfl)
    · intro hc6
      exact absurd hc6 (by decide)
set_option maxRecDepth 100000 in
set_option maxHeartbeats 4000000 in
theorem ct_X8_hops0 {g : zGl} {h : zHp} {m n a b : Nat} {u : Nat → Nat → Int32} (hn : u 3 0 = nI n) (hn6 : n ≤ 6) (ha : a < n) (hb : b < n) : zC g mX8_hops [.ref m, .int (nI a), .int (nI b)] (zpM g h m u) (zMP g h m u (nI 0) (qWays (u 3) n a (u 9) b)) 0 0 := by
  have hx : qHas (nI a) n = true := qHas_i ha (by omega)
  have hy : qHas (nI b) n = true := qHas_i hb (by omega)
  refine zC_ofA (lv := [some (.ref m), some (.int (nI a)), some (.int (nI b))]) (by decide) rfl (Nat.le_of_ble_eq_true rfl) ?_
  refine z_aload_n (q := 1) dX8_hops_0 rfl rfl ?_
  refine z_aload_n (q := 2) dX8_hops_1 rfl rfl ?_
  refine z_iload_n (q := 3) dX8_hops_2 rfl rfl ?_
  refine z_v1 (q := 6) dX8_hops_3 zkX8_159 zt_mX8_isAgent rfl (by first | exact zpM_0 | exact zpM_a rfl | exact zpM_8) rfl (Nat.le_of_ble_eq_true rfl) (ct_X8_isAgent (by assumption) (by omega)) rfl ?_
  refine z_eqi ((congrArg zbi (hx)).trans zbi_t) ?_
  refine z_if_eq (tg := 21) (q := 9) dX8_hops_6 rfl rfl ?_ ?_
  · intro hc6
    exact absurd hc6 (by decide)
  · intro hc6
    refine z_aload_n (q := 10) dX8_hops_9 rfl rfl ?_
    refine z_iload_n (q := 11) dX8_hops_10 rfl rfl ?_
    refine z_v1 (q := 14) dX8_hops_11 zkX8_159 zt_mX8_isAgent rfl (by first | exact zpM_0 | exact zpM_a rfl | exact zpM_8) rfl (Nat.le_of_ble_eq_true rfl) (ct_X8_isAgent (by assumption) (by omega)) rfl ?_
    refine z_eqi ((congrArg zbi (hy)).trans zbi_t) ?_
    refine z_if_eq (tg := 21) (q := 17) dX8_hops_14 rfl rfl ?_ ?_
    · intro hc14
      exact absurd hc14 (by decide)
    · intro hc14
      refine z_iconst (q := 18) dX8_hops_17 zci_0 rfl ?_
      refine z_goto (q := 0) (tg := 22) dX8_hops_18 rfl ?_
      refine z_x1 (q := 25) dX8_hops_22 zkX8_126 zt_mX8_refused rfl (by first | exact zpM_0 | exact zpM_a rfl | exact zpM_8) rfl (Nat.le_of_ble_eq_true rfl) (ct_X8_refused) rfl ?_
      refine z_eqi (show zbi (!decide (nI 0 ≤ 0)) = nI 0 by decide) ?_
      refine z_if_eq (tg := 30) (q := 28) dX8_hops_25 rfl rfl ?_ ?_
      · intro hc25
        have h9 : va_up u 0 (va_up (u 0) 0 (nI 0)) 9 = u 9 := rfl
        generalize hU : va_up u 0 (va_up (u 0) 0 (nI 0)) = U
        rw [hU] at h9
        have hS : zSc u U := by subst hU; exact zSc_rf
        have hrf : U 0 0 = nI 0 := by subst hU; rfl
        have h3 : U 3 = u 3 := hS.2.1
        have hn' : U 3 0 = nI n := by rw [h3]; exact hn
        refine z_aload_n (q := 31) dX8_hops_30 rfl rfl ?_
        refine z_aload_n (q := 32) dX8_hops_31 rfl rfl ?_
        refine z_get (q := 35) dX8_hops_32 zfX8_16 (by first | exact zpM_0 | exact zpM_a rfl | exact zpM_8) rfl rfl ?_
        refine z_iload_n (q := 36) dX8_hops_35 rfl rfl ?_
        refine z_w2 (q := 39) dX8_hops_36 zkX8_202 zt_mX8_layWays rfl (by first | exact zpM_0 | exact zpM_a rfl | exact zpM_8) rfl (Nat.le_of_ble_eq_true rfl) (ct_M_layWays (Or.inl rfl) hn' hn6 (by omega)) rfl ?_
        refine z_aload_n (q := 40) dX8_hops_39 rfl rfl ?_
        refine z_get (q := 43) dX8_hops_40 zfX8_35 (by first | exact zpM_0 | exact zpM_a rfl | exact zpM_8) rfl rfl ?_
        refine z_iload_n (q := 44) dX8_hops_43 rfl rfl ?_
        refine z_iald (q := 45) dX8_hops_44 (by first | exact zpM_0 | exact zpM_a rfl | exact zpM_8) (by omega) (by omega) rfl ?_
        exact z_reti dX8_hops_45 rfl (zMP_i (by rw [zu_eq, h3, h9]) (zSc_t hS (zSc_w (by decide)).1) ((congrFun (zSc_w (by decide)).2 0).trans hrf))
      · intro hc25
        exact absurd hc25 (by decide)
set_option maxRecDepth 100000 in
set_option maxHeartbeats 4000000 in
theorem ct_X8_groups {g : zGl} {h : zHp} {m n : Nat} {u : Nat → Nat → Int32} (hn : u 3 0 = nI n) (hn6 : n ≤ 6) : zC g mX8_groups [.ref m] (zpM g h m u) (zMP g h m u (nI 0) (nI (qGr (u 3) n (u 9) n).2.1)) 0 0 := by
  refine zC_ofA (lv := [some (.ref m)]) (by decide) rfl (Nat.le_of_ble_eq_true rfl) ?_
  refine z_aload_n (q := 1) dX8_groups_0 rfl rfl ?_
  refine z_iconst (q := 2) dX8_groups_1 zci_0 rfl ?_
  refine z_putM (q := 5) dX8_groups_2 zfX8_44 (by decide) rfl ?_
  have h9 : va_up u 0 (va_up (u 0) 0 (nI 0)) 9 = u 9 := rfl
  generalize hU : va_up u 0 (va_up (u 0) 0 (nI 0)) = U
  rw [hU] at h9
  have hS : zSc u U := by subst hU; exact zSc_rf
  have hrf : U 0 0 = nI 0 := by subst hU; rfl
  have h3 : U 3 = u 3 := hS.2.1
  have hn' : U 3 0 = nI n := by rw [h3]; exact hn
  refine z_aload_n (q := 6) dX8_groups_5 rfl rfl ?_
  refine z_aload_n (q := 7) dX8_groups_6 rfl rfl ?_
  refine z_get (q := 10) dX8_groups_7 zfX8_16 (by first | exact zpM_0 | exact zpM_a rfl | exact zpM_8) rfl rfl ?_
  refine z_x1 (q := 13) dX8_groups_10 zkX8_205 zt_mX8_groupsOf rfl (by first | exact zpM_0 | exact zpM_a rfl | exact zpM_8) rfl (Nat.le_of_ble_eq_true rfl) (ct_M_groupsOf (Or.inl rfl) hn' hn6) rfl ?_
  exact z_reti dX8_groups_13 rfl (zMP_i (by rw [h3, h9]) (zSc_t hS (zSc_w (by decide)).1) ((congrFun (zSc_w (by decide)).2 0).trans hrf))
theorem qRng_2 {f : Nat → Int32} {n : Nat} {x y : Int32} : qRng (qRng f n x) n y = qRng f n y := by
  have key : ∀ i j, qRng f i x j = if ∃ a, a < i ∧ j = 4 + 6 * a + 2 then x else f j := by
    intro i
    induction i with
    | zero => intro j; simp [qRng, qIt]
    | succ i ih =>
      intro j
      show va_up (qRng f i x) (4 + 6 * i + 2) x j = _
      by_cases hj : j = 4 + 6 * i + 2
      · rw [hj, zu_eq, if_pos ⟨i, Nat.lt_succ_self i, rfl⟩]
      · rw [zu_ne hj, ih j]
        congr 1
        apply propext
        constructor
        · rintro ⟨a, ha, rfl⟩
          exact ⟨a, Nat.lt_succ_of_lt ha, rfl⟩
        · rintro ⟨a, ha, rfl⟩
          exact ⟨a, by omega, rfl⟩
  have key2 : ∀ (e : Nat → Int32) i j, qRng e i y j = if ∃ a, a < i ∧ j = 4 + 6 * a + 2 then y else e j := by
    intro e i
    induction i with
    | zero => intro j; simp [qRng, qIt]
    | succ i ih =>
      intro j
      show va_up (qRng e i y) (4 + 6 * i + 2) y j = _
      by_cases hj : j = 4 + 6 * i + 2
      · rw [hj, zu_eq, if_pos ⟨i, Nat.lt_succ_self i, rfl⟩]
      · rw [zu_ne hj, ih j]
        congr 1
        apply propext
        constructor
        · rintro ⟨a, ha, rfl⟩
          exact ⟨a, Nat.lt_succ_of_lt ha, rfl⟩
        · rintro ⟨a, ha, rfl⟩
          exact ⟨a, by omega, rfl⟩
  funext j
  rw [key2, key2, key]
  split <;> rfl
set_option maxRecDepth 100000 in
set_option maxHeartbeats 4000000 in
theorem ct_X8_rangeNeeded {g : zGl} {h : zHp} {m n R : Nat} {u : Nat → Nat → Int32} (hn : u 3 0 = nI n) (hn6 : n ≤ 6) (hR : R < 1000) (h1 : ∀ w, (qGr (qRng (u 3) n (nI R)) n w n).2.1 ≤ 1) (h2 : ∀ r w, r < R → 1 < (qGr (qRng (u 3) n (nI r)) n w n).2.1) : zC g mX8_rangeNeeded [.ref m] (zpM g h m u) (zMP g h m u (nI 0) (nI R)) 0 0 := by
  refine zC_ofA (lv := [some (.ref m), none]) (by decide) rfl (Nat.le_of_ble_eq_true rfl) ?_
  have loop : ∀ d r U, r + d = R → zSc u U → U 0 0 = nI 0 → U 4 = qRng (u 3) n (nI r) → zA g (zZc g mX8_rangeNeeded (zMP g h m u (nI 0) (nI R)) 0 0) 0 0 32 [some (.ref m), some (.int (nI r))] [] (zpM g h m U) := by
    intro d
    induction d using Nat.strongRecOn with
    | ind d ih =>
      intro r U hr hS hrf h4
      have hn' : U 4 0 = nI n := by rw [h4, qRng_lt (by omega)]; exact hn
      have hle := qGr_le (f := U 4) (w := U 9) (n := n) (i := n)
      refine z_aload_n (q := 33) dX8_rangeNeeded_32 rfl rfl ?_
      refine z_aload_n (q := 34) dX8_rangeNeeded_33 rfl rfl ?_
      refine z_get (q := 37) dX8_rangeNeeded_34 zfX8_19 (by first | exact zpM_0 | exact zpM_a rfl | exact zpM_8) rfl rfl ?_
      refine z_x1 (q := 40) dX8_rangeNeeded_37 zkX8_205 zt_mX8_groupsOf rfl (by first | exact zpM_0 | exact zpM_a rfl | exact zpM_8) rfl (Nat.le_of_ble_eq_true rfl) (ct_M_groupsOf (Or.inr rfl) hn' hn6) rfl ?_
      refine z_iconst (q := 41) dX8_rangeNeeded_40 zci_1 rfl ?_
      refine z_icmp_leN (tg := 59) (q := 44) dX8_rangeNeeded_41 rfl rfl (by omega) (by omega) ?_ ?_
      · intro hc41
        have hrR : ¬ r < R := fun z => by
          have := h2 r (U 9) z
          rw [← h4] at this
          omega
        refine z_iload_n (q := 60) dX8_rangeNeeded_59 rfl rfl ?_
        exact z_reti dX8_rangeNeeded_60 rfl (zMP_i (by rw [show r = R by omega]) (zSc_t hS (zSc_w (by decide)).1) ((congrFun (zSc_w (by decide)).2 0).trans hrf))
      · intro hc41
        have hrR : r < R := by
          rcases Nat.lt_or_ge r R with z | z
          · exact z
          · have e : r = R := by omega
            have := h1 (U 9)
            rw [← e, ← h4] at this
            omega
        refine z_iincN (q := 47) dX8_rangeNeeded_44 rfl rfl rfl ?_
        refine z_aload_n (q := 48) dX8_rangeNeeded_47 rfl rfl ?_
        refine z_aload_n (q := 49) dX8_rangeNeeded_48 rfl rfl ?_
        refine z_get (q := 52) dX8_rangeNeeded_49 zfX8_19 (by first | exact zpM_0 | exact zpM_a rfl | exact zpM_8) rfl rfl ?_
        refine z_iload_n (q := 53) dX8_rangeNeeded_52 rfl rfl ?_
        refine z_w2 (q := 56) dX8_rangeNeeded_53 zkX8_208 zt_mX8_setRanges rfl (by first | exact zpM_0 | exact zpM_a rfl | exact zpM_8) rfl (Nat.le_of_ble_eq_true rfl) (ct_M_setRanges (show va_up U 9 _ 4 0 = nI n from hn') hn6) rfl ?_
        refine z_goto (q := 0) (tg := 32) dX8_rangeNeeded_56 rfl ?_
        refine ih (d - 1) (by omega) (r + 1) _ (by omega) (zSc_t hS (zSc_t (zSc_w (by decide)).1 (zSc_w (by decide)).1)) hrf ?_
        rw [zu_eq, show va_up U 9 (qGr (U 4) n (U 9) n).2.2 4 = U 4 from rfl, h4, qRng_2]
  refine z_aload_n (q := 1) dX8_rangeNeeded_0 rfl rfl ?_
  refine z_iconst (q := 2) dX8_rangeNeeded_1 zci_0 rfl ?_
  refine z_putM (q := 5) dX8_rangeNeeded_2 zfX8_44 (by decide) rfl ?_
  generalize hU : va_up u 0 (va_up (u 0) 0 (nI 0)) = U
  have hS : zSc u U := by subst hU; exact zSc_rf
  have hrf : U 0 0 = nI 0 := by subst hU; rfl
  have h3 : U 3 = u 3 := hS.2.1
  refine z_aload_n (q := 6) dX8_rangeNeeded_5 rfl rfl ?_
  refine z_get (q := 9) dX8_rangeNeeded_6 zfX8_16 (by first | exact zpM_0 | exact zpM_a rfl | exact zpM_8) rfl rfl ?_
  refine z_iconst (q := 10) dX8_rangeNeeded_9 zci_0 rfl ?_
  refine z_aload_n (q := 11) dX8_rangeNeeded_10 rfl rfl ?_
  refine z_get (q := 14) dX8_rangeNeeded_11 zfX8_19 (by first | exact zpM_0 | exact zpM_a rfl | exact zpM_8) rfl rfl ?_
  refine z_iconst (q := 15) dX8_rangeNeeded_14 zci_0 rfl ?_
  refine z_sipush (q := 18) dX8_rangeNeeded_15 zcs_264 rfl ?_
  refine z_u5 (q := 21) dX8_rangeNeeded_18 zkX8_53 zt_mX8_copy rfl (Nat.le_of_ble_eq_true rfl) (ct_M_copy (c := 3) (d := 4) rfl rfl (by decide) (by omega) (by omega)) rfl ?_
  refine z_cgM (c := 4) (N := 264) (f := u 3) rfl (fun j hj => by rw [zu_eq, h3]; exact cpy_all j hj) ?_
  rw [zu_up]
  refine z_iconst (q := 22) dX8_rangeNeeded_21 zci_0 rfl ?_
  refine z_istore_n (q := 23) dX8_rangeNeeded_22 (Nat.le_of_ble_eq_true rfl) rfl rfl ?_
  refine z_aload_n (q := 24) dX8_rangeNeeded_23 rfl rfl ?_
  refine z_aload_n (q := 25) dX8_rangeNeeded_24 rfl rfl ?_
  refine z_get (q := 28) dX8_rangeNeeded_25 zfX8_19 (by first | exact zpM_0 | exact zpM_a rfl | exact zpM_8) rfl rfl ?_
  refine z_iload_n (q := 29) dX8_rangeNeeded_28 rfl rfl ?_
  refine z_w2 (q := 32) dX8_rangeNeeded_29 zkX8_208 zt_mX8_setRanges rfl (by first | exact zpM_0 | exact zpM_a rfl | exact zpM_8) rfl (Nat.le_of_ble_eq_true rfl) (ct_M_setRanges (show va_up U 4 (u 3) 4 0 = nI n from hn) hn6) rfl ?_
  refine loop R 0 _ (by omega) (zSc_t hS (zSc_t (zSc_w (by decide)).1 (zSc_w (by decide)).1)) hrf ?_
  rw [zu_eq, zu_eq]
def qCf1 (f : Nat → Int32) (w a t : Nat) : Int32 := if w = 1 then zbi (qDone f t && !decide (f (72 + 4 * (8 * a + t)) = nI 2)) else zbi (qLive f (72 + 4 * (8 * a + t)) (f 2) && !qOn f (f (72 + 4 * (8 * a + t) + 1)).toNatClampNeg)
def qCfT (f : Nat → Int32) (w a : Nat) (c : Int32) (i : Nat) : Int32 := qIt (fun t c => if qOn f a then c + qCf1 f w a t else c) c i
def qCfA (f : Nat → Int32) (w K i : Nat) : Int32 := qIt (fun a c => qCfT f w a c K) (nI 0) i
def qConf (f : Nat → Int32) (n K w : Nat) : Int32 := if w = 0 then qDbl f n K else qCfA f w K n
theorem qCfT_off {f : Nat → Int32} {w a i : Nat} {c : Int32} (h : qOn f a = false) : qCfT f w a c i = c := by
  induction i with
  | zero => rfl
  | succ i ih => rw [qCfT, qIt, ← qCfT, ih]; simp [h]
theorem qCfT_s {f : Nat → Int32} {w a i : Nat} {c : Int32} : qCfT f w a c (i + 1) = if qOn f a then qCfT f w a c i + qCf1 f w a i else qCfT f w a c i := rfl
set_option maxRecDepth 100000 in
set_option maxHeartbeats 4000000 in
theorem ct_X8_conflicts1 {g : zGl} {h : zHp} {m : Nat} {x : Int32} {u : Nat → Nat → Int32} (hv : qBt x 0 2 = false) : zC g mX8_conflicts [.ref m, .int x] (zpM g h m u) (zMP g h m u (nI 1) (nI 0)) 0 0 := by
  refine zC_ofA (lv := [some (.ref m), some (.int x), none, none, none, none]) (by decide) rfl (Nat.le_of_ble_eq_true rfl) ?_
  refine z_aload_n (q := 1) dX8_conflicts_0 rfl rfl ?_
  refine z_iload_n (q := 2) dX8_conflicts_1 rfl rfl ?_
  refine z_i2l (q := 3) dX8_conflicts_2 rfl rfl ?_
  refine z_lconst (q := 4) (v := 0) dX8_conflicts_3 (by decide) rfl ?_
  refine z_ldc2 (q := 7) dX8_conflicts_4 zqX8_211 rfl ?_
  refine z_s3 (q := 10) dX8_conflicts_7 zkX8_57 zt_mX8_in rfl (Nat.le_of_ble_eq_true rfl) (ct_X8_in) rfl ?_
  refine z_eqi ((congrArg zbi ((qIn_bt (by decide) (by decide) (by decide) (by decide)).trans hv)).trans zbi_f) ?_
  refine z_if_eq (tg := 17) (q := 13) dX8_conflicts_10 rfl rfl ?_ ?_
  · intro hc10
    refine z_iconst (q := 18) dX8_conflicts_17 zci_1 rfl ?_
    refine z_x1 (q := 21) dX8_conflicts_18 zkX8_126 zt_mX8_refused rfl (by first | exact zpM_0 | exact zpM_a rfl | exact zpM_8) rfl (Nat.le_of_ble_eq_true rfl) (ct_X8_refused) rfl ?_
    refine z_eqi (show zbi (!decide (nI 1 ≤ 0)) = nI 1 by decide) ?_
    refine z_if_eq (tg := 26) (q := 24) dX8_conflicts_21 rfl rfl ?_ ?_
    · intro hc21
      exact absurd hc21 (by decide)
    · intro hc21
      refine z_iconst (q := 25) dX8_conflicts_24 zci_0 rfl ?_
      exact z_reti dX8_conflicts_25 rfl (zMP_i rfl zSc_rf rfl)
  · intro hc10
    exact absurd hc10 (by decide)
set_option maxRecDepth 100000 in
set_option maxHeartbeats 4000000 in
theorem ct_X8_conflicts0 {g : zGl} {h : zHp} {m w n K : Nat} {u : Nat → Nat → Int32} (hw : w ≤ 2) (hn : u 3 0 = nI n) (hn6 : n ≤ 6) (hK : u 3 1 = nI K) (hK8 : K ≤ 8) (hO : ∀ a t, a < n → t < K → u 3 (72 + 4 * (8 * a + t)) = nI 1 → ∃ o, o < 6 ∧ u 3 (72 + 4 * (8 * a + t) + 1) = nI o) : zC g mX8_conflicts [.ref m, .int (nI w)] (zpM g h m u) (zMP g h m u (nI 0) (qConf (u 3) n K w)) 0 0 := by
  have hv : qBt (nI w) 0 2 = true := qBt_i (by omega) hw (by decide)
  refine zC_ofA (lv := [some (.ref m), some (.int (nI w)), none, none, none, none]) (by decide) rfl (Nat.le_of_ble_eq_true rfl) ?_
  by_cases h0 : w = 0
  · subst h0
    refine z_aload_n (q := 1) dX8_conflicts_0 rfl rfl ?_
    refine z_iload_n (q := 2) dX8_conflicts_1 rfl rfl ?_
    refine z_i2l (q := 3) dX8_conflicts_2 rfl rfl ?_
    refine z_lconst (q := 4) (v := 0) dX8_conflicts_3 (by decide) rfl ?_
    refine z_ldc2 (q := 7) dX8_conflicts_4 zqX8_211 rfl ?_
    refine z_s3 (q := 10) dX8_conflicts_7 zkX8_57 zt_mX8_in rfl (Nat.le_of_ble_eq_true rfl) (ct_X8_in) rfl ?_
    refine z_eqi ((congrArg zbi ((qIn_bt (by decide) (by decide) (by decide) (by decide)).trans hv)).trans zbi_t) ?_
    refine z_if_eq (tg := 17) (q := 13) dX8_conflicts_10 rfl rfl ?_ ?_
    · intro hc10
      exact absurd hc10 (by decide)
    · intro hc10
      refine z_iconst (q := 14) dX8_conflicts_13 zci_0 rfl ?_
      refine z_goto (q := 0) (tg := 18) dX8_conflicts_14 rfl ?_
      refine z_x1 (q := 21) dX8_conflicts_18 zkX8_126 zt_mX8_refused rfl (by first | exact zpM_0 | exact zpM_a rfl | exact zpM_8) rfl (Nat.le_of_ble_eq_true rfl) (ct_X8_refused) rfl ?_
      refine z_eqi (show zbi (!decide (nI 0 ≤ 0)) = nI 0 by decide) ?_
      refine z_if_eq (tg := 26) (q := 24) dX8_conflicts_21 rfl rfl ?_ ?_
      · intro hc21
        generalize hU : va_up u 0 (va_up (u 0) 0 (nI 0)) = U
        have hS : zSc u U := by subst hU; exact zSc_rf
        have hrf : U 0 0 = nI 0 := by subst hU; rfl
        have h3 : U 3 = u 3 := hS.2.1
        have hn' : U 3 0 = nI n := by rw [h3]; exact hn
        have hK' : U 3 1 = nI K := by rw [h3]; exact hK
        refine z_iload_n (q := 27) dX8_conflicts_26 rfl rfl ?_
        refine z_if_ne (tg := 38) (q := 30) dX8_conflicts_27 rfl rfl ?_ ?_
        · intro hc27
          exact absurd hc27 (by decide)
        · intro hc27
          refine z_aload_n (q := 31) dX8_conflicts_30 rfl rfl ?_
          refine z_get (q := 34) dX8_conflicts_31 zfX8_16 (by first | exact zpM_0 | exact zpM_a rfl | exact zpM_8) rfl rfl ?_
          refine z_s1 (q := 37) dX8_conflicts_34 zkX8_213 zt_mX8_doubles rfl (Nat.le_of_ble_eq_true rfl) (ct_X8_doubles (by first | exact zpM_0 | exact zpM_a rfl | exact zpM_8) (by assumption) (by omega) (by assumption) (by omega)) rfl ?_
          exact z_reti dX8_conflicts_37 rfl (zMP_i (by simp [qConf, h3]) hS hrf)
      · intro hc21
        exact absurd hc21 (by decide)
  · skip
    have hw0 : ¬ nI w = 0 := fun z => h0 ((nI_z (by omega)).mp z)
    have loopT : ∀ U, zSc u U → U 0 0 = nI 0 → ∀ (a : Nat) (c : Int32), a < n → (∀ x y, zA g (zZc g mX8_conflicts (zMP g h m u (nI 0) (qConf (u 3) n K w)) 0 0) 0 0 177 [some (.ref m), some (.int (nI w)), some (.int (qCfT (u 3) w a c K)), some (.int (nI a)), x, y] [] (zpM g h m U)) →
        ∀ d i y, i + d = K → zA g (zZc g mX8_conflicts (zMP g h m u (nI 0) (qConf (u 3) n K w)) 0 0) 0 0 55 [some (.ref m), some (.int (nI w)), some (.int (qCfT (u 3) w a c i)), some (.int (nI a)), some (.int (nI i)), y] [] (zpM g h m U) := by
      intro U hS hrf a c ha after d
      have h3 : U 3 = u 3 := hS.2.1
      have hn' : U 3 0 = nI n := by rw [h3]; exact hn
      have hK' : U 3 1 = nI K := by rw [h3]; exact hK
      induction d using Nat.strongRecOn with
      | ind d ih =>
        intro i y hi
        refine z_iload (q := 57) dX8_conflicts_55 rfl rfl ?_
        refine z_aload_n (q := 58) dX8_conflicts_57 rfl rfl ?_
        refine z_get (q := 61) dX8_conflicts_58 zfX8_16 (by first | exact zpM_0 | exact zpM_a rfl | exact zpM_8) rfl rfl ?_
        refine z_iconst (q := 62) dX8_conflicts_61 zci_1 rfl ?_
        refine z_iald (q := 63) dX8_conflicts_62 (by first | exact zpM_0 | exact zpM_a rfl | exact zpM_8) (by omega) (by omega) rfl ?_
        refine z_eqi hK' ?_
        refine z_icmp_geN (tg := 177) (q := 66) dX8_conflicts_63 rfl rfl (by omega) (by omega) ?_ ?_
        · intro hc63
          have e8 : i = K := by omega
          subst e8
          exact after _ _
        · intro hc63
          refine z_aload_n (q := 67) dX8_conflicts_66 rfl rfl ?_
          refine z_get (q := 70) dX8_conflicts_67 zfX8_16 (by first | exact zpM_0 | exact zpM_a rfl | exact zpM_8) rfl rfl ?_
          refine z_iload_n (q := 71) dX8_conflicts_70 rfl rfl ?_
          refine z_s2 (q := 74) dX8_conflicts_71 zkX8_71 zt_mX8_isOn rfl (Nat.le_of_ble_eq_true rfl) (ct_X8_isOn (by first | exact zpM_0 | exact zpM_a rfl | exact zpM_8) (by omega)) rfl ?_
          refine z_ifb_eq (tg := 177) (q := 77) dX8_conflicts_74 rfl rfl ?_ ?_
          · intro hc74
            have e8 : qCfT (u 3) w a c i = qCfT (u 3) w a c K := by rw [h3] at hc74; rw [qCfT_off hc74, qCfT_off hc74]
            rw [e8]
            exact after _ _
          · intro hc74
            refine z_iload_n (q := 78) dX8_conflicts_77 rfl rfl ?_
            refine z_iload (q := 80) dX8_conflicts_78 rfl rfl ?_
            refine z_s2 (q := 83) dX8_conflicts_80 zkX8_83 zt_mX8_noteAt rfl (Nat.le_of_ble_eq_true rfl) (ct_X8_noteAt) rfl ?_
            refine z_istore (q := 85) dX8_conflicts_83 (Nat.le_of_ble_eq_true rfl) rfl rfl ?_
            have e7 : qCfT (u 3) w a c (i + 1) = qCfT (u 3) w a c i + qCf1 (u 3) w a i := by rw [h3] at hc74; rw [qCfT_s, if_pos hc74]
            refine z_iload_n (q := 86) dX8_conflicts_85 rfl rfl ?_
            refine z_iconst (q := 87) dX8_conflicts_86 zci_1 rfl ?_
            refine z_icmp_neN (tg := 126) (q := 90) dX8_conflicts_87 rfl rfl (by omega) (by omega) ?_ ?_
            · intro hc87
              refine z_iload_n (q := 127) dX8_conflicts_126 rfl rfl ?_
              refine z_aload_n (q := 128) dX8_conflicts_127 rfl rfl ?_
              refine z_get (q := 131) dX8_conflicts_128 zfX8_16 (by first | exact zpM_0 | exact zpM_a rfl | exact zpM_8) rfl rfl ?_
              refine z_iload (q := 133) dX8_conflicts_131 rfl rfl ?_
              refine z_aload_n (q := 134) dX8_conflicts_133 rfl rfl ?_
              refine z_get (q := 137) dX8_conflicts_134 zfX8_16 (by first | exact zpM_0 | exact zpM_a rfl | exact zpM_8) rfl rfl ?_
              refine z_iconst (q := 138) dX8_conflicts_137 zci_2 rfl ?_
              refine z_iald (q := 139) dX8_conflicts_138 (by first | exact zpM_0 | exact zpM_a rfl | exact zpM_8) (by omega) (by omega) rfl ?_
              refine z_s3 (q := 142) dX8_conflicts_139 zkX8_79 zt_mX8_isLive rfl (Nat.le_of_ble_eq_true rfl) (ct_X8_isLive (by first | exact zpM_0 | exact zpM_a rfl | exact zpM_8) (by omega)) rfl ?_
              refine z_ifb_eq (tg := 168) (q := 145) dX8_conflicts_142 rfl rfl ?_ ?_
              · intro hc142
                have e9 : qCf1 (u 3) w a i = nI 0 := by rw [h3] at hc142; simp [qCf1, hc87, hc142, zbi]
                refine z_iconst (q := 169) dX8_conflicts_168 zci_0 rfl ?_
                refine z_eqi e9.symm ?_
                refine z_iadd (q := 170) dX8_conflicts_169 rfl ?_
                rw [← e7]
                refine z_istore_n (q := 171) dX8_conflicts_170 (Nat.le_of_ble_eq_true rfl) rfl rfl ?_
                refine z_iincN (q := 174) dX8_conflicts_171 rfl rfl rfl ?_
                refine z_goto (q := 0) (tg := 55) dX8_conflicts_174 rfl ?_
                exact ih (d - 1) (by omega) (i + 1) _ (by omega)
              · intro hc142
                rw [h3] at hc142
                obtain ⟨o, ho, hoo⟩ := hO a i ha (by omega) (by simp only [qLive, Bool.and_eq_true, decide_eq_true_eq] at hc142; exact hc142.1)
                have hoc : (u 3 (72 + 4 * (8 * a + i) + 1)).toNatClampNeg = o := by rw [hoo, nI_clamp (by omega)]
                refine z_aload_n (q := 146) dX8_conflicts_145 rfl rfl ?_
                refine z_get (q := 149) dX8_conflicts_146 zfX8_16 (by first | exact zpM_0 | exact zpM_a rfl | exact zpM_8) rfl rfl ?_
                refine z_aload_n (q := 150) dX8_conflicts_149 rfl rfl ?_
                refine z_get (q := 153) dX8_conflicts_150 zfX8_16 (by first | exact zpM_0 | exact zpM_a rfl | exact zpM_8) rfl rfl ?_
                refine z_iload (q := 155) dX8_conflicts_153 rfl rfl ?_
                refine z_iconst (q := 156) dX8_conflicts_155 zci_1 rfl ?_
                refine z_iaddN (q := 157) dX8_conflicts_156 rfl ?_
                refine z_iald (q := 158) dX8_conflicts_157 (by first | exact zpM_0 | exact zpM_a rfl | exact zpM_8) (by omega) (by omega) rfl ?_
                refine z_eqi (show U 3 (72 + 4 * (8 * a + i) + 1) = nI o by rw [h3]; exact hoo) ?_
                refine z_s2 (q := 161) dX8_conflicts_158 zkX8_71 zt_mX8_isOn rfl (Nat.le_of_ble_eq_true rfl) (ct_X8_isOn (by first | exact zpM_0 | exact zpM_a rfl | exact zpM_8) (by omega)) rfl ?_
                refine z_ifb_ne (tg := 168) (q := 164) dX8_conflicts_161 rfl rfl ?_ ?_
                · intro hc161
                  have e9 : qCf1 (u 3) w a i = nI 0 := by rw [h3] at hc161; simp [qCf1, hc87, hoc, hc161, zbi]
                  refine z_iconst (q := 169) dX8_conflicts_168 zci_0 rfl ?_
                  refine z_eqi e9.symm ?_
                  refine z_iadd (q := 170) dX8_conflicts_169 rfl ?_
                  rw [← e7]
                  refine z_istore_n (q := 171) dX8_conflicts_170 (Nat.le_of_ble_eq_true rfl) rfl rfl ?_
                  refine z_iincN (q := 174) dX8_conflicts_171 rfl rfl rfl ?_
                  refine z_goto (q := 0) (tg := 55) dX8_conflicts_174 rfl ?_
                  exact ih (d - 1) (by omega) (i + 1) _ (by omega)
                · intro hc161
                  have e9 : qCf1 (u 3) w a i = nI 1 := by rw [h3] at hc161; simp [qCf1, hc87, hc142, hoc, hc161, zbi]
                  refine z_iconst (q := 165) dX8_conflicts_164 zci_1 rfl ?_
                  refine z_goto (q := 0) (tg := 169) dX8_conflicts_165 rfl ?_
                  refine z_eqi e9.symm ?_
                  refine z_iadd (q := 170) dX8_conflicts_169 rfl ?_
                  rw [← e7]
                  refine z_istore_n (q := 171) dX8_conflicts_170 (Nat.le_of_ble_eq_true rfl) rfl rfl ?_
                  refine z_iincN (q := 174) dX8_conflicts_171 rfl rfl rfl ?_
                  refine z_goto (q := 0) (tg := 55) dX8_conflicts_174 rfl ?_
                  exact ih (d - 1) (by omega) (i + 1) _ (by omega)
            · intro hc87
              refine z_iload_n (q := 91) dX8_conflicts_90 rfl rfl ?_
              refine z_aload_n (q := 92) dX8_conflicts_91 rfl rfl ?_
              refine z_get (q := 95) dX8_conflicts_92 zfX8_16 (by first | exact zpM_0 | exact zpM_a rfl | exact zpM_8) rfl rfl ?_
              refine z_iload (q := 97) dX8_conflicts_95 rfl rfl ?_
              refine z_s2 (q := 100) dX8_conflicts_97 zkX8_107 zt_mX8_isDone rfl (Nat.le_of_ble_eq_true rfl) (ct_X8_isDone (by first | exact zpM_0 | exact zpM_a rfl | exact zpM_8) (by omega)) rfl ?_
              refine z_ifb_eq (tg := 120) (q := 103) dX8_conflicts_100 rfl rfl ?_ ?_
              · intro hc100
                have e9 : qCf1 (u 3) w a i = nI 0 := by rw [h3] at hc100; simp [qCf1, hc87, hc100, zbi]
                refine z_iconst (q := 121) dX8_conflicts_120 zci_0 rfl ?_
                refine z_eqi e9.symm ?_
                refine z_iadd (q := 122) dX8_conflicts_121 rfl ?_
                rw [← e7]
                refine z_istore_n (q := 123) dX8_conflicts_122 (Nat.le_of_ble_eq_true rfl) rfl rfl ?_
                refine z_goto (q := 0) (tg := 171) dX8_conflicts_123 rfl ?_
                refine z_iincN (q := 174) dX8_conflicts_171 rfl rfl rfl ?_
                refine z_goto (q := 0) (tg := 55) dX8_conflicts_174 rfl ?_
                exact ih (d - 1) (by omega) (i + 1) _ (by omega)
              · intro hc100
                refine z_aload_n (q := 104) dX8_conflicts_103 rfl rfl ?_
                refine z_get (q := 107) dX8_conflicts_104 zfX8_16 (by first | exact zpM_0 | exact zpM_a rfl | exact zpM_8) rfl rfl ?_
                refine z_iload (q := 109) dX8_conflicts_107 rfl rfl ?_
                refine z_iconst (q := 110) dX8_conflicts_109 zci_0 rfl ?_
                refine z_iadd0 (q := 111) dX8_conflicts_110 rfl ?_
                refine z_iald (q := 112) dX8_conflicts_111 (by first | exact zpM_0 | exact zpM_a rfl | exact zpM_8) (by omega) (by omega) rfl ?_
                refine z_iconst (q := 113) dX8_conflicts_112 zci_2 rfl ?_
                refine z_icmp_eq (tg := 120) (q := 116) dX8_conflicts_113 rfl rfl ?_ ?_
                · intro hc113
                  have e9 : qCf1 (u 3) w a i = nI 0 := by rw [h3] at hc113; simp [qCf1, hc87, hc113, zbi]
                  refine z_iconst (q := 121) dX8_conflicts_120 zci_0 rfl ?_
                  refine z_eqi e9.symm ?_
                  refine z_iadd (q := 122) dX8_conflicts_121 rfl ?_
                  rw [← e7]
                  refine z_istore_n (q := 123) dX8_conflicts_122 (Nat.le_of_ble_eq_true rfl) rfl rfl ?_
                  refine z_goto (q := 0) (tg := 171) dX8_conflicts_123 rfl ?_
                  refine z_iincN (q := 174) dX8_conflicts_171 rfl rfl rfl ?_
                  refine z_goto (q := 0) (tg := 55) dX8_conflicts_174 rfl ?_
                  exact ih (d - 1) (by omega) (i + 1) _ (by omega)
                · intro hc113
                  have e9 : qCf1 (u 3) w a i = nI 1 := by rw [h3] at hc113 hc100; simp [qCf1, hc87, hc100, hc113, zbi]
                  refine z_iconst (q := 117) dX8_conflicts_116 zci_1 rfl ?_
                  refine z_goto (q := 0) (tg := 121) dX8_conflicts_117 rfl ?_
                  refine z_eqi e9.symm ?_
                  refine z_iadd (q := 122) dX8_conflicts_121 rfl ?_
                  rw [← e7]
                  refine z_istore_n (q := 123) dX8_conflicts_122 (Nat.le_of_ble_eq_true rfl) rfl rfl ?_
                  refine z_goto (q := 0) (tg := 171) dX8_conflicts_123 rfl ?_
                  refine z_iincN (q := 174) dX8_conflicts_171 rfl rfl rfl ?_
                  refine z_goto (q := 0) (tg := 55) dX8_conflicts_174 rfl ?_
                  exact ih (d - 1) (by omega) (i + 1) _ (by omega)
    have loopA : ∀ U, zSc u U → U 0 0 = nI 0 → ∀ d i x y, i + d = n → zA g (zZc g mX8_conflicts (zMP g h m u (nI 0) (qConf (u 3) n K w)) 0 0) 0 0 42 [some (.ref m), some (.int (nI w)), some (.int (qCfA (u 3) w K i)), some (.int (nI i)), x, y] [] (zpM g h m U) := by
      intro U hS hrf d
      have h3 : U 3 = u 3 := hS.2.1
      have hn' : U 3 0 = nI n := by rw [h3]; exact hn
      induction d using Nat.strongRecOn with
      | ind d ih =>
        intro i x y hi
        refine z_iload_n (q := 43) dX8_conflicts_42 rfl rfl ?_
        refine z_aload_n (q := 44) dX8_conflicts_43 rfl rfl ?_
        refine z_get (q := 47) dX8_conflicts_44 zfX8_16 (by first | exact zpM_0 | exact zpM_a rfl | exact zpM_8) rfl rfl ?_
        refine z_iconst (q := 48) dX8_conflicts_47 zci_0 rfl ?_
        refine z_iald (q := 49) dX8_conflicts_48 (by first | exact zpM_0 | exact zpM_a rfl | exact zpM_8) (by omega) (by omega) rfl ?_
        refine z_eqi hn' ?_
        refine z_icmp_geN (tg := 183) (q := 52) dX8_conflicts_49 rfl rfl (by omega) (by omega) ?_ ?_
        · intro hc49
          refine z_iload_n (q := 184) dX8_conflicts_183 rfl rfl ?_
          exact z_reti dX8_conflicts_184 rfl (zMP_i (by rw [show i = n by omega]; simp [qConf, h0]) hS hrf)
        · intro hc49
          refine z_iconst (q := 53) dX8_conflicts_52 zci_0 rfl ?_
          refine z_istore (q := 55) dX8_conflicts_53 (Nat.le_of_ble_eq_true rfl) rfl rfl ?_
          refine loopT U hS hrf i _ hc49 (fun x y => ?_) K 0 _ (by omega)
          refine z_iincN (q := 180) dX8_conflicts_177 rfl rfl rfl ?_
          refine z_goto (q := 0) (tg := 42) dX8_conflicts_180 rfl ?_
          exact ih (d - 1) (by omega) (i + 1) x y (by omega)
    refine z_aload_n (q := 1) dX8_conflicts_0 rfl rfl ?_
    refine z_iload_n (q := 2) dX8_conflicts_1 rfl rfl ?_
    refine z_i2l (q := 3) dX8_conflicts_2 rfl rfl ?_
    refine z_lconst (q := 4) (v := 0) dX8_conflicts_3 (by decide) rfl ?_
    refine z_ldc2 (q := 7) dX8_conflicts_4 zqX8_211 rfl ?_
    refine z_s3 (q := 10) dX8_conflicts_7 zkX8_57 zt_mX8_in rfl (Nat.le_of_ble_eq_true rfl) (ct_X8_in) rfl ?_
    refine z_eqi ((congrArg zbi ((qIn_bt (by decide) (by decide) (by decide) (by decide)).trans hv)).trans zbi_t) ?_
    refine z_if_eq (tg := 17) (q := 13) dX8_conflicts_10 rfl rfl ?_ ?_
    · intro hc10
      exact absurd hc10 (by decide)
    · intro hc10
      refine z_iconst (q := 14) dX8_conflicts_13 zci_0 rfl ?_
      refine z_goto (q := 0) (tg := 18) dX8_conflicts_14 rfl ?_
      refine z_x1 (q := 21) dX8_conflicts_18 zkX8_126 zt_mX8_refused rfl (by first | exact zpM_0 | exact zpM_a rfl | exact zpM_8) rfl (Nat.le_of_ble_eq_true rfl) (ct_X8_refused) rfl ?_
      refine z_eqi (show zbi (!decide (nI 0 ≤ 0)) = nI 0 by decide) ?_
      refine z_if_eq (tg := 26) (q := 24) dX8_conflicts_21 rfl rfl ?_ ?_
      · intro hc21
        generalize hU : va_up u 0 (va_up (u 0) 0 (nI 0)) = U
        have hS : zSc u U := by subst hU; exact zSc_rf
        have hrf : U 0 0 = nI 0 := by subst hU; rfl
        refine z_iload_n (q := 27) dX8_conflicts_26 rfl rfl ?_
        refine z_if_ne (tg := 38) (q := 30) dX8_conflicts_27 rfl rfl ?_ ?_
        · intro hc27
          skip
          refine z_iconst (q := 39) dX8_conflicts_38 zci_0 rfl ?_
          refine z_istore_n (q := 40) dX8_conflicts_39 (Nat.le_of_ble_eq_true rfl) rfl rfl ?_
          refine z_iconst (q := 41) dX8_conflicts_40 zci_0 rfl ?_
          refine z_istore_n (q := 42) dX8_conflicts_41 (Nat.le_of_ble_eq_true rfl) rfl rfl ?_
          exact loopA U hS hrf n 0 _ _ (by omega)
        · intro hc27
          exact absurd hc27 hw0
      · intro hc21
        exact absurd hc21 (by decide)
