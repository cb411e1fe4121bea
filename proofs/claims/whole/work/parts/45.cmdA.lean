/-! ===== the component: disturbances, commands ===== -/
set_option maxRecDepth 100000 in
set_option maxHeartbeats 4000000 in
theorem ct_X7_disturb {g : zGl} {h : zHp} {b o n K r : Nat} {d : Nat → Nat → Int32} {f : Nat → Int32} (hw : zWo o) (hR : zR d o f n K) (hr : r < 2 ^ 31) : zC g mX7_disturb [.ref (b + o), .int (nI r)] (zpT g h b d) (zTU g h b (fun D => zR D o (qDis f n r) n K ∧ zOut d D o 15) none) 0 0 := by
  have hn := zR_n6 hR
  refine zC_ofA (lv := [some (.ref (b + o)), some (.int (nI r)), none]) (by decide) rfl (Nat.le_of_ble_eq_true rfl) ?_
  by_cases hz : n = 0
  · have hq : qDis f n r = f := by rw [qDis, if_pos hz]
    refine z_aload_n (q := 1) dX7_disturb_0 rfl rfl ?_
    refine z_get (q := 4) dX7_disturb_1 zfX7_94 (by first | exact zT_o hw | exact zT_w hw rfl | exact zT_S | exact zT_N (zNo_w hw) | exact zT_n (zNo_w hw) (by decide)) rfl rfl ?_
    refine z_eqi ((zR_0 hR).trans (congrArg nI hz)) ?_
    refine z_if_gt (tg := 8) (q := 7) dX7_disturb_4 rfl rfl ?_ ?_
    · intro hc4
      exact absurd hc4 (by decide)
    · intro hc4
      exact z_ret dX7_disturb_7 rfl (⟨rfl, _, rfl, by rw [hq]; exact hR, zOut_r⟩)
  · have hz0 : 0 < n := by omega
    have ha : r / 8 % n < n := Nat.mod_lt _ hz0
    rcases (show r % 8 = 0 ∨ r % 8 = 1 ∨ r % 8 = 2 ∨ r % 8 = 3 ∨ r % 8 = 4 ∨ r % 8 = 5 ∨ r % 8 = 6 ∨ r % 8 = 7 by omega) with hm | hm | hm | hm | hm | hm | hm | hm
    · skip
      refine z_aload_n (q := 1) dX7_disturb_0 rfl rfl ?_
      refine z_get (q := 4) dX7_disturb_1 zfX7_94 (by first | exact zT_o hw | exact zT_w hw rfl | exact zT_S | exact zT_N (zNo_w hw) | exact zT_n (zNo_w hw) (by decide)) rfl rfl ?_
      refine z_eqi (zR_0 hR) ?_
      refine z_if_gt (tg := 8) (q := 7) dX7_disturb_4 rfl rfl ?_ ?_
      · intro hc4
        refine z_iload_n (q := 9) dX7_disturb_8 rfl rfl ?_
        refine z_bipush (q := 11) dX7_disturb_9 zcb_8 rfl ?_
        refine z_idivN (q := 12) dX7_disturb_11 (by omega) (by omega) (by omega) rfl ?_
        refine z_aload_n (q := 13) dX7_disturb_12 rfl rfl ?_
        refine z_get (q := 16) dX7_disturb_13 zfX7_94 (by first | exact zT_o hw | exact zT_w hw rfl | exact zT_S | exact zT_N (zNo_w hw) | exact zT_n (zNo_w hw) (by decide)) rfl rfl ?_
        refine z_eqi (zR_0 hR) ?_
        refine z_iremN (q := 17) dX7_disturb_16 (by omega) (by omega) (by omega) rfl ?_
        refine z_istore_n (q := 18) dX7_disturb_17 (Nat.le_of_ble_eq_true rfl) rfl rfl ?_
        refine z_iload_n (q := 19) dX7_disturb_18 rfl rfl ?_
        refine z_bipush (q := 21) dX7_disturb_19 zcb_8 rfl ?_
        refine z_iremN (q := 22) dX7_disturb_21 (by omega) (by omega) (by omega) rfl ?_
        refine z_eqi (congrArg nI hm) ?_
        refine z_tableIn (q := 0) (tg := 48) dX7_disturb_22 (by decide) (by decide) rfl rfl ?_
        refine z_aload_n (q := 49) dX7_disturb_48 rfl rfl ?_
        refine z_iload_n (q := 50) dX7_disturb_49 rfl rfl ?_
        refine z_V1 (q := 53) dX7_disturb_50 zkX7_212 zt_mX6_switchAgent rfl (by first | exact zT_o hw | exact zT_w hw rfl | exact zT_S | exact zT_N (zNo_w hw) | exact zT_n (zNo_w hw) (by decide)) rfl (Nat.le_of_ble_eq_true rfl) (ct_X6_switchAgent hw hR ha) (Nat.zero_le _) (Nat.zero_le _) rfl ?_
        rintro _ _ ⟨rfl, D, rfl, hD, hO⟩
        refine z_goto (q := 0) (tg := 95) dX7_disturb_53 rfl ?_
        exact z_ret dX7_disturb_95 rfl (⟨rfl, D, rfl, by rw [qDis_0 hz hm]; exact hD, hO⟩)
      · intro hc4
        exact absurd (nI_lt hz0 (by omega)) hc4
    · skip
      refine z_aload_n (q := 1) dX7_disturb_0 rfl rfl ?_
      refine z_get (q := 4) dX7_disturb_1 zfX7_94 (by first | exact zT_o hw | exact zT_w hw rfl | exact zT_S | exact zT_N (zNo_w hw) | exact zT_n (zNo_w hw) (by decide)) rfl rfl ?_
      refine z_eqi (zR_0 hR) ?_
      refine z_if_gt (tg := 8) (q := 7) dX7_disturb_4 rfl rfl ?_ ?_
      · intro hc4
        refine z_iload_n (q := 9) dX7_disturb_8 rfl rfl ?_
        refine z_bipush (q := 11) dX7_disturb_9 zcb_8 rfl ?_
        refine z_idivN (q := 12) dX7_disturb_11 (by omega) (by omega) (by omega) rfl ?_
        refine z_aload_n (q := 13) dX7_disturb_12 rfl rfl ?_
        refine z_get (q := 16) dX7_disturb_13 zfX7_94 (by first | exact zT_o hw | exact zT_w hw rfl | exact zT_S | exact zT_N (zNo_w hw) | exact zT_n (zNo_w hw) (by decide)) rfl rfl ?_
        refine z_eqi (zR_0 hR) ?_
        refine z_iremN (q := 17) dX7_disturb_16 (by omega) (by omega) (by omega) rfl ?_
        refine z_istore_n (q := 18) dX7_disturb_17 (Nat.le_of_ble_eq_true rfl) rfl rfl ?_
        refine z_iload_n (q := 19) dX7_disturb_18 rfl rfl ?_
        refine z_bipush (q := 21) dX7_disturb_19 zcb_8 rfl ?_
        refine z_iremN (q := 22) dX7_disturb_21 (by omega) (by omega) (by omega) rfl ?_
        refine z_eqi (congrArg nI hm) ?_
        refine z_tableIn (q := 0) (tg := 56) dX7_disturb_22 (by decide) (by decide) rfl rfl ?_
        refine z_aload_n (q := 57) dX7_disturb_56 rfl rfl ?_
        refine z_get (q := 60) dX7_disturb_57 zfX7_133 (by first | exact zT_o hw | exact zT_w hw rfl | exact zT_S | exact zT_N (zNo_w hw) | exact zT_n (zNo_w hw) (by decide)) rfl rfl ?_
        refine z_iload_n (q := 61) dX7_disturb_60 rfl rfl ?_
        refine z_iload_n (q := 62) dX7_disturb_61 rfl rfl ?_
        refine z_bipush (q := 64) dX7_disturb_62 zcb_64 rfl ?_
        refine z_idivN (q := 65) dX7_disturb_64 (by omega) (by omega) (by omega) rfl ?_
        refine z_bipush (q := 67) dX7_disturb_65 zcb_23 rfl ?_
        refine z_iremN (q := 68) dX7_disturb_67 (by omega) (by omega) (by omega) rfl ?_
        refine z_iastT (q := 69) dX7_disturb_68 (zWl_T hw rfl) (by omega) rfl ?_
        refine z_goto (q := 0) (tg := 95) dX7_disturb_69 rfl ?_
        exact z_ret dX7_disturb_95 rfl (⟨rfl, _, rfl, by rw [qDis_1 hz hm]; exact zR_r ⟨_, Nat.mod_lt _ (by decide), rfl⟩ ha hR, zOut_w zOut_r (by omega)⟩)
      · intro hc4
        exact absurd (nI_lt hz0 (by omega)) hc4
    · skip
      refine z_aload_n (q := 1) dX7_disturb_0 rfl rfl ?_
      refine z_get (q := 4) dX7_disturb_1 zfX7_94 (by first | exact zT_o hw | exact zT_w hw rfl | exact zT_S | exact zT_N (zNo_w hw) | exact zT_n (zNo_w hw) (by decide)) rfl rfl ?_
      refine z_eqi (zR_0 hR) ?_
      refine z_if_gt (tg := 8) (q := 7) dX7_disturb_4 rfl rfl ?_ ?_
      · intro hc4
        refine z_iload_n (q := 9) dX7_disturb_8 rfl rfl ?_
        refine z_bipush (q := 11) dX7_disturb_9 zcb_8 rfl ?_
        refine z_idivN (q := 12) dX7_disturb_11 (by omega) (by omega) (by omega) rfl ?_
        refine z_aload_n (q := 13) dX7_disturb_12 rfl rfl ?_
        refine z_get (q := 16) dX7_disturb_13 zfX7_94 (by first | exact zT_o hw | exact zT_w hw rfl | exact zT_S | exact zT_N (zNo_w hw) | exact zT_n (zNo_w hw) (by decide)) rfl rfl ?_
        refine z_eqi (zR_0 hR) ?_
        refine z_iremN (q := 17) dX7_disturb_16 (by omega) (by omega) (by omega) rfl ?_
        refine z_istore_n (q := 18) dX7_disturb_17 (Nat.le_of_ble_eq_true rfl) rfl rfl ?_
        refine z_iload_n (q := 19) dX7_disturb_18 rfl rfl ?_
        refine z_bipush (q := 21) dX7_disturb_19 zcb_8 rfl ?_
        refine z_iremN (q := 22) dX7_disturb_21 (by omega) (by omega) (by omega) rfl ?_
        refine z_eqi (congrArg nI hm) ?_
        refine z_tableIn (q := 0) (tg := 72) dX7_disturb_22 (by decide) (by decide) rfl rfl ?_
        refine z_aload_n (q := 73) dX7_disturb_72 rfl rfl ?_
        refine z_iload_n (q := 74) dX7_disturb_73 rfl rfl ?_
        refine z_iload_n (q := 75) dX7_disturb_74 rfl rfl ?_
        refine z_bipush (q := 77) dX7_disturb_75 zcb_64 rfl ?_
        refine z_idivN (q := 78) dX7_disturb_77 (by omega) (by omega) (by omega) rfl ?_
        refine z_bipush (q := 80) dX7_disturb_78 zcb_12 rfl ?_
        refine z_iremN (q := 81) dX7_disturb_80 (by omega) (by omega) (by omega) rfl ?_
        refine z_iload_n (q := 82) dX7_disturb_81 rfl rfl ?_
        refine z_sipush (q := 85) dX7_disturb_82 zcs_1024 rfl ?_
        refine z_idivN (q := 86) dX7_disturb_85 (by omega) (by omega) (by omega) rfl ?_
        refine z_bipush (q := 88) dX7_disturb_86 zcb_12 rfl ?_
        refine z_iremN (q := 89) dX7_disturb_88 (by omega) (by omega) (by omega) rfl ?_
        refine z_V3 (q := 92) dX7_disturb_89 zkX7_209 zt_mX6_placeAgent rfl (by first | exact zT_o hw | exact zT_w hw rfl | exact zT_S | exact zT_N (zNo_w hw) | exact zT_n (zNo_w hw) (by decide)) rfl (Nat.le_of_ble_eq_true rfl) (ct_X6_placeAgent hw hR ha ⟨_, Nat.mod_lt _ (by decide), rfl⟩ ⟨_, Nat.mod_lt _ (by decide), rfl⟩) (Nat.zero_le _) (Nat.zero_le _) rfl ?_
        rintro _ _ ⟨rfl, D, rfl, hD, hO⟩
        refine z_goto (q := 0) (tg := 95) dX7_disturb_92 rfl ?_
        exact z_ret dX7_disturb_95 rfl (⟨rfl, D, rfl, by rw [qDis_2 hz hm]; exact hD, hO⟩)
      · intro hc4
        exact absurd (nI_lt hz0 (by omega)) hc4
    · skip
      refine z_aload_n (q := 1) dX7_disturb_0 rfl rfl ?_
      refine z_get (q := 4) dX7_disturb_1 zfX7_94 (by first | exact zT_o hw | exact zT_w hw rfl | exact zT_S | exact zT_N (zNo_w hw) | exact zT_n (zNo_w hw) (by decide)) rfl rfl ?_
      refine z_eqi (zR_0 hR) ?_
      refine z_if_gt (tg := 8) (q := 7) dX7_disturb_4 rfl rfl ?_ ?_
      · intro hc4
        refine z_iload_n (q := 9) dX7_disturb_8 rfl rfl ?_
        refine z_bipush (q := 11) dX7_disturb_9 zcb_8 rfl ?_
        refine z_idivN (q := 12) dX7_disturb_11 (by omega) (by omega) (by omega) rfl ?_
        refine z_aload_n (q := 13) dX7_disturb_12 rfl rfl ?_
        refine z_get (q := 16) dX7_disturb_13 zfX7_94 (by first | exact zT_o hw | exact zT_w hw rfl | exact zT_S | exact zT_N (zNo_w hw) | exact zT_n (zNo_w hw) (by decide)) rfl rfl ?_
        refine z_eqi (zR_0 hR) ?_
        refine z_iremN (q := 17) dX7_disturb_16 (by omega) (by omega) (by omega) rfl ?_
        refine z_istore_n (q := 18) dX7_disturb_17 (Nat.le_of_ble_eq_true rfl) rfl rfl ?_
        refine z_iload_n (q := 19) dX7_disturb_18 rfl rfl ?_
        refine z_bipush (q := 21) dX7_disturb_19 zcb_8 rfl ?_
        refine z_iremN (q := 22) dX7_disturb_21 (by omega) (by omega) (by omega) rfl ?_
        refine z_eqi (congrArg nI hm) ?_
        refine z_tableOut (q := 0) (tg := 95) dX7_disturb_22 (by decide) rfl ?_
        exact z_ret dX7_disturb_95 rfl (⟨rfl, _, rfl, by rw [qDis_3 hz (by omega) (by omega) (by omega)]; exact hR, zOut_r⟩)
      · intro hc4
        exact absurd (nI_lt hz0 (by omega)) hc4
    · skip
      refine z_aload_n (q := 1) dX7_disturb_0 rfl rfl ?_
      refine z_get (q := 4) dX7_disturb_1 zfX7_94 (by first | exact zT_o hw | exact zT_w hw rfl | exact zT_S | exact zT_N (zNo_w hw) | exact zT_n (zNo_w hw) (by decide)) rfl rfl ?_
      refine z_eqi (zR_0 hR) ?_
      refine z_if_gt (tg := 8) (q := 7) dX7_disturb_4 rfl rfl ?_ ?_
      · intro hc4
        refine z_iload_n (q := 9) dX7_disturb_8 rfl rfl ?_
        refine z_bipush (q := 11) dX7_disturb_9 zcb_8 rfl ?_
        refine z_idivN (q := 12) dX7_disturb_11 (by omega) (by omega) (by omega) rfl ?_
        refine z_aload_n (q := 13) dX7_disturb_12 rfl rfl ?_
        refine z_get (q := 16) dX7_disturb_13 zfX7_94 (by first | exact zT_o hw | exact zT_w hw rfl | exact zT_S | exact zT_N (zNo_w hw) | exact zT_n (zNo_w hw) (by decide)) rfl rfl ?_
        refine z_eqi (zR_0 hR) ?_
        refine z_iremN (q := 17) dX7_disturb_16 (by omega) (by omega) (by omega) rfl ?_
        refine z_istore_n (q := 18) dX7_disturb_17 (Nat.le_of_ble_eq_true rfl) rfl rfl ?_
        refine z_iload_n (q := 19) dX7_disturb_18 rfl rfl ?_
        refine z_bipush (q := 21) dX7_disturb_19 zcb_8 rfl ?_
        refine z_iremN (q := 22) dX7_disturb_21 (by omega) (by omega) (by omega) rfl ?_
        refine z_eqi (congrArg nI hm) ?_
        refine z_tableOut (q := 0) (tg := 95) dX7_disturb_22 (by decide) rfl ?_
        exact z_ret dX7_disturb_95 rfl (⟨rfl, _, rfl, by rw [qDis_3 hz (by omega) (by omega) (by omega)]; exact hR, zOut_r⟩)
      · intro hc4
        exact absurd (nI_lt hz0 (by omega)) hc4
    · skip
      refine z_aload_n (q := 1) dX7_disturb_0 rfl rfl ?_
      refine z_get (q := 4) dX7_disturb_1 zfX7_94 (by first | exact zT_o hw | exact zT_w hw rfl | exact zT_S | exact zT_N (zNo_w hw) | exact zT_n (zNo_w hw) (by decide)) rfl rfl ?_
      refine z_eqi (zR_0 hR) ?_
      refine z_if_gt (tg := 8) (q := 7) dX7_disturb_4 rfl rfl ?_ ?_
      · intro hc4
        refine z_iload_n (q := 9) dX7_disturb_8 rfl rfl ?_
        refine z_bipush (q := 11) dX7_disturb_9 zcb_8 rfl ?_
        refine z_idivN (q := 12) dX7_disturb_11 (by omega) (by omega) (by omega) rfl ?_
        refine z_aload_n (q := 13) dX7_disturb_12 rfl rfl ?_
        refine z_get (q := 16) dX7_disturb_13 zfX7_94 (by first | exact zT_o hw | exact zT_w hw rfl | exact zT_S | exact zT_N (zNo_w hw) | exact zT_n (zNo_w hw) (by decide)) rfl rfl ?_
        refine z_eqi (zR_0 hR) ?_
        refine z_iremN (q := 17) dX7_disturb_16 (by omega) (by omega) (by omega) rfl ?_
        refine z_istore_n (q := 18) dX7_disturb_17 (Nat.le_of_ble_eq_true rfl) rfl rfl ?_
        refine z_iload_n (q := 19) dX7_disturb_18 rfl rfl ?_
        refine z_bipush (q := 21) dX7_disturb_19 zcb_8 rfl ?_
        refine z_iremN (q := 22) dX7_disturb_21 (by omega) (by omega) (by omega) rfl ?_
        refine z_eqi (congrArg nI hm) ?_
        refine z_tableOut (q := 0) (tg := 95) dX7_disturb_22 (by decide) rfl ?_
        exact z_ret dX7_disturb_95 rfl (⟨rfl, _, rfl, by rw [qDis_3 hz (by omega) (by omega) (by omega)]; exact hR, zOut_r⟩)
      · intro hc4
        exact absurd (nI_lt hz0 (by omega)) hc4
    · skip
      refine z_aload_n (q := 1) dX7_disturb_0 rfl rfl ?_
      refine z_get (q := 4) dX7_disturb_1 zfX7_94 (by first | exact zT_o hw | exact zT_w hw rfl | exact zT_S | exact zT_N (zNo_w hw) | exact zT_n (zNo_w hw) (by decide)) rfl rfl ?_
      refine z_eqi (zR_0 hR) ?_
      refine z_if_gt (tg := 8) (q := 7) dX7_disturb_4 rfl rfl ?_ ?_
      · intro hc4
        refine z_iload_n (q := 9) dX7_disturb_8 rfl rfl ?_
        refine z_bipush (q := 11) dX7_disturb_9 zcb_8 rfl ?_
        refine z_idivN (q := 12) dX7_disturb_11 (by omega) (by omega) (by omega) rfl ?_
        refine z_aload_n (q := 13) dX7_disturb_12 rfl rfl ?_
        refine z_get (q := 16) dX7_disturb_13 zfX7_94 (by first | exact zT_o hw | exact zT_w hw rfl | exact zT_S | exact zT_N (zNo_w hw) | exact zT_n (zNo_w hw) (by decide)) rfl rfl ?_
        refine z_eqi (zR_0 hR) ?_
        refine z_iremN (q := 17) dX7_disturb_16 (by omega) (by omega) (by omega) rfl ?_
        refine z_istore_n (q := 18) dX7_disturb_17 (Nat.le_of_ble_eq_true rfl) rfl rfl ?_
        refine z_iload_n (q := 19) dX7_disturb_18 rfl rfl ?_
        refine z_bipush (q := 21) dX7_disturb_19 zcb_8 rfl ?_
        refine z_iremN (q := 22) dX7_disturb_21 (by omega) (by omega) (by omega) rfl ?_
        refine z_eqi (congrArg nI hm) ?_
        refine z_tableOut (q := 0) (tg := 95) dX7_disturb_22 (by decide) rfl ?_
        exact z_ret dX7_disturb_95 rfl (⟨rfl, _, rfl, by rw [qDis_3 hz (by omega) (by omega) (by omega)]; exact hR, zOut_r⟩)
      · intro hc4
        exact absurd (nI_lt hz0 (by omega)) hc4
    · skip
      refine z_aload_n (q := 1) dX7_disturb_0 rfl rfl ?_
      refine z_get (q := 4) dX7_disturb_1 zfX7_94 (by first | exact zT_o hw | exact zT_w hw rfl | exact zT_S | exact zT_N (zNo_w hw) | exact zT_n (zNo_w hw) (by decide)) rfl rfl ?_
      refine z_eqi (zR_0 hR) ?_
      refine z_if_gt (tg := 8) (q := 7) dX7_disturb_4 rfl rfl ?_ ?_
      · intro hc4
        refine z_iload_n (q := 9) dX7_disturb_8 rfl rfl ?_
        refine z_bipush (q := 11) dX7_disturb_9 zcb_8 rfl ?_
        refine z_idivN (q := 12) dX7_disturb_11 (by omega) (by omega) (by omega) rfl ?_
        refine z_aload_n (q := 13) dX7_disturb_12 rfl rfl ?_
        refine z_get (q := 16) dX7_disturb_13 zfX7_94 (by first | exact zT_o hw | exact zT_w hw rfl | exact zT_S | exact zT_N (zNo_w hw) | exact zT_n (zNo_w hw) (by decide)) rfl rfl ?_
        refine z_eqi (zR_0 hR) ?_
        refine z_iremN (q := 17) dX7_disturb_16 (by omega) (by omega) (by omega) rfl ?_
        refine z_istore_n (q := 18) dX7_disturb_17 (Nat.le_of_ble_eq_true rfl) rfl rfl ?_
        refine z_iload_n (q := 19) dX7_disturb_18 rfl rfl ?_
        refine z_bipush (q := 21) dX7_disturb_19 zcb_8 rfl ?_
        refine z_iremN (q := 22) dX7_disturb_21 (by omega) (by omega) (by omega) rfl ?_
        refine z_eqi (congrArg nI hm) ?_
        refine z_tableOut (q := 0) (tg := 95) dX7_disturb_22 (by decide) rfl ?_
        exact z_ret dX7_disturb_95 rfl (⟨rfl, _, rfl, by rw [qDis_3 hz (by omega) (by omega) (by omega)]; exact hR, zOut_r⟩)
      · intro hc4
        exact absurd (nI_lt hz0 (by omega)) hc4
def zTB (g : zGl) (h : zHp) (b : Nat) (d : Nat → Nat → Int32) (o n K : Nat) (a : Bool × (Nat → Int32)) : Option Value → zHp → Prop := zTU g h b (fun D => zR D o a.2 n K ∧ zOut d D o 15) (some (.int (zbi a.1)))
theorem zTB_t {g : zGl} {h : zHp} {b o n K : Nat} {d D : Nat → Nat → Int32} {a : Bool × (Nat → Int32)} {f : Nat → Int32} (ha : a = (true, f)) (hD : zR D o f n K) (hO : zOut d D o 15) : zTB g h b d o n K a (some (.int (nI 1))) (zpT g h b D) := by
  subst ha
  exact ⟨rfl, D, rfl, hD, hO⟩
theorem zTB_f {g : zGl} {h : zHp} {b o n K : Nat} {d D : Nat → Nat → Int32} {a : Bool × (Nat → Int32)} {f : Nat → Int32} (ha : a = (false, f)) (hD : zR D o f n K) (hO : zOut d D o 15) : zTB g h b d o n K a (some (.int (nI 0))) (zpT g h b D) := by
  subst ha
  exact ⟨rfl, D, rfl, hD, hO⟩
theorem qCan_ne {f : Nat → Int32} {K a b : Nat} (h : qCan f K a b = true) : ¬ a = b := by
  simp only [qCan, qHears, Bool.and_eq_true] at h
  simpa using h.1.1.1.1.1
set_option maxRecDepth 100000 in
set_option maxHeartbeats 4000000 in
theorem ct_X0_changes2 {g : zGl} {h : zHp} {b o n K G : Nat} {d : Nat → Nat → Int32} {f : Nat → Int32} (hw : zWo o) (hR : zR d o f n K) (hG : G < 100000) (hv : G / 10000 = 2) : zC g mX0_changes [.ref (b + o), .int (nI 2), .int (nI G)] (zpT g h b d) (zTB g h b d o n K (qCmd f n K G)) 0 0 := by
  have hn := zR_n6 hR
  have hK := zR_K8 hR
  refine zC_ofA (lv := [some (.ref (b + o)), some (.int (nI 2)), some (.int (nI G)), none, none, none]) (by decide) rfl (Nat.le_of_ble_eq_true rfl) ?_
  refine z_iload_n (q := 1) dX0_changes_0 rfl rfl ?_
  refine z_sipush (q := 4) dX0_changes_1 zcs_1000 rfl ?_
  refine z_idivN (q := 5) dX0_changes_4 (by omega) (by omega) (by omega) rfl ?_
  refine z_bipush (q := 7) dX0_changes_5 zcb_10 rfl ?_
  refine z_iremN (q := 8) dX0_changes_7 (by omega) (by omega) (by omega) rfl ?_
  refine z_istore_n (q := 9) dX0_changes_8 (Nat.le_of_ble_eq_true rfl) rfl rfl ?_
  refine z_iload_n (q := 10) dX0_changes_9 rfl rfl ?_
  refine z_sipush (q := 13) dX0_changes_10 zcs_1000 rfl ?_
  refine z_iremN (q := 14) dX0_changes_13 (by omega) (by omega) (by omega) rfl ?_
  refine z_istore (q := 16) dX0_changes_14 (Nat.le_of_ble_eq_true rfl) rfl rfl ?_
  refine z_aload_n (q := 17) dX0_changes_16 rfl rfl ?_
  refine z_iload_n (q := 18) dX0_changes_17 rfl rfl ?_
  refine z_v1 (q := 21) dX0_changes_18 zkX0_19 zt_mX6_hasAgent rfl (by first | exact zT_o hw | exact zT_w hw rfl | exact zT_S | exact zT_N (zNo_w hw) | exact zT_n (zNo_w hw) (by decide)) rfl (Nat.le_of_ble_eq_true rfl) (ct_X6_hasAgent hw (zR_0 hR)) rfl ?_
  refine z_ifb_ne (tg := 26) (q := 24) dX0_changes_21 rfl rfl ?_ ?_
  · intro hc21
    rw [qHas_d (by omega) (by omega), decide_eq_true_eq] at hc21
    refine z_iload_n (q := 27) dX0_changes_26 rfl rfl ?_
    refine z_tableIn (q := 0) (tg := 52) dX0_changes_27 (by decide) (by decide) rfl rfl ?_
    refine z_iload (q := 54) dX0_changes_52 rfl rfl ?_
    refine z_bipush (q := 56) dX0_changes_54 zcb_22 rfl ?_
    refine z_icmp_leN (tg := 61) (q := 59) dX0_changes_56 rfl rfl (by omega) (by omega) ?_ ?_
    · intro hc56
      refine z_aload_n (q := 62) dX0_changes_61 rfl rfl ?_
      refine z_get (q := 65) dX0_changes_62 zfX0_45 (by first | exact zT_o hw | exact zT_w hw rfl | exact zT_S | exact zT_N (zNo_w hw) | exact zT_n (zNo_w hw) (by decide)) rfl rfl ?_
      refine z_iload_n (q := 66) dX0_changes_65 rfl rfl ?_
      refine z_iload (q := 68) dX0_changes_66 rfl rfl ?_
      refine z_iastT (q := 69) dX0_changes_68 (zWl_T hw rfl) (by omega) rfl ?_
      refine z_iconst (q := 70) dX0_changes_69 zci_1 rfl ?_
      exact z_retz dX0_changes_70 rfl (by first | exact Or.inl rfl | exact Or.inr rfl) (zTB_t (f := va_up f (4 + 6 * (G / 1000 % 10) + 2) (nI (G % 1000))) (by rw [show G % 1000 = G % 100 by omega]; simp [qCmd, hv, hc21]; omega) (zR_r ⟨_, (by omega), rfl⟩ hc21 hR) (zOut_w zOut_r (by omega)))
    · intro hc56
      refine z_iconst (q := 60) dX0_changes_59 zci_0 rfl ?_
      exact z_retz dX0_changes_60 rfl (by first | exact Or.inl rfl | exact Or.inr rfl) (zTB_f (by simp [qCmd, hv]; omega) hR zOut_r)
  · intro hc21
    rw [qHas_d (by omega) (by omega), decide_eq_false_iff_not] at hc21
    refine z_iconst (q := 25) dX0_changes_24 zci_0 rfl ?_
    exact z_retz dX0_changes_25 rfl (by first | exact Or.inl rfl | exact Or.inr rfl) (zTB_f (by simp [qCmd, hv]; omega) hR zOut_r)
set_option maxRecDepth 100000 in
set_option maxHeartbeats 4000000 in
theorem ct_X0_changes3 {g : zGl} {h : zHp} {b o n K G : Nat} {d : Nat → Nat → Int32} {f : Nat → Int32} (hw : zWo o) (hR : zR d o f n K) (hG : G < 100000) (hv : G / 10000 = 3) : zC g mX0_changes [.ref (b + o), .int (nI 3), .int (nI G)] (zpT g h b d) (zTB g h b d o n K (qCmd f n K G)) 0 0 := by
  have hn := zR_n6 hR
  have hK := zR_K8 hR
  refine zC_ofA (lv := [some (.ref (b + o)), some (.int (nI 3)), some (.int (nI G)), none, none, none]) (by decide) rfl (Nat.le_of_ble_eq_true rfl) ?_
  refine z_iload_n (q := 1) dX0_changes_0 rfl rfl ?_
  refine z_sipush (q := 4) dX0_changes_1 zcs_1000 rfl ?_
  refine z_idivN (q := 5) dX0_changes_4 (by omega) (by omega) (by omega) rfl ?_
  refine z_bipush (q := 7) dX0_changes_5 zcb_10 rfl ?_
  refine z_iremN (q := 8) dX0_changes_7 (by omega) (by omega) (by omega) rfl ?_
  refine z_istore_n (q := 9) dX0_changes_8 (Nat.le_of_ble_eq_true rfl) rfl rfl ?_
  refine z_iload_n (q := 10) dX0_changes_9 rfl rfl ?_
  refine z_sipush (q := 13) dX0_changes_10 zcs_1000 rfl ?_
  refine z_iremN (q := 14) dX0_changes_13 (by omega) (by omega) (by omega) rfl ?_
  refine z_istore (q := 16) dX0_changes_14 (Nat.le_of_ble_eq_true rfl) rfl rfl ?_
  refine z_aload_n (q := 17) dX0_changes_16 rfl rfl ?_
  refine z_iload_n (q := 18) dX0_changes_17 rfl rfl ?_
  refine z_v1 (q := 21) dX0_changes_18 zkX0_19 zt_mX6_hasAgent rfl (by first | exact zT_o hw | exact zT_w hw rfl | exact zT_S | exact zT_N (zNo_w hw) | exact zT_n (zNo_w hw) (by decide)) rfl (Nat.le_of_ble_eq_true rfl) (ct_X6_hasAgent hw (zR_0 hR)) rfl ?_
  refine z_ifb_ne (tg := 26) (q := 24) dX0_changes_21 rfl rfl ?_ ?_
  · intro hc21
    rw [qHas_d (by omega) (by omega), decide_eq_true_eq] at hc21
    refine z_iload_n (q := 27) dX0_changes_26 rfl rfl ?_
    refine z_tableIn (q := 0) (tg := 71) dX0_changes_27 (by decide) (by decide) rfl rfl ?_
    refine z_iload (q := 73) dX0_changes_71 rfl rfl ?_
    refine z_if_eq (tg := 78) (q := 76) dX0_changes_73 rfl rfl ?_ ?_
    · intro hc73
      rw [nI_z (by omega)] at hc73
      refine z_aload_n (q := 79) dX0_changes_78 rfl rfl ?_
      refine z_iload_n (q := 80) dX0_changes_79 rfl rfl ?_
      refine z_V1 (q := 83) dX0_changes_80 zkX0_49 zt_mX6_switchAgent rfl (by first | exact zT_o hw | exact zT_w hw rfl | exact zT_S | exact zT_N (zNo_w hw) | exact zT_n (zNo_w hw) (by decide)) rfl (Nat.le_of_ble_eq_true rfl) (ct_X6_switchAgent hw hR hc21) (Nat.zero_le _) (Nat.zero_le _) rfl ?_
      rintro _ _ ⟨rfl, D, rfl, hD, hO⟩
      refine z_iconst (q := 84) dX0_changes_83 zci_1 rfl ?_
      exact z_retz dX0_changes_84 rfl (by first | exact Or.inl rfl | exact Or.inr rfl) (zTB_t (f := qTog f (G / 1000 % 10)) (by simp [qCmd, hv, hc21, hc73]) hD hO)
    · intro hc73
      rw [nI_z (by omega)] at hc73
      refine z_iconst (q := 77) dX0_changes_76 zci_0 rfl ?_
      exact z_retz dX0_changes_77 rfl (by first | exact Or.inl rfl | exact Or.inr rfl) (zTB_f (by simp [qCmd, hv]; omega) hR zOut_r)
  · intro hc21
    rw [qHas_d (by omega) (by omega), decide_eq_false_iff_not] at hc21
    refine z_iconst (q := 25) dX0_changes_24 zci_0 rfl ?_
    exact z_retz dX0_changes_25 rfl (by first | exact Or.inl rfl | exact Or.inr rfl) (zTB_f (by simp [qCmd, hv]; omega) hR zOut_r)
set_option maxRecDepth 100000 in
set_option maxHeartbeats 4000000 in
theorem ct_X0_changes4 {g : zGl} {h : zHp} {b o n K G : Nat} {d : Nat → Nat → Int32} {f : Nat → Int32} (hw : zWo o) (hR : zR d o f n K) (hG : G < 100000) (hv : G / 10000 = 4) : zC g mX0_changes [.ref (b + o), .int (nI 4), .int (nI G)] (zpT g h b d) (zTB g h b d o n K (qCmd f n K G)) 0 0 := by
  have hn := zR_n6 hR
  have hK := zR_K8 hR
  refine zC_ofA (lv := [some (.ref (b + o)), some (.int (nI 4)), some (.int (nI G)), none, none, none]) (by decide) rfl (Nat.le_of_ble_eq_true rfl) ?_
  refine z_iload_n (q := 1) dX0_changes_0 rfl rfl ?_
  refine z_sipush (q := 4) dX0_changes_1 zcs_1000 rfl ?_
  refine z_idivN (q := 5) dX0_changes_4 (by omega) (by omega) (by omega) rfl ?_
  refine z_bipush (q := 7) dX0_changes_5 zcb_10 rfl ?_
  refine z_iremN (q := 8) dX0_changes_7 (by omega) (by omega) (by omega) rfl ?_
  refine z_istore_n (q := 9) dX0_changes_8 (Nat.le_of_ble_eq_true rfl) rfl rfl ?_
  refine z_iload_n (q := 10) dX0_changes_9 rfl rfl ?_
  refine z_sipush (q := 13) dX0_changes_10 zcs_1000 rfl ?_
  refine z_iremN (q := 14) dX0_changes_13 (by omega) (by omega) (by omega) rfl ?_
  refine z_istore (q := 16) dX0_changes_14 (Nat.le_of_ble_eq_true rfl) rfl rfl ?_
  refine z_aload_n (q := 17) dX0_changes_16 rfl rfl ?_
  refine z_iload_n (q := 18) dX0_changes_17 rfl rfl ?_
  refine z_v1 (q := 21) dX0_changes_18 zkX0_19 zt_mX6_hasAgent rfl (by first | exact zT_o hw | exact zT_w hw rfl | exact zT_S | exact zT_N (zNo_w hw) | exact zT_n (zNo_w hw) (by decide)) rfl (Nat.le_of_ble_eq_true rfl) (ct_X6_hasAgent hw (zR_0 hR)) rfl ?_
  refine z_ifb_ne (tg := 26) (q := 24) dX0_changes_21 rfl rfl ?_ ?_
  · intro hc21
    rw [qHas_d (by omega) (by omega), decide_eq_true_eq] at hc21
    refine z_iload_n (q := 27) dX0_changes_26 rfl rfl ?_
    refine z_tableIn (q := 0) (tg := 85) dX0_changes_27 (by decide) (by decide) rfl rfl ?_
    refine z_iload (q := 87) dX0_changes_85 rfl rfl ?_
    refine z_bipush (q := 89) dX0_changes_87 zcb_100 rfl ?_
    refine z_idivN (q := 90) dX0_changes_89 (by omega) (by omega) (by omega) rfl ?_
    refine z_istore (q := 92) dX0_changes_90 (Nat.le_of_ble_eq_true rfl) rfl rfl ?_
    refine z_iload (q := 94) dX0_changes_92 rfl rfl ?_
    refine z_bipush (q := 96) dX0_changes_94 zcb_100 rfl ?_
    refine z_iremN (q := 97) dX0_changes_96 (by omega) (by omega) (by omega) rfl ?_
    refine z_if_ne (tg := 119) (q := 100) dX0_changes_97 rfl rfl ?_ ?_
    · intro hc97
      rw [nI_z (by omega)] at hc97
      refine z_iconst (q := 120) dX0_changes_119 zci_0 rfl ?_
      exact z_retz dX0_changes_120 rfl (by first | exact Or.inl rfl | exact Or.inr rfl) (by first | exact zTB_f (by simp [qCmd, hv]; omega) hR zOut_r | exact zTB_f (by rw [hbb] at hc116; simp [qCmd, hv, hc116]) hR zOut_r)
    · intro hc97
      rw [nI_z (by omega)] at hc97
      refine z_aload_n (q := 101) dX0_changes_100 rfl rfl ?_
      refine z_iload (q := 103) dX0_changes_101 rfl rfl ?_
      refine z_v1 (q := 106) dX0_changes_103 zkX0_19 zt_mX6_hasAgent rfl (by first | exact zT_o hw | exact zT_w hw rfl | exact zT_S | exact zT_N (zNo_w hw) | exact zT_n (zNo_w hw) (by decide)) rfl (Nat.le_of_ble_eq_true rfl) (ct_X6_hasAgent hw (zR_0 hR)) rfl ?_
      refine z_ifb_eq (tg := 119) (q := 109) dX0_changes_106 rfl rfl ?_ ?_
      · intro hc106
        rw [qHas_d (by omega) (by omega), decide_eq_false_iff_not] at hc106
        refine z_iconst (q := 120) dX0_changes_119 zci_0 rfl ?_
        exact z_retz dX0_changes_120 rfl (by first | exact Or.inl rfl | exact Or.inr rfl) (by first | exact zTB_f (by simp [qCmd, hv]; omega) hR zOut_r | exact zTB_f (by rw [hbb] at hc116; simp [qCmd, hv, hc116]) hR zOut_r)
      · intro hc106
        rw [qHas_d (by omega) (by omega), decide_eq_true_eq] at hc106
        have hbb : G % 1000 / 100 = G / 100 % 10 := by omega
        refine z_aload_n (q := 110) dX0_changes_109 rfl rfl ?_
        refine z_iload_n (q := 111) dX0_changes_110 rfl rfl ?_
        refine z_iload (q := 113) dX0_changes_111 rfl rfl ?_
        refine z_v2 (q := 116) dX0_changes_113 zkX0_53 zt_mX6_canPassClaim rfl (by first | exact zT_o hw | exact zT_w hw rfl | exact zT_S | exact zT_N (zNo_w hw) | exact zT_n (zNo_w hw) (by decide)) rfl (Nat.le_of_ble_eq_true rfl) (ct_X6_canPassClaim hw hR hc21 hc106) rfl ?_
        refine z_ifb_ne (tg := 121) (q := 119) dX0_changes_116 rfl rfl ?_ ?_
        · intro hc116
          obtain ⟨t, ht⟩ : ∃ t, qOwnTask f K (G / 1000 % 10) = some t := by
            have h9 := hc116
            simp only [qCan, Bool.and_eq_true, Option.isSome_iff_exists] at h9
            exact h9.1.2
          have h98 : G % 100 = 0 := by omega
          have k116 : qCan f K (G / 1000 % 10) (G / 100 % 10) = true := by rw [← hbb]; exact hc116
          have kne : ¬ G / 1000 % 10 = G / 100 % 10 := qCan_ne k116
          have k106 : G / 100 % 10 < n := by omega
          refine z_aload_n (q := 122) dX0_changes_121 rfl rfl ?_
          refine z_iload_n (q := 123) dX0_changes_122 rfl rfl ?_
          refine z_iload (q := 125) dX0_changes_123 rfl rfl ?_
          refine z_V2 (q := 128) dX0_changes_125 zkX0_57 zt_mX6_passClaim rfl (by first | exact zT_o hw | exact zT_w hw rfl | exact zT_S | exact zT_N (zNo_w hw) | exact zT_n (zNo_w hw) (by decide)) rfl (Nat.le_of_ble_eq_true rfl) (ct_X6_passClaim hw hR hc21 hc106 ht) (Nat.zero_le _) (Nat.zero_le _) rfl ?_
          rintro _ _ ⟨rfl, D, rfl, hD, hO⟩
          refine z_iconst (q := 129) dX0_changes_128 zci_1 rfl ?_
          exact z_retz dX0_changes_129 rfl (by first | exact Or.inl rfl | exact Or.inr rfl) (zTB_t (f := qHand f (G / 1000 % 10) (G % 1000 / 100) t) (by rw [hbb]; simp [qCmd, hv, hc21, k106, kne, h98, k116, ht]) hD hO)
        · intro hc116
          refine z_iconst (q := 120) dX0_changes_119 zci_0 rfl ?_
          exact z_retz dX0_changes_120 rfl (by first | exact Or.inl rfl | exact Or.inr rfl) (by first | exact zTB_f (by simp [qCmd, hv]; omega) hR zOut_r | exact zTB_f (by rw [hbb] at hc116; simp [qCmd, hv, hc116]) hR zOut_r)
  · intro hc21
    rw [qHas_d (by omega) (by omega), decide_eq_false_iff_not] at hc21
    refine z_iconst (q := 25) dX0_changes_24 zci_0 rfl ?_
    exact z_retz dX0_changes_25 rfl (by first | exact Or.inl rfl | exact Or.inr rfl) (zTB_f (by simp [qCmd, hv]; omega) hR zOut_r)
set_option maxRecDepth 100000 in
set_option maxHeartbeats 4000000 in
theorem ct_X0_changes5 {g : zGl} {h : zHp} {b o n K G : Nat} {d : Nat → Nat → Int32} {f : Nat → Int32} (hw : zWo o) (hR : zR d o f n K) (hG : G < 100000) (hv : G / 10000 = 5) : zC g mX0_changes [.ref (b + o), .int (nI 5), .int (nI G)] (zpT g h b d) (zTB g h b d o n K (qCmd f n K G)) 0 0 := by
  have hn := zR_n6 hR
  have hK := zR_K8 hR
  refine zC_ofA (lv := [some (.ref (b + o)), some (.int (nI 5)), some (.int (nI G)), none, none, none]) (by decide) rfl (Nat.le_of_ble_eq_true rfl) ?_
  refine z_iload_n (q := 1) dX0_changes_0 rfl rfl ?_
  refine z_sipush (q := 4) dX0_changes_1 zcs_1000 rfl ?_
  refine z_idivN (q := 5) dX0_changes_4 (by omega) (by omega) (by omega) rfl ?_
  refine z_bipush (q := 7) dX0_changes_5 zcb_10 rfl ?_
  refine z_iremN (q := 8) dX0_changes_7 (by omega) (by omega) (by omega) rfl ?_
  refine z_istore_n (q := 9) dX0_changes_8 (Nat.le_of_ble_eq_true rfl) rfl rfl ?_
  refine z_iload_n (q := 10) dX0_changes_9 rfl rfl ?_
  refine z_sipush (q := 13) dX0_changes_10 zcs_1000 rfl ?_
  refine z_iremN (q := 14) dX0_changes_13 (by omega) (by omega) (by omega) rfl ?_
  refine z_istore (q := 16) dX0_changes_14 (Nat.le_of_ble_eq_true rfl) rfl rfl ?_
  refine z_aload_n (q := 17) dX0_changes_16 rfl rfl ?_
  refine z_iload_n (q := 18) dX0_changes_17 rfl rfl ?_
  refine z_v1 (q := 21) dX0_changes_18 zkX0_19 zt_mX6_hasAgent rfl (by first | exact zT_o hw | exact zT_w hw rfl | exact zT_S | exact zT_N (zNo_w hw) | exact zT_n (zNo_w hw) (by decide)) rfl (Nat.le_of_ble_eq_true rfl) (ct_X6_hasAgent hw (zR_0 hR)) rfl ?_
  refine z_ifb_ne (tg := 26) (q := 24) dX0_changes_21 rfl rfl ?_ ?_
  · intro hc21
    rw [qHas_d (by omega) (by omega), decide_eq_true_eq] at hc21
    refine z_iload_n (q := 27) dX0_changes_26 rfl rfl ?_
    refine z_tableOut (q := 0) (tg := 130) dX0_changes_27 (by decide) rfl ?_
    refine z_iload (q := 132) dX0_changes_130 rfl rfl ?_
    refine z_if_eq (tg := 137) (q := 135) dX0_changes_132 rfl rfl ?_ ?_
    · intro hc132
      rw [nI_z (by omega)] at hc132
      refine z_aload_n (q := 138) dX0_changes_137 rfl rfl ?_
      refine z_iload_n (q := 139) dX0_changes_138 rfl rfl ?_
      refine z_V1 (q := 142) dX0_changes_139 zkX0_61 zt_mX6_dropClaims rfl (by first | exact zT_o hw | exact zT_w hw rfl | exact zT_S | exact zT_N (zNo_w hw) | exact zT_n (zNo_w hw) (by decide)) rfl (Nat.le_of_ble_eq_true rfl) (ct_X6_dropClaims hw hR hc21) (Nat.zero_le _) (Nat.zero_le _) rfl ?_
      rintro _ _ ⟨rfl, D, rfl, hD, hO⟩
      refine z_pop (q := 143) dX0_changes_142 rfl rfl ?_
      refine z_iconst (q := 144) dX0_changes_143 zci_1 rfl ?_
      exact z_retz dX0_changes_144 rfl (by first | exact Or.inl rfl | exact Or.inr rfl) (zTB_t (f := (qDrop f (G / 1000 % 10) K).1) (by simp [qCmd, hv, hc21, hc132]) hD hO)
    · intro hc132
      rw [nI_z (by omega)] at hc132
      refine z_iconst (q := 136) dX0_changes_135 zci_0 rfl ?_
      exact z_retz dX0_changes_136 rfl (by first | exact Or.inl rfl | exact Or.inr rfl) (zTB_f (by simp [qCmd, hv]; omega) hR zOut_r)
  · intro hc21
    rw [qHas_d (by omega) (by omega), decide_eq_false_iff_not] at hc21
    refine z_iconst (q := 25) dX0_changes_24 zci_0 rfl ?_
    exact z_retz dX0_changes_25 rfl (by first | exact Or.inl rfl | exact Or.inr rfl) (zTB_f (by simp [qCmd, hv]; omega) hR zOut_r)
