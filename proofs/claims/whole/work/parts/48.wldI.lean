/-! ===== the component: finishes that are not known ===== -/
theorem pcN_or : ∀ n : Fin 6, ∀ x : Fin 64, x.1 < 2 ^ n.1 → pcN (x.1 ||| 2 ^ n.1) = pcN x.1 + 1 := by decide +kernel
/-- sums -/
def qSg (s : Nat → Int32) (n : Nat) : Int32 := qIt (fun a c => c + s a) (nI 0) n
theorem qSg_s {s : Nat → Int32} {n : Nat} : qSg s (n + 1) = qSg s n + s n := rfl
theorem qSg_add {s t : Nat → Int32} {n : Nat} : qSg (fun a => s a + t a) n = qSg s n + qSg t n := by
  induction n with
  | zero => rfl
  | succ n ih =>
    rw [qSg_s, qSg_s, qSg_s, ih, Int32.add_assoc, Int32.add_assoc]
    congr 1
    rw [← Int32.add_assoc, Int32.add_comm (qSg t n) (s n), Int32.add_assoc]
theorem qSg_0 {n : Nat} : qSg (fun _ => nI 0) n = nI 0 := by
  induction n with
  | zero => rfl
  | succ n ih => rw [qSg_s, ih]; rfl
theorem qSg_swap {s : Nat → Nat → Int32} {n K : Nat} : qSg (fun a => qSg (fun t => s a t) K) n = qSg (fun t => qSg (fun a => s a t) n) K := by
  induction K with
  | zero => exact qSg_0
  | succ K ih =>
    rw [qSg_s, ← ih, ← qSg_add]
    rfl
theorem qSg_cg {s t : Nat → Int32} {n : Nat} (h : ∀ a, a < n → s a = t a) : qSg s n = qSg t n := qIt_congr (fun i x hi => by rw [h i hi])
theorem qSg_pc {p : Nat → Bool} {n : Nat} (hn : n ≤ 6) : nI (pcN (mk p n)) = qSg (fun a => zbi (p a)) n := by
  induction n with
  | zero => exact congrArg nI (show pcN 0 = 0 by decide)
  | succ n ih =>
    have hl : mk p n < 2 ^ n := mk_lt
    have h64 : mk p n < 64 := zS_31 hl (by omega)
    rw [qSg_s, ← ih (by omega)]
    cases hp : p n with
    | true =>
      rw [mk_t hp, pcN_or ⟨n, by omega⟩ ⟨mk p n, h64⟩ hl]
      exact (nI_add _ 1).symm
    | false =>
      rw [mk_f hp]
      exact (Int32.add_zero _).symm
theorem qCfT_g {f : Nat → Int32} {w a K : Nat} {c : Int32} : qCfT f w a c K = c + qSg (fun t => if qOn f a then qCf1 f w a t else nI 0) K := by
  induction K with
  | zero => exact (Int32.add_zero _).symm
  | succ K ih =>
    rw [qCfT_s, qSg_s, ih]
    cases h : qOn f a with
    | true => rw [if_pos rfl, if_pos rfl, Int32.add_assoc]
    | false =>
      rw [if_neg (by decide), if_neg (by decide)]
      exact congrArg (fun x => c + x) (Int32.add_zero _).symm
theorem qCfA_g {f : Nat → Int32} {w K n : Nat} : qCfA f w K n = qSg (fun a => qSg (fun t => if qOn f a then qCf1 f w a t else nI 0) K) n := by
  induction n with
  | zero => rfl
  | succ n ih => rw [qCfA_s, qCfT_g, qSg_s, ih]
/-- the finishes that are not known, task by task -/
def qUf (f : Nat → Int32) (n t : Nat) : Int32 := qSg (fun a => if qOn f a then qCf1 f 1 a t else nI 0) n
theorem qUf_y {f : Nat → Int32} {n t : Nat} (hn : n ≤ 6) (h : qDone f t = true) : qUf f n t = nI (pcN (mk (fun a => qOn f a && !decide (f (72 + 4 * (8 * a + t)) = nI 2)) n)) := by
  rw [qSg_pc hn, qUf]
  refine qSg_cg (fun a _ => ?_)
  rw [qCf1, if_pos rfl, h]
  cases qOn f a <;> rfl
theorem qUf_n {f : Nat → Int32} {n t : Nat} (h : qDone f t = false) : qUf f n t = nI 0 := by
  rw [← qSg_0 (n := n), qUf]
  refine qSg_cg (fun a _ => ?_)
  rw [qCf1, if_pos rfl, h]
  cases qOn f a <;> rfl
set_option maxRecDepth 100000 in
set_option maxHeartbeats 4000000 in
theorem ct_X6_unknownFinishes {g : zGl} {h : zHp} {b o n K : Nat} {d : Nat → Nat → Int32} {f : Nat → Int32} (hw : zWo o) (hR : zR d o f n K) : zC g mX6_unknownFinishes [.ref (b + o)] (zpT g h b d) (zV (zpT g h b d) (.int (qCfA f 1 K n))) 0 0 := by
  have hn := zR_n6 hR
  have hK := zR_K8 hR
  refine zC_ofA (lv := [some (.ref (b + o)), none, none]) (by decide) rfl (Nat.le_of_ble_eq_true rfl) ?_
  rw [qCfA_g, qSg_swap]
  have loop : ∀ r i, i + r = K → zA g (zZc g mX6_unknownFinishes (zV (zpT g h b d) (.int (qSg (fun t => qUf f n t) K))) 0 0) 0 0 4 [some (.ref (b + o)), some (.int (qSg (fun t => qUf f n t) i)), some (.int (nI i))] [] (zpT g h b d) := by
    intro r
    induction r using Nat.strongRecOn with
    | ind r ih =>
      intro i hi
      refine z_iload_n (q := 5) dX6_unknownFinishes_4 rfl rfl ?_
      refine z_aload_n (q := 6) dX6_unknownFinishes_5 rfl rfl ?_
      refine z_get (q := 9) dX6_unknownFinishes_6 zfX6_53 (by first | exact zT_o hw | exact zT_w hw rfl | exact zT_N (zNo_w hw) | exact zT_n (zNo_w hw) (by decide)) rfl rfl ?_
      refine z_eqi (zR_1 hR) ?_
      refine z_icmp_geN (tg := 44) (q := 12) dX6_unknownFinishes_9 rfl rfl (by omega) (by omega) ?_ ?_
      · intro hc9
        refine z_iload_n (q := 45) dX6_unknownFinishes_44 rfl rfl ?_
        exact z_reti dX6_unknownFinishes_45 rfl (⟨by rw [show i = K by omega], rfl⟩)
      · intro hc9
        refine z_aload_n (q := 13) dX6_unknownFinishes_12 rfl rfl ?_
        refine z_iload_n (q := 14) dX6_unknownFinishes_13 rfl rfl ?_
        refine z_v1 (q := 17) dX6_unknownFinishes_14 zkX6_131 zt_mX6_isFinished rfl (by first | exact zT_o hw | exact zT_w hw rfl | exact zT_N (zNo_w hw) | exact zT_n (zNo_w hw) (by decide)) rfl (Nat.le_of_ble_eq_true rfl) (ct_X6_isFinished hw hR (by omega)) rfl ?_
        refine z_ifb_eq (tg := 38) (q := 20) dX6_unknownFinishes_17 rfl rfl ?_ ?_
        · intro hc17
          refine z_iincN (q := 41) dX6_unknownFinishes_38 rfl rfl rfl ?_
          refine z_goto (q := 0) (tg := 4) dX6_unknownFinishes_41 rfl ?_
          have e9 := ih (r - 1) (by omega) (i + 1) (by omega)
          rw [qSg_s] at e9
          first
            | (rw [qUf_y hn hc17] at e9; exact e9)
            | (rw [qUf_n hc17, show qSg (fun t => qUf f n t) i + nI 0 = qSg (fun t => qUf f n t) i from Int32.add_zero _] at e9; exact e9)
        · intro hc17
          refine z_iload_n (q := 21) dX6_unknownFinishes_20 rfl rfl ?_
          refine z_aload_n (q := 22) dX6_unknownFinishes_21 rfl rfl ?_
          refine z_get (q := 25) dX6_unknownFinishes_22 zfX6_59 (by first | exact zT_o hw | exact zT_w hw rfl | exact zT_N (zNo_w hw) | exact zT_n (zNo_w hw) (by decide)) rfl rfl ?_
          refine z_eqi (zR_mk hR) ?_
          refine z_aload_n (q := 26) dX6_unknownFinishes_25 rfl rfl ?_
          refine z_iload_n (q := 27) dX6_unknownFinishes_26 rfl rfl ?_
          refine z_v1 (q := 30) dX6_unknownFinishes_27 zkX6_138 zt_mX6_knowers rfl (by first | exact zT_o hw | exact zT_w hw rfl | exact zT_N (zNo_w hw) | exact zT_n (zNo_w hw) (by decide)) rfl (Nat.le_of_ble_eq_true rfl) (ct_X6_knowers hw hR (by omega)) rfl ?_
          refine z_iconst (q := 31) dX6_unknownFinishes_30 zci_m1 rfl ?_
          refine z_ixor (q := 32) dX6_unknownFinishes_31 rfl ?_
          refine z_iand (q := 33) dX6_unknownFinishes_32 rfl ?_
          refine z_eqi mk_andn ?_
          refine z_s1 (q := 36) dX6_unknownFinishes_33 zkX6_144 zt_mJ6_bitCount_0f7a4 rfl (Nat.le_of_ble_eq_true rfl) (ct_J6_bitCount (zS_31 mk_lt hn)) rfl ?_
          refine z_iadd (q := 37) dX6_unknownFinishes_36 rfl ?_
          refine z_istore_n (q := 38) dX6_unknownFinishes_37 (Nat.le_of_ble_eq_true rfl) rfl rfl ?_
          refine z_iincN (q := 41) dX6_unknownFinishes_38 rfl rfl rfl ?_
          refine z_goto (q := 0) (tg := 4) dX6_unknownFinishes_41 rfl ?_
          have e9 := ih (r - 1) (by omega) (i + 1) (by omega)
          rw [qSg_s] at e9
          first
            | (rw [qUf_y hn hc17] at e9; exact e9)
            | (rw [qUf_n hc17, show qSg (fun t => qUf f n t) i + nI 0 = qSg (fun t => qUf f n t) i from Int32.add_zero _] at e9; exact e9)
  refine z_iconst (q := 1) dX6_unknownFinishes_0 zci_0 rfl ?_
  refine z_istore_n (q := 2) dX6_unknownFinishes_1 (Nat.le_of_ble_eq_true rfl) rfl rfl ?_
  refine z_iconst (q := 3) dX6_unknownFinishes_2 zci_0 rfl ?_
  refine z_istore_n (q := 4) dX6_unknownFinishes_3 (Nat.le_of_ble_eq_true rfl) rfl rfl ?_
  exact loop K 0 (by omega)
