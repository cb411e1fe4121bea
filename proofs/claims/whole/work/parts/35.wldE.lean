/-! ===== the component: methods of a world that write ===== -/
theorem nI_xor (a b : Nat) : nI a ^^^ nI b = nI (a ^^^ b) := by
  apply Int32.toBitVec_inj.mp
  simp [nI, BitVec.ofNat_xor]
theorem qOn_tog {f : Nat → Int32} {a c : Nat} (h : zPl (f (4 + 6 * a + 3)) 2) : qOn (qTog f a) c = if c = a then !qOn f c else qOn f c := by
  obtain ⟨p, hp, e⟩ := h
  by_cases hc : c = a
  · subst hc
    rw [if_pos rfl, qOn, qOn, qTog, zu_eq, e]
    rcases (show p = 0 ∨ p = 1 by omega) with rfl | rfl <;> decide
  · rw [if_neg hc, qOn, qOn, qTog, zu_ne (by omega)]
set_option maxRecDepth 100000 in
set_option maxHeartbeats 4000000 in
theorem zR_on {d : Nat → Nat → Int32} {o n K : Nat} {f : Nat → Int32} {a T : Nat} (ha : a < n) (hT : T < 2 ^ n) (hT2 : ∀ c, c < n → T.testBit c = if c = a then !qOn f c else qOn f c) (h : zR d o f n K) : zR (va_up d o (va_up (d o) 4 (nI T))) o (qTog f a) n K := by
  obtain ⟨⟨a1, a2, a3, a4, a5, a6, a7⟩, b0, b1, b2, b3, ⟨S, s1, s2, s3⟩, b5, b6, b7⟩ := h
  have hv : zPl (nI 1 - f (4 + 6 * a + 3)) 2 := by
    obtain ⟨p, hp, e⟩ := (a5 a ha).2.2.2
    rw [e]
    rcases (show p = 0 ∨ p = 1 by omega) with rfl | rfl
    · exact ⟨1, by decide, by decide⟩
    · exact ⟨0, by decide, by decide⟩
  have hf := (a5 a ha).2.2.2
  have x1 : (o + 1 = o) = False := eq_false (by omega)
  have x2 : (o + 2 = o) = False := eq_false (by omega)
  have x3 : (o + 3 = o) = False := eq_false (by omega)
  have x4 : (o + 4 = o) = False := eq_false (by omega)
  have x5 : (o + 5 = o) = False := eq_false (by omega)
  have x6 : (o + 6 = o) = False := eq_false (by omega)
  have x7 : (o + 7 = o) = False := eq_false (by omega)
  have x8 : (o + 8 = o) = False := eq_false (by omega)
  have x9 : (o + 9 = o) = False := eq_false (by omega)
  have x10 : (o + 10 + 1 = o) = False := eq_false (by omega)
  have x11 : (o + 10 + 2 = o) = False := eq_false (by omega)
  have x12 : (o + 10 + 3 = o) = False := eq_false (by omega)
  have x13 : (o + 10 + 4 = o) = False := eq_false (by omega)
  have x14 : (0 = 4 + 6 * a + 3) = False := eq_false (by omega)
  have x15 : (1 = 4 + 6 * a + 3) = False := eq_false (by omega)
  have x16 : (2 = 4 + 6 * a + 3) = False := eq_false (by omega)
  have x17 : (3 = 4 + 6 * a + 3) = False := eq_false (by omega)
  have x18 : ∀ z, (4 + 6 * z = 4 + 6 * a + 3) = False := fun z => eq_false (by omega)
  have x19 : ∀ z, (4 + 6 * z + 1 = 4 + 6 * a + 3) = False := fun z => eq_false (by omega)
  have x20 : ∀ z, (4 + 6 * z + 2 = 4 + 6 * a + 3) = False := fun z => eq_false (by omega)
  have x21 : ∀ z, (4 + 6 * z + 4 = 4 + 6 * a + 3) = False := fun z => eq_false (by omega)
  have x22 : ∀ z, (4 + 6 * z + 5 = 4 + 6 * a + 3) = False := fun z => eq_false (by omega)
  have x23 : ∀ z, z < K → (40 + 4 * z = 4 + 6 * a + 3) = False := fun z hz => eq_false (by omega)
  have x24 : ∀ z, z < K → (40 + 4 * z + 1 = 4 + 6 * a + 3) = False := fun z hz => eq_false (by omega)
  have x25 : ∀ z, z < K → (40 + 4 * z + 2 = 4 + 6 * a + 3) = False := fun z hz => eq_false (by omega)
  have x26 : ∀ z, z < K → (40 + 4 * z + 3 = 4 + 6 * a + 3) = False := fun z hz => eq_false (by omega)
  have x27 : ∀ z, (72 + 4 * z = 4 + 6 * a + 3) = False := fun z => eq_false (by omega)
  have x28 : ∀ z, (72 + 4 * z + 1 = 4 + 6 * a + 3) = False := fun z => eq_false (by omega)
  have x29 : ∀ z, (72 + 4 * z + 2 = 4 + 6 * a + 3) = False := fun z => eq_false (by omega)
  have x30 : ∀ z, (72 + 4 * z + 3 = 4 + 6 * a + 3) = False := fun z => eq_false (by omega)
  refine ⟨⟨a1, a2, ?_, ?_, fun a9 h9 => ?_, fun t9 k9 => ?_, fun a9 h9 t9 k9 => ?_⟩, ?_, ?_, ?_, ?_, ⟨T, hT, ?_, fun a9 h9 => ?_⟩, fun a9 h9 => ?_, fun t9 k9 => ?_, fun a9 h9 t9 k9 => ?_⟩
  · skip
    clear a5 a6 a7 b5 b6 b7 s3 s1
    simp only [va_up, zRn, qTog, x1, x2, x3, x4, x5, x6, x7, x8, x9, x10, x11, x12, x13, x14, x15, x16, x17, x18, x19, x20, x21, x22, x23, x24, x25, x26, x27, x28, x29, x30, if_true, if_false]
    all_goals clear x1 x2 x3 x4 x5 x6 x7 x8 x9 x10 x11 x12 x13 x14 x15 x16 x17 x18 x19 x20 x21 x22 x23 x24 x25 x26 x27 x28 x29 x30
    all_goals (repeat' apply And.intro)
    all_goals (repeat' (first | assumption | rfl | split | omega))
    all_goals (repeat' apply And.intro)
    all_goals first | rfl | assumption | (simp only [va_up]; (repeat' (first | omega | split)) <;> first | rfl | assumption) | (intro hh; exact absurd hh (by decide)) | (intro hh; repeat' apply And.intro) 
    all_goals first | rfl | assumption | (simp only [va_up]; (repeat' (first | omega | split)) <;> first | rfl | assumption) | (simp_all; done)
  · skip
    clear a5 a6 a7 b5 b6 b7 s3 s1
    simp only [va_up, zRn, qTog, x1, x2, x3, x4, x5, x6, x7, x8, x9, x10, x11, x12, x13, x14, x15, x16, x17, x18, x19, x20, x21, x22, x23, x24, x25, x26, x27, x28, x29, x30, if_true, if_false]
    all_goals clear x1 x2 x3 x4 x5 x6 x7 x8 x9 x10 x11 x12 x13 x14 x15 x16 x17 x18 x19 x20 x21 x22 x23 x24 x25 x26 x27 x28 x29 x30
    all_goals (repeat' apply And.intro)
    all_goals (repeat' (first | assumption | rfl | split | omega))
    all_goals (repeat' apply And.intro)
    all_goals first | rfl | assumption | (simp only [va_up]; (repeat' (first | omega | split)) <;> first | rfl | assumption) | (intro hh; exact absurd hh (by decide)) | (intro hh; repeat' apply And.intro) 
    all_goals first | rfl | assumption | (simp only [va_up]; (repeat' (first | omega | split)) <;> first | rfl | assumption) | (simp_all; done)
  · skip
    obtain ⟨q1, q2, q3, q4⟩ := a5 a9 h9
    clear a5 a6 a7 b5 b6 b7 s3 s1
    simp only [va_up, zRn, qTog, x1, x2, x3, x4, x5, x6, x7, x8, x9, x10, x11, x12, x13, x14, x15, x16, x17, x18, x19, x20, x21, x22, x23, x24, x25, x26, x27, x28, x29, x30, h9, if_true, if_false]
    all_goals clear x1 x2 x3 x4 x5 x6 x7 x8 x9 x10 x11 x12 x13 x14 x15 x16 x17 x18 x19 x20 x21 x22 x23 x24 x25 x26 x27 x28 x29 x30
    all_goals (repeat' apply And.intro)
    all_goals (repeat' (first | assumption | rfl | split | omega))
    all_goals (repeat' apply And.intro)
    all_goals first | rfl | assumption | (simp only [va_up]; (repeat' (first | omega | split)) <;> first | rfl | assumption) | (intro hh; exact absurd hh (by decide)) | (intro hh; repeat' apply And.intro) 
    all_goals first | rfl | assumption | (simp only [va_up]; (repeat' (first | omega | split)) <;> first | rfl | assumption) | (simp_all; done)
  · skip
    obtain ⟨q1, q2⟩ := a6 t9 k9
    clear a5 a6 a7 b5 b6 b7 s3 s1
    simp only [va_up, zRn, qTog, x1, x2, x3, x4, x5, x6, x7, x8, x9, x10, x11, x12, x13, x14, x15, x16, x17, x18, x19, x20, x21, x22, x23, x24, x25, x26, x27, x28, x29, x30, k9, if_true, if_false]
    all_goals clear x1 x2 x3 x4 x5 x6 x7 x8 x9 x10 x11 x12 x13 x14 x15 x16 x17 x18 x19 x20 x21 x22 x23 x24 x25 x26 x27 x28 x29 x30
    all_goals (repeat' apply And.intro)
    all_goals (repeat' (first | assumption | rfl | split | omega))
    all_goals (repeat' apply And.intro)
    all_goals first | rfl | assumption | (simp only [va_up]; (repeat' (first | omega | split)) <;> first | rfl | assumption) | (intro hh; exact absurd hh (by decide)) | (intro hh; repeat' apply And.intro) 
    all_goals first | rfl | assumption | (simp only [va_up]; (repeat' (first | omega | split)) <;> first | rfl | assumption) | (simp_all; done)
  · skip
    obtain ⟨q1, q2⟩ := a7 a9 h9 t9 k9
    clear a5 a6 a7 b5 b6 b7 s3 s1
    simp only [va_up, zRn, qTog, x1, x2, x3, x4, x5, x6, x7, x8, x9, x10, x11, x12, x13, x14, x15, x16, x17, x18, x19, x20, x21, x22, x23, x24, x25, x26, x27, x28, x29, x30, h9, k9, if_true, if_false]
    all_goals clear x1 x2 x3 x4 x5 x6 x7 x8 x9 x10 x11 x12 x13 x14 x15 x16 x17 x18 x19 x20 x21 x22 x23 x24 x25 x26 x27 x28 x29 x30
    all_goals (repeat' apply And.intro)
    all_goals (repeat' (first | assumption | rfl | split | omega))
    all_goals (repeat' apply And.intro)
    all_goals first | rfl | assumption | (simp only [va_up]; (repeat' (first | omega | split)) <;> first | rfl | assumption) | (intro hh; exact absurd hh (by decide)) | (intro hh; repeat' apply And.intro) 
    all_goals first | rfl | assumption | (simp only [va_up]; (repeat' (first | omega | split)) <;> first | rfl | assumption) | (simp_all; done)
  · skip
    clear a5 a6 a7 b5 b6 b7 s3 s1
    simp only [va_up, zRn, qTog, x1, x2, x3, x4, x5, x6, x7, x8, x9, x10, x11, x12, x13, x14, x15, x16, x17, x18, x19, x20, x21, x22, x23, x24, x25, x26, x27, x28, x29, x30, if_true, if_false]
    all_goals clear x1 x2 x3 x4 x5 x6 x7 x8 x9 x10 x11 x12 x13 x14 x15 x16 x17 x18 x19 x20 x21 x22 x23 x24 x25 x26 x27 x28 x29 x30
    all_goals (repeat' apply And.intro)
    all_goals (repeat' (first | assumption | rfl | split | omega))
    all_goals (repeat' apply And.intro)
    all_goals first | rfl | assumption | (simp only [va_up]; (repeat' (first | omega | split)) <;> first | rfl | assumption) | (intro hh; exact absurd hh (by decide)) | (intro hh; repeat' apply And.intro) 
    all_goals first | rfl | assumption | (simp only [va_up]; (repeat' (first | omega | split)) <;> first | rfl | assumption) | (simp_all; done)
  · skip
    clear a5 a6 a7 b5 b6 b7 s3 s1
    simp only [va_up, zRn, qTog, x1, x2, x3, x4, x5, x6, x7, x8, x9, x10, x11, x12, x13, x14, x15, x16, x17, x18, x19, x20, x21, x22, x23, x24, x25, x26, x27, x28, x29, x30, if_true, if_false]
    all_goals clear x1 x2 x3 x4 x5 x6 x7 x8 x9 x10 x11 x12 x13 x14 x15 x16 x17 x18 x19 x20 x21 x22 x23 x24 x25 x26 x27 x28 x29 x30
    all_goals (repeat' apply And.intro)
    all_goals (repeat' (first | assumption | rfl | split | omega))
    all_goals (repeat' apply And.intro)
    all_goals first | rfl | assumption | (simp only [va_up]; (repeat' (first | omega | split)) <;> first | rfl | assumption) | (intro hh; exact absurd hh (by decide)) | (intro hh; repeat' apply And.intro) 
    all_goals first | rfl | assumption | (simp only [va_up]; (repeat' (first | omega | split)) <;> first | rfl | assumption) | (simp_all; done)
  · skip
    clear a5 a6 a7 b5 b6 b7 s3 s1
    simp only [va_up, zRn, qTog, x1, x2, x3, x4, x5, x6, x7, x8, x9, x10, x11, x12, x13, x14, x15, x16, x17, x18, x19, x20, x21, x22, x23, x24, x25, x26, x27, x28, x29, x30, if_true, if_false]
    all_goals clear x1 x2 x3 x4 x5 x6 x7 x8 x9 x10 x11 x12 x13 x14 x15 x16 x17 x18 x19 x20 x21 x22 x23 x24 x25 x26 x27 x28 x29 x30
    all_goals (repeat' apply And.intro)
    all_goals (repeat' (first | assumption | rfl | split | omega))
    all_goals (repeat' apply And.intro)
    all_goals first | rfl | assumption | (simp only [va_up]; (repeat' (first | omega | split)) <;> first | rfl | assumption) | (intro hh; exact absurd hh (by decide)) | (intro hh; repeat' apply And.intro) 
    all_goals first | rfl | assumption | (simp only [va_up]; (repeat' (first | omega | split)) <;> first | rfl | assumption) | (simp_all; done)
  · skip
    clear a5 a6 a7 b5 b6 b7 s3 s1
    simp only [va_up, zRn, qTog, x1, x2, x3, x4, x5, x6, x7, x8, x9, x10, x11, x12, x13, x14, x15, x16, x17, x18, x19, x20, x21, x22, x23, x24, x25, x26, x27, x28, x29, x30, if_true, if_false]
    all_goals clear x1 x2 x3 x4 x5 x6 x7 x8 x9 x10 x11 x12 x13 x14 x15 x16 x17 x18 x19 x20 x21 x22 x23 x24 x25 x26 x27 x28 x29 x30
    all_goals (repeat' apply And.intro)
    all_goals (repeat' (first | assumption | rfl | split | omega))
    all_goals (repeat' apply And.intro)
    all_goals first | rfl | assumption | (simp only [va_up]; (repeat' (first | omega | split)) <;> first | rfl | assumption) | (intro hh; exact absurd hh (by decide)) | (intro hh; repeat' apply And.intro) 
    all_goals first | rfl | assumption | (simp only [va_up]; (repeat' (first | omega | split)) <;> first | rfl | assumption) | (simp_all; done)
  · rw [zu_eq, zu_eq]
  · rw [hT2 a9 h9, qOn_tog hf]
  · skip
    obtain ⟨q1, q2, q3, q4, q5⟩ := b5 a9 h9
    clear a5 a6 a7 b5 b6 b7 s3 s1
    simp only [va_up, zRn, qTog, x1, x2, x3, x4, x5, x6, x7, x8, x9, x10, x11, x12, x13, x14, x15, x16, x17, x18, x19, x20, x21, x22, x23, x24, x25, x26, x27, x28, x29, x30, h9, if_true, if_false]
    all_goals clear x1 x2 x3 x4 x5 x6 x7 x8 x9 x10 x11 x12 x13 x14 x15 x16 x17 x18 x19 x20 x21 x22 x23 x24 x25 x26 x27 x28 x29 x30
    all_goals (repeat' apply And.intro)
    all_goals (repeat' (first | assumption | rfl | split | omega))
    all_goals (repeat' apply And.intro)
    all_goals first | rfl | assumption | (simp only [va_up]; (repeat' (first | omega | split)) <;> first | rfl | assumption) | (intro hh; exact absurd hh (by decide)) | (intro hh; repeat' apply And.intro) 
    all_goals first | rfl | assumption | (simp only [va_up]; (repeat' (first | omega | split)) <;> first | rfl | assumption) | (simp_all; done)
  · skip
    obtain ⟨q1, q2, q3, q4⟩ := b6 t9 k9
    clear a5 a6 a7 b5 b6 b7 s3 s1
    simp only [va_up, zRn, qTog, x1, x2, x3, x4, x5, x6, x7, x8, x9, x10, x11, x12, x13, x14, x15, x16, x17, x18, x19, x20, x21, x22, x23, x24, x25, x26, x27, x28, x29, x30, k9, if_true, if_false]
    all_goals clear x1 x2 x3 x4 x5 x6 x7 x8 x9 x10 x11 x12 x13 x14 x15 x16 x17 x18 x19 x20 x21 x22 x23 x24 x25 x26 x27 x28 x29 x30
    all_goals (repeat' apply And.intro)
    all_goals (repeat' (first | assumption | rfl | split | omega))
    all_goals (repeat' apply And.intro)
    all_goals first | rfl | assumption | (simp only [va_up]; (repeat' (first | omega | split)) <;> first | rfl | assumption) | (intro hh; exact absurd hh (by decide)) | (intro hh; repeat' apply And.intro) 
    all_goals first | rfl | assumption | (simp only [va_up]; (repeat' (first | omega | split)) <;> first | rfl | assumption) | (simp_all; done)
  · skip
    obtain ⟨q1, q2⟩ := b7 a9 h9 t9 k9
    clear a5 a6 a7 b5 b6 b7 s3 s1
    simp only [va_up, zRn, qTog, x1, x2, x3, x4, x5, x6, x7, x8, x9, x10, x11, x12, x13, x14, x15, x16, x17, x18, x19, x20, x21, x22, x23, x24, x25, x26, x27, x28, x29, x30, h9, k9, if_true, if_false]
    all_goals clear x1 x2 x3 x4 x5 x6 x7 x8 x9 x10 x11 x12 x13 x14 x15 x16 x17 x18 x19 x20 x21 x22 x23 x24 x25 x26 x27 x28 x29 x30
    all_goals (repeat' apply And.intro)
    all_goals (repeat' (first | assumption | rfl | split | omega))
    all_goals (repeat' apply And.intro)
    all_goals first | rfl | assumption | (simp only [va_up]; (repeat' (first | omega | split)) <;> first | rfl | assumption) | (intro hh; exact absurd hh (by decide)) | (intro hh; repeat' apply And.intro) 
    all_goals first | rfl | assumption | (simp only [va_up]; (repeat' (first | omega | split)) <;> first | rfl | assumption) | (simp_all; done)
theorem zOut_w {d D : Nat → Nat → Int32} {o w c : Nat} {X : Nat → Int32} (h : zOut d D o w) (hc : o ≤ c ∧ c < o + w) : zOut d (va_up D c X) o w := fun q hq => by
  rw [zu_ne (by omega)]
  exact h q hq
theorem zOut_r {d : Nat → Nat → Int32} {o w : Nat} : zOut d d o w := fun _ _ => rfl
theorem zOut_t {d D E : Nat → Nat → Int32} {o w : Nat} (h1 : zOut d D o w) (h2 : zOut D E o w) : zOut d E o w := fun q hq => (h2 q hq).trans (h1 q hq)
set_option maxRecDepth 100000 in
set_option maxHeartbeats 4000000 in
theorem ct_X6_placeAgent {g : zGl} {h : zHp} {b o n K a : Nat} {x y : Int32} {d : Nat → Nat → Int32} {f : Nat → Int32} (hw : zWo o) (hR : zR d o f n K) (ha : a < n) (hx : zPl x 12) (hy : zPl y 12) : zC g mX6_placeAgent [.ref (b + o), .int (nI a), .int x, .int y] (zpT g h b d) (zTU g h b (fun D => zR D o (va_up (va_up f (4 + 6 * a) x) (4 + 6 * a + 1) y) n K ∧ zOut d D o 15) none) 0 0 := by
  have hn := zR_n6 hR
  refine zC_ofA (lv := [some (.ref (b + o)), some (.int (nI a)), some (.int x), some (.int y)]) (by decide) rfl (Nat.le_of_ble_eq_true rfl) ?_
  refine z_aload_n (q := 1) dX6_placeAgent_0 rfl rfl ?_
  refine z_get (q := 4) dX6_placeAgent_1 zfX6_15 (by first | exact zT_o hw | exact zT_w hw rfl | exact zT_N (zNo_w hw) | exact zT_n (zNo_w hw) (by decide)) rfl rfl ?_
  refine z_iload_n (q := 5) dX6_placeAgent_4 rfl rfl ?_
  refine z_iload_n (q := 6) dX6_placeAgent_5 rfl rfl ?_
  refine z_iastT (q := 7) dX6_placeAgent_6 (zWl_T hw rfl) (by omega) rfl ?_
  refine z_aload_n (q := 8) dX6_placeAgent_7 rfl rfl ?_
  refine z_get (q := 11) dX6_placeAgent_8 zfX6_19 (by first | exact zT_o hw | exact zT_w hw rfl | exact zT_N (zNo_w hw) | exact zT_n (zNo_w hw) (by decide)) rfl rfl ?_
  refine z_iload_n (q := 12) dX6_placeAgent_11 rfl rfl ?_
  refine z_iload_n (q := 13) dX6_placeAgent_12 rfl rfl ?_
  refine z_iastT (q := 14) dX6_placeAgent_13 (zWl_T hw rfl) (by omega) rfl ?_
  exact z_ret dX6_placeAgent_14 rfl (⟨rfl, _, rfl, zR_y hy ha (zR_x hx ha hR), zOut_w (zOut_w zOut_r (by omega)) (by omega)⟩)
set_option maxRecDepth 100000 in
set_option maxHeartbeats 4000000 in
theorem ct_X6_switchAgent {g : zGl} {h : zHp} {b o n K a : Nat} {d : Nat → Nat → Int32} {f : Nat → Int32} (hw : zWo o) (hR : zR d o f n K) (ha : a < n) : zC g mX6_switchAgent [.ref (b + o), .int (nI a)] (zpT g h b d) (zTU g h b (fun D => zR D o (qTog f a) n K ∧ zOut d D o 15) none) 0 0 := by
  have hn := zR_n6 hR
  obtain ⟨S, hS, h4, hb⟩ := zR_S hR
  have hT : S ^^^ 2 ^ a < 2 ^ n := Nat.xor_lt_two_pow hS (Nat.pow_lt_pow_right (by decide) ha)
  have hT2 : ∀ c, c < n → (S ^^^ 2 ^ a).testBit c = if c = a then !qOn f c else qOn f c := by
    intro c hc
    rw [Nat.testBit_xor, Nat.testBit_two_pow, hb c hc]
    by_cases h9 : c = a
    · subst h9
      simp
    · have h8 : ¬ a = c := fun e => h9 e.symm
      simp [h9, h8]
  refine zC_ofA (lv := [some (.ref (b + o)), some (.int (nI a))]) (by decide) rfl (Nat.le_of_ble_eq_true rfl) ?_
  refine z_aload_n (q := 1) dX6_switchAgent_0 rfl rfl ?_
  refine z_dup (q := 2) dX6_switchAgent_1 rfl rfl ?_
  refine z_get (q := 5) dX6_switchAgent_2 zfX6_59 (by first | exact zT_o hw | exact zT_w hw rfl | exact zT_N (zNo_w hw) | exact zT_n (zNo_w hw) (by decide)) rfl rfl ?_
  refine z_eqi h4 ?_
  refine z_iconst (q := 6) dX6_switchAgent_5 zci_1 rfl ?_
  refine z_iload_n (q := 7) dX6_switchAgent_6 rfl rfl ?_
  refine z_ishl (q := 8) dX6_switchAgent_7 rfl ?_
  refine z_eqi (nI_shl (by omega)) ?_
  refine z_ixor (q := 9) dX6_switchAgent_8 rfl ?_
  refine z_eqi (nI_xor _ _) ?_
  refine z_putT (q := 12) hw dX6_switchAgent_9 zfX6_59 (by decide) rfl ?_
  exact z_ret dX6_switchAgent_12 rfl (⟨rfl, _, rfl, zR_on ha hT hT2 hR, zOut_w zOut_r (by omega)⟩)
set_option maxRecDepth 100000 in
set_option maxHeartbeats 4000000 in
theorem ct_X6_setAllRanges {g : zGl} {h : zHp} {b o n K : Nat} {x : Int32} {d : Nat → Nat → Int32} {f : Nat → Int32} (hw : zWo o) (hR : zR d o f n K) (hx : zPl x 23) : zC g mX6_setAllRanges [.ref (b + o), .int x] (zpT g h b d) (zTU g h b (fun D => zR D o (qRng f n x) n K ∧ zOut d D o 15) none) 0 0 := by
  have hn := zR_n6 hR
  refine zC_ofA (lv := [some (.ref (b + o)), some (.int x), none]) (by decide) rfl (Nat.le_of_ble_eq_true rfl) ?_
  have loop : ∀ r i D, i + r = n → zR D o (qRng f i x) n K → zOut d D o 15 → zA g (zZc g mX6_setAllRanges (zTU g h b (fun D => zR D o (qRng f n x) n K ∧ zOut d D o 15) none) 0 0) 0 0 2 [some (.ref (b + o)), some (.int x), some (.int (nI i))] [] (zpT g h b D) := by
    intro r
    induction r using Nat.strongRecOn with
    | ind r ih =>
      intro i D hi hD hO
      refine z_iload_n (q := 3) dX6_setAllRanges_2 rfl rfl ?_
      refine z_aload_n (q := 4) dX6_setAllRanges_3 rfl rfl ?_
      refine z_get (q := 7) dX6_setAllRanges_4 zfX6_50 (by first | exact zT_o hw | exact zT_w hw rfl | exact zT_N (zNo_w hw) | exact zT_n (zNo_w hw) (by decide)) rfl rfl ?_
      refine z_eqi (zR_0 hD) ?_
      refine z_icmp_geN (tg := 23) (q := 10) dX6_setAllRanges_7 rfl rfl (by omega) (by omega) ?_ ?_
      · intro hc7
        exact z_ret dX6_setAllRanges_23 rfl (⟨rfl, D, rfl, by rw [show n = i by omega] at hD ⊢; exact hD, hO⟩)
      · intro hc7
        refine z_aload_n (q := 11) dX6_setAllRanges_10 rfl rfl ?_
        refine z_get (q := 14) dX6_setAllRanges_11 zfX6_22 (by first | exact zT_o hw | exact zT_w hw rfl | exact zT_N (zNo_w hw) | exact zT_n (zNo_w hw) (by decide)) rfl rfl ?_
        refine z_iload_n (q := 15) dX6_setAllRanges_14 rfl rfl ?_
        refine z_iload_n (q := 16) dX6_setAllRanges_15 rfl rfl ?_
        refine z_iastT (q := 17) dX6_setAllRanges_16 (zWl_T hw rfl) (by omega) rfl ?_
        refine z_iincN (q := 20) dX6_setAllRanges_17 rfl rfl rfl ?_
        refine z_goto (q := 0) (tg := 2) dX6_setAllRanges_20 rfl ?_
        exact ih (r - 1) (by omega) (i + 1) _ (by omega) (zR_r hx (by omega) hD) (zOut_w hO (by omega))
  refine z_iconst (q := 1) dX6_setAllRanges_0 zci_0 rfl ?_
  refine z_istore_n (q := 2) dX6_setAllRanges_1 (Nat.le_of_ble_eq_true rfl) rfl rfl ?_
  exact loop n 0 d (by omega) hR zOut_r
theorem qDrop_y {f : Nat → Int32} {a i : Nat} (h : (decide ((qDrop f a i).1 (72 + 4 * (8 * a + i)) = nI 1) && decide ((qDrop f a i).1 (72 + 4 * (8 * a + i) + 1) = nI a)) = true) : qDrop f a (i + 1) = (qLay (qDrop f a i).1 (72 + 4 * (8 * a + i)) (nI 0) (nI 0) (nI 0) (nI 0), (qDrop f a i).2 + 1) := if_pos h
theorem qDrop_n {f : Nat → Int32} {a i : Nat} (h : (decide ((qDrop f a i).1 (72 + 4 * (8 * a + i)) = nI 1) && decide ((qDrop f a i).1 (72 + 4 * (8 * a + i) + 1) = nI a)) = false) : qDrop f a (i + 1) = qDrop f a i := if_neg (fun h2 => Bool.false_ne_true (h.symm.trans h2))
set_option maxRecDepth 100000 in
set_option maxHeartbeats 4000000 in
theorem ct_X6_dropClaims {g : zGl} {h : zHp} {b o n K a : Nat} {d : Nat → Nat → Int32} {f : Nat → Int32} (hw : zWo o) (hR : zR d o f n K) (ha : a < n) : zC g mX6_dropClaims [.ref (b + o), .int (nI a)] (zpT g h b d) (zTU g h b (fun D => zR D o (qDrop f a K).1 n K ∧ zOut d D o 15) (some (.int (nI (qDrop f a K).2)))) 0 0 := by
  have hn := zR_n6 hR
  have hK := zR_K8 hR
  refine zC_ofA (lv := [some (.ref (b + o)), some (.int (nI a)), none, none, none]) (by decide) rfl (Nat.le_of_ble_eq_true rfl) ?_
  have loop : ∀ r i D l, i + r = K → zR D o (qDrop f a i).1 n K → zOut d D o 15 → zA g (zZc g mX6_dropClaims (zTU g h b (fun D => zR D o (qDrop f a K).1 n K ∧ zOut d D o 15) (some (.int (nI (qDrop f a K).2)))) 0 0) 0 0 4 [some (.ref (b + o)), some (.int (nI a)), some (.int (nI (qDrop f a i).2)), some (.int (nI i)), l] [] (zpT g h b D) := by
    intro r
    induction r using Nat.strongRecOn with
    | ind r ih =>
      intro i D l hi hD hO
      refine z_iload_n (q := 5) dX6_dropClaims_4 rfl rfl ?_
      refine z_aload_n (q := 6) dX6_dropClaims_5 rfl rfl ?_
      refine z_get (q := 9) dX6_dropClaims_6 zfX6_53 (by first | exact zT_o hw | exact zT_w hw rfl | exact zT_N (zNo_w hw) | exact zT_n (zNo_w hw) (by decide)) rfl rfl ?_
      refine z_eqi (zR_1 hD) ?_
      refine z_icmp_geN (tg := 52) (q := 12) dX6_dropClaims_9 rfl rfl (by omega) (by omega) ?_ ?_
      · intro hc9
        refine z_iload_n (q := 53) dX6_dropClaims_52 rfl rfl ?_
        exact z_reti dX6_dropClaims_53 rfl (⟨by rw [show i = K by omega], D, rfl, by rw [show i = K by omega] at hD; exact hD, hO⟩)
      · intro hc9
        refine z_iload_n (q := 13) dX6_dropClaims_12 rfl rfl ?_
        refine z_iload_n (q := 14) dX6_dropClaims_13 rfl rfl ?_
        refine z_s2 (q := 17) dX6_dropClaims_14 zkX6_79 zt_mX7_noteIndex rfl (Nat.le_of_ble_eq_true rfl) (ct_X7_noteIndex) rfl ?_
        refine z_istore (q := 19) dX6_dropClaims_17 (Nat.le_of_ble_eq_true rfl) rfl rfl ?_
        refine z_aload_n (q := 20) dX6_dropClaims_19 rfl rfl ?_
        refine z_get (q := 23) dX6_dropClaims_20 zfX6_46 (by first | exact zT_o hw | exact zT_w hw rfl | exact zT_N (zNo_w hw) | exact zT_n (zNo_w hw) (by decide)) rfl rfl ?_
        refine z_iload (q := 25) dX6_dropClaims_23 rfl rfl ?_
        refine z_iload_n (q := 26) dX6_dropClaims_25 rfl rfl ?_
        refine z_v2 (q := 29) dX6_dropClaims_26 zkX6_83 zt_mX2_isClaimOf rfl (by first | exact zT_o hw | exact zT_w hw rfl | exact zT_N (zNo_w hw) | exact zT_n (zNo_w hw) (by decide)) rfl (Nat.le_of_ble_eq_true rfl) (ct_X2_isClaimOf (zNo_w hw) (by omega)) rfl ?_
        refine z_ifb_eq (tg := 46) (q := 32) dX6_dropClaims_29 rfl rfl ?_ ?_
        · intro hc29
          rw [zRn_own (zR_n hD ha (by omega))] at hc29
          refine z_iincN (q := 49) dX6_dropClaims_46 rfl rfl rfl ?_
          refine z_goto (q := 0) (tg := 4) dX6_dropClaims_49 rfl ?_
          have e9 := ih (r - 1) (by omega) (i + 1)
          first
            | (rw [qDrop_y hc29] at e9; exact e9 _ _ (by omega) (zR_k0 ha (by omega) hD) (zOut_w hO (by omega)))
            | (rw [qDrop_n hc29] at e9; exact e9 _ _ (by omega) hD hO)
        · intro hc29
          rw [zRn_own (zR_n hD ha (by omega))] at hc29
          refine z_aload_n (q := 33) dX6_dropClaims_32 rfl rfl ?_
          refine z_get (q := 36) dX6_dropClaims_33 zfX6_46 (by first | exact zT_o hw | exact zT_w hw rfl | exact zT_N (zNo_w hw) | exact zT_n (zNo_w hw) (by decide)) rfl rfl ?_
          refine z_get (q := 39) dX6_dropClaims_36 zfX6_128 (by first | exact zT_o hw | exact zT_w hw rfl | exact zT_N (zNo_w hw) | exact zT_n (zNo_w hw) (by decide)) rfl rfl ?_
          refine z_iload (q := 41) dX6_dropClaims_39 rfl rfl ?_
          refine z_iconst (q := 42) dX6_dropClaims_41 zci_0 rfl ?_
          refine z_iastT (q := 43) dX6_dropClaims_42 (zNo_T (zNo_w hw) (by decide)) (by omega) rfl ?_
          refine z_iincN (q := 46) dX6_dropClaims_43 rfl rfl rfl ?_
          refine z_iincN (q := 49) dX6_dropClaims_46 rfl rfl rfl ?_
          refine z_goto (q := 0) (tg := 4) dX6_dropClaims_49 rfl ?_
          have e9 := ih (r - 1) (by omega) (i + 1)
          first
            | (rw [qDrop_y hc29] at e9; exact e9 _ _ (by omega) (zR_k0 ha (by omega) hD) (zOut_w hO (by omega)))
            | (rw [qDrop_n hc29] at e9; exact e9 _ _ (by omega) hD hO)
  refine z_iconst (q := 1) dX6_dropClaims_0 zci_0 rfl ?_
  refine z_istore_n (q := 2) dX6_dropClaims_1 (Nat.le_of_ble_eq_true rfl) rfl rfl ?_
  refine z_iconst (q := 3) dX6_dropClaims_2 zci_0 rfl ?_
  refine z_istore_n (q := 4) dX6_dropClaims_3 (Nat.le_of_ble_eq_true rfl) rfl rfl ?_
  exact loop K 0 d _ (by omega) hR zOut_r

