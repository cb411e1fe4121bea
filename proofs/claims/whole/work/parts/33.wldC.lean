/-! ===== the component: a world changed ===== -/
set_option maxRecDepth 100000 in
set_option maxHeartbeats 4000000 in
theorem zR_x {d : Nat → Nat → Int32} {o n K : Nat} {f : Nat → Int32} {a : Nat} {v : Int32} (hv : zPl v 12) (ha : a < n) (h : zR d o f n K) : zR (va_up d (o + 1) (va_up (d (o + 1)) a v)) o (va_up f (4 + 6 * a) v) n K := by
  obtain ⟨⟨a1, a2, a3, a4, a5, a6, a7⟩, b0, b1, b2, b3, ⟨S, s1, s2, s3⟩, b5, b6, b7⟩ := h
  have x1 : (o = o + 1) = False := eq_false (by omega)
  have x2 : (o + 2 = o + 1) = False := eq_false (by omega)
  have x3 : (o + 3 = o + 1) = False := eq_false (by omega)
  have x4 : (o + 4 = o + 1) = False := eq_false (by omega)
  have x5 : (o + 5 = o + 1) = False := eq_false (by omega)
  have x6 : (o + 6 = o + 1) = False := eq_false (by omega)
  have x7 : (o + 7 = o + 1) = False := eq_false (by omega)
  have x8 : (o + 8 = o + 1) = False := eq_false (by omega)
  have x9 : (o + 9 = o + 1) = False := eq_false (by omega)
  have x10 : (o + 10 + 1 = o + 1) = False := eq_false (by omega)
  have x11 : (o + 10 + 2 = o + 1) = False := eq_false (by omega)
  have x12 : (o + 10 + 3 = o + 1) = False := eq_false (by omega)
  have x13 : (o + 10 + 4 = o + 1) = False := eq_false (by omega)
  have x14 : (0 = 4 + 6 * a) = False := eq_false (by omega)
  have x15 : (1 = 4 + 6 * a) = False := eq_false (by omega)
  have x16 : (2 = 4 + 6 * a) = False := eq_false (by omega)
  have x17 : (3 = 4 + 6 * a) = False := eq_false (by omega)
  have x18 : ∀ z, (4 + 6 * z + 1 = 4 + 6 * a) = False := fun z => eq_false (by omega)
  have x19 : ∀ z, (4 + 6 * z + 2 = 4 + 6 * a) = False := fun z => eq_false (by omega)
  have x20 : ∀ z, (4 + 6 * z + 3 = 4 + 6 * a) = False := fun z => eq_false (by omega)
  have x21 : ∀ z, (4 + 6 * z + 4 = 4 + 6 * a) = False := fun z => eq_false (by omega)
  have x22 : ∀ z, (4 + 6 * z + 5 = 4 + 6 * a) = False := fun z => eq_false (by omega)
  have x23 : ∀ z, z < K → (40 + 4 * z = 4 + 6 * a) = False := fun z hz => eq_false (by omega)
  have x24 : ∀ z, z < K → (40 + 4 * z + 1 = 4 + 6 * a) = False := fun z hz => eq_false (by omega)
  have x25 : ∀ z, z < K → (40 + 4 * z + 2 = 4 + 6 * a) = False := fun z hz => eq_false (by omega)
  have x26 : ∀ z, z < K → (40 + 4 * z + 3 = 4 + 6 * a) = False := fun z hz => eq_false (by omega)
  have x27 : ∀ z, (72 + 4 * z = 4 + 6 * a) = False := fun z => eq_false (by omega)
  have x28 : ∀ z, (72 + 4 * z + 1 = 4 + 6 * a) = False := fun z => eq_false (by omega)
  have x29 : ∀ z, (72 + 4 * z + 2 = 4 + 6 * a) = False := fun z => eq_false (by omega)
  have x30 : ∀ z, (72 + 4 * z + 3 = 4 + 6 * a) = False := fun z => eq_false (by omega)
  refine ⟨⟨a1, a2, ?_, ?_, fun a9 h9 => ?_, fun t9 k9 => ?_, fun a9 h9 t9 k9 => ?_⟩, ?_, ?_, ?_, ?_, ⟨S, s1, ?_, fun a9 h9 => ?_⟩, fun a9 h9 => ?_, fun t9 k9 => ?_, fun a9 h9 t9 k9 => ?_⟩
  · skip
    clear a5 a6 a7 b5 b6 b7 s3 s1
    simp only [va_up, zRn, qLay, x1, x2, x3, x4, x5, x6, x7, x8, x9, x10, x11, x12, x13, x14, x15, x16, x17, x18, x19, x20, x21, x22, x23, x24, x25, x26, x27, x28, x29, x30, if_true, if_false]
    all_goals clear x1 x2 x3 x4 x5 x6 x7 x8 x9 x10 x11 x12 x13 x14 x15 x16 x17 x18 x19 x20 x21 x22 x23 x24 x25 x26 x27 x28 x29 x30
    all_goals (repeat' apply And.intro)
    all_goals (repeat' (first | assumption | rfl | split | omega))
    all_goals (repeat' apply And.intro)
    all_goals first | rfl | assumption | (simp only [va_up]; (repeat' (first | omega | split)) <;> first | rfl | assumption) | (intro hh; exact absurd hh (by decide)) | (intro hh; repeat' apply And.intro) 
    all_goals first | rfl | assumption | (simp only [va_up]; (repeat' (first | omega | split)) <;> first | rfl | assumption) | (simp_all; done)
  · skip
    clear a5 a6 a7 b5 b6 b7 s3 s1
    simp only [va_up, zRn, qLay, x1, x2, x3, x4, x5, x6, x7, x8, x9, x10, x11, x12, x13, x14, x15, x16, x17, x18, x19, x20, x21, x22, x23, x24, x25, x26, x27, x28, x29, x30, if_true, if_false]
    all_goals clear x1 x2 x3 x4 x5 x6 x7 x8 x9 x10 x11 x12 x13 x14 x15 x16 x17 x18 x19 x20 x21 x22 x23 x24 x25 x26 x27 x28 x29 x30
    all_goals (repeat' apply And.intro)
    all_goals (repeat' (first | assumption | rfl | split | omega))
    all_goals (repeat' apply And.intro)
    all_goals first | rfl | assumption | (simp only [va_up]; (repeat' (first | omega | split)) <;> first | rfl | assumption) | (intro hh; exact absurd hh (by decide)) | (intro hh; repeat' apply And.intro) 
    all_goals first | rfl | assumption | (simp only [va_up]; (repeat' (first | omega | split)) <;> first | rfl | assumption) | (simp_all; done)
  · skip
    obtain ⟨q1, q2, q3, q4⟩ := a5 a9 h9
    clear a5 a6 a7 b5 b6 b7 s3 s1
    simp only [va_up, zRn, qLay, x1, x2, x3, x4, x5, x6, x7, x8, x9, x10, x11, x12, x13, x14, x15, x16, x17, x18, x19, x20, x21, x22, x23, x24, x25, x26, x27, x28, x29, x30, h9, if_true, if_false]
    all_goals clear x1 x2 x3 x4 x5 x6 x7 x8 x9 x10 x11 x12 x13 x14 x15 x16 x17 x18 x19 x20 x21 x22 x23 x24 x25 x26 x27 x28 x29 x30
    all_goals (repeat' apply And.intro)
    all_goals (repeat' (first | assumption | rfl | split | omega))
    all_goals (repeat' apply And.intro)
    all_goals first | rfl | assumption | (simp only [va_up]; (repeat' (first | omega | split)) <;> first | rfl | assumption) | (intro hh; exact absurd hh (by decide)) | (intro hh; repeat' apply And.intro) 
    all_goals first | rfl | assumption | (simp only [va_up]; (repeat' (first | omega | split)) <;> first | rfl | assumption) | (simp_all; done)
  · skip
    obtain ⟨q1, q2⟩ := a6 t9 k9
    clear a5 a6 a7 b5 b6 b7 s3 s1
    simp only [va_up, zRn, qLay, x1, x2, x3, x4, x5, x6, x7, x8, x9, x10, x11, x12, x13, x14, x15, x16, x17, x18, x19, x20, x21, x22, x23, x24, x25, x26, x27, x28, x29, x30, k9, if_true, if_false]
    all_goals clear x1 x2 x3 x4 x5 x6 x7 x8 x9 x10 x11 x12 x13 x14 x15 x16 x17 x18 x19 x20 x21 x22 x23 x24 x25 x26 x27 x28 x29 x30
    all_goals (repeat' apply And.intro)
    all_goals (repeat' (first | assumption | rfl | split | omega))
    all_goals (repeat' apply And.intro)
    all_goals first | rfl | assumption | (simp only [va_up]; (repeat' (first | omega | split)) <;> first | rfl | assumption) | (intro hh; exact absurd hh (by decide)) | (intro hh; repeat' apply And.intro) 
    all_goals first | rfl | assumption | (simp only [va_up]; (repeat' (first | omega | split)) <;> first | rfl | assumption) | (simp_all; done)
  · skip
    obtain ⟨q1, q2⟩ := a7 a9 h9 t9 k9
    clear a5 a6 a7 b5 b6 b7 s3 s1
    simp only [va_up, zRn, qLay, x1, x2, x3, x4, x5, x6, x7, x8, x9, x10, x11, x12, x13, x14, x15, x16, x17, x18, x19, x20, x21, x22, x23, x24, x25, x26, x27, x28, x29, x30, h9, k9, if_true, if_false]
    all_goals clear x1 x2 x3 x4 x5 x6 x7 x8 x9 x10 x11 x12 x13 x14 x15 x16 x17 x18 x19 x20 x21 x22 x23 x24 x25 x26 x27 x28 x29 x30
    all_goals (repeat' apply And.intro)
    all_goals (repeat' (first | assumption | rfl | split | omega))
    all_goals (repeat' apply And.intro)
    all_goals first | rfl | assumption | (simp only [va_up]; (repeat' (first | omega | split)) <;> first | rfl | assumption) | (intro hh; exact absurd hh (by decide)) | (intro hh; repeat' apply And.intro) 
    all_goals first | rfl | assumption | (simp only [va_up]; (repeat' (first | omega | split)) <;> first | rfl | assumption) | (simp_all; done)
  · skip
    clear a5 a6 a7 b5 b6 b7 s3 s1
    simp only [va_up, zRn, qLay, x1, x2, x3, x4, x5, x6, x7, x8, x9, x10, x11, x12, x13, x14, x15, x16, x17, x18, x19, x20, x21, x22, x23, x24, x25, x26, x27, x28, x29, x30, if_true, if_false]
    all_goals clear x1 x2 x3 x4 x5 x6 x7 x8 x9 x10 x11 x12 x13 x14 x15 x16 x17 x18 x19 x20 x21 x22 x23 x24 x25 x26 x27 x28 x29 x30
    all_goals (repeat' apply And.intro)
    all_goals (repeat' (first | assumption | rfl | split | omega))
    all_goals (repeat' apply And.intro)
    all_goals first | rfl | assumption | (simp only [va_up]; (repeat' (first | omega | split)) <;> first | rfl | assumption) | (intro hh; exact absurd hh (by decide)) | (intro hh; repeat' apply And.intro) 
    all_goals first | rfl | assumption | (simp only [va_up]; (repeat' (first | omega | split)) <;> first | rfl | assumption) | (simp_all; done)
  · skip
    clear a5 a6 a7 b5 b6 b7 s3 s1
    simp only [va_up, zRn, qLay, x1, x2, x3, x4, x5, x6, x7, x8, x9, x10, x11, x12, x13, x14, x15, x16, x17, x18, x19, x20, x21, x22, x23, x24, x25, x26, x27, x28, x29, x30, if_true, if_false]
    all_goals clear x1 x2 x3 x4 x5 x6 x7 x8 x9 x10 x11 x12 x13 x14 x15 x16 x17 x18 x19 x20 x21 x22 x23 x24 x25 x26 x27 x28 x29 x30
    all_goals (repeat' apply And.intro)
    all_goals (repeat' (first | assumption | rfl | split | omega))
    all_goals (repeat' apply And.intro)
    all_goals first | rfl | assumption | (simp only [va_up]; (repeat' (first | omega | split)) <;> first | rfl | assumption) | (intro hh; exact absurd hh (by decide)) | (intro hh; repeat' apply And.intro) 
    all_goals first | rfl | assumption | (simp only [va_up]; (repeat' (first | omega | split)) <;> first | rfl | assumption) | (simp_all; done)
  · skip
    clear a5 a6 a7 b5 b6 b7 s3 s1
    simp only [va_up, zRn, qLay, x1, x2, x3, x4, x5, x6, x7, x8, x9, x10, x11, x12, x13, x14, x15, x16, x17, x18, x19, x20, x21, x22, x23, x24, x25, x26, x27, x28, x29, x30, if_true, if_false]
    all_goals clear x1 x2 x3 x4 x5 x6 x7 x8 x9 x10 x11 x12 x13 x14 x15 x16 x17 x18 x19 x20 x21 x22 x23 x24 x25 x26 x27 x28 x29 x30
    all_goals (repeat' apply And.intro)
    all_goals (repeat' (first | assumption | rfl | split | omega))
    all_goals (repeat' apply And.intro)
    all_goals first | rfl | assumption | (simp only [va_up]; (repeat' (first | omega | split)) <;> first | rfl | assumption) | (intro hh; exact absurd hh (by decide)) | (intro hh; repeat' apply And.intro) 
    all_goals first | rfl | assumption | (simp only [va_up]; (repeat' (first | omega | split)) <;> first | rfl | assumption) | (simp_all; done)
  · skip
    clear a5 a6 a7 b5 b6 b7 s3 s1
    simp only [va_up, zRn, qLay, x1, x2, x3, x4, x5, x6, x7, x8, x9, x10, x11, x12, x13, x14, x15, x16, x17, x18, x19, x20, x21, x22, x23, x24, x25, x26, x27, x28, x29, x30, if_true, if_false]
    all_goals clear x1 x2 x3 x4 x5 x6 x7 x8 x9 x10 x11 x12 x13 x14 x15 x16 x17 x18 x19 x20 x21 x22 x23 x24 x25 x26 x27 x28 x29 x30
    all_goals (repeat' apply And.intro)
    all_goals (repeat' (first | assumption | rfl | split | omega))
    all_goals (repeat' apply And.intro)
    all_goals first | rfl | assumption | (simp only [va_up]; (repeat' (first | omega | split)) <;> first | rfl | assumption) | (intro hh; exact absurd hh (by decide)) | (intro hh; repeat' apply And.intro) 
    all_goals first | rfl | assumption | (simp only [va_up]; (repeat' (first | omega | split)) <;> first | rfl | assumption) | (simp_all; done)
  · skip
    clear a5 a6 a7 b5 b6 b7 s3 s1
    simp only [va_up, zRn, qLay, x1, x2, x3, x4, x5, x6, x7, x8, x9, x10, x11, x12, x13, x14, x15, x16, x17, x18, x19, x20, x21, x22, x23, x24, x25, x26, x27, x28, x29, x30, if_true, if_false]
    all_goals clear x1 x2 x3 x4 x5 x6 x7 x8 x9 x10 x11 x12 x13 x14 x15 x16 x17 x18 x19 x20 x21 x22 x23 x24 x25 x26 x27 x28 x29 x30
    all_goals (repeat' apply And.intro)
    all_goals (repeat' (first | assumption | rfl | split | omega))
    all_goals (repeat' apply And.intro)
    all_goals first | rfl | assumption | (simp only [va_up]; (repeat' (first | omega | split)) <;> first | rfl | assumption) | (intro hh; exact absurd hh (by decide)) | (intro hh; repeat' apply And.intro) 
    all_goals first | rfl | assumption | (simp only [va_up]; (repeat' (first | omega | split)) <;> first | rfl | assumption) | (simp_all; done)
  · rw [s3 a9 h9, qOn, qOn]
    clear a5 a6 a7 b5 b6 b7 s3 s1
    simp only [va_up, zRn, qLay, x1, x2, x3, x4, x5, x6, x7, x8, x9, x10, x11, x12, x13, x14, x15, x16, x17, x18, x19, x20, x21, x22, x23, x24, x25, x26, x27, x28, x29, x30, h9, if_true, if_false]
    all_goals clear x1 x2 x3 x4 x5 x6 x7 x8 x9 x10 x11 x12 x13 x14 x15 x16 x17 x18 x19 x20 x21 x22 x23 x24 x25 x26 x27 x28 x29 x30
    all_goals (repeat' apply And.intro)
    all_goals (repeat' (first | assumption | rfl | split | omega))
    all_goals (repeat' apply And.intro)
    all_goals first | rfl | assumption | (simp only [va_up]; (repeat' (first | omega | split)) <;> first | rfl | assumption) | (intro hh; exact absurd hh (by decide)) | (intro hh; repeat' apply And.intro) 
    all_goals first | rfl | assumption | (simp only [va_up]; (repeat' (first | omega | split)) <;> first | rfl | assumption) | (simp_all; done)
  · skip
    obtain ⟨q1, q2, q3, q4, q5⟩ := b5 a9 h9
    clear a5 a6 a7 b5 b6 b7 s3 s1
    simp only [va_up, zRn, qLay, x1, x2, x3, x4, x5, x6, x7, x8, x9, x10, x11, x12, x13, x14, x15, x16, x17, x18, x19, x20, x21, x22, x23, x24, x25, x26, x27, x28, x29, x30, h9, if_true, if_false]
    all_goals clear x1 x2 x3 x4 x5 x6 x7 x8 x9 x10 x11 x12 x13 x14 x15 x16 x17 x18 x19 x20 x21 x22 x23 x24 x25 x26 x27 x28 x29 x30
    all_goals (repeat' apply And.intro)
    all_goals (repeat' (first | assumption | rfl | split | omega))
    all_goals (repeat' apply And.intro)
    all_goals first | rfl | assumption | (simp only [va_up]; (repeat' (first | omega | split)) <;> first | rfl | assumption) | (intro hh; exact absurd hh (by decide)) | (intro hh; repeat' apply And.intro) 
    all_goals first | rfl | assumption | (simp only [va_up]; (repeat' (first | omega | split)) <;> first | rfl | assumption) | (simp_all; done)
  · skip
    obtain ⟨q1, q2, q3, q4⟩ := b6 t9 k9
    clear a5 a6 a7 b5 b6 b7 s3 s1
    simp only [va_up, zRn, qLay, x1, x2, x3, x4, x5, x6, x7, x8, x9, x10, x11, x12, x13, x14, x15, x16, x17, x18, x19, x20, x21, x22, x23, x24, x25, x26, x27, x28, x29, x30, k9, if_true, if_false]
    all_goals clear x1 x2 x3 x4 x5 x6 x7 x8 x9 x10 x11 x12 x13 x14 x15 x16 x17 x18 x19 x20 x21 x22 x23 x24 x25 x26 x27 x28 x29 x30
    all_goals (repeat' apply And.intro)
    all_goals (repeat' (first | assumption | rfl | split | omega))
    all_goals (repeat' apply And.intro)
    all_goals first | rfl | assumption | (simp only [va_up]; (repeat' (first | omega | split)) <;> first | rfl | assumption) | (intro hh; exact absurd hh (by decide)) | (intro hh; repeat' apply And.intro) 
    all_goals first | rfl | assumption | (simp only [va_up]; (repeat' (first | omega | split)) <;> first | rfl | assumption) | (simp_all; done)
  · skip
    obtain ⟨q1, q2⟩ := b7 a9 h9 t9 k9
    clear a5 a6 a7 b5 b6 b7 s3 s1
    simp only [va_up, zRn, qLay, x1, x2, x3, x4, x5, x6, x7, x8, x9, x10, x11, x12, x13, x14, x15, x16, x17, x18, x19, x20, x21, x22, x23, x24, x25, x26, x27, x28, x29, x30, h9, k9, if_true, if_false]
    all_goals clear x1 x2 x3 x4 x5 x6 x7 x8 x9 x10 x11 x12 x13 x14 x15 x16 x17 x18 x19 x20 x21 x22 x23 x24 x25 x26 x27 x28 x29 x30
    all_goals (repeat' apply And.intro)
    all_goals (repeat' (first | assumption | rfl | split | omega))
    all_goals (repeat' apply And.intro)
    all_goals first | rfl | assumption | (simp only [va_up]; (repeat' (first | omega | split)) <;> first | rfl | assumption) | (intro hh; exact absurd hh (by decide)) | (intro hh; repeat' apply And.intro) 
    all_goals first | rfl | assumption | (simp only [va_up]; (repeat' (first | omega | split)) <;> first | rfl | assumption) | (simp_all; done)
set_option maxRecDepth 100000 in
set_option maxHeartbeats 4000000 in
theorem zR_y {d : Nat → Nat → Int32} {o n K : Nat} {f : Nat → Int32} {a : Nat} {v : Int32} (hv : zPl v 12) (ha : a < n) (h : zR d o f n K) : zR (va_up d (o + 2) (va_up (d (o + 2)) a v)) o (va_up f (4 + 6 * a + 1) v) n K := by
  obtain ⟨⟨a1, a2, a3, a4, a5, a6, a7⟩, b0, b1, b2, b3, ⟨S, s1, s2, s3⟩, b5, b6, b7⟩ := h
  have x1 : (o = o + 2) = False := eq_false (by omega)
  have x2 : (o + 1 = o + 2) = False := eq_false (by omega)
  have x3 : (o + 3 = o + 2) = False := eq_false (by omega)
  have x4 : (o + 4 = o + 2) = False := eq_false (by omega)
  have x5 : (o + 5 = o + 2) = False := eq_false (by omega)
  have x6 : (o + 6 = o + 2) = False := eq_false (by omega)
  have x7 : (o + 7 = o + 2) = False := eq_false (by omega)
  have x8 : (o + 8 = o + 2) = False := eq_false (by omega)
  have x9 : (o + 9 = o + 2) = False := eq_false (by omega)
  have x10 : (o + 10 + 1 = o + 2) = False := eq_false (by omega)
  have x11 : (o + 10 + 2 = o + 2) = False := eq_false (by omega)
  have x12 : (o + 10 + 3 = o + 2) = False := eq_false (by omega)
  have x13 : (o + 10 + 4 = o + 2) = False := eq_false (by omega)
  have x14 : (0 = 4 + 6 * a + 1) = False := eq_false (by omega)
  have x15 : (1 = 4 + 6 * a + 1) = False := eq_false (by omega)
  have x16 : (2 = 4 + 6 * a + 1) = False := eq_false (by omega)
  have x17 : (3 = 4 + 6 * a + 1) = False := eq_false (by omega)
  have x18 : ∀ z, (4 + 6 * z = 4 + 6 * a + 1) = False := fun z => eq_false (by omega)
  have x19 : ∀ z, (4 + 6 * z + 2 = 4 + 6 * a + 1) = False := fun z => eq_false (by omega)
  have x20 : ∀ z, (4 + 6 * z + 3 = 4 + 6 * a + 1) = False := fun z => eq_false (by omega)
  have x21 : ∀ z, (4 + 6 * z + 4 = 4 + 6 * a + 1) = False := fun z => eq_false (by omega)
  have x22 : ∀ z, (4 + 6 * z + 5 = 4 + 6 * a + 1) = False := fun z => eq_false (by omega)
  have x23 : ∀ z, z < K → (40 + 4 * z = 4 + 6 * a + 1) = False := fun z hz => eq_false (by omega)
  have x24 : ∀ z, z < K → (40 + 4 * z + 1 = 4 + 6 * a + 1) = False := fun z hz => eq_false (by omega)
  have x25 : ∀ z, z < K → (40 + 4 * z + 2 = 4 + 6 * a + 1) = False := fun z hz => eq_false (by omega)
  have x26 : ∀ z, z < K → (40 + 4 * z + 3 = 4 + 6 * a + 1) = False := fun z hz => eq_false (by omega)
  have x27 : ∀ z, (72 + 4 * z = 4 + 6 * a + 1) = False := fun z => eq_false (by omega)
  have x28 : ∀ z, (72 + 4 * z + 1 = 4 + 6 * a + 1) = False := fun z => eq_false (by omega)
  have x29 : ∀ z, (72 + 4 * z + 2 = 4 + 6 * a + 1) = False := fun z => eq_false (by omega)
  have x30 : ∀ z, (72 + 4 * z + 3 = 4 + 6 * a + 1) = False := fun z => eq_false (by omega)
  refine ⟨⟨a1, a2, ?_, ?_, fun a9 h9 => ?_, fun t9 k9 => ?_, fun a9 h9 t9 k9 => ?_⟩, ?_, ?_, ?_, ?_, ⟨S, s1, ?_, fun a9 h9 => ?_⟩, fun a9 h9 => ?_, fun t9 k9 => ?_, fun a9 h9 t9 k9 => ?_⟩
  · skip
    clear a5 a6 a7 b5 b6 b7 s3 s1
    simp only [va_up, zRn, qLay, x1, x2, x3, x4, x5, x6, x7, x8, x9, x10, x11, x12, x13, x14, x15, x16, x17, x18, x19, x20, x21, x22, x23, x24, x25, x26, x27, x28, x29, x30, if_true, if_false]
    all_goals clear x1 x2 x3 x4 x5 x6 x7 x8 x9 x10 x11 x12 x13 x14 x15 x16 x17 x18 x19 x20 x21 x22 x23 x24 x25 x26 x27 x28 x29 x30
    all_goals (repeat' apply And.intro)
    all_goals (repeat' (first | assumption | rfl | split | omega))
    all_goals (repeat' apply And.intro)
    all_goals first | rfl | assumption | (simp only [va_up]; (repeat' (first | omega | split)) <;> first | rfl | assumption) | (intro hh; exact absurd hh (by decide)) | (intro hh; repeat' apply And.intro) 
    all_goals first | rfl | assumption | (simp only [va_up]; (repeat' (first | omega | split)) <;> first | rfl | assumption) | (simp_all; done)
  · skip
    clear a5 a6 a7 b5 b6 b7 s3 s1
    simp only [va_up, zRn, qLay, x1, x2, x3, x4, x5, x6, x7, x8, x9, x10, x11, x12, x13, x14, x15, x16, x17, x18, x19, x20, x21, x22, x23, x24, x25, x26, x27, x28, x29, x30, if_true, if_false]
    all_goals clear x1 x2 x3 x4 x5 x6 x7 x8 x9 x10 x11 x12 x13 x14 x15 x16 x17 x18 x19 x20 x21 x22 x23 x24 x25 x26 x27 x28 x29 x30
    all_goals (repeat' apply And.intro)
    all_goals (repeat' (first | assumption | rfl | split | omega))
    all_goals (repeat' apply And.intro)
    all_goals first | rfl | assumption | (simp only [va_up]; (repeat' (first | omega | split)) <;> first | rfl | assumption) | (intro hh; exact absurd hh (by decide)) | (intro hh; repeat' apply And.intro) 
    all_goals first | rfl | assumption | (simp only [va_up]; (repeat' (first | omega | split)) <;> first | rfl | assumption) | (simp_all; done)
  · skip
    obtain ⟨q1, q2, q3, q4⟩ := a5 a9 h9
    clear a5 a6 a7 b5 b6 b7 s3 s1
    simp only [va_up, zRn, qLay, x1, x2, x3, x4, x5, x6, x7, x8, x9, x10, x11, x12, x13, x14, x15, x16, x17, x18, x19, x20, x21, x22, x23, x24, x25, x26, x27, x28, x29, x30, h9, if_true, if_false]
    all_goals clear x1 x2 x3 x4 x5 x6 x7 x8 x9 x10 x11 x12 x13 x14 x15 x16 x17 x18 x19 x20 x21 x22 x23 x24 x25 x26 x27 x28 x29 x30
    all_goals (repeat' apply And.intro)
    all_goals (repeat' (first | assumption | rfl | split | omega))
    all_goals (repeat' apply And.intro)
    all_goals first | rfl | assumption | (simp only [va_up]; (repeat' (first | omega | split)) <;> first | rfl | assumption) | (intro hh; exact absurd hh (by decide)) | (intro hh; repeat' apply And.intro) 
    all_goals first | rfl | assumption | (simp only [va_up]; (repeat' (first | omega | split)) <;> first | rfl | assumption) | (simp_all; done)
  · skip
    obtain ⟨q1, q2⟩ := a6 t9 k9
    clear a5 a6 a7 b5 b6 b7 s3 s1
    simp only [va_up, zRn, qLay, x1, x2, x3, x4, x5, x6, x7, x8, x9, x10, x11, x12, x13, x14, x15, x16, x17, x18, x19, x20, x21, x22, x23, x24, x25, x26, x27, x28, x29, x30, k9, if_true, if_false]
    all_goals clear x1 x2 x3 x4 x5 x6 x7 x8 x9 x10 x11 x12 x13 x14 x15 x16 x17 x18 x19 x20 x21 x22 x23 x24 x25 x26 x27 x28 x29 x30
    all_goals (repeat' apply And.intro)
    all_goals (repeat' (first | assumption | rfl | split | omega))
    all_goals (repeat' apply And.intro)
    all_goals first | rfl | assumption | (simp only [va_up]; (repeat' (first | omega | split)) <;> first | rfl | assumption) | (intro hh; exact absurd hh (by decide)) | (intro hh; repeat' apply And.intro) 
    all_goals first | rfl | assumption | (simp only [va_up]; (repeat' (first | omega | split)) <;> first | rfl | assumption) | (simp_all; done)
  · skip
    obtain ⟨q1, q2⟩ := a7 a9 h9 t9 k9
    clear a5 a6 a7 b5 b6 b7 s3 s1
    simp only [va_up, zRn, qLay, x1, x2, x3, x4, x5, x6, x7, x8, x9, x10, x11, x12, x13, x14, x15, x16, x17, x18, x19, x20, x21, x22, x23, x24, x25, x26, x27, x28, x29, x30, h9, k9, if_true, if_false]
    all_goals clear x1 x2 x3 x4 x5 x6 x7 x8 x9 x10 x11 x12 x13 x14 x15 x16 x17 x18 x19 x20 x21 x22 x23 x24 x25 x26 x27 x28 x29 x30
    all_goals (repeat' apply And.intro)
    all_goals (repeat' (first | assumption | rfl | split | omega))
    all_goals (repeat' apply And.intro)
    all_goals first | rfl | assumption | (simp only [va_up]; (repeat' (first | omega | split)) <;> first | rfl | assumption) | (intro hh; exact absurd hh (by decide)) | (intro hh; repeat' apply And.intro) 
    all_goals first | rfl | assumption | (simp only [va_up]; (repeat' (first | omega | split)) <;> first | rfl | assumption) | (simp_all; done)
  · skip
    clear a5 a6 a7 b5 b6 b7 s3 s1
    simp only [va_up, zRn, qLay, x1, x2, x3, x4, x5, x6, x7, x8, x9, x10, x11, x12, x13, x14, x15, x16, x17, x18, x19, x20, x21, x22, x23, x24, x25, x26, x27, x28, x29, x30, if_true, if_false]
    all_goals clear x1 x2 x3 x4 x5 x6 x7 x8 x9 x10 x11 x12 x13 x14 x15 x16 x17 x18 x19 x20 x21 x22 x23 x24 x25 x26 x27 x28 x29 x30
    all_goals (repeat' apply And.intro)
    all_goals (repeat' (first | assumption | rfl | split | omega))
    all_goals (repeat' apply And.intro)
    all_goals first | rfl | assumption | (simp only [va_up]; (repeat' (first | omega | split)) <;> first | rfl | assumption) | (intro hh; exact absurd hh (by decide)) | (intro hh; repeat' apply And.intro) 
    all_goals first | rfl | assumption | (simp only [va_up]; (repeat' (first | omega | split)) <;> first | rfl | assumption) | (simp_all; done)
  · skip
    clear a5 a6 a7 b5 b6 b7 s3 s1
    simp only [va_up, zRn, qLay, x1, x2, x3, x4, x5, x6, x7, x8, x9, x10, x11, x12, x13, x14, x15, x16, x17, x18, x19, x20, x21, x22, x23, x24, x25, x26, x27, x28, x29, x30, if_true, if_false]
    all_goals clear x1 x2 x3 x4 x5 x6 x7 x8 x9 x10 x11 x12 x13 x14 x15 x16 x17 x18 x19 x20 x21 x22 x23 x24 x25 x26 x27 x28 x29 x30
    all_goals (repeat' apply And.intro)
    all_goals (repeat' (first | assumption | rfl | split | omega))
    all_goals (repeat' apply And.intro)
    all_goals first | rfl | assumption | (simp only [va_up]; (repeat' (first | omega | split)) <;> first | rfl | assumption) | (intro hh; exact absurd hh (by decide)) | (intro hh; repeat' apply And.intro) 
    all_goals first | rfl | assumption | (simp only [va_up]; (repeat' (first | omega | split)) <;> first | rfl | assumption) | (simp_all; done)
  · skip
    clear a5 a6 a7 b5 b6 b7 s3 s1
    simp only [va_up, zRn, qLay, x1, x2, x3, x4, x5, x6, x7, x8, x9, x10, x11, x12, x13, x14, x15, x16, x17, x18, x19, x20, x21, x22, x23, x24, x25, x26, x27, x28, x29, x30, if_true, if_false]
    all_goals clear x1 x2 x3 x4 x5 x6 x7 x8 x9 x10 x11 x12 x13 x14 x15 x16 x17 x18 x19 x20 x21 x22 x23 x24 x25 x26 x27 x28 x29 x30
    all_goals (repeat' apply And.intro)
    all_goals (repeat' (first | assumption | rfl | split | omega))
    all_goals (repeat' apply And.intro)
    all_goals first | rfl | assumption | (simp only [va_up]; (repeat' (first | omega | split)) <;> first | rfl | assumption) | (intro hh; exact absurd hh (by decide)) | (intro hh; repeat' apply And.intro) 
    all_goals first | rfl | assumption | (simp only [va_up]; (repeat' (first | omega | split)) <;> first | rfl | assumption) | (simp_all; done)
  · skip
    clear a5 a6 a7 b5 b6 b7 s3 s1
    simp only [va_up, zRn, qLay, x1, x2, x3, x4, x5, x6, x7, x8, x9, x10, x11, x12, x13, x14, x15, x16, x17, x18, x19, x20, x21, x22, x23, x24, x25, x26, x27, x28, x29, x30, if_true, if_false]
    all_goals clear x1 x2 x3 x4 x5 x6 x7 x8 x9 x10 x11 x12 x13 x14 x15 x16 x17 x18 x19 x20 x21 x22 x23 x24 x25 x26 x27 x28 x29 x30
    all_goals (repeat' apply And.intro)
    all_goals (repeat' (first | assumption | rfl | split | omega))
    all_goals (repeat' apply And.intro)
    all_goals first | rfl | assumption | (simp only [va_up]; (repeat' (first | omega | split)) <;> first | rfl | assumption) | (intro hh; exact absurd hh (by decide)) | (intro hh; repeat' apply And.intro) 
    all_goals first | rfl | assumption | (simp only [va_up]; (repeat' (first | omega | split)) <;> first | rfl | assumption) | (simp_all; done)
  · skip
    clear a5 a6 a7 b5 b6 b7 s3 s1
    simp only [va_up, zRn, qLay, x1, x2, x3, x4, x5, x6, x7, x8, x9, x10, x11, x12, x13, x14, x15, x16, x17, x18, x19, x20, x21, x22, x23, x24, x25, x26, x27, x28, x29, x30, if_true, if_false]
    all_goals clear x1 x2 x3 x4 x5 x6 x7 x8 x9 x10 x11 x12 x13 x14 x15 x16 x17 x18 x19 x20 x21 x22 x23 x24 x25 x26 x27 x28 x29 x30
    all_goals (repeat' apply And.intro)
    all_goals (repeat' (first | assumption | rfl | split | omega))
    all_goals (repeat' apply And.intro)
    all_goals first | rfl | assumption | (simp only [va_up]; (repeat' (first | omega | split)) <;> first | rfl | assumption) | (intro hh; exact absurd hh (by decide)) | (intro hh; repeat' apply And.intro) 
    all_goals first | rfl | assumption | (simp only [va_up]; (repeat' (first | omega | split)) <;> first | rfl | assumption) | (simp_all; done)
  · rw [s3 a9 h9, qOn, qOn]
    clear a5 a6 a7 b5 b6 b7 s3 s1
    simp only [va_up, zRn, qLay, x1, x2, x3, x4, x5, x6, x7, x8, x9, x10, x11, x12, x13, x14, x15, x16, x17, x18, x19, x20, x21, x22, x23, x24, x25, x26, x27, x28, x29, x30, h9, if_true, if_false]
    all_goals clear x1 x2 x3 x4 x5 x6 x7 x8 x9 x10 x11 x12 x13 x14 x15 x16 x17 x18 x19 x20 x21 x22 x23 x24 x25 x26 x27 x28 x29 x30
    all_goals (repeat' apply And.intro)
    all_goals (repeat' (first | assumption | rfl | split | omega))
    all_goals (repeat' apply And.intro)
    all_goals first | rfl | assumption | (simp only [va_up]; (repeat' (first | omega | split)) <;> first | rfl | assumption) | (intro hh; exact absurd hh (by decide)) | (intro hh; repeat' apply And.intro) 
    all_goals first | rfl | assumption | (simp only [va_up]; (repeat' (first | omega | split)) <;> first | rfl | assumption) | (simp_all; done)
  · skip
    obtain ⟨q1, q2, q3, q4, q5⟩ := b5 a9 h9
    clear a5 a6 a7 b5 b6 b7 s3 s1
    simp only [va_up, zRn, qLay, x1, x2, x3, x4, x5, x6, x7, x8, x9, x10, x11, x12, x13, x14, x15, x16, x17, x18, x19, x20, x21, x22, x23, x24, x25, x26, x27, x28, x29, x30, h9, if_true, if_false]
    all_goals clear x1 x2 x3 x4 x5 x6 x7 x8 x9 x10 x11 x12 x13 x14 x15 x16 x17 x18 x19 x20 x21 x22 x23 x24 x25 x26 x27 x28 x29 x30
    all_goals (repeat' apply And.intro)
    all_goals (repeat' (first | assumption | rfl | split | omega))
    all_goals (repeat' apply And.intro)
    all_goals first | rfl | assumption | (simp only [va_up]; (repeat' (first | omega | split)) <;> first | rfl | assumption) | (intro hh; exact absurd hh (by decide)) | (intro hh; repeat' apply And.intro) 
    all_goals first | rfl | assumption | (simp only [va_up]; (repeat' (first | omega | split)) <;> first | rfl | assumption) | (simp_all; done)
  · skip
    obtain ⟨q1, q2, q3, q4⟩ := b6 t9 k9
    clear a5 a6 a7 b5 b6 b7 s3 s1
    simp only [va_up, zRn, qLay, x1, x2, x3, x4, x5, x6, x7, x8, x9, x10, x11, x12, x13, x14, x15, x16, x17, x18, x19, x20, x21, x22, x23, x24, x25, x26, x27, x28, x29, x30, k9, if_true, if_false]
    all_goals clear x1 x2 x3 x4 x5 x6 x7 x8 x9 x10 x11 x12 x13 x14 x15 x16 x17 x18 x19 x20 x21 x22 x23 x24 x25 x26 x27 x28 x29 x30
    all_goals (repeat' apply And.intro)
    all_goals (repeat' (first | assumption | rfl | split | omega))
    all_goals (repeat' apply And.intro)
    all_goals first | rfl | assumption | (simp only [va_up]; (repeat' (first | omega | split)) <;> first | rfl | assumption) | (intro hh; exact absurd hh (by decide)) | (intro hh; repeat' apply And.intro) 
    all_goals first | rfl | assumption | (simp only [va_up]; (repeat' (first | omega | split)) <;> first | rfl | assumption) | (simp_all; done)
  · skip
    obtain ⟨q1, q2⟩ := b7 a9 h9 t9 k9
    clear a5 a6 a7 b5 b6 b7 s3 s1
    simp only [va_up, zRn, qLay, x1, x2, x3, x4, x5, x6, x7, x8, x9, x10, x11, x12, x13, x14, x15, x16, x17, x18, x19, x20, x21, x22, x23, x24, x25, x26, x27, x28, x29, x30, h9, k9, if_true, if_false]
    all_goals clear x1 x2 x3 x4 x5 x6 x7 x8 x9 x10 x11 x12 x13 x14 x15 x16 x17 x18 x19 x20 x21 x22 x23 x24 x25 x26 x27 x28 x29 x30
    all_goals (repeat' apply And.intro)
    all_goals (repeat' (first | assumption | rfl | split | omega))
    all_goals (repeat' apply And.intro)
    all_goals first | rfl | assumption | (simp only [va_up]; (repeat' (first | omega | split)) <;> first | rfl | assumption) | (intro hh; exact absurd hh (by decide)) | (intro hh; repeat' apply And.intro) 
    all_goals first | rfl | assumption | (simp only [va_up]; (repeat' (first | omega | split)) <;> first | rfl | assumption) | (simp_all; done)
set_option maxRecDepth 100000 in
set_option maxHeartbeats 4000000 in
theorem zR_r {d : Nat → Nat → Int32} {o n K : Nat} {f : Nat → Int32} {a : Nat} {v : Int32} (hv : zPl v 23) (ha : a < n) (h : zR d o f n K) : zR (va_up d (o + 3) (va_up (d (o + 3)) a v)) o (va_up f (4 + 6 * a + 2) v) n K := by
  obtain ⟨⟨a1, a2, a3, a4, a5, a6, a7⟩, b0, b1, b2, b3, ⟨S, s1, s2, s3⟩, b5, b6, b7⟩ := h
  have x1 : (o = o + 3) = False := eq_false (by omega)
  have x2 : (o + 1 = o + 3) = False := eq_false (by omega)
  have x3 : (o + 2 = o + 3) = False := eq_false (by omega)
  have x4 : (o + 4 = o + 3) = False := eq_false (by omega)
  have x5 : (o + 5 = o + 3) = False := eq_false (by omega)
  have x6 : (o + 6 = o + 3) = False := eq_false (by omega)
  have x7 : (o + 7 = o + 3) = False := eq_false (by omega)
  have x8 : (o + 8 = o + 3) = False := eq_false (by omega)
  have x9 : (o + 9 = o + 3) = False := eq_false (by omega)
  have x10 : (o + 10 + 1 = o + 3) = False := eq_false (by omega)
  have x11 : (o + 10 + 2 = o + 3) = False := eq_false (by omega)
  have x12 : (o + 10 + 3 = o + 3) = False := eq_false (by omega)
  have x13 : (o + 10 + 4 = o + 3) = False := eq_false (by omega)
  have x14 : (0 = 4 + 6 * a + 2) = False := eq_false (by omega)
  have x15 : (1 = 4 + 6 * a + 2) = False := eq_false (by omega)
  have x16 : (2 = 4 + 6 * a + 2) = False := eq_false (by omega)
  have x17 : (3 = 4 + 6 * a + 2) = False := eq_false (by omega)
  have x18 : ∀ z, (4 + 6 * z = 4 + 6 * a + 2) = False := fun z => eq_false (by omega)
  have x19 : ∀ z, (4 + 6 * z + 1 = 4 + 6 * a + 2) = False := fun z => eq_false (by omega)
  have x20 : ∀ z, (4 + 6 * z + 3 = 4 + 6 * a + 2) = False := fun z => eq_false (by omega)
  have x21 : ∀ z, (4 + 6 * z + 4 = 4 + 6 * a + 2) = False := fun z => eq_false (by omega)
  have x22 : ∀ z, (4 + 6 * z + 5 = 4 + 6 * a + 2) = False := fun z => eq_false (by omega)
  have x23 : ∀ z, z < K → (40 + 4 * z = 4 + 6 * a + 2) = False := fun z hz => eq_false (by omega)
  have x24 : ∀ z, z < K → (40 + 4 * z + 1 = 4 + 6 * a + 2) = False := fun z hz => eq_false (by omega)
  have x25 : ∀ z, z < K → (40 + 4 * z + 2 = 4 + 6 * a + 2) = False := fun z hz => eq_false (by omega)
  have x26 : ∀ z, z < K → (40 + 4 * z + 3 = 4 + 6 * a + 2) = False := fun z hz => eq_false (by omega)
  have x27 : ∀ z, (72 + 4 * z = 4 + 6 * a + 2) = False := fun z => eq_false (by omega)
  have x28 : ∀ z, (72 + 4 * z + 1 = 4 + 6 * a + 2) = False := fun z => eq_false (by omega)
  have x29 : ∀ z, (72 + 4 * z + 2 = 4 + 6 * a + 2) = False := fun z => eq_false (by omega)
  have x30 : ∀ z, (72 + 4 * z + 3 = 4 + 6 * a + 2) = False := fun z => eq_false (by omega)
  refine ⟨⟨a1, a2, ?_, ?_, fun a9 h9 => ?_, fun t9 k9 => ?_, fun a9 h9 t9 k9 => ?_⟩, ?_, ?_, ?_, ?_, ⟨S, s1, ?_, fun a9 h9 => ?_⟩, fun a9 h9 => ?_, fun t9 k9 => ?_, fun a9 h9 t9 k9 => ?_⟩
  · skip
    clear a5 a6 a7 b5 b6 b7 s3 s1
    simp only [va_up, zRn, qLay, x1, x2, x3, x4, x5, x6, x7, x8, x9, x10, x11, x12, x13, x14, x15, x16, x17, x18, x19, x20, x21, x22, x23, x24, x25, x26, x27, x28, x29, x30, if_true, if_false]
    all_goals clear x1 x2 x3 x4 x5 x6 x7 x8 x9 x10 x11 x12 x13 x14 x15 x16 x17 x18 x19 x20 x21 x22 x23 x24 x25 x26 x27 x28 x29 x30
    all_goals (repeat' apply And.intro)
    all_goals (repeat' (first | assumption | rfl | split | omega))
    all_goals (repeat' apply And.intro)
    all_goals first | rfl | assumption | (simp only [va_up]; (repeat' (first | omega | split)) <;> first | rfl | assumption) | (intro hh; exact absurd hh (by decide)) | (intro hh; repeat' apply And.intro) 
    all_goals first | rfl | assumption | (simp only [va_up]; (repeat' (first | omega | split)) <;> first | rfl | assumption) | (simp_all; done)
  · skip
    clear a5 a6 a7 b5 b6 b7 s3 s1
    simp only [va_up, zRn, qLay, x1, x2, x3, x4, x5, x6, x7, x8, x9, x10, x11, x12, x13, x14, x15, x16, x17, x18, x19, x20, x21, x22, x23, x24, x25, x26, x27, x28, x29, x30, if_true, if_false]
    all_goals clear x1 x2 x3 x4 x5 x6 x7 x8 x9 x10 x11 x12 x13 x14 x15 x16 x17 x18 x19 x20 x21 x22 x23 x24 x25 x26 x27 x28 x29 x30
    all_goals (repeat' apply And.intro)
    all_goals (repeat' (first | assumption | rfl | split | omega))
    all_goals (repeat' apply And.intro)
    all_goals first | rfl | assumption | (simp only [va_up]; (repeat' (first | omega | split)) <;> first | rfl | assumption) | (intro hh; exact absurd hh (by decide)) | (intro hh; repeat' apply And.intro) 
    all_goals first | rfl | assumption | (simp only [va_up]; (repeat' (first | omega | split)) <;> first | rfl | assumption) | (simp_all; done)
  · skip
    obtain ⟨q1, q2, q3, q4⟩ := a5 a9 h9
    clear a5 a6 a7 b5 b6 b7 s3 s1
    simp only [va_up, zRn, qLay, x1, x2, x3, x4, x5, x6, x7, x8, x9, x10, x11, x12, x13, x14, x15, x16, x17, x18, x19, x20, x21, x22, x23, x24, x25, x26, x27, x28, x29, x30, h9, if_true, if_false]
    all_goals clear x1 x2 x3 x4 x5 x6 x7 x8 x9 x10 x11 x12 x13 x14 x15 x16 x17 x18 x19 x20 x21 x22 x23 x24 x25 x26 x27 x28 x29 x30
    all_goals (repeat' apply And.intro)
    all_goals (repeat' (first | assumption | rfl | split | omega))
    all_goals (repeat' apply And.intro)
    all_goals first | rfl | assumption | (simp only [va_up]; (repeat' (first | omega | split)) <;> first | rfl | assumption) | (intro hh; exact absurd hh (by decide)) | (intro hh; repeat' apply And.intro) 
    all_goals first | rfl | assumption | (simp only [va_up]; (repeat' (first | omega | split)) <;> first | rfl | assumption) | (simp_all; done)
  · skip
    obtain ⟨q1, q2⟩ := a6 t9 k9
    clear a5 a6 a7 b5 b6 b7 s3 s1
    simp only [va_up, zRn, qLay, x1, x2, x3, x4, x5, x6, x7, x8, x9, x10, x11, x12, x13, x14, x15, x16, x17, x18, x19, x20, x21, x22, x23, x24, x25, x26, x27, x28, x29, x30, k9, if_true, if_false]
    all_goals clear x1 x2 x3 x4 x5 x6 x7 x8 x9 x10 x11 x12 x13 x14 x15 x16 x17 x18 x19 x20 x21 x22 x23 x24 x25 x26 x27 x28 x29 x30
    all_goals (repeat' apply And.intro)
    all_goals (repeat' (first | assumption | rfl | split | omega))
    all_goals (repeat' apply And.intro)
    all_goals first | rfl | assumption | (simp only [va_up]; (repeat' (first | omega | split)) <;> first | rfl | assumption) | (intro hh; exact absurd hh (by decide)) | (intro hh; repeat' apply And.intro) 
    all_goals first | rfl | assumption | (simp only [va_up]; (repeat' (first | omega | split)) <;> first | rfl | assumption) | (simp_all; done)
  · skip
    obtain ⟨q1, q2⟩ := a7 a9 h9 t9 k9
    clear a5 a6 a7 b5 b6 b7 s3 s1
    simp only [va_up, zRn, qLay, x1, x2, x3, x4, x5, x6, x7, x8, x9, x10, x11, x12, x13, x14, x15, x16, x17, x18, x19, x20, x21, x22, x23, x24, x25, x26, x27, x28, x29, x30, h9, k9, if_true, if_false]
    all_goals clear x1 x2 x3 x4 x5 x6 x7 x8 x9 x10 x11 x12 x13 x14 x15 x16 x17 x18 x19 x20 x21 x22 x23 x24 x25 x26 x27 x28 x29 x30
    all_goals (repeat' apply And.intro)
    all_goals (repeat' (first | assumption | rfl | split | omega))
    all_goals (repeat' apply And.intro)
    all_goals first | rfl | assumption | (simp only [va_up]; (repeat' (first | omega | split)) <;> first | rfl | assumption) | (intro hh; exact absurd hh (by decide)) | (intro hh; repeat' apply And.intro) 
    all_goals first | rfl | assumption | (simp only [va_up]; (repeat' (first | omega | split)) <;> first | rfl | assumption) | (simp_all; done)
  · skip
    clear a5 a6 a7 b5 b6 b7 s3 s1
    simp only [va_up, zRn, qLay, x1, x2, x3, x4, x5, x6, x7, x8, x9, x10, x11, x12, x13, x14, x15, x16, x17, x18, x19, x20, x21, x22, x23, x24, x25, x26, x27, x28, x29, x30, if_true, if_false]
    all_goals clear x1 x2 x3 x4 x5 x6 x7 x8 x9 x10 x11 x12 x13 x14 x15 x16 x17 x18 x19 x20 x21 x22 x23 x24 x25 x26 x27 x28 x29 x30
    all_goals (repeat' apply And.intro)
    all_goals (repeat' (first | assumption | rfl | split | omega))
    all_goals (repeat' apply And.intro)
    all_goals first | rfl | assumption | (simp only [va_up]; (repeat' (first | omega | split)) <;> first | rfl | assumption) | (intro hh; exact absurd hh (by decide)) | (intro hh; repeat' apply And.intro) 
    all_goals first | rfl | assumption | (simp only [va_up]; (repeat' (first | omega | split)) <;> first | rfl | assumption) | (simp_all; done)
  · skip
    clear a5 a6 a7 b5 b6 b7 s3 s1
    simp only [va_up, zRn, qLay, x1, x2, x3, x4, x5, x6, x7, x8, x9, x10, x11, x12, x13, x14, x15, x16, x17, x18, x19, x20, x21, x22, x23, x24, x25, x26, x27, x28, x29, x30, if_true, if_false]
    all_goals clear x1 x2 x3 x4 x5 x6 x7 x8 x9 x10 x11 x12 x13 x14 x15 x16 x17 x18 x19 x20 x21 x22 x23 x24 x25 x26 x27 x28 x29 x30
    all_goals (repeat' apply And.intro)
    all_goals (repeat' (first | assumption | rfl | split | omega))
    all_goals (repeat' apply And.intro)
    all_goals first | rfl | assumption | (simp only [va_up]; (repeat' (first | omega | split)) <;> first | rfl | assumption) | (intro hh; exact absurd hh (by decide)) | (intro hh; repeat' apply And.intro) 
    all_goals first | rfl | assumption | (simp only [va_up]; (repeat' (first | omega | split)) <;> first | rfl | assumption) | (simp_all; done)
  · skip
    clear a5 a6 a7 b5 b6 b7 s3 s1
    simp only [va_up, zRn, qLay, x1, x2, x3, x4, x5, x6, x7, x8, x9, x10, x11, x12, x13, x14, x15, x16, x17, x18, x19, x20, x21, x22, x23, x24, x25, x26, x27, x28, x29, x30, if_true, if_false]
    all_goals clear x1 x2 x3 x4 x5 x6 x7 x8 x9 x10 x11 x12 x13 x14 x15 x16 x17 x18 x19 x20 x21 x22 x23 x24 x25 x26 x27 x28 x29 x30
    all_goals (repeat' apply And.intro)
    all_goals (repeat' (first | assumption | rfl | split | omega))
    all_goals (repeat' apply And.intro)
    all_goals first | rfl | assumption | (simp only [va_up]; (repeat' (first | omega | split)) <;> first | rfl | assumption) | (intro hh; exact absurd hh (by decide)) | (intro hh; repeat' apply And.intro) 
    all_goals first | rfl | assumption | (simp only [va_up]; (repeat' (first | omega | split)) <;> first | rfl | assumption) | (simp_all; done)
  · skip
    clear a5 a6 a7 b5 b6 b7 s3 s1
    simp only [va_up, zRn, qLay, x1, x2, x3, x4, x5, x6, x7, x8, x9, x10, x11, x12, x13, x14, x15, x16, x17, x18, x19, x20, x21, x22, x23, x24, x25, x26, x27, x28, x29, x30, if_true, if_false]
    all_goals clear x1 x2 x3 x4 x5 x6 x7 x8 x9 x10 x11 x12 x13 x14 x15 x16 x17 x18 x19 x20 x21 x22 x23 x24 x25 x26 x27 x28 x29 x30
    all_goals (repeat' apply And.intro)
    all_goals (repeat' (first | assumption | rfl | split | omega))
    all_goals (repeat' apply And.intro)
    all_goals first | rfl | assumption | (simp only [va_up]; (repeat' (first | omega | split)) <;> first | rfl | assumption) | (intro hh; exact absurd hh (by decide)) | (intro hh; repeat' apply And.intro) 
    all_goals first | rfl | assumption | (simp only [va_up]; (repeat' (first | omega | split)) <;> first | rfl | assumption) | (simp_all; done)
  · skip
    clear a5 a6 a7 b5 b6 b7 s3 s1
    simp only [va_up, zRn, qLay, x1, x2, x3, x4, x5, x6, x7, x8, x9, x10, x11, x12, x13, x14, x15, x16, x17, x18, x19, x20, x21, x22, x23, x24, x25, x26, x27, x28, x29, x30, if_true, if_false]
    all_goals clear x1 x2 x3 x4 x5 x6 x7 x8 x9 x10 x11 x12 x13 x14 x15 x16 x17 x18 x19 x20 x21 x22 x23 x24 x25 x26 x27 x28 x29 x30
    all_goals (repeat' apply And.intro)
    all_goals (repeat' (first | assumption | rfl | split | omega))
    all_goals (repeat' apply And.intro)
    all_goals first | rfl | assumption | (simp only [va_up]; (repeat' (first | omega | split)) <;> first | rfl | assumption) | (intro hh; exact absurd hh (by decide)) | (intro hh; repeat' apply And.intro) 
    all_goals first | rfl | assumption | (simp only [va_up]; (repeat' (first | omega | split)) <;> first | rfl | assumption) | (simp_all; done)
  · rw [s3 a9 h9, qOn, qOn]
    clear a5 a6 a7 b5 b6 b7 s3 s1
    simp only [va_up, zRn, qLay, x1, x2, x3, x4, x5, x6, x7, x8, x9, x10, x11, x12, x13, x14, x15, x16, x17, x18, x19, x20, x21, x22, x23, x24, x25, x26, x27, x28, x29, x30, h9, if_true, if_false]
    all_goals clear x1 x2 x3 x4 x5 x6 x7 x8 x9 x10 x11 x12 x13 x14 x15 x16 x17 x18 x19 x20 x21 x22 x23 x24 x25 x26 x27 x28 x29 x30
    all_goals (repeat' apply And.intro)
    all_goals (repeat' (first | assumption | rfl | split | omega))
    all_goals (repeat' apply And.intro)
    all_goals first | rfl | assumption | (simp only [va_up]; (repeat' (first | omega | split)) <;> first | rfl | assumption) | (intro hh; exact absurd hh (by decide)) | (intro hh; repeat' apply And.intro) 
    all_goals first | rfl | assumption | (simp only [va_up]; (repeat' (first | omega | split)) <;> first | rfl | assumption) | (simp_all; done)
  · skip
    obtain ⟨q1, q2, q3, q4, q5⟩ := b5 a9 h9
    clear a5 a6 a7 b5 b6 b7 s3 s1
    simp only [va_up, zRn, qLay, x1, x2, x3, x4, x5, x6, x7, x8, x9, x10, x11, x12, x13, x14, x15, x16, x17, x18, x19, x20, x21, x22, x23, x24, x25, x26, x27, x28, x29, x30, h9, if_true, if_false]
    all_goals clear x1 x2 x3 x4 x5 x6 x7 x8 x9 x10 x11 x12 x13 x14 x15 x16 x17 x18 x19 x20 x21 x22 x23 x24 x25 x26 x27 x28 x29 x30
    all_goals (repeat' apply And.intro)
    all_goals (repeat' (first | assumption | rfl | split | omega))
    all_goals (repeat' apply And.intro)
    all_goals first | rfl | assumption | (simp only [va_up]; (repeat' (first | omega | split)) <;> first | rfl | assumption) | (intro hh; exact absurd hh (by decide)) | (intro hh; repeat' apply And.intro) 
    all_goals first | rfl | assumption | (simp only [va_up]; (repeat' (first | omega | split)) <;> first | rfl | assumption) | (simp_all; done)
  · skip
    obtain ⟨q1, q2, q3, q4⟩ := b6 t9 k9
    clear a5 a6 a7 b5 b6 b7 s3 s1
    simp only [va_up, zRn, qLay, x1, x2, x3, x4, x5, x6, x7, x8, x9, x10, x11, x12, x13, x14, x15, x16, x17, x18, x19, x20, x21, x22, x23, x24, x25, x26, x27, x28, x29, x30, k9, if_true, if_false]
    all_goals clear x1 x2 x3 x4 x5 x6 x7 x8 x9 x10 x11 x12 x13 x14 x15 x16 x17 x18 x19 x20 x21 x22 x23 x24 x25 x26 x27 x28 x29 x30
    all_goals (repeat' apply And.intro)
    all_goals (repeat' (first | assumption | rfl | split | omega))
    all_goals (repeat' apply And.intro)
    all_goals first | rfl | assumption | (simp only [va_up]; (repeat' (first | omega | split)) <;> first | rfl | assumption) | (intro hh; exact absurd hh (by decide)) | (intro hh; repeat' apply And.intro) 
    all_goals first | rfl | assumption | (simp only [va_up]; (repeat' (first | omega | split)) <;> first | rfl | assumption) | (simp_all; done)
  · skip
    obtain ⟨q1, q2⟩ := b7 a9 h9 t9 k9
    clear a5 a6 a7 b5 b6 b7 s3 s1
    simp only [va_up, zRn, qLay, x1, x2, x3, x4, x5, x6, x7, x8, x9, x10, x11, x12, x13, x14, x15, x16, x17, x18, x19, x20, x21, x22, x23, x24, x25, x26, x27, x28, x29, x30, h9, k9, if_true, if_false]
    all_goals clear x1 x2 x3 x4 x5 x6 x7 x8 x9 x10 x11 x12 x13 x14 x15 x16 x17 x18 x19 x20 x21 x22 x23 x24 x25 x26 x27 x28 x29 x30
    all_goals (repeat' apply And.intro)
    all_goals (repeat' (first | assumption | rfl | split | omega))
    all_goals (repeat' apply And.intro)
    all_goals first | rfl | assumption | (simp only [va_up]; (repeat' (first | omega | split)) <;> first | rfl | assumption) | (intro hh; exact absurd hh (by decide)) | (intro hh; repeat' apply And.intro) 
    all_goals first | rfl | assumption | (simp only [va_up]; (repeat' (first | omega | split)) <;> first | rfl | assumption) | (simp_all; done)
set_option maxRecDepth 100000 in
set_option maxHeartbeats 4000000 in
theorem zR_m {d : Nat → Nat → Int32} {o n K : Nat} {f : Nat → Int32} {a : Nat} {v : Int32} (ha : a < n) (h : zR d o f n K) : zR (va_up d (o + 4) (va_up (d (o + 4)) a v)) o (va_up f (4 + 6 * a + 4) v) n K := by
  obtain ⟨⟨a1, a2, a3, a4, a5, a6, a7⟩, b0, b1, b2, b3, ⟨S, s1, s2, s3⟩, b5, b6, b7⟩ := h
  have x1 : (o = o + 4) = False := eq_false (by omega)
  have x2 : (o + 1 = o + 4) = False := eq_false (by omega)
  have x3 : (o + 2 = o + 4) = False := eq_false (by omega)
  have x4 : (o + 3 = o + 4) = False := eq_false (by omega)
  have x5 : (o + 5 = o + 4) = False := eq_false (by omega)
  have x6 : (o + 6 = o + 4) = False := eq_false (by omega)
  have x7 : (o + 7 = o + 4) = False := eq_false (by omega)
  have x8 : (o + 8 = o + 4) = False := eq_false (by omega)
  have x9 : (o + 9 = o + 4) = False := eq_false (by omega)
  have x10 : (o + 10 + 1 = o + 4) = False := eq_false (by omega)
  have x11 : (o + 10 + 2 = o + 4) = False := eq_false (by omega)
  have x12 : (o + 10 + 3 = o + 4) = False := eq_false (by omega)
  have x13 : (o + 10 + 4 = o + 4) = False := eq_false (by omega)
  have x14 : (0 = 4 + 6 * a + 4) = False := eq_false (by omega)
  have x15 : (1 = 4 + 6 * a + 4) = False := eq_false (by omega)
  have x16 : (2 = 4 + 6 * a + 4) = False := eq_false (by omega)
  have x17 : (3 = 4 + 6 * a + 4) = False := eq_false (by omega)
  have x18 : ∀ z, (4 + 6 * z = 4 + 6 * a + 4) = False := fun z => eq_false (by omega)
  have x19 : ∀ z, (4 + 6 * z + 1 = 4 + 6 * a + 4) = False := fun z => eq_false (by omega)
  have x20 : ∀ z, (4 + 6 * z + 2 = 4 + 6 * a + 4) = False := fun z => eq_false (by omega)
  have x21 : ∀ z, (4 + 6 * z + 3 = 4 + 6 * a + 4) = False := fun z => eq_false (by omega)
  have x22 : ∀ z, (4 + 6 * z + 5 = 4 + 6 * a + 4) = False := fun z => eq_false (by omega)
  have x23 : ∀ z, z < K → (40 + 4 * z = 4 + 6 * a + 4) = False := fun z hz => eq_false (by omega)
  have x24 : ∀ z, z < K → (40 + 4 * z + 1 = 4 + 6 * a + 4) = False := fun z hz => eq_false (by omega)
  have x25 : ∀ z, z < K → (40 + 4 * z + 2 = 4 + 6 * a + 4) = False := fun z hz => eq_false (by omega)
  have x26 : ∀ z, z < K → (40 + 4 * z + 3 = 4 + 6 * a + 4) = False := fun z hz => eq_false (by omega)
  have x27 : ∀ z, (72 + 4 * z = 4 + 6 * a + 4) = False := fun z => eq_false (by omega)
  have x28 : ∀ z, (72 + 4 * z + 1 = 4 + 6 * a + 4) = False := fun z => eq_false (by omega)
  have x29 : ∀ z, (72 + 4 * z + 2 = 4 + 6 * a + 4) = False := fun z => eq_false (by omega)
  have x30 : ∀ z, (72 + 4 * z + 3 = 4 + 6 * a + 4) = False := fun z => eq_false (by omega)
  refine ⟨⟨a1, a2, ?_, ?_, fun a9 h9 => ?_, fun t9 k9 => ?_, fun a9 h9 t9 k9 => ?_⟩, ?_, ?_, ?_, ?_, ⟨S, s1, ?_, fun a9 h9 => ?_⟩, fun a9 h9 => ?_, fun t9 k9 => ?_, fun a9 h9 t9 k9 => ?_⟩
  · skip
    clear a5 a6 a7 b5 b6 b7 s3 s1
    simp only [va_up, zRn, qLay, x1, x2, x3, x4, x5, x6, x7, x8, x9, x10, x11, x12, x13, x14, x15, x16, x17, x18, x19, x20, x21, x22, x23, x24, x25, x26, x27, x28, x29, x30, if_true, if_false]
    all_goals clear x1 x2 x3 x4 x5 x6 x7 x8 x9 x10 x11 x12 x13 x14 x15 x16 x17 x18 x19 x20 x21 x22 x23 x24 x25 x26 x27 x28 x29 x30
    all_goals (repeat' apply And.intro)
    all_goals (repeat' (first | assumption | rfl | split | omega))
    all_goals (repeat' apply And.intro)
    all_goals first | rfl | assumption | (simp only [va_up]; (repeat' (first | omega | split)) <;> first | rfl | assumption) | (intro hh; exact absurd hh (by decide)) | (intro hh; repeat' apply And.intro) 
    all_goals first | rfl | assumption | (simp only [va_up]; (repeat' (first | omega | split)) <;> first | rfl | assumption) | (simp_all; done)
  · skip
    clear a5 a6 a7 b5 b6 b7 s3 s1
    simp only [va_up, zRn, qLay, x1, x2, x3, x4, x5, x6, x7, x8, x9, x10, x11, x12, x13, x14, x15, x16, x17, x18, x19, x20, x21, x22, x23, x24, x25, x26, x27, x28, x29, x30, if_true, if_false]
    all_goals clear x1 x2 x3 x4 x5 x6 x7 x8 x9 x10 x11 x12 x13 x14 x15 x16 x17 x18 x19 x20 x21 x22 x23 x24 x25 x26 x27 x28 x29 x30
    all_goals (repeat' apply And.intro)
    all_goals (repeat' (first | assumption | rfl | split | omega))
    all_goals (repeat' apply And.intro)
    all_goals first | rfl | assumption | (simp only [va_up]; (repeat' (first | omega | split)) <;> first | rfl | assumption) | (intro hh; exact absurd hh (by decide)) | (intro hh; repeat' apply And.intro) 
    all_goals first | rfl | assumption | (simp only [va_up]; (repeat' (first | omega | split)) <;> first | rfl | assumption) | (simp_all; done)
  · skip
    obtain ⟨q1, q2, q3, q4⟩ := a5 a9 h9
    clear a5 a6 a7 b5 b6 b7 s3 s1
    simp only [va_up, zRn, qLay, x1, x2, x3, x4, x5, x6, x7, x8, x9, x10, x11, x12, x13, x14, x15, x16, x17, x18, x19, x20, x21, x22, x23, x24, x25, x26, x27, x28, x29, x30, h9, if_true, if_false]
    all_goals clear x1 x2 x3 x4 x5 x6 x7 x8 x9 x10 x11 x12 x13 x14 x15 x16 x17 x18 x19 x20 x21 x22 x23 x24 x25 x26 x27 x28 x29 x30
    all_goals (repeat' apply And.intro)
    all_goals (repeat' (first | assumption | rfl | split | omega))
    all_goals (repeat' apply And.intro)
    all_goals first | rfl | assumption | (simp only [va_up]; (repeat' (first | omega | split)) <;> first | rfl | assumption) | (intro hh; exact absurd hh (by decide)) | (intro hh; repeat' apply And.intro) 
    all_goals first | rfl | assumption | (simp only [va_up]; (repeat' (first | omega | split)) <;> first | rfl | assumption) | (simp_all; done)
  · skip
    obtain ⟨q1, q2⟩ := a6 t9 k9
    clear a5 a6 a7 b5 b6 b7 s3 s1
    simp only [va_up, zRn, qLay, x1, x2, x3, x4, x5, x6, x7, x8, x9, x10, x11, x12, x13, x14, x15, x16, x17, x18, x19, x20, x21, x22, x23, x24, x25, x26, x27, x28, x29, x30, k9, if_true, if_false]
    all_goals clear x1 x2 x3 x4 x5 x6 x7 x8 x9 x10 x11 x12 x13 x14 x15 x16 x17 x18 x19 x20 x21 x22 x23 x24 x25 x26 x27 x28 x29 x30
    all_goals (repeat' apply And.intro)
    all_goals (repeat' (first | assumption | rfl | split | omega))
    all_goals (repeat' apply And.intro)
    all_goals first | rfl | assumption | (simp only [va_up]; (repeat' (first | omega | split)) <;> first | rfl | assumption) | (intro hh; exact absurd hh (by decide)) | (intro hh; repeat' apply And.intro) 
    all_goals first | rfl | assumption | (simp only [va_up]; (repeat' (first | omega | split)) <;> first | rfl | assumption) | (simp_all; done)
  · skip
    obtain ⟨q1, q2⟩ := a7 a9 h9 t9 k9
    clear a5 a6 a7 b5 b6 b7 s3 s1
    simp only [va_up, zRn, qLay, x1, x2, x3, x4, x5, x6, x7, x8, x9, x10, x11, x12, x13, x14, x15, x16, x17, x18, x19, x20, x21, x22, x23, x24, x25, x26, x27, x28, x29, x30, h9, k9, if_true, if_false]
    all_goals clear x1 x2 x3 x4 x5 x6 x7 x8 x9 x10 x11 x12 x13 x14 x15 x16 x17 x18 x19 x20 x21 x22 x23 x24 x25 x26 x27 x28 x29 x30
    all_goals (repeat' apply And.intro)
    all_goals (repeat' (first | assumption | rfl | split | omega))
    all_goals (repeat' apply And.intro)
    all_goals first | rfl | assumption | (simp only [va_up]; (repeat' (first | omega | split)) <;> first | rfl | assumption) | (intro hh; exact absurd hh (by decide)) | (intro hh; repeat' apply And.intro) 
    all_goals first | rfl | assumption | (simp only [va_up]; (repeat' (first | omega | split)) <;> first | rfl | assumption) | (simp_all; done)
  · skip
    clear a5 a6 a7 b5 b6 b7 s3 s1
    simp only [va_up, zRn, qLay, x1, x2, x3, x4, x5, x6, x7, x8, x9, x10, x11, x12, x13, x14, x15, x16, x17, x18, x19, x20, x21, x22, x23, x24, x25, x26, x27, x28, x29, x30, if_true, if_false]
    all_goals clear x1 x2 x3 x4 x5 x6 x7 x8 x9 x10 x11 x12 x13 x14 x15 x16 x17 x18 x19 x20 x21 x22 x23 x24 x25 x26 x27 x28 x29 x30
    all_goals (repeat' apply And.intro)
    all_goals (repeat' (first | assumption | rfl | split | omega))
    all_goals (repeat' apply And.intro)
    all_goals first | rfl | assumption | (simp only [va_up]; (repeat' (first | omega | split)) <;> first | rfl | assumption) | (intro hh; exact absurd hh (by decide)) | (intro hh; repeat' apply And.intro) 
    all_goals first | rfl | assumption | (simp only [va_up]; (repeat' (first | omega | split)) <;> first | rfl | assumption) | (simp_all; done)
  · skip
    clear a5 a6 a7 b5 b6 b7 s3 s1
    simp only [va_up, zRn, qLay, x1, x2, x3, x4, x5, x6, x7, x8, x9, x10, x11, x12, x13, x14, x15, x16, x17, x18, x19, x20, x21, x22, x23, x24, x25, x26, x27, x28, x29, x30, if_true, if_false]
    all_goals clear x1 x2 x3 x4 x5 x6 x7 x8 x9 x10 x11 x12 x13 x14 x15 x16 x17 x18 x19 x20 x21 x22 x23 x24 x25 x26 x27 x28 x29 x30
    all_goals (repeat' apply And.intro)
    all_goals (repeat' (first | assumption | rfl | split | omega))
    all_goals (repeat' apply And.intro)
    all_goals first | rfl | assumption | (simp only [va_up]; (repeat' (first | omega | split)) <;> first | rfl | assumption) | (intro hh; exact absurd hh (by decide)) | (intro hh; repeat' apply And.intro) 
    all_goals first | rfl | assumption | (simp only [va_up]; (repeat' (first | omega | split)) <;> first | rfl | assumption) | (simp_all; done)
  · skip
    clear a5 a6 a7 b5 b6 b7 s3 s1
    simp only [va_up, zRn, qLay, x1, x2, x3, x4, x5, x6, x7, x8, x9, x10, x11, x12, x13, x14, x15, x16, x17, x18, x19, x20, x21, x22, x23, x24, x25, x26, x27, x28, x29, x30, if_true, if_false]
    all_goals clear x1 x2 x3 x4 x5 x6 x7 x8 x9 x10 x11 x12 x13 x14 x15 x16 x17 x18 x19 x20 x21 x22 x23 x24 x25 x26 x27 x28 x29 x30
    all_goals (repeat' apply And.intro)
    all_goals (repeat' (first | assumption | rfl | split | omega))
    all_goals (repeat' apply And.intro)
    all_goals first | rfl | assumption | (simp only [va_up]; (repeat' (first | omega | split)) <;> first | rfl | assumption) | (intro hh; exact absurd hh (by decide)) | (intro hh; repeat' apply And.intro) 
    all_goals first | rfl | assumption | (simp only [va_up]; (repeat' (first | omega | split)) <;> first | rfl | assumption) | (simp_all; done)
  · skip
    clear a5 a6 a7 b5 b6 b7 s3 s1
    simp only [va_up, zRn, qLay, x1, x2, x3, x4, x5, x6, x7, x8, x9, x10, x11, x12, x13, x14, x15, x16, x17, x18, x19, x20, x21, x22, x23, x24, x25, x26, x27, x28, x29, x30, if_true, if_false]
    all_goals clear x1 x2 x3 x4 x5 x6 x7 x8 x9 x10 x11 x12 x13 x14 x15 x16 x17 x18 x19 x20 x21 x22 x23 x24 x25 x26 x27 x28 x29 x30
    all_goals (repeat' apply And.intro)
    all_goals (repeat' (first | assumption | rfl | split | omega))
    all_goals (repeat' apply And.intro)
    all_goals first | rfl | assumption | (simp only [va_up]; (repeat' (first | omega | split)) <;> first | rfl | assumption) | (intro hh; exact absurd hh (by decide)) | (intro hh; repeat' apply And.intro) 
    all_goals first | rfl | assumption | (simp only [va_up]; (repeat' (first | omega | split)) <;> first | rfl | assumption) | (simp_all; done)
  · skip
    clear a5 a6 a7 b5 b6 b7 s3 s1
    simp only [va_up, zRn, qLay, x1, x2, x3, x4, x5, x6, x7, x8, x9, x10, x11, x12, x13, x14, x15, x16, x17, x18, x19, x20, x21, x22, x23, x24, x25, x26, x27, x28, x29, x30, if_true, if_false]
    all_goals clear x1 x2 x3 x4 x5 x6 x7 x8 x9 x10 x11 x12 x13 x14 x15 x16 x17 x18 x19 x20 x21 x22 x23 x24 x25 x26 x27 x28 x29 x30
    all_goals (repeat' apply And.intro)
    all_goals (repeat' (first | assumption | rfl | split | omega))
    all_goals (repeat' apply And.intro)
    all_goals first | rfl | assumption | (simp only [va_up]; (repeat' (first | omega | split)) <;> first | rfl | assumption) | (intro hh; exact absurd hh (by decide)) | (intro hh; repeat' apply And.intro) 
    all_goals first | rfl | assumption | (simp only [va_up]; (repeat' (first | omega | split)) <;> first | rfl | assumption) | (simp_all; done)
  · rw [s3 a9 h9, qOn, qOn]
    clear a5 a6 a7 b5 b6 b7 s3 s1
    simp only [va_up, zRn, qLay, x1, x2, x3, x4, x5, x6, x7, x8, x9, x10, x11, x12, x13, x14, x15, x16, x17, x18, x19, x20, x21, x22, x23, x24, x25, x26, x27, x28, x29, x30, h9, if_true, if_false]
    all_goals clear x1 x2 x3 x4 x5 x6 x7 x8 x9 x10 x11 x12 x13 x14 x15 x16 x17 x18 x19 x20 x21 x22 x23 x24 x25 x26 x27 x28 x29 x30
    all_goals (repeat' apply And.intro)
    all_goals (repeat' (first | assumption | rfl | split | omega))
    all_goals (repeat' apply And.intro)
    all_goals first | rfl | assumption | (simp only [va_up]; (repeat' (first | omega | split)) <;> first | rfl | assumption) | (intro hh; exact absurd hh (by decide)) | (intro hh; repeat' apply And.intro) 
    all_goals first | rfl | assumption | (simp only [va_up]; (repeat' (first | omega | split)) <;> first | rfl | assumption) | (simp_all; done)
  · skip
    obtain ⟨q1, q2, q3, q4, q5⟩ := b5 a9 h9
    clear a5 a6 a7 b5 b6 b7 s3 s1
    simp only [va_up, zRn, qLay, x1, x2, x3, x4, x5, x6, x7, x8, x9, x10, x11, x12, x13, x14, x15, x16, x17, x18, x19, x20, x21, x22, x23, x24, x25, x26, x27, x28, x29, x30, h9, if_true, if_false]
    all_goals clear x1 x2 x3 x4 x5 x6 x7 x8 x9 x10 x11 x12 x13 x14 x15 x16 x17 x18 x19 x20 x21 x22 x23 x24 x25 x26 x27 x28 x29 x30
    all_goals (repeat' apply And.intro)
    all_goals (repeat' (first | assumption | rfl | split | omega))
    all_goals (repeat' apply And.intro)
    all_goals first | rfl | assumption | (simp only [va_up]; (repeat' (first | omega | split)) <;> first | rfl | assumption) | (intro hh; exact absurd hh (by decide)) | (intro hh; repeat' apply And.intro) 
    all_goals first | rfl | assumption | (simp only [va_up]; (repeat' (first | omega | split)) <;> first | rfl | assumption) | (simp_all; done)
  · skip
    obtain ⟨q1, q2, q3, q4⟩ := b6 t9 k9
    clear a5 a6 a7 b5 b6 b7 s3 s1
    simp only [va_up, zRn, qLay, x1, x2, x3, x4, x5, x6, x7, x8, x9, x10, x11, x12, x13, x14, x15, x16, x17, x18, x19, x20, x21, x22, x23, x24, x25, x26, x27, x28, x29, x30, k9, if_true, if_false]
    all_goals clear x1 x2 x3 x4 x5 x6 x7 x8 x9 x10 x11 x12 x13 x14 x15 x16 x17 x18 x19 x20 x21 x22 x23 x24 x25 x26 x27 x28 x29 x30
    all_goals (repeat' apply And.intro)
    all_goals (repeat' (first | assumption | rfl | split | omega))
    all_goals (repeat' apply And.intro)
    all_goals first | rfl | assumption | (simp only [va_up]; (repeat' (first | omega | split)) <;> first | rfl | assumption) | (intro hh; exact absurd hh (by decide)) | (intro hh; repeat' apply And.intro) 
    all_goals first | rfl | assumption | (simp only [va_up]; (repeat' (first | omega | split)) <;> first | rfl | assumption) | (simp_all; done)
  · skip
    obtain ⟨q1, q2⟩ := b7 a9 h9 t9 k9
    clear a5 a6 a7 b5 b6 b7 s3 s1
    simp only [va_up, zRn, qLay, x1, x2, x3, x4, x5, x6, x7, x8, x9, x10, x11, x12, x13, x14, x15, x16, x17, x18, x19, x20, x21, x22, x23, x24, x25, x26, x27, x28, x29, x30, h9, k9, if_true, if_false]
    all_goals clear x1 x2 x3 x4 x5 x6 x7 x8 x9 x10 x11 x12 x13 x14 x15 x16 x17 x18 x19 x20 x21 x22 x23 x24 x25 x26 x27 x28 x29 x30
    all_goals (repeat' apply And.intro)
    all_goals (repeat' (first | assumption | rfl | split | omega))
    all_goals (repeat' apply And.intro)
    all_goals first | rfl | assumption | (simp only [va_up]; (repeat' (first | omega | split)) <;> first | rfl | assumption) | (intro hh; exact absurd hh (by decide)) | (intro hh; repeat' apply And.intro) 
    all_goals first | rfl | assumption | (simp only [va_up]; (repeat' (first | omega | split)) <;> first | rfl | assumption) | (simp_all; done)
set_option maxRecDepth 100000 in
set_option maxHeartbeats 4000000 in
theorem zR_w {d : Nat → Nat → Int32} {o n K : Nat} {f : Nat → Int32} {a : Nat} {v : Int32} (ha : a < n) (h : zR d o f n K) : zR (va_up d (o + 5) (va_up (d (o + 5)) a v)) o (va_up f (4 + 6 * a + 5) v) n K := by
  obtain ⟨⟨a1, a2, a3, a4, a5, a6, a7⟩, b0, b1, b2, b3, ⟨S, s1, s2, s3⟩, b5, b6, b7⟩ := h
  have x1 : (o = o + 5) = False := eq_false (by omega)
  have x2 : (o + 1 = o + 5) = False := eq_false (by omega)
  have x3 : (o + 2 = o + 5) = False := eq_false (by omega)
  have x4 : (o + 3 = o + 5) = False := eq_false (by omega)
  have x5 : (o + 4 = o + 5) = False := eq_false (by omega)
  have x6 : (o + 6 = o + 5) = False := eq_false (by omega)
  have x7 : (o + 7 = o + 5) = False := eq_false (by omega)
  have x8 : (o + 8 = o + 5) = False := eq_false (by omega)
  have x9 : (o + 9 = o + 5) = False := eq_false (by omega)
  have x10 : (o + 10 + 1 = o + 5) = False := eq_false (by omega)
  have x11 : (o + 10 + 2 = o + 5) = False := eq_false (by omega)
  have x12 : (o + 10 + 3 = o + 5) = False := eq_false (by omega)
  have x13 : (o + 10 + 4 = o + 5) = False := eq_false (by omega)
  have x14 : (0 = 4 + 6 * a + 5) = False := eq_false (by omega)
  have x15 : (1 = 4 + 6 * a + 5) = False := eq_false (by omega)
  have x16 : (2 = 4 + 6 * a + 5) = False := eq_false (by omega)
  have x17 : (3 = 4 + 6 * a + 5) = False := eq_false (by omega)
  have x18 : ∀ z, (4 + 6 * z = 4 + 6 * a + 5) = False := fun z => eq_false (by omega)
  have x19 : ∀ z, (4 + 6 * z + 1 = 4 + 6 * a + 5) = False := fun z => eq_false (by omega)
  have x20 : ∀ z, (4 + 6 * z + 2 = 4 + 6 * a + 5) = False := fun z => eq_false (by omega)
  have x21 : ∀ z, (4 + 6 * z + 3 = 4 + 6 * a + 5) = False := fun z => eq_false (by omega)
  have x22 : ∀ z, (4 + 6 * z + 4 = 4 + 6 * a + 5) = False := fun z => eq_false (by omega)
  have x23 : ∀ z, z < K → (40 + 4 * z = 4 + 6 * a + 5) = False := fun z hz => eq_false (by omega)
  have x24 : ∀ z, z < K → (40 + 4 * z + 1 = 4 + 6 * a + 5) = False := fun z hz => eq_false (by omega)
  have x25 : ∀ z, z < K → (40 + 4 * z + 2 = 4 + 6 * a + 5) = False := fun z hz => eq_false (by omega)
  have x26 : ∀ z, z < K → (40 + 4 * z + 3 = 4 + 6 * a + 5) = False := fun z hz => eq_false (by omega)
  have x27 : ∀ z, (72 + 4 * z = 4 + 6 * a + 5) = False := fun z => eq_false (by omega)
  have x28 : ∀ z, (72 + 4 * z + 1 = 4 + 6 * a + 5) = False := fun z => eq_false (by omega)
  have x29 : ∀ z, (72 + 4 * z + 2 = 4 + 6 * a + 5) = False := fun z => eq_false (by omega)
  have x30 : ∀ z, (72 + 4 * z + 3 = 4 + 6 * a + 5) = False := fun z => eq_false (by omega)
  refine ⟨⟨a1, a2, ?_, ?_, fun a9 h9 => ?_, fun t9 k9 => ?_, fun a9 h9 t9 k9 => ?_⟩, ?_, ?_, ?_, ?_, ⟨S, s1, ?_, fun a9 h9 => ?_⟩, fun a9 h9 => ?_, fun t9 k9 => ?_, fun a9 h9 t9 k9 => ?_⟩
  · skip
    clear a5 a6 a7 b5 b6 b7 s3 s1
    simp only [va_up, zRn, qLay, x1, x2, x3, x4, x5, x6, x7, x8, x9, x10, x11, x12, x13, x14, x15, x16, x17, x18, x19, x20, x21, x22, x23, x24, x25, x26, x27, x28, x29, x30, if_true, if_false]
    all_goals clear x1 x2 x3 x4 x5 x6 x7 x8 x9 x10 x11 x12 x13 x14 x15 x16 x17 x18 x19 x20 x21 x22 x23 x24 x25 x26 x27 x28 x29 x30
    all_goals (repeat' apply And.intro)
    all_goals (repeat' (first | assumption | rfl | split | omega))
    all_goals (repeat' apply And.intro)
    all_goals first | rfl | assumption | (simp only [va_up]; (repeat' (first | omega | split)) <;> first | rfl | assumption) | (intro hh; exact absurd hh (by decide)) | (intro hh; repeat' apply And.intro) 
    all_goals first | rfl | assumption | (simp only [va_up]; (repeat' (first | omega | split)) <;> first | rfl | assumption) | (simp_all; done)
  · skip
    clear a5 a6 a7 b5 b6 b7 s3 s1
    simp only [va_up, zRn, qLay, x1, x2, x3, x4, x5, x6, x7, x8, x9, x10, x11, x12, x13, x14, x15, x16, x17, x18, x19, x20, x21, x22, x23, x24, x25, x26, x27, x28, x29, x30, if_true, if_false]
    all_goals clear x1 x2 x3 x4 x5 x6 x7 x8 x9 x10 x11 x12 x13 x14 x15 x16 x17 x18 x19 x20 x21 x22 x23 x24 x25 x26 x27 x28 x29 x30
    all_goals (repeat' apply And.intro)
    all_goals (repeat' (first | assumption | rfl | split | omega))
    all_goals (repeat' apply And.intro)
    all_goals first | rfl | assumption | (simp only [va_up]; (repeat' (first | omega | split)) <;> first | rfl | assumption) | (intro hh; exact absurd hh (by decide)) | (intro hh; repeat' apply And.intro) 
    all_goals first | rfl | assumption | (simp only [va_up]; (repeat' (first | omega | split)) <;> first | rfl | assumption) | (simp_all; done)
  · skip
    obtain ⟨q1, q2, q3, q4⟩ := a5 a9 h9
    clear a5 a6 a7 b5 b6 b7 s3 s1
    simp only [va_up, zRn, qLay, x1, x2, x3, x4, x5, x6, x7, x8, x9, x10, x11, x12, x13, x14, x15, x16, x17, x18, x19, x20, x21, x22, x23, x24, x25, x26, x27, x28, x29, x30, h9, if_true, if_false]
    all_goals clear x1 x2 x3 x4 x5 x6 x7 x8 x9 x10 x11 x12 x13 x14 x15 x16 x17 x18 x19 x20 x21 x22 x23 x24 x25 x26 x27 x28 x29 x30
    all_goals (repeat' apply And.intro)
    all_goals (repeat' (first | assumption | rfl | split | omega))
    all_goals (repeat' apply And.intro)
    all_goals first | rfl | assumption | (simp only [va_up]; (repeat' (first | omega | split)) <;> first | rfl | assumption) | (intro hh; exact absurd hh (by decide)) | (intro hh; repeat' apply And.intro) 
    all_goals first | rfl | assumption | (simp only [va_up]; (repeat' (first | omega | split)) <;> first | rfl | assumption) | (simp_all; done)
  · skip
    obtain ⟨q1, q2⟩ := a6 t9 k9
    clear a5 a6 a7 b5 b6 b7 s3 s1
    simp only [va_up, zRn, qLay, x1, x2, x3, x4, x5, x6, x7, x8, x9, x10, x11, x12, x13, x14, x15, x16, x17, x18, x19, x20, x21, x22, x23, x24, x25, x26, x27, x28, x29, x30, k9, if_true, if_false]
    all_goals clear x1 x2 x3 x4 x5 x6 x7 x8 x9 x10 x11 x12 x13 x14 x15 x16 x17 x18 x19 x20 x21 x22 x23 x24 x25 x26 x27 x28 x29 x30
    all_goals (repeat' apply And.intro)
    all_goals (repeat' (first | assumption | rfl | split | omega))
    all_goals (repeat' apply And.intro)
    all_goals first | rfl | assumption | (simp only [va_up]; (repeat' (first | omega | split)) <;> first | rfl | assumption) | (intro hh; exact absurd hh (by decide)) | (intro hh; repeat' apply And.intro) 
    all_goals first | rfl | assumption | (simp only [va_up]; (repeat' (first | omega | split)) <;> first | rfl | assumption) | (simp_all; done)
  · skip
    obtain ⟨q1, q2⟩ := a7 a9 h9 t9 k9
    clear a5 a6 a7 b5 b6 b7 s3 s1
    simp only [va_up, zRn, qLay, x1, x2, x3, x4, x5, x6, x7, x8, x9, x10, x11, x12, x13, x14, x15, x16, x17, x18, x19, x20, x21, x22, x23, x24, x25, x26, x27, x28, x29, x30, h9, k9, if_true, if_false]
    all_goals clear x1 x2 x3 x4 x5 x6 x7 x8 x9 x10 x11 x12 x13 x14 x15 x16 x17 x18 x19 x20 x21 x22 x23 x24 x25 x26 x27 x28 x29 x30
    all_goals (repeat' apply And.intro)
    all_goals (repeat' (first | assumption | rfl | split | omega))
    all_goals (repeat' apply And.intro)
    all_goals first | rfl | assumption | (simp only [va_up]; (repeat' (first | omega | split)) <;> first | rfl | assumption) | (intro hh; exact absurd hh (by decide)) | (intro hh; repeat' apply And.intro) 
    all_goals first | rfl | assumption | (simp only [va_up]; (repeat' (first | omega | split)) <;> first | rfl | assumption) | (simp_all; done)
  · skip
    clear a5 a6 a7 b5 b6 b7 s3 s1
    simp only [va_up, zRn, qLay, x1, x2, x3, x4, x5, x6, x7, x8, x9, x10, x11, x12, x13, x14, x15, x16, x17, x18, x19, x20, x21, x22, x23, x24, x25, x26, x27, x28, x29, x30, if_true, if_false]
    all_goals clear x1 x2 x3 x4 x5 x6 x7 x8 x9 x10 x11 x12 x13 x14 x15 x16 x17 x18 x19 x20 x21 x22 x23 x24 x25 x26 x27 x28 x29 x30
    all_goals (repeat' apply And.intro)
    all_goals (repeat' (first | assumption | rfl | split | omega))
    all_goals (repeat' apply And.intro)
    all_goals first | rfl | assumption | (simp only [va_up]; (repeat' (first | omega | split)) <;> first | rfl | assumption) | (intro hh; exact absurd hh (by decide)) | (intro hh; repeat' apply And.intro) 
    all_goals first | rfl | assumption | (simp only [va_up]; (repeat' (first | omega | split)) <;> first | rfl | assumption) | (simp_all; done)
  · skip
    clear a5 a6 a7 b5 b6 b7 s3 s1
    simp only [va_up, zRn, qLay, x1, x2, x3, x4, x5, x6, x7, x8, x9, x10, x11, x12, x13, x14, x15, x16, x17, x18, x19, x20, x21, x22, x23, x24, x25, x26, x27, x28, x29, x30, if_true, if_false]
    all_goals clear x1 x2 x3 x4 x5 x6 x7 x8 x9 x10 x11 x12 x13 x14 x15 x16 x17 x18 x19 x20 x21 x22 x23 x24 x25 x26 x27 x28 x29 x30
    all_goals (repeat' apply And.intro)
    all_goals (repeat' (first | assumption | rfl | split | omega))
    all_goals (repeat' apply And.intro)
    all_goals first | rfl | assumption | (simp only [va_up]; (repeat' (first | omega | split)) <;> first | rfl | assumption) | (intro hh; exact absurd hh (by decide)) | (intro hh; repeat' apply And.intro) 
    all_goals first | rfl | assumption | (simp only [va_up]; (repeat' (first | omega | split)) <;> first | rfl | assumption) | (simp_all; done)
  · skip
    clear a5 a6 a7 b5 b6 b7 s3 s1
    simp only [va_up, zRn, qLay, x1, x2, x3, x4, x5, x6, x7, x8, x9, x10, x11, x12, x13, x14, x15, x16, x17, x18, x19, x20, x21, x22, x23, x24, x25, x26, x27, x28, x29, x30, if_true, if_false]
    all_goals clear x1 x2 x3 x4 x5 x6 x7 x8 x9 x10 x11 x12 x13 x14 x15 x16 x17 x18 x19 x20 x21 x22 x23 x24 x25 x26 x27 x28 x29 x30
    all_goals (repeat' apply And.intro)
    all_goals (repeat' (first | assumption | rfl | split | omega))
    all_goals (repeat' apply And.intro)
    all_goals first | rfl | assumption | (simp only [va_up]; (repeat' (first | omega | split)) <;> first | rfl | assumption) | (intro hh; exact absurd hh (by decide)) | (intro hh; repeat' apply And.intro) 
    all_goals first | rfl | assumption | (simp only [va_up]; (repeat' (first | omega | split)) <;> first | rfl | assumption) | (simp_all; done)
  · skip
    clear a5 a6 a7 b5 b6 b7 s3 s1
    simp only [va_up, zRn, qLay, x1, x2, x3, x4, x5, x6, x7, x8, x9, x10, x11, x12, x13, x14, x15, x16, x17, x18, x19, x20, x21, x22, x23, x24, x25, x26, x27, x28, x29, x30, if_true, if_false]
    all_goals clear x1 x2 x3 x4 x5 x6 x7 x8 x9 x10 x11 x12 x13 x14 x15 x16 x17 x18 x19 x20 x21 x22 x23 x24 x25 x26 x27 x28 x29 x30
    all_goals (repeat' apply And.intro)
    all_goals (repeat' (first | assumption | rfl | split | omega))
    all_goals (repeat' apply And.intro)
    all_goals first | rfl | assumption | (simp only [va_up]; (repeat' (first | omega | split)) <;> first | rfl | assumption) | (intro hh; exact absurd hh (by decide)) | (intro hh; repeat' apply And.intro) 
    all_goals first | rfl | assumption | (simp only [va_up]; (repeat' (first | omega | split)) <;> first | rfl | assumption) | (simp_all; done)
  · skip
    clear a5 a6 a7 b5 b6 b7 s3 s1
    simp only [va_up, zRn, qLay, x1, x2, x3, x4, x5, x6, x7, x8, x9, x10, x11, x12, x13, x14, x15, x16, x17, x18, x19, x20, x21, x22, x23, x24, x25, x26, x27, x28, x29, x30, if_true, if_false]
    all_goals clear x1 x2 x3 x4 x5 x6 x7 x8 x9 x10 x11 x12 x13 x14 x15 x16 x17 x18 x19 x20 x21 x22 x23 x24 x25 x26 x27 x28 x29 x30
    all_goals (repeat' apply And.intro)
    all_goals (repeat' (first | assumption | rfl | split | omega))
    all_goals (repeat' apply And.intro)
    all_goals first | rfl | assumption | (simp only [va_up]; (repeat' (first | omega | split)) <;> first | rfl | assumption) | (intro hh; exact absurd hh (by decide)) | (intro hh; repeat' apply And.intro) 
    all_goals first | rfl | assumption | (simp only [va_up]; (repeat' (first | omega | split)) <;> first | rfl | assumption) | (simp_all; done)
  · rw [s3 a9 h9, qOn, qOn]
    clear a5 a6 a7 b5 b6 b7 s3 s1
    simp only [va_up, zRn, qLay, x1, x2, x3, x4, x5, x6, x7, x8, x9, x10, x11, x12, x13, x14, x15, x16, x17, x18, x19, x20, x21, x22, x23, x24, x25, x26, x27, x28, x29, x30, h9, if_true, if_false]
    all_goals clear x1 x2 x3 x4 x5 x6 x7 x8 x9 x10 x11 x12 x13 x14 x15 x16 x17 x18 x19 x20 x21 x22 x23 x24 x25 x26 x27 x28 x29 x30
    all_goals (repeat' apply And.intro)
    all_goals (repeat' (first | assumption | rfl | split | omega))
    all_goals (repeat' apply And.intro)
    all_goals first | rfl | assumption | (simp only [va_up]; (repeat' (first | omega | split)) <;> first | rfl | assumption) | (intro hh; exact absurd hh (by decide)) | (intro hh; repeat' apply And.intro) 
    all_goals first | rfl | assumption | (simp only [va_up]; (repeat' (first | omega | split)) <;> first | rfl | assumption) | (simp_all; done)
  · skip
    obtain ⟨q1, q2, q3, q4, q5⟩ := b5 a9 h9
    clear a5 a6 a7 b5 b6 b7 s3 s1
    simp only [va_up, zRn, qLay, x1, x2, x3, x4, x5, x6, x7, x8, x9, x10, x11, x12, x13, x14, x15, x16, x17, x18, x19, x20, x21, x22, x23, x24, x25, x26, x27, x28, x29, x30, h9, if_true, if_false]
    all_goals clear x1 x2 x3 x4 x5 x6 x7 x8 x9 x10 x11 x12 x13 x14 x15 x16 x17 x18 x19 x20 x21 x22 x23 x24 x25 x26 x27 x28 x29 x30
    all_goals (repeat' apply And.intro)
    all_goals (repeat' (first | assumption | rfl | split | omega))
    all_goals (repeat' apply And.intro)
    all_goals first | rfl | assumption | (simp only [va_up]; (repeat' (first | omega | split)) <;> first | rfl | assumption) | (intro hh; exact absurd hh (by decide)) | (intro hh; repeat' apply And.intro) 
    all_goals first | rfl | assumption | (simp only [va_up]; (repeat' (first | omega | split)) <;> first | rfl | assumption) | (simp_all; done)
  · skip
    obtain ⟨q1, q2, q3, q4⟩ := b6 t9 k9
    clear a5 a6 a7 b5 b6 b7 s3 s1
    simp only [va_up, zRn, qLay, x1, x2, x3, x4, x5, x6, x7, x8, x9, x10, x11, x12, x13, x14, x15, x16, x17, x18, x19, x20, x21, x22, x23, x24, x25, x26, x27, x28, x29, x30, k9, if_true, if_false]
    all_goals clear x1 x2 x3 x4 x5 x6 x7 x8 x9 x10 x11 x12 x13 x14 x15 x16 x17 x18 x19 x20 x21 x22 x23 x24 x25 x26 x27 x28 x29 x30
    all_goals (repeat' apply And.intro)
    all_goals (repeat' (first | assumption | rfl | split | omega))
    all_goals (repeat' apply And.intro)
    all_goals first | rfl | assumption | (simp only [va_up]; (repeat' (first | omega | split)) <;> first | rfl | assumption) | (intro hh; exact absurd hh (by decide)) | (intro hh; repeat' apply And.intro) 
    all_goals first | rfl | assumption | (simp only [va_up]; (repeat' (first | omega | split)) <;> first | rfl | assumption) | (simp_all; done)
  · skip
    obtain ⟨q1, q2⟩ := b7 a9 h9 t9 k9
    clear a5 a6 a7 b5 b6 b7 s3 s1
    simp only [va_up, zRn, qLay, x1, x2, x3, x4, x5, x6, x7, x8, x9, x10, x11, x12, x13, x14, x15, x16, x17, x18, x19, x20, x21, x22, x23, x24, x25, x26, x27, x28, x29, x30, h9, k9, if_true, if_false]
    all_goals clear x1 x2 x3 x4 x5 x6 x7 x8 x9 x10 x11 x12 x13 x14 x15 x16 x17 x18 x19 x20 x21 x22 x23 x24 x25 x26 x27 x28 x29 x30
    all_goals (repeat' apply And.intro)
    all_goals (repeat' (first | assumption | rfl | split | omega))
    all_goals (repeat' apply And.intro)
    all_goals first | rfl | assumption | (simp only [va_up]; (repeat' (first | omega | split)) <;> first | rfl | assumption) | (intro hh; exact absurd hh (by decide)) | (intro hh; repeat' apply And.intro) 
    all_goals first | rfl | assumption | (simp only [va_up]; (repeat' (first | omega | split)) <;> first | rfl | assumption) | (simp_all; done)
set_option maxRecDepth 100000 in
set_option maxHeartbeats 4000000 in
theorem zR_p {d : Nat → Nat → Int32} {o n K : Nat} {f : Nat → Int32} {t : Nat} {v : Int32} (ht : t < K) (h : zR d o f n K) : zR (va_up d (o + 9) (va_up (d (o + 9)) t v)) o (va_up f (40 + 4 * t + 3) v) n K := by
  obtain ⟨⟨a1, a2, a3, a4, a5, a6, a7⟩, b0, b1, b2, b3, ⟨S, s1, s2, s3⟩, b5, b6, b7⟩ := h
  have x1 : (o = o + 9) = False := eq_false (by omega)
  have x2 : (o + 1 = o + 9) = False := eq_false (by omega)
  have x3 : (o + 2 = o + 9) = False := eq_false (by omega)
  have x4 : (o + 3 = o + 9) = False := eq_false (by omega)
  have x5 : (o + 4 = o + 9) = False := eq_false (by omega)
  have x6 : (o + 5 = o + 9) = False := eq_false (by omega)
  have x7 : (o + 6 = o + 9) = False := eq_false (by omega)
  have x8 : (o + 7 = o + 9) = False := eq_false (by omega)
  have x9 : (o + 8 = o + 9) = False := eq_false (by omega)
  have x10 : (o + 10 + 1 = o + 9) = False := eq_false (by omega)
  have x11 : (o + 10 + 2 = o + 9) = False := eq_false (by omega)
  have x12 : (o + 10 + 3 = o + 9) = False := eq_false (by omega)
  have x13 : (o + 10 + 4 = o + 9) = False := eq_false (by omega)
  have x14 : (0 = 40 + 4 * t + 3) = False := eq_false (by omega)
  have x15 : (1 = 40 + 4 * t + 3) = False := eq_false (by omega)
  have x16 : (2 = 40 + 4 * t + 3) = False := eq_false (by omega)
  have x17 : (3 = 40 + 4 * t + 3) = False := eq_false (by omega)
  have x18 : ∀ z, z < n → (4 + 6 * z = 40 + 4 * t + 3) = False := fun z hz => eq_false (by omega)
  have x19 : ∀ z, z < n → (4 + 6 * z + 1 = 40 + 4 * t + 3) = False := fun z hz => eq_false (by omega)
  have x20 : ∀ z, z < n → (4 + 6 * z + 2 = 40 + 4 * t + 3) = False := fun z hz => eq_false (by omega)
  have x21 : ∀ z, z < n → (4 + 6 * z + 3 = 40 + 4 * t + 3) = False := fun z hz => eq_false (by omega)
  have x22 : ∀ z, z < n → (4 + 6 * z + 4 = 40 + 4 * t + 3) = False := fun z hz => eq_false (by omega)
  have x23 : ∀ z, z < n → (4 + 6 * z + 5 = 40 + 4 * t + 3) = False := fun z hz => eq_false (by omega)
  have x24 : ∀ z, (40 + 4 * z = 40 + 4 * t + 3) = False := fun z => eq_false (by omega)
  have x25 : ∀ z, (40 + 4 * z + 1 = 40 + 4 * t + 3) = False := fun z => eq_false (by omega)
  have x26 : ∀ z, (40 + 4 * z + 2 = 40 + 4 * t + 3) = False := fun z => eq_false (by omega)
  have x27 : ∀ z, (72 + 4 * z = 40 + 4 * t + 3) = False := fun z => eq_false (by omega)
  have x28 : ∀ z, (72 + 4 * z + 1 = 40 + 4 * t + 3) = False := fun z => eq_false (by omega)
  have x29 : ∀ z, (72 + 4 * z + 2 = 40 + 4 * t + 3) = False := fun z => eq_false (by omega)
  have x30 : ∀ z, (72 + 4 * z + 3 = 40 + 4 * t + 3) = False := fun z => eq_false (by omega)
  refine ⟨⟨a1, a2, ?_, ?_, fun a9 h9 => ?_, fun t9 k9 => ?_, fun a9 h9 t9 k9 => ?_⟩, ?_, ?_, ?_, ?_, ⟨S, s1, ?_, fun a9 h9 => ?_⟩, fun a9 h9 => ?_, fun t9 k9 => ?_, fun a9 h9 t9 k9 => ?_⟩
  · skip
    clear a5 a6 a7 b5 b6 b7 s3 s1
    simp only [va_up, zRn, qLay, x1, x2, x3, x4, x5, x6, x7, x8, x9, x10, x11, x12, x13, x14, x15, x16, x17, x18, x19, x20, x21, x22, x23, x24, x25, x26, x27, x28, x29, x30, if_true, if_false]
    all_goals clear x1 x2 x3 x4 x5 x6 x7 x8 x9 x10 x11 x12 x13 x14 x15 x16 x17 x18 x19 x20 x21 x22 x23 x24 x25 x26 x27 x28 x29 x30
    all_goals (repeat' apply And.intro)
    all_goals (repeat' (first | assumption | rfl | split | omega))
    all_goals (repeat' apply And.intro)
    all_goals first | rfl | assumption | (simp only [va_up]; (repeat' (first | omega | split)) <;> first | rfl | assumption) | (intro hh; exact absurd hh (by decide)) | (intro hh; repeat' apply And.intro) 
    all_goals first | rfl | assumption | (simp only [va_up]; (repeat' (first | omega | split)) <;> first | rfl | assumption) | (simp_all; done)
  · skip
    clear a5 a6 a7 b5 b6 b7 s3 s1
    simp only [va_up, zRn, qLay, x1, x2, x3, x4, x5, x6, x7, x8, x9, x10, x11, x12, x13, x14, x15, x16, x17, x18, x19, x20, x21, x22, x23, x24, x25, x26, x27, x28, x29, x30, if_true, if_false]
    all_goals clear x1 x2 x3 x4 x5 x6 x7 x8 x9 x10 x11 x12 x13 x14 x15 x16 x17 x18 x19 x20 x21 x22 x23 x24 x25 x26 x27 x28 x29 x30
    all_goals (repeat' apply And.intro)
    all_goals (repeat' (first | assumption | rfl | split | omega))
    all_goals (repeat' apply And.intro)
    all_goals first | rfl | assumption | (simp only [va_up]; (repeat' (first | omega | split)) <;> first | rfl | assumption) | (intro hh; exact absurd hh (by decide)) | (intro hh; repeat' apply And.intro) 
    all_goals first | rfl | assumption | (simp only [va_up]; (repeat' (first | omega | split)) <;> first | rfl | assumption) | (simp_all; done)
  · skip
    obtain ⟨q1, q2, q3, q4⟩ := a5 a9 h9
    clear a5 a6 a7 b5 b6 b7 s3 s1
    simp only [va_up, zRn, qLay, x1, x2, x3, x4, x5, x6, x7, x8, x9, x10, x11, x12, x13, x14, x15, x16, x17, x18, x19, x20, x21, x22, x23, x24, x25, x26, x27, x28, x29, x30, h9, if_true, if_false]
    all_goals clear x1 x2 x3 x4 x5 x6 x7 x8 x9 x10 x11 x12 x13 x14 x15 x16 x17 x18 x19 x20 x21 x22 x23 x24 x25 x26 x27 x28 x29 x30
    all_goals (repeat' apply And.intro)
    all_goals (repeat' (first | assumption | rfl | split | omega))
    all_goals (repeat' apply And.intro)
    all_goals first | rfl | assumption | (simp only [va_up]; (repeat' (first | omega | split)) <;> first | rfl | assumption) | (intro hh; exact absurd hh (by decide)) | (intro hh; repeat' apply And.intro) 
    all_goals first | rfl | assumption | (simp only [va_up]; (repeat' (first | omega | split)) <;> first | rfl | assumption) | (simp_all; done)
  · skip
    obtain ⟨q1, q2⟩ := a6 t9 k9
    clear a5 a6 a7 b5 b6 b7 s3 s1
    simp only [va_up, zRn, qLay, x1, x2, x3, x4, x5, x6, x7, x8, x9, x10, x11, x12, x13, x14, x15, x16, x17, x18, x19, x20, x21, x22, x23, x24, x25, x26, x27, x28, x29, x30, k9, if_true, if_false]
    all_goals clear x1 x2 x3 x4 x5 x6 x7 x8 x9 x10 x11 x12 x13 x14 x15 x16 x17 x18 x19 x20 x21 x22 x23 x24 x25 x26 x27 x28 x29 x30
    all_goals (repeat' apply And.intro)
    all_goals (repeat' (first | assumption | rfl | split | omega))
    all_goals (repeat' apply And.intro)
    all_goals first | rfl | assumption | (simp only [va_up]; (repeat' (first | omega | split)) <;> first | rfl | assumption) | (intro hh; exact absurd hh (by decide)) | (intro hh; repeat' apply And.intro) 
    all_goals first | rfl | assumption | (simp only [va_up]; (repeat' (first | omega | split)) <;> first | rfl | assumption) | (simp_all; done)
  · skip
    obtain ⟨q1, q2⟩ := a7 a9 h9 t9 k9
    clear a5 a6 a7 b5 b6 b7 s3 s1
    simp only [va_up, zRn, qLay, x1, x2, x3, x4, x5, x6, x7, x8, x9, x10, x11, x12, x13, x14, x15, x16, x17, x18, x19, x20, x21, x22, x23, x24, x25, x26, x27, x28, x29, x30, h9, k9, if_true, if_false]
    all_goals clear x1 x2 x3 x4 x5 x6 x7 x8 x9 x10 x11 x12 x13 x14 x15 x16 x17 x18 x19 x20 x21 x22 x23 x24 x25 x26 x27 x28 x29 x30
    all_goals (repeat' apply And.intro)
    all_goals (repeat' (first | assumption | rfl | split | omega))
    all_goals (repeat' apply And.intro)
    all_goals first | rfl | assumption | (simp only [va_up]; (repeat' (first | omega | split)) <;> first | rfl | assumption) | (intro hh; exact absurd hh (by decide)) | (intro hh; repeat' apply And.intro) 
    all_goals first | rfl | assumption | (simp only [va_up]; (repeat' (first | omega | split)) <;> first | rfl | assumption) | (simp_all; done)
  · skip
    clear a5 a6 a7 b5 b6 b7 s3 s1
    simp only [va_up, zRn, qLay, x1, x2, x3, x4, x5, x6, x7, x8, x9, x10, x11, x12, x13, x14, x15, x16, x17, x18, x19, x20, x21, x22, x23, x24, x25, x26, x27, x28, x29, x30, if_true, if_false]
    all_goals clear x1 x2 x3 x4 x5 x6 x7 x8 x9 x10 x11 x12 x13 x14 x15 x16 x17 x18 x19 x20 x21 x22 x23 x24 x25 x26 x27 x28 x29 x30
    all_goals (repeat' apply And.intro)
    all_goals (repeat' (first | assumption | rfl | split | omega))
    all_goals (repeat' apply And.intro)
    all_goals first | rfl | assumption | (simp only [va_up]; (repeat' (first | omega | split)) <;> first | rfl | assumption) | (intro hh; exact absurd hh (by decide)) | (intro hh; repeat' apply And.intro) 
    all_goals first | rfl | assumption | (simp only [va_up]; (repeat' (first | omega | split)) <;> first | rfl | assumption) | (simp_all; done)
  · skip
    clear a5 a6 a7 b5 b6 b7 s3 s1
    simp only [va_up, zRn, qLay, x1, x2, x3, x4, x5, x6, x7, x8, x9, x10, x11, x12, x13, x14, x15, x16, x17, x18, x19, x20, x21, x22, x23, x24, x25, x26, x27, x28, x29, x30, if_true, if_false]
    all_goals clear x1 x2 x3 x4 x5 x6 x7 x8 x9 x10 x11 x12 x13 x14 x15 x16 x17 x18 x19 x20 x21 x22 x23 x24 x25 x26 x27 x28 x29 x30
    all_goals (repeat' apply And.intro)
    all_goals (repeat' (first | assumption | rfl | split | omega))
    all_goals (repeat' apply And.intro)
    all_goals first | rfl | assumption | (simp only [va_up]; (repeat' (first | omega | split)) <;> first | rfl | assumption) | (intro hh; exact absurd hh (by decide)) | (intro hh; repeat' apply And.intro) 
    all_goals first | rfl | assumption | (simp only [va_up]; (repeat' (first | omega | split)) <;> first | rfl | assumption) | (simp_all; done)
  · skip
    clear a5 a6 a7 b5 b6 b7 s3 s1
    simp only [va_up, zRn, qLay, x1, x2, x3, x4, x5, x6, x7, x8, x9, x10, x11, x12, x13, x14, x15, x16, x17, x18, x19, x20, x21, x22, x23, x24, x25, x26, x27, x28, x29, x30, if_true, if_false]
    all_goals clear x1 x2 x3 x4 x5 x6 x7 x8 x9 x10 x11 x12 x13 x14 x15 x16 x17 x18 x19 x20 x21 x22 x23 x24 x25 x26 x27 x28 x29 x30
    all_goals (repeat' apply And.intro)
    all_goals (repeat' (first | assumption | rfl | split | omega))
    all_goals (repeat' apply And.intro)
    all_goals first | rfl | assumption | (simp only [va_up]; (repeat' (first | omega | split)) <;> first | rfl | assumption) | (intro hh; exact absurd hh (by decide)) | (intro hh; repeat' apply And.intro) 
    all_goals first | rfl | assumption | (simp only [va_up]; (repeat' (first | omega | split)) <;> first | rfl | assumption) | (simp_all; done)
  · skip
    clear a5 a6 a7 b5 b6 b7 s3 s1
    simp only [va_up, zRn, qLay, x1, x2, x3, x4, x5, x6, x7, x8, x9, x10, x11, x12, x13, x14, x15, x16, x17, x18, x19, x20, x21, x22, x23, x24, x25, x26, x27, x28, x29, x30, if_true, if_false]
    all_goals clear x1 x2 x3 x4 x5 x6 x7 x8 x9 x10 x11 x12 x13 x14 x15 x16 x17 x18 x19 x20 x21 x22 x23 x24 x25 x26 x27 x28 x29 x30
    all_goals (repeat' apply And.intro)
    all_goals (repeat' (first | assumption | rfl | split | omega))
    all_goals (repeat' apply And.intro)
    all_goals first | rfl | assumption | (simp only [va_up]; (repeat' (first | omega | split)) <;> first | rfl | assumption) | (intro hh; exact absurd hh (by decide)) | (intro hh; repeat' apply And.intro) 
    all_goals first | rfl | assumption | (simp only [va_up]; (repeat' (first | omega | split)) <;> first | rfl | assumption) | (simp_all; done)
  · skip
    clear a5 a6 a7 b5 b6 b7 s3 s1
    simp only [va_up, zRn, qLay, x1, x2, x3, x4, x5, x6, x7, x8, x9, x10, x11, x12, x13, x14, x15, x16, x17, x18, x19, x20, x21, x22, x23, x24, x25, x26, x27, x28, x29, x30, if_true, if_false]
    all_goals clear x1 x2 x3 x4 x5 x6 x7 x8 x9 x10 x11 x12 x13 x14 x15 x16 x17 x18 x19 x20 x21 x22 x23 x24 x25 x26 x27 x28 x29 x30
    all_goals (repeat' apply And.intro)
    all_goals (repeat' (first | assumption | rfl | split | omega))
    all_goals (repeat' apply And.intro)
    all_goals first | rfl | assumption | (simp only [va_up]; (repeat' (first | omega | split)) <;> first | rfl | assumption) | (intro hh; exact absurd hh (by decide)) | (intro hh; repeat' apply And.intro) 
    all_goals first | rfl | assumption | (simp only [va_up]; (repeat' (first | omega | split)) <;> first | rfl | assumption) | (simp_all; done)
  · rw [s3 a9 h9, qOn, qOn]
    clear a5 a6 a7 b5 b6 b7 s3 s1
    simp only [va_up, zRn, qLay, x1, x2, x3, x4, x5, x6, x7, x8, x9, x10, x11, x12, x13, x14, x15, x16, x17, x18, x19, x20, x21, x22, x23, x24, x25, x26, x27, x28, x29, x30, h9, if_true, if_false]
    all_goals clear x1 x2 x3 x4 x5 x6 x7 x8 x9 x10 x11 x12 x13 x14 x15 x16 x17 x18 x19 x20 x21 x22 x23 x24 x25 x26 x27 x28 x29 x30
    all_goals (repeat' apply And.intro)
    all_goals (repeat' (first | assumption | rfl | split | omega))
    all_goals (repeat' apply And.intro)
    all_goals first | rfl | assumption | (simp only [va_up]; (repeat' (first | omega | split)) <;> first | rfl | assumption) | (intro hh; exact absurd hh (by decide)) | (intro hh; repeat' apply And.intro) 
    all_goals first | rfl | assumption | (simp only [va_up]; (repeat' (first | omega | split)) <;> first | rfl | assumption) | (simp_all; done)
  · skip
    obtain ⟨q1, q2, q3, q4, q5⟩ := b5 a9 h9
    clear a5 a6 a7 b5 b6 b7 s3 s1
    simp only [va_up, zRn, qLay, x1, x2, x3, x4, x5, x6, x7, x8, x9, x10, x11, x12, x13, x14, x15, x16, x17, x18, x19, x20, x21, x22, x23, x24, x25, x26, x27, x28, x29, x30, h9, if_true, if_false]
    all_goals clear x1 x2 x3 x4 x5 x6 x7 x8 x9 x10 x11 x12 x13 x14 x15 x16 x17 x18 x19 x20 x21 x22 x23 x24 x25 x26 x27 x28 x29 x30
    all_goals (repeat' apply And.intro)
    all_goals (repeat' (first | assumption | rfl | split | omega))
    all_goals (repeat' apply And.intro)
    all_goals first | rfl | assumption | (simp only [va_up]; (repeat' (first | omega | split)) <;> first | rfl | assumption) | (intro hh; exact absurd hh (by decide)) | (intro hh; repeat' apply And.intro) 
    all_goals first | rfl | assumption | (simp only [va_up]; (repeat' (first | omega | split)) <;> first | rfl | assumption) | (simp_all; done)
  · skip
    obtain ⟨q1, q2, q3, q4⟩ := b6 t9 k9
    clear a5 a6 a7 b5 b6 b7 s3 s1
    simp only [va_up, zRn, qLay, x1, x2, x3, x4, x5, x6, x7, x8, x9, x10, x11, x12, x13, x14, x15, x16, x17, x18, x19, x20, x21, x22, x23, x24, x25, x26, x27, x28, x29, x30, k9, if_true, if_false]
    all_goals clear x1 x2 x3 x4 x5 x6 x7 x8 x9 x10 x11 x12 x13 x14 x15 x16 x17 x18 x19 x20 x21 x22 x23 x24 x25 x26 x27 x28 x29 x30
    all_goals (repeat' apply And.intro)
    all_goals (repeat' (first | assumption | rfl | split | omega))
    all_goals (repeat' apply And.intro)
    all_goals first | rfl | assumption | (simp only [va_up]; (repeat' (first | omega | split)) <;> first | rfl | assumption) | (intro hh; exact absurd hh (by decide)) | (intro hh; repeat' apply And.intro) 
    all_goals first | rfl | assumption | (simp only [va_up]; (repeat' (first | omega | split)) <;> first | rfl | assumption) | (simp_all; done)
  · skip
    obtain ⟨q1, q2⟩ := b7 a9 h9 t9 k9
    clear a5 a6 a7 b5 b6 b7 s3 s1
    simp only [va_up, zRn, qLay, x1, x2, x3, x4, x5, x6, x7, x8, x9, x10, x11, x12, x13, x14, x15, x16, x17, x18, x19, x20, x21, x22, x23, x24, x25, x26, x27, x28, x29, x30, h9, k9, if_true, if_false]
    all_goals clear x1 x2 x3 x4 x5 x6 x7 x8 x9 x10 x11 x12 x13 x14 x15 x16 x17 x18 x19 x20 x21 x22 x23 x24 x25 x26 x27 x28 x29 x30
    all_goals (repeat' apply And.intro)
    all_goals (repeat' (first | assumption | rfl | split | omega))
    all_goals (repeat' apply And.intro)
    all_goals first | rfl | assumption | (simp only [va_up]; (repeat' (first | omega | split)) <;> first | rfl | assumption) | (intro hh; exact absurd hh (by decide)) | (intro hh; repeat' apply And.intro) 
    all_goals first | rfl | assumption | (simp only [va_up]; (repeat' (first | omega | split)) <;> first | rfl | assumption) | (simp_all; done)
set_option maxRecDepth 100000 in
set_option maxHeartbeats 4000000 in
theorem zR_clk {d : Nat → Nat → Int32} {o n K : Nat} {f : Nat → Int32} {v : Int32} (h : zR d o f n K) : zR (va_up d o (va_up (d o) 3 v)) o (va_up f 2 v) n K := by
  obtain ⟨⟨a1, a2, a3, a4, a5, a6, a7⟩, b0, b1, b2, b3, ⟨S, s1, s2, s3⟩, b5, b6, b7⟩ := h
  have x1 : (o + 1 = o) = False := eq_false (by omega)
  have x2 : (o + 2 = o) = False := eq_false (by omega)
  have x3 : (o + 3 = o) = False := eq_false (by omega)
  have x4 : (o + 4 = o) = False := eq_false (by omega)
  have x5 : (o + 5 = o) = False := eq_false (by omega)
  have x6 : (o + 6 = o) = False := eq_false (by omega)
  have x7 : (o + 7 = o) = False := eq_false (by omega)
  have x8 : (o + 8 = o) = False := eq_false (by omega)
  have x9 : (o + 9 = o) = False := eq_false (by omega)
  have x10 : (o + 10 + 1 = o) = False := eq_false (by omega)
  have x11 : (o + 10 + 2 = o) = False := eq_false (by omega)
  have x12 : (o + 10 + 3 = o) = False := eq_false (by omega)
  have x13 : (o + 10 + 4 = o) = False := eq_false (by omega)
  have x14 : (0 = 2) = False := eq_false (by omega)
  have x15 : (1 = 2) = False := eq_false (by omega)
  have x16 : (3 = 2) = False := eq_false (by omega)
  have x17 : ∀ z, (4 + 6 * z = 2) = False := fun z => eq_false (by omega)
  have x18 : ∀ z, (4 + 6 * z + 1 = 2) = False := fun z => eq_false (by omega)
  have x19 : ∀ z, (4 + 6 * z + 2 = 2) = False := fun z => eq_false (by omega)
  have x20 : ∀ z, (4 + 6 * z + 3 = 2) = False := fun z => eq_false (by omega)
  have x21 : ∀ z, (4 + 6 * z + 4 = 2) = False := fun z => eq_false (by omega)
  have x22 : ∀ z, (4 + 6 * z + 5 = 2) = False := fun z => eq_false (by omega)
  have x23 : ∀ z, (40 + 4 * z = 2) = False := fun z => eq_false (by omega)
  have x24 : ∀ z, (40 + 4 * z + 1 = 2) = False := fun z => eq_false (by omega)
  have x25 : ∀ z, (40 + 4 * z + 2 = 2) = False := fun z => eq_false (by omega)
  have x26 : ∀ z, (40 + 4 * z + 3 = 2) = False := fun z => eq_false (by omega)
  have x27 : ∀ z, (72 + 4 * z = 2) = False := fun z => eq_false (by omega)
  have x28 : ∀ z, (72 + 4 * z + 1 = 2) = False := fun z => eq_false (by omega)
  have x29 : ∀ z, (72 + 4 * z + 2 = 2) = False := fun z => eq_false (by omega)
  have x30 : ∀ z, (72 + 4 * z + 3 = 2) = False := fun z => eq_false (by omega)
  refine ⟨⟨a1, a2, ?_, ?_, fun a9 h9 => ?_, fun t9 k9 => ?_, fun a9 h9 t9 k9 => ?_⟩, ?_, ?_, ?_, ?_, ⟨S, s1, ?_, fun a9 h9 => ?_⟩, fun a9 h9 => ?_, fun t9 k9 => ?_, fun a9 h9 t9 k9 => ?_⟩
  · skip
    clear a5 a6 a7 b5 b6 b7 s3 s1
    simp only [va_up, zRn, qLay, x1, x2, x3, x4, x5, x6, x7, x8, x9, x10, x11, x12, x13, x14, x15, x16, x17, x18, x19, x20, x21, x22, x23, x24, x25, x26, x27, x28, x29, x30, if_true, if_false]
    all_goals clear x1 x2 x3 x4 x5 x6 x7 x8 x9 x10 x11 x12 x13 x14 x15 x16 x17 x18 x19 x20 x21 x22 x23 x24 x25 x26 x27 x28 x29 x30
    all_goals (repeat' apply And.intro)
    all_goals (repeat' (first | assumption | rfl | split | omega))
    all_goals (repeat' apply And.intro)
    all_goals first | rfl | assumption | (simp only [va_up]; (repeat' (first | omega | split)) <;> first | rfl | assumption) | (intro hh; exact absurd hh (by decide)) | (intro hh; repeat' apply And.intro) 
    all_goals first | rfl | assumption | (simp only [va_up]; (repeat' (first | omega | split)) <;> first | rfl | assumption) | (simp_all; done)
  · skip
    clear a5 a6 a7 b5 b6 b7 s3 s1
    simp only [va_up, zRn, qLay, x1, x2, x3, x4, x5, x6, x7, x8, x9, x10, x11, x12, x13, x14, x15, x16, x17, x18, x19, x20, x21, x22, x23, x24, x25, x26, x27, x28, x29, x30, if_true, if_false]
    all_goals clear x1 x2 x3 x4 x5 x6 x7 x8 x9 x10 x11 x12 x13 x14 x15 x16 x17 x18 x19 x20 x21 x22 x23 x24 x25 x26 x27 x28 x29 x30
    all_goals (repeat' apply And.intro)
    all_goals (repeat' (first | assumption | rfl | split | omega))
    all_goals (repeat' apply And.intro)
    all_goals first | rfl | assumption | (simp only [va_up]; (repeat' (first | omega | split)) <;> first | rfl | assumption) | (intro hh; exact absurd hh (by decide)) | (intro hh; repeat' apply And.intro) 
    all_goals first | rfl | assumption | (simp only [va_up]; (repeat' (first | omega | split)) <;> first | rfl | assumption) | (simp_all; done)
  · skip
    obtain ⟨q1, q2, q3, q4⟩ := a5 a9 h9
    clear a5 a6 a7 b5 b6 b7 s3 s1
    simp only [va_up, zRn, qLay, x1, x2, x3, x4, x5, x6, x7, x8, x9, x10, x11, x12, x13, x14, x15, x16, x17, x18, x19, x20, x21, x22, x23, x24, x25, x26, x27, x28, x29, x30, h9, if_true, if_false]
    all_goals clear x1 x2 x3 x4 x5 x6 x7 x8 x9 x10 x11 x12 x13 x14 x15 x16 x17 x18 x19 x20 x21 x22 x23 x24 x25 x26 x27 x28 x29 x30
    all_goals (repeat' apply And.intro)
    all_goals (repeat' (first | assumption | rfl | split | omega))
    all_goals (repeat' apply And.intro)
    all_goals first | rfl | assumption | (simp only [va_up]; (repeat' (first | omega | split)) <;> first | rfl | assumption) | (intro hh; exact absurd hh (by decide)) | (intro hh; repeat' apply And.intro) 
    all_goals first | rfl | assumption | (simp only [va_up]; (repeat' (first | omega | split)) <;> first | rfl | assumption) | (simp_all; done)
  · skip
    obtain ⟨q1, q2⟩ := a6 t9 k9
    clear a5 a6 a7 b5 b6 b7 s3 s1
    simp only [va_up, zRn, qLay, x1, x2, x3, x4, x5, x6, x7, x8, x9, x10, x11, x12, x13, x14, x15, x16, x17, x18, x19, x20, x21, x22, x23, x24, x25, x26, x27, x28, x29, x30, k9, if_true, if_false]
    all_goals clear x1 x2 x3 x4 x5 x6 x7 x8 x9 x10 x11 x12 x13 x14 x15 x16 x17 x18 x19 x20 x21 x22 x23 x24 x25 x26 x27 x28 x29 x30
    all_goals (repeat' apply And.intro)
    all_goals (repeat' (first | assumption | rfl | split | omega))
    all_goals (repeat' apply And.intro)
    all_goals first | rfl | assumption | (simp only [va_up]; (repeat' (first | omega | split)) <;> first | rfl | assumption) | (intro hh; exact absurd hh (by decide)) | (intro hh; repeat' apply And.intro) 
    all_goals first | rfl | assumption | (simp only [va_up]; (repeat' (first | omega | split)) <;> first | rfl | assumption) | (simp_all; done)
  · skip
    obtain ⟨q1, q2⟩ := a7 a9 h9 t9 k9
    clear a5 a6 a7 b5 b6 b7 s3 s1
    simp only [va_up, zRn, qLay, x1, x2, x3, x4, x5, x6, x7, x8, x9, x10, x11, x12, x13, x14, x15, x16, x17, x18, x19, x20, x21, x22, x23, x24, x25, x26, x27, x28, x29, x30, h9, k9, if_true, if_false]
    all_goals clear x1 x2 x3 x4 x5 x6 x7 x8 x9 x10 x11 x12 x13 x14 x15 x16 x17 x18 x19 x20 x21 x22 x23 x24 x25 x26 x27 x28 x29 x30
    all_goals (repeat' apply And.intro)
    all_goals (repeat' (first | assumption | rfl | split | omega))
    all_goals (repeat' apply And.intro)
    all_goals first | rfl | assumption | (simp only [va_up]; (repeat' (first | omega | split)) <;> first | rfl | assumption) | (intro hh; exact absurd hh (by decide)) | (intro hh; repeat' apply And.intro) 
    all_goals first | rfl | assumption | (simp only [va_up]; (repeat' (first | omega | split)) <;> first | rfl | assumption) | (simp_all; done)
  · skip
    clear a5 a6 a7 b5 b6 b7 s3 s1
    simp only [va_up, zRn, qLay, x1, x2, x3, x4, x5, x6, x7, x8, x9, x10, x11, x12, x13, x14, x15, x16, x17, x18, x19, x20, x21, x22, x23, x24, x25, x26, x27, x28, x29, x30, if_true, if_false]
    all_goals clear x1 x2 x3 x4 x5 x6 x7 x8 x9 x10 x11 x12 x13 x14 x15 x16 x17 x18 x19 x20 x21 x22 x23 x24 x25 x26 x27 x28 x29 x30
    all_goals (repeat' apply And.intro)
    all_goals (repeat' (first | assumption | rfl | split | omega))
    all_goals (repeat' apply And.intro)
    all_goals first | rfl | assumption | (simp only [va_up]; (repeat' (first | omega | split)) <;> first | rfl | assumption) | (intro hh; exact absurd hh (by decide)) | (intro hh; repeat' apply And.intro) 
    all_goals first | rfl | assumption | (simp only [va_up]; (repeat' (first | omega | split)) <;> first | rfl | assumption) | (simp_all; done)
  · skip
    clear a5 a6 a7 b5 b6 b7 s3 s1
    simp only [va_up, zRn, qLay, x1, x2, x3, x4, x5, x6, x7, x8, x9, x10, x11, x12, x13, x14, x15, x16, x17, x18, x19, x20, x21, x22, x23, x24, x25, x26, x27, x28, x29, x30, if_true, if_false]
    all_goals clear x1 x2 x3 x4 x5 x6 x7 x8 x9 x10 x11 x12 x13 x14 x15 x16 x17 x18 x19 x20 x21 x22 x23 x24 x25 x26 x27 x28 x29 x30
    all_goals (repeat' apply And.intro)
    all_goals (repeat' (first | assumption | rfl | split | omega))
    all_goals (repeat' apply And.intro)
    all_goals first | rfl | assumption | (simp only [va_up]; (repeat' (first | omega | split)) <;> first | rfl | assumption) | (intro hh; exact absurd hh (by decide)) | (intro hh; repeat' apply And.intro) 
    all_goals first | rfl | assumption | (simp only [va_up]; (repeat' (first | omega | split)) <;> first | rfl | assumption) | (simp_all; done)
  · skip
    clear a5 a6 a7 b5 b6 b7 s3 s1
    simp only [va_up, zRn, qLay, x1, x2, x3, x4, x5, x6, x7, x8, x9, x10, x11, x12, x13, x14, x15, x16, x17, x18, x19, x20, x21, x22, x23, x24, x25, x26, x27, x28, x29, x30, if_true, if_false]
    all_goals clear x1 x2 x3 x4 x5 x6 x7 x8 x9 x10 x11 x12 x13 x14 x15 x16 x17 x18 x19 x20 x21 x22 x23 x24 x25 x26 x27 x28 x29 x30
    all_goals (repeat' apply And.intro)
    all_goals (repeat' (first | assumption | rfl | split | omega))
    all_goals (repeat' apply And.intro)
    all_goals first | rfl | assumption | (simp only [va_up]; (repeat' (first | omega | split)) <;> first | rfl | assumption) | (intro hh; exact absurd hh (by decide)) | (intro hh; repeat' apply And.intro) 
    all_goals first | rfl | assumption | (simp only [va_up]; (repeat' (first | omega | split)) <;> first | rfl | assumption) | (simp_all; done)
  · skip
    clear a5 a6 a7 b5 b6 b7 s3 s1
    simp only [va_up, zRn, qLay, x1, x2, x3, x4, x5, x6, x7, x8, x9, x10, x11, x12, x13, x14, x15, x16, x17, x18, x19, x20, x21, x22, x23, x24, x25, x26, x27, x28, x29, x30, if_true, if_false]
    all_goals clear x1 x2 x3 x4 x5 x6 x7 x8 x9 x10 x11 x12 x13 x14 x15 x16 x17 x18 x19 x20 x21 x22 x23 x24 x25 x26 x27 x28 x29 x30
    all_goals (repeat' apply And.intro)
    all_goals (repeat' (first | assumption | rfl | split | omega))
    all_goals (repeat' apply And.intro)
    all_goals first | rfl | assumption | (simp only [va_up]; (repeat' (first | omega | split)) <;> first | rfl | assumption) | (intro hh; exact absurd hh (by decide)) | (intro hh; repeat' apply And.intro) 
    all_goals first | rfl | assumption | (simp only [va_up]; (repeat' (first | omega | split)) <;> first | rfl | assumption) | (simp_all; done)
  · skip
    clear a5 a6 a7 b5 b6 b7 s3 s1
    simp only [va_up, zRn, qLay, x1, x2, x3, x4, x5, x6, x7, x8, x9, x10, x11, x12, x13, x14, x15, x16, x17, x18, x19, x20, x21, x22, x23, x24, x25, x26, x27, x28, x29, x30, if_true, if_false]
    all_goals clear x1 x2 x3 x4 x5 x6 x7 x8 x9 x10 x11 x12 x13 x14 x15 x16 x17 x18 x19 x20 x21 x22 x23 x24 x25 x26 x27 x28 x29 x30
    all_goals (repeat' apply And.intro)
    all_goals (repeat' (first | assumption | rfl | split | omega))
    all_goals (repeat' apply And.intro)
    all_goals first | rfl | assumption | (simp only [va_up]; (repeat' (first | omega | split)) <;> first | rfl | assumption) | (intro hh; exact absurd hh (by decide)) | (intro hh; repeat' apply And.intro) 
    all_goals first | rfl | assumption | (simp only [va_up]; (repeat' (first | omega | split)) <;> first | rfl | assumption) | (simp_all; done)
  · rw [s3 a9 h9, qOn, qOn]
    clear a5 a6 a7 b5 b6 b7 s3 s1
    simp only [va_up, zRn, qLay, x1, x2, x3, x4, x5, x6, x7, x8, x9, x10, x11, x12, x13, x14, x15, x16, x17, x18, x19, x20, x21, x22, x23, x24, x25, x26, x27, x28, x29, x30, h9, if_true, if_false]
    all_goals clear x1 x2 x3 x4 x5 x6 x7 x8 x9 x10 x11 x12 x13 x14 x15 x16 x17 x18 x19 x20 x21 x22 x23 x24 x25 x26 x27 x28 x29 x30
    all_goals (repeat' apply And.intro)
    all_goals (repeat' (first | assumption | rfl | split | omega))
    all_goals (repeat' apply And.intro)
    all_goals first | rfl | assumption | (simp only [va_up]; (repeat' (first | omega | split)) <;> first | rfl | assumption) | (intro hh; exact absurd hh (by decide)) | (intro hh; repeat' apply And.intro) 
    all_goals first | rfl | assumption | (simp only [va_up]; (repeat' (first | omega | split)) <;> first | rfl | assumption) | (simp_all; done)
  · skip
    obtain ⟨q1, q2, q3, q4, q5⟩ := b5 a9 h9
    clear a5 a6 a7 b5 b6 b7 s3 s1
    simp only [va_up, zRn, qLay, x1, x2, x3, x4, x5, x6, x7, x8, x9, x10, x11, x12, x13, x14, x15, x16, x17, x18, x19, x20, x21, x22, x23, x24, x25, x26, x27, x28, x29, x30, h9, if_true, if_false]
    all_goals clear x1 x2 x3 x4 x5 x6 x7 x8 x9 x10 x11 x12 x13 x14 x15 x16 x17 x18 x19 x20 x21 x22 x23 x24 x25 x26 x27 x28 x29 x30
    all_goals (repeat' apply And.intro)
    all_goals (repeat' (first | assumption | rfl | split | omega))
    all_goals (repeat' apply And.intro)
    all_goals first | rfl | assumption | (simp only [va_up]; (repeat' (first | omega | split)) <;> first | rfl | assumption) | (intro hh; exact absurd hh (by decide)) | (intro hh; repeat' apply And.intro) 
    all_goals first | rfl | assumption | (simp only [va_up]; (repeat' (first | omega | split)) <;> first | rfl | assumption) | (simp_all; done)
  · skip
    obtain ⟨q1, q2, q3, q4⟩ := b6 t9 k9
    clear a5 a6 a7 b5 b6 b7 s3 s1
    simp only [va_up, zRn, qLay, x1, x2, x3, x4, x5, x6, x7, x8, x9, x10, x11, x12, x13, x14, x15, x16, x17, x18, x19, x20, x21, x22, x23, x24, x25, x26, x27, x28, x29, x30, k9, if_true, if_false]
    all_goals clear x1 x2 x3 x4 x5 x6 x7 x8 x9 x10 x11 x12 x13 x14 x15 x16 x17 x18 x19 x20 x21 x22 x23 x24 x25 x26 x27 x28 x29 x30
    all_goals (repeat' apply And.intro)
    all_goals (repeat' (first | assumption | rfl | split | omega))
    all_goals (repeat' apply And.intro)
    all_goals first | rfl | assumption | (simp only [va_up]; (repeat' (first | omega | split)) <;> first | rfl | assumption) | (intro hh; exact absurd hh (by decide)) | (intro hh; repeat' apply And.intro) 
    all_goals first | rfl | assumption | (simp only [va_up]; (repeat' (first | omega | split)) <;> first | rfl | assumption) | (simp_all; done)
  · skip
    obtain ⟨q1, q2⟩ := b7 a9 h9 t9 k9
    clear a5 a6 a7 b5 b6 b7 s3 s1
    simp only [va_up, zRn, qLay, x1, x2, x3, x4, x5, x6, x7, x8, x9, x10, x11, x12, x13, x14, x15, x16, x17, x18, x19, x20, x21, x22, x23, x24, x25, x26, x27, x28, x29, x30, h9, k9, if_true, if_false]
    all_goals clear x1 x2 x3 x4 x5 x6 x7 x8 x9 x10 x11 x12 x13 x14 x15 x16 x17 x18 x19 x20 x21 x22 x23 x24 x25 x26 x27 x28 x29 x30
    all_goals (repeat' apply And.intro)
    all_goals (repeat' (first | assumption | rfl | split | omega))
    all_goals (repeat' apply And.intro)
    all_goals first | rfl | assumption | (simp only [va_up]; (repeat' (first | omega | split)) <;> first | rfl | assumption) | (intro hh; exact absurd hh (by decide)) | (intro hh; repeat' apply And.intro) 
    all_goals first | rfl | assumption | (simp only [va_up]; (repeat' (first | omega | split)) <;> first | rfl | assumption) | (simp_all; done)
set_option maxRecDepth 100000 in
set_option maxHeartbeats 4000000 in
theorem zR_lif {d : Nat → Nat → Int32} {o n K : Nat} {f : Nat → Int32} {v : Int32} (h : zR d o f n K) : zR (va_up d o (va_up (d o) 2 v)) o (va_up f 3 v) n K := by
  obtain ⟨⟨a1, a2, a3, a4, a5, a6, a7⟩, b0, b1, b2, b3, ⟨S, s1, s2, s3⟩, b5, b6, b7⟩ := h
  have x1 : (o + 1 = o) = False := eq_false (by omega)
  have x2 : (o + 2 = o) = False := eq_false (by omega)
  have x3 : (o + 3 = o) = False := eq_false (by omega)
  have x4 : (o + 4 = o) = False := eq_false (by omega)
  have x5 : (o + 5 = o) = False := eq_false (by omega)
  have x6 : (o + 6 = o) = False := eq_false (by omega)
  have x7 : (o + 7 = o) = False := eq_false (by omega)
  have x8 : (o + 8 = o) = False := eq_false (by omega)
  have x9 : (o + 9 = o) = False := eq_false (by omega)
  have x10 : (o + 10 + 1 = o) = False := eq_false (by omega)
  have x11 : (o + 10 + 2 = o) = False := eq_false (by omega)
  have x12 : (o + 10 + 3 = o) = False := eq_false (by omega)
  have x13 : (o + 10 + 4 = o) = False := eq_false (by omega)
  have x14 : (0 = 3) = False := eq_false (by omega)
  have x15 : (1 = 3) = False := eq_false (by omega)
  have x16 : (2 = 3) = False := eq_false (by omega)
  have x17 : ∀ z, (4 + 6 * z = 3) = False := fun z => eq_false (by omega)
  have x18 : ∀ z, (4 + 6 * z + 1 = 3) = False := fun z => eq_false (by omega)
  have x19 : ∀ z, (4 + 6 * z + 2 = 3) = False := fun z => eq_false (by omega)
  have x20 : ∀ z, (4 + 6 * z + 3 = 3) = False := fun z => eq_false (by omega)
  have x21 : ∀ z, (4 + 6 * z + 4 = 3) = False := fun z => eq_false (by omega)
  have x22 : ∀ z, (4 + 6 * z + 5 = 3) = False := fun z => eq_false (by omega)
  have x23 : ∀ z, (40 + 4 * z = 3) = False := fun z => eq_false (by omega)
  have x24 : ∀ z, (40 + 4 * z + 1 = 3) = False := fun z => eq_false (by omega)
  have x25 : ∀ z, (40 + 4 * z + 2 = 3) = False := fun z => eq_false (by omega)
  have x26 : ∀ z, (40 + 4 * z + 3 = 3) = False := fun z => eq_false (by omega)
  have x27 : ∀ z, (72 + 4 * z = 3) = False := fun z => eq_false (by omega)
  have x28 : ∀ z, (72 + 4 * z + 1 = 3) = False := fun z => eq_false (by omega)
  have x29 : ∀ z, (72 + 4 * z + 2 = 3) = False := fun z => eq_false (by omega)
  have x30 : ∀ z, (72 + 4 * z + 3 = 3) = False := fun z => eq_false (by omega)
  refine ⟨⟨a1, a2, ?_, ?_, fun a9 h9 => ?_, fun t9 k9 => ?_, fun a9 h9 t9 k9 => ?_⟩, ?_, ?_, ?_, ?_, ⟨S, s1, ?_, fun a9 h9 => ?_⟩, fun a9 h9 => ?_, fun t9 k9 => ?_, fun a9 h9 t9 k9 => ?_⟩
  · skip
    clear a5 a6 a7 b5 b6 b7 s3 s1
    simp only [va_up, zRn, qLay, x1, x2, x3, x4, x5, x6, x7, x8, x9, x10, x11, x12, x13, x14, x15, x16, x17, x18, x19, x20, x21, x22, x23, x24, x25, x26, x27, x28, x29, x30, if_true, if_false]
    all_goals clear x1 x2 x3 x4 x5 x6 x7 x8 x9 x10 x11 x12 x13 x14 x15 x16 x17 x18 x19 x20 x21 x22 x23 x24 x25 x26 x27 x28 x29 x30
    all_goals (repeat' apply And.intro)
    all_goals (repeat' (first | assumption | rfl | split | omega))
    all_goals (repeat' apply And.intro)
    all_goals first | rfl | assumption | (simp only [va_up]; (repeat' (first | omega | split)) <;> first | rfl | assumption) | (intro hh; exact absurd hh (by decide)) | (intro hh; repeat' apply And.intro) 
    all_goals first | rfl | assumption | (simp only [va_up]; (repeat' (first | omega | split)) <;> first | rfl | assumption) | (simp_all; done)
  · skip
    clear a5 a6 a7 b5 b6 b7 s3 s1
    simp only [va_up, zRn, qLay, x1, x2, x3, x4, x5, x6, x7, x8, x9, x10, x11, x12, x13, x14, x15, x16, x17, x18, x19, x20, x21, x22, x23, x24, x25, x26, x27, x28, x29, x30, if_true, if_false]
    all_goals clear x1 x2 x3 x4 x5 x6 x7 x8 x9 x10 x11 x12 x13 x14 x15 x16 x17 x18 x19 x20 x21 x22 x23 x24 x25 x26 x27 x28 x29 x30
    all_goals (repeat' apply And.intro)
    all_goals (repeat' (first | assumption | rfl | split | omega))
    all_goals (repeat' apply And.intro)
    all_goals first | rfl | assumption | (simp only [va_up]; (repeat' (first | omega | split)) <;> first | rfl | assumption) | (intro hh; exact absurd hh (by decide)) | (intro hh; repeat' apply And.intro) 
    all_goals first | rfl | assumption | (simp only [va_up]; (repeat' (first | omega | split)) <;> first | rfl | assumption) | (simp_all; done)
  · skip
    obtain ⟨q1, q2, q3, q4⟩ := a5 a9 h9
    clear a5 a6 a7 b5 b6 b7 s3 s1
    simp only [va_up, zRn, qLay, x1, x2, x3, x4, x5, x6, x7, x8, x9, x10, x11, x12, x13, x14, x15, x16, x17, x18, x19, x20, x21, x22, x23, x24, x25, x26, x27, x28, x29, x30, h9, if_true, if_false]
    all_goals clear x1 x2 x3 x4 x5 x6 x7 x8 x9 x10 x11 x12 x13 x14 x15 x16 x17 x18 x19 x20 x21 x22 x23 x24 x25 x26 x27 x28 x29 x30
    all_goals (repeat' apply And.intro)
    all_goals (repeat' (first | assumption | rfl | split | omega))
    all_goals (repeat' apply And.intro)
    all_goals first | rfl | assumption | (simp only [va_up]; (repeat' (first | omega | split)) <;> first | rfl | assumption) | (intro hh; exact absurd hh (by decide)) | (intro hh; repeat' apply And.intro) 
    all_goals first | rfl | assumption | (simp only [va_up]; (repeat' (first | omega | split)) <;> first | rfl | assumption) | (simp_all; done)
  · skip
    obtain ⟨q1, q2⟩ := a6 t9 k9
    clear a5 a6 a7 b5 b6 b7 s3 s1
    simp only [va_up, zRn, qLay, x1, x2, x3, x4, x5, x6, x7, x8, x9, x10, x11, x12, x13, x14, x15, x16, x17, x18, x19, x20, x21, x22, x23, x24, x25, x26, x27, x28, x29, x30, k9, if_true, if_false]
    all_goals clear x1 x2 x3 x4 x5 x6 x7 x8 x9 x10 x11 x12 x13 x14 x15 x16 x17 x18 x19 x20 x21 x22 x23 x24 x25 x26 x27 x28 x29 x30
    all_goals (repeat' apply And.intro)
    all_goals (repeat' (first | assumption | rfl | split | omega))
    all_goals (repeat' apply And.intro)
    all_goals first | rfl | assumption | (simp only [va_up]; (repeat' (first | omega | split)) <;> first | rfl | assumption) | (intro hh; exact absurd hh (by decide)) | (intro hh; repeat' apply And.intro) 
    all_goals first | rfl | assumption | (simp only [va_up]; (repeat' (first | omega | split)) <;> first | rfl | assumption) | (simp_all; done)
  · skip
    obtain ⟨q1, q2⟩ := a7 a9 h9 t9 k9
    clear a5 a6 a7 b5 b6 b7 s3 s1
    simp only [va_up, zRn, qLay, x1, x2, x3, x4, x5, x6, x7, x8, x9, x10, x11, x12, x13, x14, x15, x16, x17, x18, x19, x20, x21, x22, x23, x24, x25, x26, x27, x28, x29, x30, h9, k9, if_true, if_false]
    all_goals clear x1 x2 x3 x4 x5 x6 x7 x8 x9 x10 x11 x12 x13 x14 x15 x16 x17 x18 x19 x20 x21 x22 x23 x24 x25 x26 x27 x28 x29 x30
    all_goals (repeat' apply And.intro)
    all_goals (repeat' (first | assumption | rfl | split | omega))
    all_goals (repeat' apply And.intro)
    all_goals first | rfl | assumption | (simp only [va_up]; (repeat' (first | omega | split)) <;> first | rfl | assumption) | (intro hh; exact absurd hh (by decide)) | (intro hh; repeat' apply And.intro) 
    all_goals first | rfl | assumption | (simp only [va_up]; (repeat' (first | omega | split)) <;> first | rfl | assumption) | (simp_all; done)
  · skip
    clear a5 a6 a7 b5 b6 b7 s3 s1
    simp only [va_up, zRn, qLay, x1, x2, x3, x4, x5, x6, x7, x8, x9, x10, x11, x12, x13, x14, x15, x16, x17, x18, x19, x20, x21, x22, x23, x24, x25, x26, x27, x28, x29, x30, if_true, if_false]
    all_goals clear x1 x2 x3 x4 x5 x6 x7 x8 x9 x10 x11 x12 x13 x14 x15 x16 x17 x18 x19 x20 x21 x22 x23 x24 x25 x26 x27 x28 x29 x30
    all_goals (repeat' apply And.intro)
    all_goals (repeat' (first | assumption | rfl | split | omega))
    all_goals (repeat' apply And.intro)
    all_goals first | rfl | assumption | (simp only [va_up]; (repeat' (first | omega | split)) <;> first | rfl | assumption) | (intro hh; exact absurd hh (by decide)) | (intro hh; repeat' apply And.intro) 
    all_goals first | rfl | assumption | (simp only [va_up]; (repeat' (first | omega | split)) <;> first | rfl | assumption) | (simp_all; done)
  · skip
    clear a5 a6 a7 b5 b6 b7 s3 s1
    simp only [va_up, zRn, qLay, x1, x2, x3, x4, x5, x6, x7, x8, x9, x10, x11, x12, x13, x14, x15, x16, x17, x18, x19, x20, x21, x22, x23, x24, x25, x26, x27, x28, x29, x30, if_true, if_false]
    all_goals clear x1 x2 x3 x4 x5 x6 x7 x8 x9 x10 x11 x12 x13 x14 x15 x16 x17 x18 x19 x20 x21 x22 x23 x24 x25 x26 x27 x28 x29 x30
    all_goals (repeat' apply And.intro)
    all_goals (repeat' (first | assumption | rfl | split | omega))
    all_goals (repeat' apply And.intro)
    all_goals first | rfl | assumption | (simp only [va_up]; (repeat' (first | omega | split)) <;> first | rfl | assumption) | (intro hh; exact absurd hh (by decide)) | (intro hh; repeat' apply And.intro) 
    all_goals first | rfl | assumption | (simp only [va_up]; (repeat' (first | omega | split)) <;> first | rfl | assumption) | (simp_all; done)
  · skip
    clear a5 a6 a7 b5 b6 b7 s3 s1
    simp only [va_up, zRn, qLay, x1, x2, x3, x4, x5, x6, x7, x8, x9, x10, x11, x12, x13, x14, x15, x16, x17, x18, x19, x20, x21, x22, x23, x24, x25, x26, x27, x28, x29, x30, if_true, if_false]
    all_goals clear x1 x2 x3 x4 x5 x6 x7 x8 x9 x10 x11 x12 x13 x14 x15 x16 x17 x18 x19 x20 x21 x22 x23 x24 x25 x26 x27 x28 x29 x30
    all_goals (repeat' apply And.intro)
    all_goals (repeat' (first | assumption | rfl | split | omega))
    all_goals (repeat' apply And.intro)
    all_goals first | rfl | assumption | (simp only [va_up]; (repeat' (first | omega | split)) <;> first | rfl | assumption) | (intro hh; exact absurd hh (by decide)) | (intro hh; repeat' apply And.intro) 
    all_goals first | rfl | assumption | (simp only [va_up]; (repeat' (first | omega | split)) <;> first | rfl | assumption) | (simp_all; done)
  · skip
    clear a5 a6 a7 b5 b6 b7 s3 s1
    simp only [va_up, zRn, qLay, x1, x2, x3, x4, x5, x6, x7, x8, x9, x10, x11, x12, x13, x14, x15, x16, x17, x18, x19, x20, x21, x22, x23, x24, x25, x26, x27, x28, x29, x30, if_true, if_false]
    all_goals clear x1 x2 x3 x4 x5 x6 x7 x8 x9 x10 x11 x12 x13 x14 x15 x16 x17 x18 x19 x20 x21 x22 x23 x24 x25 x26 x27 x28 x29 x30
    all_goals (repeat' apply And.intro)
    all_goals (repeat' (first | assumption | rfl | split | omega))
    all_goals (repeat' apply And.intro)
    all_goals first | rfl | assumption | (simp only [va_up]; (repeat' (first | omega | split)) <;> first | rfl | assumption) | (intro hh; exact absurd hh (by decide)) | (intro hh; repeat' apply And.intro) 
    all_goals first | rfl | assumption | (simp only [va_up]; (repeat' (first | omega | split)) <;> first | rfl | assumption) | (simp_all; done)
  · skip
    clear a5 a6 a7 b5 b6 b7 s3 s1
    simp only [va_up, zRn, qLay, x1, x2, x3, x4, x5, x6, x7, x8, x9, x10, x11, x12, x13, x14, x15, x16, x17, x18, x19, x20, x21, x22, x23, x24, x25, x26, x27, x28, x29, x30, if_true, if_false]
    all_goals clear x1 x2 x3 x4 x5 x6 x7 x8 x9 x10 x11 x12 x13 x14 x15 x16 x17 x18 x19 x20 x21 x22 x23 x24 x25 x26 x27 x28 x29 x30
    all_goals (repeat' apply And.intro)
    all_goals (repeat' (first | assumption | rfl | split | omega))
    all_goals (repeat' apply And.intro)
    all_goals first | rfl | assumption | (simp only [va_up]; (repeat' (first | omega | split)) <;> first | rfl | assumption) | (intro hh; exact absurd hh (by decide)) | (intro hh; repeat' apply And.intro) 
    all_goals first | rfl | assumption | (simp only [va_up]; (repeat' (first | omega | split)) <;> first | rfl | assumption) | (simp_all; done)
  · rw [s3 a9 h9, qOn, qOn]
    clear a5 a6 a7 b5 b6 b7 s3 s1
    simp only [va_up, zRn, qLay, x1, x2, x3, x4, x5, x6, x7, x8, x9, x10, x11, x12, x13, x14, x15, x16, x17, x18, x19, x20, x21, x22, x23, x24, x25, x26, x27, x28, x29, x30, h9, if_true, if_false]
    all_goals clear x1 x2 x3 x4 x5 x6 x7 x8 x9 x10 x11 x12 x13 x14 x15 x16 x17 x18 x19 x20 x21 x22 x23 x24 x25 x26 x27 x28 x29 x30
    all_goals (repeat' apply And.intro)
    all_goals (repeat' (first | assumption | rfl | split | omega))
    all_goals (repeat' apply And.intro)
    all_goals first | rfl | assumption | (simp only [va_up]; (repeat' (first | omega | split)) <;> first | rfl | assumption) | (intro hh; exact absurd hh (by decide)) | (intro hh; repeat' apply And.intro) 
    all_goals first | rfl | assumption | (simp only [va_up]; (repeat' (first | omega | split)) <;> first | rfl | assumption) | (simp_all; done)
  · skip
    obtain ⟨q1, q2, q3, q4, q5⟩ := b5 a9 h9
    clear a5 a6 a7 b5 b6 b7 s3 s1
    simp only [va_up, zRn, qLay, x1, x2, x3, x4, x5, x6, x7, x8, x9, x10, x11, x12, x13, x14, x15, x16, x17, x18, x19, x20, x21, x22, x23, x24, x25, x26, x27, x28, x29, x30, h9, if_true, if_false]
    all_goals clear x1 x2 x3 x4 x5 x6 x7 x8 x9 x10 x11 x12 x13 x14 x15 x16 x17 x18 x19 x20 x21 x22 x23 x24 x25 x26 x27 x28 x29 x30
    all_goals (repeat' apply And.intro)
    all_goals (repeat' (first | assumption | rfl | split | omega))
    all_goals (repeat' apply And.intro)
    all_goals first | rfl | assumption | (simp only [va_up]; (repeat' (first | omega | split)) <;> first | rfl | assumption) | (intro hh; exact absurd hh (by decide)) | (intro hh; repeat' apply And.intro) 
    all_goals first | rfl | assumption | (simp only [va_up]; (repeat' (first | omega | split)) <;> first | rfl | assumption) | (simp_all; done)
  · skip
    obtain ⟨q1, q2, q3, q4⟩ := b6 t9 k9
    clear a5 a6 a7 b5 b6 b7 s3 s1
    simp only [va_up, zRn, qLay, x1, x2, x3, x4, x5, x6, x7, x8, x9, x10, x11, x12, x13, x14, x15, x16, x17, x18, x19, x20, x21, x22, x23, x24, x25, x26, x27, x28, x29, x30, k9, if_true, if_false]
    all_goals clear x1 x2 x3 x4 x5 x6 x7 x8 x9 x10 x11 x12 x13 x14 x15 x16 x17 x18 x19 x20 x21 x22 x23 x24 x25 x26 x27 x28 x29 x30
    all_goals (repeat' apply And.intro)
    all_goals (repeat' (first | assumption | rfl | split | omega))
    all_goals (repeat' apply And.intro)
    all_goals first | rfl | assumption | (simp only [va_up]; (repeat' (first | omega | split)) <;> first | rfl | assumption) | (intro hh; exact absurd hh (by decide)) | (intro hh; repeat' apply And.intro) 
    all_goals first | rfl | assumption | (simp only [va_up]; (repeat' (first | omega | split)) <;> first | rfl | assumption) | (simp_all; done)
  · skip
    obtain ⟨q1, q2⟩ := b7 a9 h9 t9 k9
    clear a5 a6 a7 b5 b6 b7 s3 s1
    simp only [va_up, zRn, qLay, x1, x2, x3, x4, x5, x6, x7, x8, x9, x10, x11, x12, x13, x14, x15, x16, x17, x18, x19, x20, x21, x22, x23, x24, x25, x26, x27, x28, x29, x30, h9, k9, if_true, if_false]
    all_goals clear x1 x2 x3 x4 x5 x6 x7 x8 x9 x10 x11 x12 x13 x14 x15 x16 x17 x18 x19 x20 x21 x22 x23 x24 x25 x26 x27 x28 x29 x30
    all_goals (repeat' apply And.intro)
    all_goals (repeat' (first | assumption | rfl | split | omega))
    all_goals (repeat' apply And.intro)
    all_goals first | rfl | assumption | (simp only [va_up]; (repeat' (first | omega | split)) <;> first | rfl | assumption) | (intro hh; exact absurd hh (by decide)) | (intro hh; repeat' apply And.intro) 
    all_goals first | rfl | assumption | (simp only [va_up]; (repeat' (first | omega | split)) <;> first | rfl | assumption) | (simp_all; done)
set_option maxRecDepth 100000 in
set_option maxHeartbeats 4000000 in
theorem zR_k0 {d : Nat → Nat → Int32} {o n K : Nat} {f : Nat → Int32} {a t : Nat} (ha : a < n) (ht : t < K) (h : zR d o f n K) : zR (va_up d (o + 10 + 1) (va_up (d (o + 10 + 1)) (8 * a + t) (nI 0))) o (qLay f (72 + 4 * (8 * a + t)) (nI 0) (nI 0) (nI 0) (nI 0)) n K := by
  obtain ⟨⟨a1, a2, a3, a4, a5, a6, a7⟩, b0, b1, b2, b3, ⟨S, s1, s2, s3⟩, b5, b6, b7⟩ := h
  have z0 : zPl (nI 0) 3 := ⟨0, by decide, rfl⟩
  have z1 : zPl (nI 1) 3 := ⟨1, by decide, rfl⟩
  have z2 : zPl (nI 2) 3 := ⟨2, by decide, rfl⟩
  have x1 : (o = o + 10 + 1) = False := eq_false (by omega)
  have x2 : (o + 1 = o + 10 + 1) = False := eq_false (by omega)
  have x3 : (o + 2 = o + 10 + 1) = False := eq_false (by omega)
  have x4 : (o + 3 = o + 10 + 1) = False := eq_false (by omega)
  have x5 : (o + 4 = o + 10 + 1) = False := eq_false (by omega)
  have x6 : (o + 5 = o + 10 + 1) = False := eq_false (by omega)
  have x7 : (o + 6 = o + 10 + 1) = False := eq_false (by omega)
  have x8 : (o + 7 = o + 10 + 1) = False := eq_false (by omega)
  have x9 : (o + 8 = o + 10 + 1) = False := eq_false (by omega)
  have x10 : (o + 9 = o + 10 + 1) = False := eq_false (by omega)
  have x11 : (o + 10 + 2 = o + 10 + 1) = False := eq_false (by omega)
  have x12 : (o + 10 + 3 = o + 10 + 1) = False := eq_false (by omega)
  have x13 : (o + 10 + 4 = o + 10 + 1) = False := eq_false (by omega)
  have x14 : (0 = 72 + 4 * (8 * a + t)) = False := eq_false (by omega)
  have x15 : (1 = 72 + 4 * (8 * a + t)) = False := eq_false (by omega)
  have x16 : (2 = 72 + 4 * (8 * a + t)) = False := eq_false (by omega)
  have x17 : (3 = 72 + 4 * (8 * a + t)) = False := eq_false (by omega)
  have x18 : ∀ z, z < n → (4 + 6 * z = 72 + 4 * (8 * a + t)) = False := fun z hz => eq_false (by omega)
  have x19 : ∀ z, z < n → (4 + 6 * z + 1 = 72 + 4 * (8 * a + t)) = False := fun z hz => eq_false (by omega)
  have x20 : ∀ z, z < n → (4 + 6 * z + 2 = 72 + 4 * (8 * a + t)) = False := fun z hz => eq_false (by omega)
  have x21 : ∀ z, z < n → (4 + 6 * z + 3 = 72 + 4 * (8 * a + t)) = False := fun z hz => eq_false (by omega)
  have x22 : ∀ z, z < n → (4 + 6 * z + 4 = 72 + 4 * (8 * a + t)) = False := fun z hz => eq_false (by omega)
  have x23 : ∀ z, z < n → (4 + 6 * z + 5 = 72 + 4 * (8 * a + t)) = False := fun z hz => eq_false (by omega)
  have x24 : ∀ z, z < K → (40 + 4 * z = 72 + 4 * (8 * a + t)) = False := fun z hz => eq_false (by omega)
  have x25 : ∀ z, z < K → (40 + 4 * z + 1 = 72 + 4 * (8 * a + t)) = False := fun z hz => eq_false (by omega)
  have x26 : ∀ z, z < K → (40 + 4 * z + 2 = 72 + 4 * (8 * a + t)) = False := fun z hz => eq_false (by omega)
  have x27 : ∀ z, z < K → (40 + 4 * z + 3 = 72 + 4 * (8 * a + t)) = False := fun z hz => eq_false (by omega)
  have x28 : ∀ z, (72 + 4 * z + 1 = 72 + 4 * (8 * a + t)) = False := fun z => eq_false (by omega)
  have x29 : ∀ z, (72 + 4 * z + 2 = 72 + 4 * (8 * a + t)) = False := fun z => eq_false (by omega)
  have x30 : ∀ z, (72 + 4 * z + 3 = 72 + 4 * (8 * a + t)) = False := fun z => eq_false (by omega)
  have x31 : (0 = 72 + 4 * (8 * a + t) + 1) = False := eq_false (by omega)
  have x32 : (1 = 72 + 4 * (8 * a + t) + 1) = False := eq_false (by omega)
  have x33 : (2 = 72 + 4 * (8 * a + t) + 1) = False := eq_false (by omega)
  have x34 : (3 = 72 + 4 * (8 * a + t) + 1) = False := eq_false (by omega)
  have x35 : ∀ z, z < n → (4 + 6 * z = 72 + 4 * (8 * a + t) + 1) = False := fun z hz => eq_false (by omega)
  have x36 : ∀ z, z < n → (4 + 6 * z + 1 = 72 + 4 * (8 * a + t) + 1) = False := fun z hz => eq_false (by omega)
  have x37 : ∀ z, z < n → (4 + 6 * z + 2 = 72 + 4 * (8 * a + t) + 1) = False := fun z hz => eq_false (by omega)
  have x38 : ∀ z, z < n → (4 + 6 * z + 3 = 72 + 4 * (8 * a + t) + 1) = False := fun z hz => eq_false (by omega)
  have x39 : ∀ z, z < n → (4 + 6 * z + 4 = 72 + 4 * (8 * a + t) + 1) = False := fun z hz => eq_false (by omega)
  have x40 : ∀ z, z < n → (4 + 6 * z + 5 = 72 + 4 * (8 * a + t) + 1) = False := fun z hz => eq_false (by omega)
  have x41 : ∀ z, z < K → (40 + 4 * z = 72 + 4 * (8 * a + t) + 1) = False := fun z hz => eq_false (by omega)
  have x42 : ∀ z, z < K → (40 + 4 * z + 1 = 72 + 4 * (8 * a + t) + 1) = False := fun z hz => eq_false (by omega)
  have x43 : ∀ z, z < K → (40 + 4 * z + 2 = 72 + 4 * (8 * a + t) + 1) = False := fun z hz => eq_false (by omega)
  have x44 : ∀ z, z < K → (40 + 4 * z + 3 = 72 + 4 * (8 * a + t) + 1) = False := fun z hz => eq_false (by omega)
  have x45 : ∀ z, (72 + 4 * z = 72 + 4 * (8 * a + t) + 1) = False := fun z => eq_false (by omega)
  have x46 : ∀ z, (72 + 4 * z + 2 = 72 + 4 * (8 * a + t) + 1) = False := fun z => eq_false (by omega)
  have x47 : ∀ z, (72 + 4 * z + 3 = 72 + 4 * (8 * a + t) + 1) = False := fun z => eq_false (by omega)
  have x48 : (0 = 72 + 4 * (8 * a + t) + 2) = False := eq_false (by omega)
  have x49 : (1 = 72 + 4 * (8 * a + t) + 2) = False := eq_false (by omega)
  have x50 : (2 = 72 + 4 * (8 * a + t) + 2) = False := eq_false (by omega)
  have x51 : (3 = 72 + 4 * (8 * a + t) + 2) = False := eq_false (by omega)
  have x52 : ∀ z, z < n → (4 + 6 * z = 72 + 4 * (8 * a + t) + 2) = False := fun z hz => eq_false (by omega)
  have x53 : ∀ z, z < n → (4 + 6 * z + 1 = 72 + 4 * (8 * a + t) + 2) = False := fun z hz => eq_false (by omega)
  have x54 : ∀ z, z < n → (4 + 6 * z + 2 = 72 + 4 * (8 * a + t) + 2) = False := fun z hz => eq_false (by omega)
  have x55 : ∀ z, z < n → (4 + 6 * z + 3 = 72 + 4 * (8 * a + t) + 2) = False := fun z hz => eq_false (by omega)
  have x56 : ∀ z, z < n → (4 + 6 * z + 4 = 72 + 4 * (8 * a + t) + 2) = False := fun z hz => eq_false (by omega)
  have x57 : ∀ z, z < n → (4 + 6 * z + 5 = 72 + 4 * (8 * a + t) + 2) = False := fun z hz => eq_false (by omega)
  have x58 : ∀ z, z < K → (40 + 4 * z = 72 + 4 * (8 * a + t) + 2) = False := fun z hz => eq_false (by omega)
  have x59 : ∀ z, z < K → (40 + 4 * z + 1 = 72 + 4 * (8 * a + t) + 2) = False := fun z hz => eq_false (by omega)
  have x60 : ∀ z, z < K → (40 + 4 * z + 2 = 72 + 4 * (8 * a + t) + 2) = False := fun z hz => eq_false (by omega)
  have x61 : ∀ z, z < K → (40 + 4 * z + 3 = 72 + 4 * (8 * a + t) + 2) = False := fun z hz => eq_false (by omega)
  have x62 : ∀ z, (72 + 4 * z = 72 + 4 * (8 * a + t) + 2) = False := fun z => eq_false (by omega)
  have x63 : ∀ z, (72 + 4 * z + 1 = 72 + 4 * (8 * a + t) + 2) = False := fun z => eq_false (by omega)
  have x64 : ∀ z, (72 + 4 * z + 3 = 72 + 4 * (8 * a + t) + 2) = False := fun z => eq_false (by omega)
  have x65 : (0 = 72 + 4 * (8 * a + t) + 3) = False := eq_false (by omega)
  have x66 : (1 = 72 + 4 * (8 * a + t) + 3) = False := eq_false (by omega)
  have x67 : (2 = 72 + 4 * (8 * a + t) + 3) = False := eq_false (by omega)
  have x68 : (3 = 72 + 4 * (8 * a + t) + 3) = False := eq_false (by omega)
  have x69 : ∀ z, z < n → (4 + 6 * z = 72 + 4 * (8 * a + t) + 3) = False := fun z hz => eq_false (by omega)
  have x70 : ∀ z, z < n → (4 + 6 * z + 1 = 72 + 4 * (8 * a + t) + 3) = False := fun z hz => eq_false (by omega)
  have x71 : ∀ z, z < n → (4 + 6 * z + 2 = 72 + 4 * (8 * a + t) + 3) = False := fun z hz => eq_false (by omega)
  have x72 : ∀ z, z < n → (4 + 6 * z + 3 = 72 + 4 * (8 * a + t) + 3) = False := fun z hz => eq_false (by omega)
  have x73 : ∀ z, z < n → (4 + 6 * z + 4 = 72 + 4 * (8 * a + t) + 3) = False := fun z hz => eq_false (by omega)
  have x74 : ∀ z, z < n → (4 + 6 * z + 5 = 72 + 4 * (8 * a + t) + 3) = False := fun z hz => eq_false (by omega)
  have x75 : ∀ z, z < K → (40 + 4 * z = 72 + 4 * (8 * a + t) + 3) = False := fun z hz => eq_false (by omega)
  have x76 : ∀ z, z < K → (40 + 4 * z + 1 = 72 + 4 * (8 * a + t) + 3) = False := fun z hz => eq_false (by omega)
  have x77 : ∀ z, z < K → (40 + 4 * z + 2 = 72 + 4 * (8 * a + t) + 3) = False := fun z hz => eq_false (by omega)
  have x78 : ∀ z, z < K → (40 + 4 * z + 3 = 72 + 4 * (8 * a + t) + 3) = False := fun z hz => eq_false (by omega)
  have x79 : ∀ z, (72 + 4 * z = 72 + 4 * (8 * a + t) + 3) = False := fun z => eq_false (by omega)
  have x80 : ∀ z, (72 + 4 * z + 1 = 72 + 4 * (8 * a + t) + 3) = False := fun z => eq_false (by omega)
  have x81 : ∀ z, (72 + 4 * z + 2 = 72 + 4 * (8 * a + t) + 3) = False := fun z => eq_false (by omega)
  refine ⟨⟨a1, a2, ?_, ?_, fun a9 h9 => ?_, fun t9 k9 => ?_, fun a9 h9 t9 k9 => ?_⟩, ?_, ?_, ?_, ?_, ⟨S, s1, ?_, fun a9 h9 => ?_⟩, fun a9 h9 => ?_, fun t9 k9 => ?_, fun a9 h9 t9 k9 => ?_⟩
  · skip
    clear a5 a6 a7 b5 b6 b7 s3 s1
    simp only [va_up, zRn, qLay, x1, x2, x3, x4, x5, x6, x7, x8, x9, x10, x11, x12, x13, x14, x15, x16, x17, x18, x19, x20, x21, x22, x23, x24, x25, x26, x27, x28, x29, x30, x31, x32, x33, x34, x35, x36, x37, x38, x39, x40, x41, x42, x43, x44, x45, x46, x47, x48, x49, x50, x51, x52, x53, x54, x55, x56, x57, x58, x59, x60, x61, x62, x63, x64, x65, x66, x67, x68, x69, x70, x71, x72, x73, x74, x75, x76, x77, x78, x79, x80, x81, if_true, if_false]
    all_goals clear x1 x2 x3 x4 x5 x6 x7 x8 x9 x10 x11 x12 x13 x14 x15 x16 x17 x18 x19 x20 x21 x22 x23 x24 x25 x26 x27 x28 x29 x30 x31 x32 x33 x34 x35 x36 x37 x38 x39 x40 x41 x42 x43 x44 x45 x46 x47 x48 x49 x50 x51 x52 x53 x54 x55 x56 x57 x58 x59 x60 x61 x62 x63 x64 x65 x66 x67 x68 x69 x70 x71 x72 x73 x74 x75 x76 x77 x78 x79 x80 x81
    all_goals (repeat' apply And.intro)
    all_goals (repeat' (first | assumption | rfl | split | omega))
    all_goals (repeat' apply And.intro)
    all_goals first | rfl | assumption | (simp only [va_up]; (repeat' (first | omega | split)) <;> first | rfl | assumption) | (intro hh; exact absurd hh (by decide)) | (intro hh; repeat' apply And.intro) 
    all_goals first | rfl | assumption | (simp only [va_up]; (repeat' (first | omega | split)) <;> first | rfl | assumption) | (simp_all; done)
  · skip
    clear a5 a6 a7 b5 b6 b7 s3 s1
    simp only [va_up, zRn, qLay, x1, x2, x3, x4, x5, x6, x7, x8, x9, x10, x11, x12, x13, x14, x15, x16, x17, x18, x19, x20, x21, x22, x23, x24, x25, x26, x27, x28, x29, x30, x31, x32, x33, x34, x35, x36, x37, x38, x39, x40, x41, x42, x43, x44, x45, x46, x47, x48, x49, x50, x51, x52, x53, x54, x55, x56, x57, x58, x59, x60, x61, x62, x63, x64, x65, x66, x67, x68, x69, x70, x71, x72, x73, x74, x75, x76, x77, x78, x79, x80, x81, if_true, if_false]
    all_goals clear x1 x2 x3 x4 x5 x6 x7 x8 x9 x10 x11 x12 x13 x14 x15 x16 x17 x18 x19 x20 x21 x22 x23 x24 x25 x26 x27 x28 x29 x30 x31 x32 x33 x34 x35 x36 x37 x38 x39 x40 x41 x42 x43 x44 x45 x46 x47 x48 x49 x50 x51 x52 x53 x54 x55 x56 x57 x58 x59 x60 x61 x62 x63 x64 x65 x66 x67 x68 x69 x70 x71 x72 x73 x74 x75 x76 x77 x78 x79 x80 x81
    all_goals (repeat' apply And.intro)
    all_goals (repeat' (first | assumption | rfl | split | omega))
    all_goals (repeat' apply And.intro)
    all_goals first | rfl | assumption | (simp only [va_up]; (repeat' (first | omega | split)) <;> first | rfl | assumption) | (intro hh; exact absurd hh (by decide)) | (intro hh; repeat' apply And.intro) 
    all_goals first | rfl | assumption | (simp only [va_up]; (repeat' (first | omega | split)) <;> first | rfl | assumption) | (simp_all; done)
  · skip
    obtain ⟨q1, q2, q3, q4⟩ := a5 a9 h9
    clear a5 a6 a7 b5 b6 b7 s3 s1
    simp only [va_up, zRn, qLay, x1, x2, x3, x4, x5, x6, x7, x8, x9, x10, x11, x12, x13, x14, x15, x16, x17, x18, x19, x20, x21, x22, x23, x24, x25, x26, x27, x28, x29, x30, x31, x32, x33, x34, x35, x36, x37, x38, x39, x40, x41, x42, x43, x44, x45, x46, x47, x48, x49, x50, x51, x52, x53, x54, x55, x56, x57, x58, x59, x60, x61, x62, x63, x64, x65, x66, x67, x68, x69, x70, x71, x72, x73, x74, x75, x76, x77, x78, x79, x80, x81, h9, if_true, if_false]
    all_goals clear x1 x2 x3 x4 x5 x6 x7 x8 x9 x10 x11 x12 x13 x14 x15 x16 x17 x18 x19 x20 x21 x22 x23 x24 x25 x26 x27 x28 x29 x30 x31 x32 x33 x34 x35 x36 x37 x38 x39 x40 x41 x42 x43 x44 x45 x46 x47 x48 x49 x50 x51 x52 x53 x54 x55 x56 x57 x58 x59 x60 x61 x62 x63 x64 x65 x66 x67 x68 x69 x70 x71 x72 x73 x74 x75 x76 x77 x78 x79 x80 x81
    all_goals (repeat' apply And.intro)
    all_goals (repeat' (first | assumption | rfl | split | omega))
    all_goals (repeat' apply And.intro)
    all_goals first | rfl | assumption | (simp only [va_up]; (repeat' (first | omega | split)) <;> first | rfl | assumption) | (intro hh; exact absurd hh (by decide)) | (intro hh; repeat' apply And.intro) 
    all_goals first | rfl | assumption | (simp only [va_up]; (repeat' (first | omega | split)) <;> first | rfl | assumption) | (simp_all; done)
  · skip
    obtain ⟨q1, q2⟩ := a6 t9 k9
    clear a5 a6 a7 b5 b6 b7 s3 s1
    simp only [va_up, zRn, qLay, x1, x2, x3, x4, x5, x6, x7, x8, x9, x10, x11, x12, x13, x14, x15, x16, x17, x18, x19, x20, x21, x22, x23, x24, x25, x26, x27, x28, x29, x30, x31, x32, x33, x34, x35, x36, x37, x38, x39, x40, x41, x42, x43, x44, x45, x46, x47, x48, x49, x50, x51, x52, x53, x54, x55, x56, x57, x58, x59, x60, x61, x62, x63, x64, x65, x66, x67, x68, x69, x70, x71, x72, x73, x74, x75, x76, x77, x78, x79, x80, x81, k9, if_true, if_false]
    all_goals clear x1 x2 x3 x4 x5 x6 x7 x8 x9 x10 x11 x12 x13 x14 x15 x16 x17 x18 x19 x20 x21 x22 x23 x24 x25 x26 x27 x28 x29 x30 x31 x32 x33 x34 x35 x36 x37 x38 x39 x40 x41 x42 x43 x44 x45 x46 x47 x48 x49 x50 x51 x52 x53 x54 x55 x56 x57 x58 x59 x60 x61 x62 x63 x64 x65 x66 x67 x68 x69 x70 x71 x72 x73 x74 x75 x76 x77 x78 x79 x80 x81
    all_goals (repeat' apply And.intro)
    all_goals (repeat' (first | assumption | rfl | split | omega))
    all_goals (repeat' apply And.intro)
    all_goals first | rfl | assumption | (simp only [va_up]; (repeat' (first | omega | split)) <;> first | rfl | assumption) | (intro hh; exact absurd hh (by decide)) | (intro hh; repeat' apply And.intro) 
    all_goals first | rfl | assumption | (simp only [va_up]; (repeat' (first | omega | split)) <;> first | rfl | assumption) | (simp_all; done)
  · skip
    obtain ⟨q1, q2⟩ := a7 a9 h9 t9 k9
    clear a5 a6 a7 b5 b6 b7 s3 s1
    simp only [va_up, zRn, qLay, x1, x2, x3, x4, x5, x6, x7, x8, x9, x10, x11, x12, x13, x14, x15, x16, x17, x18, x19, x20, x21, x22, x23, x24, x25, x26, x27, x28, x29, x30, x31, x32, x33, x34, x35, x36, x37, x38, x39, x40, x41, x42, x43, x44, x45, x46, x47, x48, x49, x50, x51, x52, x53, x54, x55, x56, x57, x58, x59, x60, x61, x62, x63, x64, x65, x66, x67, x68, x69, x70, x71, x72, x73, x74, x75, x76, x77, x78, x79, x80, x81, h9, k9, if_true, if_false]
    all_goals clear x1 x2 x3 x4 x5 x6 x7 x8 x9 x10 x11 x12 x13 x14 x15 x16 x17 x18 x19 x20 x21 x22 x23 x24 x25 x26 x27 x28 x29 x30 x31 x32 x33 x34 x35 x36 x37 x38 x39 x40 x41 x42 x43 x44 x45 x46 x47 x48 x49 x50 x51 x52 x53 x54 x55 x56 x57 x58 x59 x60 x61 x62 x63 x64 x65 x66 x67 x68 x69 x70 x71 x72 x73 x74 x75 x76 x77 x78 x79 x80 x81
    all_goals (repeat' apply And.intro)
    all_goals (repeat' (first | assumption | rfl | split | omega))
    all_goals (repeat' apply And.intro)
    all_goals first | rfl | assumption | (simp only [va_up]; (repeat' (first | omega | split)) <;> first | rfl | assumption) | (intro hh; exact absurd hh (by decide)) | (intro hh; repeat' apply And.intro) 
    all_goals first | rfl | assumption | (simp only [va_up]; (repeat' (first | omega | split)) <;> first | rfl | assumption) | (simp_all; done)
  · skip
    clear a5 a6 a7 b5 b6 b7 s3 s1
    simp only [va_up, zRn, qLay, x1, x2, x3, x4, x5, x6, x7, x8, x9, x10, x11, x12, x13, x14, x15, x16, x17, x18, x19, x20, x21, x22, x23, x24, x25, x26, x27, x28, x29, x30, x31, x32, x33, x34, x35, x36, x37, x38, x39, x40, x41, x42, x43, x44, x45, x46, x47, x48, x49, x50, x51, x52, x53, x54, x55, x56, x57, x58, x59, x60, x61, x62, x63, x64, x65, x66, x67, x68, x69, x70, x71, x72, x73, x74, x75, x76, x77, x78, x79, x80, x81, if_true, if_false]
    all_goals clear x1 x2 x3 x4 x5 x6 x7 x8 x9 x10 x11 x12 x13 x14 x15 x16 x17 x18 x19 x20 x21 x22 x23 x24 x25 x26 x27 x28 x29 x30 x31 x32 x33 x34 x35 x36 x37 x38 x39 x40 x41 x42 x43 x44 x45 x46 x47 x48 x49 x50 x51 x52 x53 x54 x55 x56 x57 x58 x59 x60 x61 x62 x63 x64 x65 x66 x67 x68 x69 x70 x71 x72 x73 x74 x75 x76 x77 x78 x79 x80 x81
    all_goals (repeat' apply And.intro)
    all_goals (repeat' (first | assumption | rfl | split | omega))
    all_goals (repeat' apply And.intro)
    all_goals first | rfl | assumption | (simp only [va_up]; (repeat' (first | omega | split)) <;> first | rfl | assumption) | (intro hh; exact absurd hh (by decide)) | (intro hh; repeat' apply And.intro) 
    all_goals first | rfl | assumption | (simp only [va_up]; (repeat' (first | omega | split)) <;> first | rfl | assumption) | (simp_all; done)
  · skip
    clear a5 a6 a7 b5 b6 b7 s3 s1
    simp only [va_up, zRn, qLay, x1, x2, x3, x4, x5, x6, x7, x8, x9, x10, x11, x12, x13, x14, x15, x16, x17, x18, x19, x20, x21, x22, x23, x24, x25, x26, x27, x28, x29, x30, x31, x32, x33, x34, x35, x36, x37, x38, x39, x40, x41, x42, x43, x44, x45, x46, x47, x48, x49, x50, x51, x52, x53, x54, x55, x56, x57, x58, x59, x60, x61, x62, x63, x64, x65, x66, x67, x68, x69, x70, x71, x72, x73, x74, x75, x76, x77, x78, x79, x80, x81, if_true, if_false]
    all_goals clear x1 x2 x3 x4 x5 x6 x7 x8 x9 x10 x11 x12 x13 x14 x15 x16 x17 x18 x19 x20 x21 x22 x23 x24 x25 x26 x27 x28 x29 x30 x31 x32 x33 x34 x35 x36 x37 x38 x39 x40 x41 x42 x43 x44 x45 x46 x47 x48 x49 x50 x51 x52 x53 x54 x55 x56 x57 x58 x59 x60 x61 x62 x63 x64 x65 x66 x67 x68 x69 x70 x71 x72 x73 x74 x75 x76 x77 x78 x79 x80 x81
    all_goals (repeat' apply And.intro)
    all_goals (repeat' (first | assumption | rfl | split | omega))
    all_goals (repeat' apply And.intro)
    all_goals first | rfl | assumption | (simp only [va_up]; (repeat' (first | omega | split)) <;> first | rfl | assumption) | (intro hh; exact absurd hh (by decide)) | (intro hh; repeat' apply And.intro) 
    all_goals first | rfl | assumption | (simp only [va_up]; (repeat' (first | omega | split)) <;> first | rfl | assumption) | (simp_all; done)
  · skip
    clear a5 a6 a7 b5 b6 b7 s3 s1
    simp only [va_up, zRn, qLay, x1, x2, x3, x4, x5, x6, x7, x8, x9, x10, x11, x12, x13, x14, x15, x16, x17, x18, x19, x20, x21, x22, x23, x24, x25, x26, x27, x28, x29, x30, x31, x32, x33, x34, x35, x36, x37, x38, x39, x40, x41, x42, x43, x44, x45, x46, x47, x48, x49, x50, x51, x52, x53, x54, x55, x56, x57, x58, x59, x60, x61, x62, x63, x64, x65, x66, x67, x68, x69, x70, x71, x72, x73, x74, x75, x76, x77, x78, x79, x80, x81, if_true, if_false]
    all_goals clear x1 x2 x3 x4 x5 x6 x7 x8 x9 x10 x11 x12 x13 x14 x15 x16 x17 x18 x19 x20 x21 x22 x23 x24 x25 x26 x27 x28 x29 x30 x31 x32 x33 x34 x35 x36 x37 x38 x39 x40 x41 x42 x43 x44 x45 x46 x47 x48 x49 x50 x51 x52 x53 x54 x55 x56 x57 x58 x59 x60 x61 x62 x63 x64 x65 x66 x67 x68 x69 x70 x71 x72 x73 x74 x75 x76 x77 x78 x79 x80 x81
    all_goals (repeat' apply And.intro)
    all_goals (repeat' (first | assumption | rfl | split | omega))
    all_goals (repeat' apply And.intro)
    all_goals first | rfl | assumption | (simp only [va_up]; (repeat' (first | omega | split)) <;> first | rfl | assumption) | (intro hh; exact absurd hh (by decide)) | (intro hh; repeat' apply And.intro) 
    all_goals first | rfl | assumption | (simp only [va_up]; (repeat' (first | omega | split)) <;> first | rfl | assumption) | (simp_all; done)
  · skip
    clear a5 a6 a7 b5 b6 b7 s3 s1
    simp only [va_up, zRn, qLay, x1, x2, x3, x4, x5, x6, x7, x8, x9, x10, x11, x12, x13, x14, x15, x16, x17, x18, x19, x20, x21, x22, x23, x24, x25, x26, x27, x28, x29, x30, x31, x32, x33, x34, x35, x36, x37, x38, x39, x40, x41, x42, x43, x44, x45, x46, x47, x48, x49, x50, x51, x52, x53, x54, x55, x56, x57, x58, x59, x60, x61, x62, x63, x64, x65, x66, x67, x68, x69, x70, x71, x72, x73, x74, x75, x76, x77, x78, x79, x80, x81, if_true, if_false]
    all_goals clear x1 x2 x3 x4 x5 x6 x7 x8 x9 x10 x11 x12 x13 x14 x15 x16 x17 x18 x19 x20 x21 x22 x23 x24 x25 x26 x27 x28 x29 x30 x31 x32 x33 x34 x35 x36 x37 x38 x39 x40 x41 x42 x43 x44 x45 x46 x47 x48 x49 x50 x51 x52 x53 x54 x55 x56 x57 x58 x59 x60 x61 x62 x63 x64 x65 x66 x67 x68 x69 x70 x71 x72 x73 x74 x75 x76 x77 x78 x79 x80 x81
    all_goals (repeat' apply And.intro)
    all_goals (repeat' (first | assumption | rfl | split | omega))
    all_goals (repeat' apply And.intro)
    all_goals first | rfl | assumption | (simp only [va_up]; (repeat' (first | omega | split)) <;> first | rfl | assumption) | (intro hh; exact absurd hh (by decide)) | (intro hh; repeat' apply And.intro) 
    all_goals first | rfl | assumption | (simp only [va_up]; (repeat' (first | omega | split)) <;> first | rfl | assumption) | (simp_all; done)
  · skip
    clear a5 a6 a7 b5 b6 b7 s3 s1
    simp only [va_up, zRn, qLay, x1, x2, x3, x4, x5, x6, x7, x8, x9, x10, x11, x12, x13, x14, x15, x16, x17, x18, x19, x20, x21, x22, x23, x24, x25, x26, x27, x28, x29, x30, x31, x32, x33, x34, x35, x36, x37, x38, x39, x40, x41, x42, x43, x44, x45, x46, x47, x48, x49, x50, x51, x52, x53, x54, x55, x56, x57, x58, x59, x60, x61, x62, x63, x64, x65, x66, x67, x68, x69, x70, x71, x72, x73, x74, x75, x76, x77, x78, x79, x80, x81, if_true, if_false]
    all_goals clear x1 x2 x3 x4 x5 x6 x7 x8 x9 x10 x11 x12 x13 x14 x15 x16 x17 x18 x19 x20 x21 x22 x23 x24 x25 x26 x27 x28 x29 x30 x31 x32 x33 x34 x35 x36 x37 x38 x39 x40 x41 x42 x43 x44 x45 x46 x47 x48 x49 x50 x51 x52 x53 x54 x55 x56 x57 x58 x59 x60 x61 x62 x63 x64 x65 x66 x67 x68 x69 x70 x71 x72 x73 x74 x75 x76 x77 x78 x79 x80 x81
    all_goals (repeat' apply And.intro)
    all_goals (repeat' (first | assumption | rfl | split | omega))
    all_goals (repeat' apply And.intro)
    all_goals first | rfl | assumption | (simp only [va_up]; (repeat' (first | omega | split)) <;> first | rfl | assumption) | (intro hh; exact absurd hh (by decide)) | (intro hh; repeat' apply And.intro) 
    all_goals first | rfl | assumption | (simp only [va_up]; (repeat' (first | omega | split)) <;> first | rfl | assumption) | (simp_all; done)
  · rw [s3 a9 h9, qOn, qOn]
    clear a5 a6 a7 b5 b6 b7 s3 s1
    simp only [va_up, zRn, qLay, x1, x2, x3, x4, x5, x6, x7, x8, x9, x10, x11, x12, x13, x14, x15, x16, x17, x18, x19, x20, x21, x22, x23, x24, x25, x26, x27, x28, x29, x30, x31, x32, x33, x34, x35, x36, x37, x38, x39, x40, x41, x42, x43, x44, x45, x46, x47, x48, x49, x50, x51, x52, x53, x54, x55, x56, x57, x58, x59, x60, x61, x62, x63, x64, x65, x66, x67, x68, x69, x70, x71, x72, x73, x74, x75, x76, x77, x78, x79, x80, x81, h9, if_true, if_false]
    all_goals clear x1 x2 x3 x4 x5 x6 x7 x8 x9 x10 x11 x12 x13 x14 x15 x16 x17 x18 x19 x20 x21 x22 x23 x24 x25 x26 x27 x28 x29 x30 x31 x32 x33 x34 x35 x36 x37 x38 x39 x40 x41 x42 x43 x44 x45 x46 x47 x48 x49 x50 x51 x52 x53 x54 x55 x56 x57 x58 x59 x60 x61 x62 x63 x64 x65 x66 x67 x68 x69 x70 x71 x72 x73 x74 x75 x76 x77 x78 x79 x80 x81
    all_goals (repeat' apply And.intro)
    all_goals (repeat' (first | assumption | rfl | split | omega))
    all_goals (repeat' apply And.intro)
    all_goals first | rfl | assumption | (simp only [va_up]; (repeat' (first | omega | split)) <;> first | rfl | assumption) | (intro hh; exact absurd hh (by decide)) | (intro hh; repeat' apply And.intro) 
    all_goals first | rfl | assumption | (simp only [va_up]; (repeat' (first | omega | split)) <;> first | rfl | assumption) | (simp_all; done)
  · skip
    obtain ⟨q1, q2, q3, q4, q5⟩ := b5 a9 h9
    clear a5 a6 a7 b5 b6 b7 s3 s1
    simp only [va_up, zRn, qLay, x1, x2, x3, x4, x5, x6, x7, x8, x9, x10, x11, x12, x13, x14, x15, x16, x17, x18, x19, x20, x21, x22, x23, x24, x25, x26, x27, x28, x29, x30, x31, x32, x33, x34, x35, x36, x37, x38, x39, x40, x41, x42, x43, x44, x45, x46, x47, x48, x49, x50, x51, x52, x53, x54, x55, x56, x57, x58, x59, x60, x61, x62, x63, x64, x65, x66, x67, x68, x69, x70, x71, x72, x73, x74, x75, x76, x77, x78, x79, x80, x81, h9, if_true, if_false]
    all_goals clear x1 x2 x3 x4 x5 x6 x7 x8 x9 x10 x11 x12 x13 x14 x15 x16 x17 x18 x19 x20 x21 x22 x23 x24 x25 x26 x27 x28 x29 x30 x31 x32 x33 x34 x35 x36 x37 x38 x39 x40 x41 x42 x43 x44 x45 x46 x47 x48 x49 x50 x51 x52 x53 x54 x55 x56 x57 x58 x59 x60 x61 x62 x63 x64 x65 x66 x67 x68 x69 x70 x71 x72 x73 x74 x75 x76 x77 x78 x79 x80 x81
    all_goals (repeat' apply And.intro)
    all_goals (repeat' (first | assumption | rfl | split | omega))
    all_goals (repeat' apply And.intro)
    all_goals first | rfl | assumption | (simp only [va_up]; (repeat' (first | omega | split)) <;> first | rfl | assumption) | (intro hh; exact absurd hh (by decide)) | (intro hh; repeat' apply And.intro) 
    all_goals first | rfl | assumption | (simp only [va_up]; (repeat' (first | omega | split)) <;> first | rfl | assumption) | (simp_all; done)
  · skip
    obtain ⟨q1, q2, q3, q4⟩ := b6 t9 k9
    clear a5 a6 a7 b5 b6 b7 s3 s1
    simp only [va_up, zRn, qLay, x1, x2, x3, x4, x5, x6, x7, x8, x9, x10, x11, x12, x13, x14, x15, x16, x17, x18, x19, x20, x21, x22, x23, x24, x25, x26, x27, x28, x29, x30, x31, x32, x33, x34, x35, x36, x37, x38, x39, x40, x41, x42, x43, x44, x45, x46, x47, x48, x49, x50, x51, x52, x53, x54, x55, x56, x57, x58, x59, x60, x61, x62, x63, x64, x65, x66, x67, x68, x69, x70, x71, x72, x73, x74, x75, x76, x77, x78, x79, x80, x81, k9, if_true, if_false]
    all_goals clear x1 x2 x3 x4 x5 x6 x7 x8 x9 x10 x11 x12 x13 x14 x15 x16 x17 x18 x19 x20 x21 x22 x23 x24 x25 x26 x27 x28 x29 x30 x31 x32 x33 x34 x35 x36 x37 x38 x39 x40 x41 x42 x43 x44 x45 x46 x47 x48 x49 x50 x51 x52 x53 x54 x55 x56 x57 x58 x59 x60 x61 x62 x63 x64 x65 x66 x67 x68 x69 x70 x71 x72 x73 x74 x75 x76 x77 x78 x79 x80 x81
    all_goals (repeat' apply And.intro)
    all_goals (repeat' (first | assumption | rfl | split | omega))
    all_goals (repeat' apply And.intro)
    all_goals first | rfl | assumption | (simp only [va_up]; (repeat' (first | omega | split)) <;> first | rfl | assumption) | (intro hh; exact absurd hh (by decide)) | (intro hh; repeat' apply And.intro) 
    all_goals first | rfl | assumption | (simp only [va_up]; (repeat' (first | omega | split)) <;> first | rfl | assumption) | (simp_all; done)
  · skip
    obtain ⟨q1, q2⟩ := b7 a9 h9 t9 k9
    clear a5 a6 a7 b5 b6 b7 s3 s1
    simp only [va_up, zRn, qLay, x1, x2, x3, x4, x5, x6, x7, x8, x9, x10, x11, x12, x13, x14, x15, x16, x17, x18, x19, x20, x21, x22, x23, x24, x25, x26, x27, x28, x29, x30, x31, x32, x33, x34, x35, x36, x37, x38, x39, x40, x41, x42, x43, x44, x45, x46, x47, x48, x49, x50, x51, x52, x53, x54, x55, x56, x57, x58, x59, x60, x61, x62, x63, x64, x65, x66, x67, x68, x69, x70, x71, x72, x73, x74, x75, x76, x77, x78, x79, x80, x81, h9, k9, if_true, if_false]
    all_goals clear x1 x2 x3 x4 x5 x6 x7 x8 x9 x10 x11 x12 x13 x14 x15 x16 x17 x18 x19 x20 x21 x22 x23 x24 x25 x26 x27 x28 x29 x30 x31 x32 x33 x34 x35 x36 x37 x38 x39 x40 x41 x42 x43 x44 x45 x46 x47 x48 x49 x50 x51 x52 x53 x54 x55 x56 x57 x58 x59 x60 x61 x62 x63 x64 x65 x66 x67 x68 x69 x70 x71 x72 x73 x74 x75 x76 x77 x78 x79 x80 x81
    all_goals (repeat' apply And.intro)
    all_goals (repeat' (first | assumption | rfl | split | omega))
    all_goals (repeat' apply And.intro)
    all_goals first | rfl | assumption | (simp only [va_up]; (repeat' (first | omega | split)) <;> first | rfl | assumption) | (intro hh; exact absurd hh (by decide)) | (intro hh; repeat' apply And.intro) 
    all_goals first | rfl | assumption | (simp only [va_up]; (repeat' (first | omega | split)) <;> first | rfl | assumption) | (simp_all; done)
set_option maxRecDepth 100000 in
set_option maxHeartbeats 4000000 in
theorem zR_k2 {d : Nat → Nat → Int32} {o n K : Nat} {f : Nat → Int32} {a t : Nat} (ha : a < n) (ht : t < K) (h : zR d o f n K) : zR (va_up d (o + 10 + 1) (va_up (d (o + 10 + 1)) (8 * a + t) (nI 2))) o (qLay f (72 + 4 * (8 * a + t)) (nI 2) (nI 0) (nI 0) (nI 0)) n K := by
  obtain ⟨⟨a1, a2, a3, a4, a5, a6, a7⟩, b0, b1, b2, b3, ⟨S, s1, s2, s3⟩, b5, b6, b7⟩ := h
  have z0 : zPl (nI 0) 3 := ⟨0, by decide, rfl⟩
  have z1 : zPl (nI 1) 3 := ⟨1, by decide, rfl⟩
  have z2 : zPl (nI 2) 3 := ⟨2, by decide, rfl⟩
  have x1 : (o = o + 10 + 1) = False := eq_false (by omega)
  have x2 : (o + 1 = o + 10 + 1) = False := eq_false (by omega)
  have x3 : (o + 2 = o + 10 + 1) = False := eq_false (by omega)
  have x4 : (o + 3 = o + 10 + 1) = False := eq_false (by omega)
  have x5 : (o + 4 = o + 10 + 1) = False := eq_false (by omega)
  have x6 : (o + 5 = o + 10 + 1) = False := eq_false (by omega)
  have x7 : (o + 6 = o + 10 + 1) = False := eq_false (by omega)
  have x8 : (o + 7 = o + 10 + 1) = False := eq_false (by omega)
  have x9 : (o + 8 = o + 10 + 1) = False := eq_false (by omega)
  have x10 : (o + 9 = o + 10 + 1) = False := eq_false (by omega)
  have x11 : (o + 10 + 2 = o + 10 + 1) = False := eq_false (by omega)
  have x12 : (o + 10 + 3 = o + 10 + 1) = False := eq_false (by omega)
  have x13 : (o + 10 + 4 = o + 10 + 1) = False := eq_false (by omega)
  have x14 : (0 = 72 + 4 * (8 * a + t)) = False := eq_false (by omega)
  have x15 : (1 = 72 + 4 * (8 * a + t)) = False := eq_false (by omega)
  have x16 : (2 = 72 + 4 * (8 * a + t)) = False := eq_false (by omega)
  have x17 : (3 = 72 + 4 * (8 * a + t)) = False := eq_false (by omega)
  have x18 : ∀ z, z < n → (4 + 6 * z = 72 + 4 * (8 * a + t)) = False := fun z hz => eq_false (by omega)
  have x19 : ∀ z, z < n → (4 + 6 * z + 1 = 72 + 4 * (8 * a + t)) = False := fun z hz => eq_false (by omega)
  have x20 : ∀ z, z < n → (4 + 6 * z + 2 = 72 + 4 * (8 * a + t)) = False := fun z hz => eq_false (by omega)
  have x21 : ∀ z, z < n → (4 + 6 * z + 3 = 72 + 4 * (8 * a + t)) = False := fun z hz => eq_false (by omega)
  have x22 : ∀ z, z < n → (4 + 6 * z + 4 = 72 + 4 * (8 * a + t)) = False := fun z hz => eq_false (by omega)
  have x23 : ∀ z, z < n → (4 + 6 * z + 5 = 72 + 4 * (8 * a + t)) = False := fun z hz => eq_false (by omega)
  have x24 : ∀ z, z < K → (40 + 4 * z = 72 + 4 * (8 * a + t)) = False := fun z hz => eq_false (by omega)
  have x25 : ∀ z, z < K → (40 + 4 * z + 1 = 72 + 4 * (8 * a + t)) = False := fun z hz => eq_false (by omega)
  have x26 : ∀ z, z < K → (40 + 4 * z + 2 = 72 + 4 * (8 * a + t)) = False := fun z hz => eq_false (by omega)
  have x27 : ∀ z, z < K → (40 + 4 * z + 3 = 72 + 4 * (8 * a + t)) = False := fun z hz => eq_false (by omega)
  have x28 : ∀ z, (72 + 4 * z + 1 = 72 + 4 * (8 * a + t)) = False := fun z => eq_false (by omega)
  have x29 : ∀ z, (72 + 4 * z + 2 = 72 + 4 * (8 * a + t)) = False := fun z => eq_false (by omega)
  have x30 : ∀ z, (72 + 4 * z + 3 = 72 + 4 * (8 * a + t)) = False := fun z => eq_false (by omega)
  have x31 : (0 = 72 + 4 * (8 * a + t) + 1) = False := eq_false (by omega)
  have x32 : (1 = 72 + 4 * (8 * a + t) + 1) = False := eq_false (by omega)
  have x33 : (2 = 72 + 4 * (8 * a + t) + 1) = False := eq_false (by omega)
  have x34 : (3 = 72 + 4 * (8 * a + t) + 1) = False := eq_false (by omega)
  have x35 : ∀ z, z < n → (4 + 6 * z = 72 + 4 * (8 * a + t) + 1) = False := fun z hz => eq_false (by omega)
  have x36 : ∀ z, z < n → (4 + 6 * z + 1 = 72 + 4 * (8 * a + t) + 1) = False := fun z hz => eq_false (by omega)
  have x37 : ∀ z, z < n → (4 + 6 * z + 2 = 72 + 4 * (8 * a + t) + 1) = False := fun z hz => eq_false (by omega)
  have x38 : ∀ z, z < n → (4 + 6 * z + 3 = 72 + 4 * (8 * a + t) + 1) = False := fun z hz => eq_false (by omega)
  have x39 : ∀ z, z < n → (4 + 6 * z + 4 = 72 + 4 * (8 * a + t) + 1) = False := fun z hz => eq_false (by omega)
  have x40 : ∀ z, z < n → (4 + 6 * z + 5 = 72 + 4 * (8 * a + t) + 1) = False := fun z hz => eq_false (by omega)
  have x41 : ∀ z, z < K → (40 + 4 * z = 72 + 4 * (8 * a + t) + 1) = False := fun z hz => eq_false (by omega)
  have x42 : ∀ z, z < K → (40 + 4 * z + 1 = 72 + 4 * (8 * a + t) + 1) = False := fun z hz => eq_false (by omega)
  have x43 : ∀ z, z < K → (40 + 4 * z + 2 = 72 + 4 * (8 * a + t) + 1) = False := fun z hz => eq_false (by omega)
  have x44 : ∀ z, z < K → (40 + 4 * z + 3 = 72 + 4 * (8 * a + t) + 1) = False := fun z hz => eq_false (by omega)
  have x45 : ∀ z, (72 + 4 * z = 72 + 4 * (8 * a + t) + 1) = False := fun z => eq_false (by omega)
  have x46 : ∀ z, (72 + 4 * z + 2 = 72 + 4 * (8 * a + t) + 1) = False := fun z => eq_false (by omega)
  have x47 : ∀ z, (72 + 4 * z + 3 = 72 + 4 * (8 * a + t) + 1) = False := fun z => eq_false (by omega)
  have x48 : (0 = 72 + 4 * (8 * a + t) + 2) = False := eq_false (by omega)
  have x49 : (1 = 72 + 4 * (8 * a + t) + 2) = False := eq_false (by omega)
  have x50 : (2 = 72 + 4 * (8 * a + t) + 2) = False := eq_false (by omega)
  have x51 : (3 = 72 + 4 * (8 * a + t) + 2) = False := eq_false (by omega)
  have x52 : ∀ z, z < n → (4 + 6 * z = 72 + 4 * (8 * a + t) + 2) = False := fun z hz => eq_false (by omega)
  have x53 : ∀ z, z < n → (4 + 6 * z + 1 = 72 + 4 * (8 * a + t) + 2) = False := fun z hz => eq_false (by omega)
  have x54 : ∀ z, z < n → (4 + 6 * z + 2 = 72 + 4 * (8 * a + t) + 2) = False := fun z hz => eq_false (by omega)
  have x55 : ∀ z, z < n → (4 + 6 * z + 3 = 72 + 4 * (8 * a + t) + 2) = False := fun z hz => eq_false (by omega)
  have x56 : ∀ z, z < n → (4 + 6 * z + 4 = 72 + 4 * (8 * a + t) + 2) = False := fun z hz => eq_false (by omega)
  have x57 : ∀ z, z < n → (4 + 6 * z + 5 = 72 + 4 * (8 * a + t) + 2) = False := fun z hz => eq_false (by omega)
  have x58 : ∀ z, z < K → (40 + 4 * z = 72 + 4 * (8 * a + t) + 2) = False := fun z hz => eq_false (by omega)
  have x59 : ∀ z, z < K → (40 + 4 * z + 1 = 72 + 4 * (8 * a + t) + 2) = False := fun z hz => eq_false (by omega)
  have x60 : ∀ z, z < K → (40 + 4 * z + 2 = 72 + 4 * (8 * a + t) + 2) = False := fun z hz => eq_false (by omega)
  have x61 : ∀ z, z < K → (40 + 4 * z + 3 = 72 + 4 * (8 * a + t) + 2) = False := fun z hz => eq_false (by omega)
  have x62 : ∀ z, (72 + 4 * z = 72 + 4 * (8 * a + t) + 2) = False := fun z => eq_false (by omega)
  have x63 : ∀ z, (72 + 4 * z + 1 = 72 + 4 * (8 * a + t) + 2) = False := fun z => eq_false (by omega)
  have x64 : ∀ z, (72 + 4 * z + 3 = 72 + 4 * (8 * a + t) + 2) = False := fun z => eq_false (by omega)
  have x65 : (0 = 72 + 4 * (8 * a + t) + 3) = False := eq_false (by omega)
  have x66 : (1 = 72 + 4 * (8 * a + t) + 3) = False := eq_false (by omega)
  have x67 : (2 = 72 + 4 * (8 * a + t) + 3) = False := eq_false (by omega)
  have x68 : (3 = 72 + 4 * (8 * a + t) + 3) = False := eq_false (by omega)
  have x69 : ∀ z, z < n → (4 + 6 * z = 72 + 4 * (8 * a + t) + 3) = False := fun z hz => eq_false (by omega)
  have x70 : ∀ z, z < n → (4 + 6 * z + 1 = 72 + 4 * (8 * a + t) + 3) = False := fun z hz => eq_false (by omega)
  have x71 : ∀ z, z < n → (4 + 6 * z + 2 = 72 + 4 * (8 * a + t) + 3) = False := fun z hz => eq_false (by omega)
  have x72 : ∀ z, z < n → (4 + 6 * z + 3 = 72 + 4 * (8 * a + t) + 3) = False := fun z hz => eq_false (by omega)
  have x73 : ∀ z, z < n → (4 + 6 * z + 4 = 72 + 4 * (8 * a + t) + 3) = False := fun z hz => eq_false (by omega)
  have x74 : ∀ z, z < n → (4 + 6 * z + 5 = 72 + 4 * (8 * a + t) + 3) = False := fun z hz => eq_false (by omega)
  have x75 : ∀ z, z < K → (40 + 4 * z = 72 + 4 * (8 * a + t) + 3) = False := fun z hz => eq_false (by omega)
  have x76 : ∀ z, z < K → (40 + 4 * z + 1 = 72 + 4 * (8 * a + t) + 3) = False := fun z hz => eq_false (by omega)
  have x77 : ∀ z, z < K → (40 + 4 * z + 2 = 72 + 4 * (8 * a + t) + 3) = False := fun z hz => eq_false (by omega)
  have x78 : ∀ z, z < K → (40 + 4 * z + 3 = 72 + 4 * (8 * a + t) + 3) = False := fun z hz => eq_false (by omega)
  have x79 : ∀ z, (72 + 4 * z = 72 + 4 * (8 * a + t) + 3) = False := fun z => eq_false (by omega)
  have x80 : ∀ z, (72 + 4 * z + 1 = 72 + 4 * (8 * a + t) + 3) = False := fun z => eq_false (by omega)
  have x81 : ∀ z, (72 + 4 * z + 2 = 72 + 4 * (8 * a + t) + 3) = False := fun z => eq_false (by omega)
  refine ⟨⟨a1, a2, ?_, ?_, fun a9 h9 => ?_, fun t9 k9 => ?_, fun a9 h9 t9 k9 => ?_⟩, ?_, ?_, ?_, ?_, ⟨S, s1, ?_, fun a9 h9 => ?_⟩, fun a9 h9 => ?_, fun t9 k9 => ?_, fun a9 h9 t9 k9 => ?_⟩
  · skip
    clear a5 a6 a7 b5 b6 b7 s3 s1
    simp only [va_up, zRn, qLay, x1, x2, x3, x4, x5, x6, x7, x8, x9, x10, x11, x12, x13, x14, x15, x16, x17, x18, x19, x20, x21, x22, x23, x24, x25, x26, x27, x28, x29, x30, x31, x32, x33, x34, x35, x36, x37, x38, x39, x40, x41, x42, x43, x44, x45, x46, x47, x48, x49, x50, x51, x52, x53, x54, x55, x56, x57, x58, x59, x60, x61, x62, x63, x64, x65, x66, x67, x68, x69, x70, x71, x72, x73, x74, x75, x76, x77, x78, x79, x80, x81, if_true, if_false]
    all_goals clear x1 x2 x3 x4 x5 x6 x7 x8 x9 x10 x11 x12 x13 x14 x15 x16 x17 x18 x19 x20 x21 x22 x23 x24 x25 x26 x27 x28 x29 x30 x31 x32 x33 x34 x35 x36 x37 x38 x39 x40 x41 x42 x43 x44 x45 x46 x47 x48 x49 x50 x51 x52 x53 x54 x55 x56 x57 x58 x59 x60 x61 x62 x63 x64 x65 x66 x67 x68 x69 x70 x71 x72 x73 x74 x75 x76 x77 x78 x79 x80 x81
    all_goals (repeat' apply And.intro)
    all_goals (repeat' (first | assumption | rfl | split | omega))
    all_goals (repeat' apply And.intro)
    all_goals first | rfl | assumption | (simp only [va_up]; (repeat' (first | omega | split)) <;> first | rfl | assumption) | (intro hh; exact absurd hh (by decide)) | (intro hh; repeat' apply And.intro) 
    all_goals first | rfl | assumption | (simp only [va_up]; (repeat' (first | omega | split)) <;> first | rfl | assumption) | (simp_all; done)
  · skip
    clear a5 a6 a7 b5 b6 b7 s3 s1
    simp only [va_up, zRn, qLay, x1, x2, x3, x4, x5, x6, x7, x8, x9, x10, x11, x12, x13, x14, x15, x16, x17, x18, x19, x20, x21, x22, x23, x24, x25, x26, x27, x28, x29, x30, x31, x32, x33, x34, x35, x36, x37, x38, x39, x40, x41, x42, x43, x44, x45, x46, x47, x48, x49, x50, x51, x52, x53, x54, x55, x56, x57, x58, x59, x60, x61, x62, x63, x64, x65, x66, x67, x68, x69, x70, x71, x72, x73, x74, x75, x76, x77, x78, x79, x80, x81, if_true, if_false]
    all_goals clear x1 x2 x3 x4 x5 x6 x7 x8 x9 x10 x11 x12 x13 x14 x15 x16 x17 x18 x19 x20 x21 x22 x23 x24 x25 x26 x27 x28 x29 x30 x31 x32 x33 x34 x35 x36 x37 x38 x39 x40 x41 x42 x43 x44 x45 x46 x47 x48 x49 x50 x51 x52 x53 x54 x55 x56 x57 x58 x59 x60 x61 x62 x63 x64 x65 x66 x67 x68 x69 x70 x71 x72 x73 x74 x75 x76 x77 x78 x79 x80 x81
    all_goals (repeat' apply And.intro)
    all_goals (repeat' (first | assumption | rfl | split | omega))
    all_goals (repeat' apply And.intro)
    all_goals first | rfl | assumption | (simp only [va_up]; (repeat' (first | omega | split)) <;> first | rfl | assumption) | (intro hh; exact absurd hh (by decide)) | (intro hh; repeat' apply And.intro) 
    all_goals first | rfl | assumption | (simp only [va_up]; (repeat' (first | omega | split)) <;> first | rfl | assumption) | (simp_all; done)
  · skip
    obtain ⟨q1, q2, q3, q4⟩ := a5 a9 h9
    clear a5 a6 a7 b5 b6 b7 s3 s1
    simp only [va_up, zRn, qLay, x1, x2, x3, x4, x5, x6, x7, x8, x9, x10, x11, x12, x13, x14, x15, x16, x17, x18, x19, x20, x21, x22, x23, x24, x25, x26, x27, x28, x29, x30, x31, x32, x33, x34, x35, x36, x37, x38, x39, x40, x41, x42, x43, x44, x45, x46, x47, x48, x49, x50, x51, x52, x53, x54, x55, x56, x57, x58, x59, x60, x61, x62, x63, x64, x65, x66, x67, x68, x69, x70, x71, x72, x73, x74, x75, x76, x77, x78, x79, x80, x81, h9, if_true, if_false]
    all_goals clear x1 x2 x3 x4 x5 x6 x7 x8 x9 x10 x11 x12 x13 x14 x15 x16 x17 x18 x19 x20 x21 x22 x23 x24 x25 x26 x27 x28 x29 x30 x31 x32 x33 x34 x35 x36 x37 x38 x39 x40 x41 x42 x43 x44 x45 x46 x47 x48 x49 x50 x51 x52 x53 x54 x55 x56 x57 x58 x59 x60 x61 x62 x63 x64 x65 x66 x67 x68 x69 x70 x71 x72 x73 x74 x75 x76 x77 x78 x79 x80 x81
    all_goals (repeat' apply And.intro)
    all_goals (repeat' (first | assumption | rfl | split | omega))
    all_goals (repeat' apply And.intro)
    all_goals first | rfl | assumption | (simp only [va_up]; (repeat' (first | omega | split)) <;> first | rfl | assumption) | (intro hh; exact absurd hh (by decide)) | (intro hh; repeat' apply And.intro) 
    all_goals first | rfl | assumption | (simp only [va_up]; (repeat' (first | omega | split)) <;> first | rfl | assumption) | (simp_all; done)
  · skip
    obtain ⟨q1, q2⟩ := a6 t9 k9
    clear a5 a6 a7 b5 b6 b7 s3 s1
    simp only [va_up, zRn, qLay, x1, x2, x3, x4, x5, x6, x7, x8, x9, x10, x11, x12, x13, x14, x15, x16, x17, x18, x19, x20, x21, x22, x23, x24, x25, x26, x27, x28, x29, x30, x31, x32, x33, x34, x35, x36, x37, x38, x39, x40, x41, x42, x43, x44, x45, x46, x47, x48, x49, x50, x51, x52, x53, x54, x55, x56, x57, x58, x59, x60, x61, x62, x63, x64, x65, x66, x67, x68, x69, x70, x71, x72, x73, x74, x75, x76, x77, x78, x79, x80, x81, k9, if_true, if_false]
    all_goals clear x1 x2 x3 x4 x5 x6 x7 x8 x9 x10 x11 x12 x13 x14 x15 x16 x17 x18 x19 x20 x21 x22 x23 x24 x25 x26 x27 x28 x29 x30 x31 x32 x33 x34 x35 x36 x37 x38 x39 x40 x41 x42 x43 x44 x45 x46 x47 x48 x49 x50 x51 x52 x53 x54 x55 x56 x57 x58 x59 x60 x61 x62 x63 x64 x65 x66 x67 x68 x69 x70 x71 x72 x73 x74 x75 x76 x77 x78 x79 x80 x81
    all_goals (repeat' apply And.intro)
    all_goals (repeat' (first | assumption | rfl | split | omega))
    all_goals (repeat' apply And.intro)
    all_goals first | rfl | assumption | (simp only [va_up]; (repeat' (first | omega | split)) <;> first | rfl | assumption) | (intro hh; exact absurd hh (by decide)) | (intro hh; repeat' apply And.intro) 
    all_goals first | rfl | assumption | (simp only [va_up]; (repeat' (first | omega | split)) <;> first | rfl | assumption) | (simp_all; done)
  · skip
    obtain ⟨q1, q2⟩ := a7 a9 h9 t9 k9
    clear a5 a6 a7 b5 b6 b7 s3 s1
    simp only [va_up, zRn, qLay, x1, x2, x3, x4, x5, x6, x7, x8, x9, x10, x11, x12, x13, x14, x15, x16, x17, x18, x19, x20, x21, x22, x23, x24, x25, x26, x27, x28, x29, x30, x31, x32, x33, x34, x35, x36, x37, x38, x39, x40, x41, x42, x43, x44, x45, x46, x47, x48, x49, x50, x51, x52, x53, x54, x55, x56, x57, x58, x59, x60, x61, x62, x63, x64, x65, x66, x67, x68, x69, x70, x71, x72, x73, x74, x75, x76, x77, x78, x79, x80, x81, h9, k9, if_true, if_false]
    all_goals clear x1 x2 x3 x4 x5 x6 x7 x8 x9 x10 x11 x12 x13 x14 x15 x16 x17 x18 x19 x20 x21 x22 x23 x24 x25 x26 x27 x28 x29 x30 x31 x32 x33 x34 x35 x36 x37 x38 x39 x40 x41 x42 x43 x44 x45 x46 x47 x48 x49 x50 x51 x52 x53 x54 x55 x56 x57 x58 x59 x60 x61 x62 x63 x64 x65 x66 x67 x68 x69 x70 x71 x72 x73 x74 x75 x76 x77 x78 x79 x80 x81
    all_goals (repeat' apply And.intro)
    all_goals (repeat' (first | assumption | rfl | split | omega))
    all_goals (repeat' apply And.intro)
    all_goals first | rfl | assumption | (simp only [va_up]; (repeat' (first | omega | split)) <;> first | rfl | assumption) | (intro hh; exact absurd hh (by decide)) | (intro hh; repeat' apply And.intro) 
    all_goals first | rfl | assumption | (simp only [va_up]; (repeat' (first | omega | split)) <;> first | rfl | assumption) | (simp_all; done)
  · skip
    clear a5 a6 a7 b5 b6 b7 s3 s1
    simp only [va_up, zRn, qLay, x1, x2, x3, x4, x5, x6, x7, x8, x9, x10, x11, x12, x13, x14, x15, x16, x17, x18, x19, x20, x21, x22, x23, x24, x25, x26, x27, x28, x29, x30, x31, x32, x33, x34, x35, x36, x37, x38, x39, x40, x41, x42, x43, x44, x45, x46, x47, x48, x49, x50, x51, x52, x53, x54, x55, x56, x57, x58, x59, x60, x61, x62, x63, x64, x65, x66, x67, x68, x69, x70, x71, x72, x73, x74, x75, x76, x77, x78, x79, x80, x81, if_true, if_false]
    all_goals clear x1 x2 x3 x4 x5 x6 x7 x8 x9 x10 x11 x12 x13 x14 x15 x16 x17 x18 x19 x20 x21 x22 x23 x24 x25 x26 x27 x28 x29 x30 x31 x32 x33 x34 x35 x36 x37 x38 x39 x40 x41 x42 x43 x44 x45 x46 x47 x48 x49 x50 x51 x52 x53 x54 x55 x56 x57 x58 x59 x60 x61 x62 x63 x64 x65 x66 x67 x68 x69 x70 x71 x72 x73 x74 x75 x76 x77 x78 x79 x80 x81
    all_goals (repeat' apply And.intro)
    all_goals (repeat' (first | assumption | rfl | split | omega))
    all_goals (repeat' apply And.intro)
    all_goals first | rfl | assumption | (simp only [va_up]; (repeat' (first | omega | split)) <;> first | rfl | assumption) | (intro hh; exact absurd hh (by decide)) | (intro hh; repeat' apply And.intro) 
    all_goals first | rfl | assumption | (simp only [va_up]; (repeat' (first | omega | split)) <;> first | rfl | assumption) | (simp_all; done)
  · skip
    clear a5 a6 a7 b5 b6 b7 s3 s1
    simp only [va_up, zRn, qLay, x1, x2, x3, x4, x5, x6, x7, x8, x9, x10, x11, x12, x13, x14, x15, x16, x17, x18, x19, x20, x21, x22, x23, x24, x25, x26, x27, x28, x29, x30, x31, x32, x33, x34, x35, x36, x37, x38, x39, x40, x41, x42, x43, x44, x45, x46, x47, x48, x49, x50, x51, x52, x53, x54, x55, x56, x57, x58, x59, x60, x61, x62, x63, x64, x65, x66, x67, x68, x69, x70, x71, x72, x73, x74, x75, x76, x77, x78, x79, x80, x81, if_true, if_false]
    all_goals clear x1 x2 x3 x4 x5 x6 x7 x8 x9 x10 x11 x12 x13 x14 x15 x16 x17 x18 x19 x20 x21 x22 x23 x24 x25 x26 x27 x28 x29 x30 x31 x32 x33 x34 x35 x36 x37 x38 x39 x40 x41 x42 x43 x44 x45 x46 x47 x48 x49 x50 x51 x52 x53 x54 x55 x56 x57 x58 x59 x60 x61 x62 x63 x64 x65 x66 x67 x68 x69 x70 x71 x72 x73 x74 x75 x76 x77 x78 x79 x80 x81
    all_goals (repeat' apply And.intro)
    all_goals (repeat' (first | assumption | rfl | split | omega))
    all_goals (repeat' apply And.intro)
    all_goals first | rfl | assumption | (simp only [va_up]; (repeat' (first | omega | split)) <;> first | rfl | assumption) | (intro hh; exact absurd hh (by decide)) | (intro hh; repeat' apply And.intro) 
    all_goals first | rfl | assumption | (simp only [va_up]; (repeat' (first | omega | split)) <;> first | rfl | assumption) | (simp_all; done)
  · skip
    clear a5 a6 a7 b5 b6 b7 s3 s1
    simp only [va_up, zRn, qLay, x1, x2, x3, x4, x5, x6, x7, x8, x9, x10, x11, x12, x13, x14, x15, x16, x17, x18, x19, x20, x21, x22, x23, x24, x25, x26, x27, x28, x29, x30, x31, x32, x33, x34, x35, x36, x37, x38, x39, x40, x41, x42, x43, x44, x45, x46, x47, x48, x49, x50, x51, x52, x53, x54, x55, x56, x57, x58, x59, x60, x61, x62, x63, x64, x65, x66, x67, x68, x69, x70, x71, x72, x73, x74, x75, x76, x77, x78, x79, x80, x81, if_true, if_false]
    all_goals clear x1 x2 x3 x4 x5 x6 x7 x8 x9 x10 x11 x12 x13 x14 x15 x16 x17 x18 x19 x20 x21 x22 x23 x24 x25 x26 x27 x28 x29 x30 x31 x32 x33 x34 x35 x36 x37 x38 x39 x40 x41 x42 x43 x44 x45 x46 x47 x48 x49 x50 x51 x52 x53 x54 x55 x56 x57 x58 x59 x60 x61 x62 x63 x64 x65 x66 x67 x68 x69 x70 x71 x72 x73 x74 x75 x76 x77 x78 x79 x80 x81
    all_goals (repeat' apply And.intro)
    all_goals (repeat' (first | assumption | rfl | split | omega))
    all_goals (repeat' apply And.intro)
    all_goals first | rfl | assumption | (simp only [va_up]; (repeat' (first | omega | split)) <;> first | rfl | assumption) | (intro hh; exact absurd hh (by decide)) | (intro hh; repeat' apply And.intro) 
    all_goals first | rfl | assumption | (simp only [va_up]; (repeat' (first | omega | split)) <;> first | rfl | assumption) | (simp_all; done)
  · skip
    clear a5 a6 a7 b5 b6 b7 s3 s1
    simp only [va_up, zRn, qLay, x1, x2, x3, x4, x5, x6, x7, x8, x9, x10, x11, x12, x13, x14, x15, x16, x17, x18, x19, x20, x21, x22, x23, x24, x25, x26, x27, x28, x29, x30, x31, x32, x33, x34, x35, x36, x37, x38, x39, x40, x41, x42, x43, x44, x45, x46, x47, x48, x49, x50, x51, x52, x53, x54, x55, x56, x57, x58, x59, x60, x61, x62, x63, x64, x65, x66, x67, x68, x69, x70, x71, x72, x73, x74, x75, x76, x77, x78, x79, x80, x81, if_true, if_false]
    all_goals clear x1 x2 x3 x4 x5 x6 x7 x8 x9 x10 x11 x12 x13 x14 x15 x16 x17 x18 x19 x20 x21 x22 x23 x24 x25 x26 x27 x28 x29 x30 x31 x32 x33 x34 x35 x36 x37 x38 x39 x40 x41 x42 x43 x44 x45 x46 x47 x48 x49 x50 x51 x52 x53 x54 x55 x56 x57 x58 x59 x60 x61 x62 x63 x64 x65 x66 x67 x68 x69 x70 x71 x72 x73 x74 x75 x76 x77 x78 x79 x80 x81
    all_goals (repeat' apply And.intro)
    all_goals (repeat' (first | assumption | rfl | split | omega))
    all_goals (repeat' apply And.intro)
    all_goals first | rfl | assumption | (simp only [va_up]; (repeat' (first | omega | split)) <;> first | rfl | assumption) | (intro hh; exact absurd hh (by decide)) | (intro hh; repeat' apply And.intro) 
    all_goals first | rfl | assumption | (simp only [va_up]; (repeat' (first | omega | split)) <;> first | rfl | assumption) | (simp_all; done)
  · skip
    clear a5 a6 a7 b5 b6 b7 s3 s1
    simp only [va_up, zRn, qLay, x1, x2, x3, x4, x5, x6, x7, x8, x9, x10, x11, x12, x13, x14, x15, x16, x17, x18, x19, x20, x21, x22, x23, x24, x25, x26, x27, x28, x29, x30, x31, x32, x33, x34, x35, x36, x37, x38, x39, x40, x41, x42, x43, x44, x45, x46, x47, x48, x49, x50, x51, x52, x53, x54, x55, x56, x57, x58, x59, x60, x61, x62, x63, x64, x65, x66, x67, x68, x69, x70, x71, x72, x73, x74, x75, x76, x77, x78, x79, x80, x81, if_true, if_false]
    all_goals clear x1 x2 x3 x4 x5 x6 x7 x8 x9 x10 x11 x12 x13 x14 x15 x16 x17 x18 x19 x20 x21 x22 x23 x24 x25 x26 x27 x28 x29 x30 x31 x32 x33 x34 x35 x36 x37 x38 x39 x40 x41 x42 x43 x44 x45 x46 x47 x48 x49 x50 x51 x52 x53 x54 x55 x56 x57 x58 x59 x60 x61 x62 x63 x64 x65 x66 x67 x68 x69 x70 x71 x72 x73 x74 x75 x76 x77 x78 x79 x80 x81
    all_goals (repeat' apply And.intro)
    all_goals (repeat' (first | assumption | rfl | split | omega))
    all_goals (repeat' apply And.intro)
    all_goals first | rfl | assumption | (simp only [va_up]; (repeat' (first | omega | split)) <;> first | rfl | assumption) | (intro hh; exact absurd hh (by decide)) | (intro hh; repeat' apply And.intro) 
    all_goals first | rfl | assumption | (simp only [va_up]; (repeat' (first | omega | split)) <;> first | rfl | assumption) | (simp_all; done)
  · rw [s3 a9 h9, qOn, qOn]
    clear a5 a6 a7 b5 b6 b7 s3 s1
    simp only [va_up, zRn, qLay, x1, x2, x3, x4, x5, x6, x7, x8, x9, x10, x11, x12, x13, x14, x15, x16, x17, x18, x19, x20, x21, x22, x23, x24, x25, x26, x27, x28, x29, x30, x31, x32, x33, x34, x35, x36, x37, x38, x39, x40, x41, x42, x43, x44, x45, x46, x47, x48, x49, x50, x51, x52, x53, x54, x55, x56, x57, x58, x59, x60, x61, x62, x63, x64, x65, x66, x67, x68, x69, x70, x71, x72, x73, x74, x75, x76, x77, x78, x79, x80, x81, h9, if_true, if_false]
    all_goals clear x1 x2 x3 x4 x5 x6 x7 x8 x9 x10 x11 x12 x13 x14 x15 x16 x17 x18 x19 x20 x21 x22 x23 x24 x25 x26 x27 x28 x29 x30 x31 x32 x33 x34 x35 x36 x37 x38 x39 x40 x41 x42 x43 x44 x45 x46 x47 x48 x49 x50 x51 x52 x53 x54 x55 x56 x57 x58 x59 x60 x61 x62 x63 x64 x65 x66 x67 x68 x69 x70 x71 x72 x73 x74 x75 x76 x77 x78 x79 x80 x81
    all_goals (repeat' apply And.intro)
    all_goals (repeat' (first | assumption | rfl | split | omega))
    all_goals (repeat' apply And.intro)
    all_goals first | rfl | assumption | (simp only [va_up]; (repeat' (first | omega | split)) <;> first | rfl | assumption) | (intro hh; exact absurd hh (by decide)) | (intro hh; repeat' apply And.intro) 
    all_goals first | rfl | assumption | (simp only [va_up]; (repeat' (first | omega | split)) <;> first | rfl | assumption) | (simp_all; done)
  · skip
    obtain ⟨q1, q2, q3, q4, q5⟩ := b5 a9 h9
    clear a5 a6 a7 b5 b6 b7 s3 s1
    simp only [va_up, zRn, qLay, x1, x2, x3, x4, x5, x6, x7, x8, x9, x10, x11, x12, x13, x14, x15, x16, x17, x18, x19, x20, x21, x22, x23, x24, x25, x26, x27, x28, x29, x30, x31, x32, x33, x34, x35, x36, x37, x38, x39, x40, x41, x42, x43, x44, x45, x46, x47, x48, x49, x50, x51, x52, x53, x54, x55, x56, x57, x58, x59, x60, x61, x62, x63, x64, x65, x66, x67, x68, x69, x70, x71, x72, x73, x74, x75, x76, x77, x78, x79, x80, x81, h9, if_true, if_false]
    all_goals clear x1 x2 x3 x4 x5 x6 x7 x8 x9 x10 x11 x12 x13 x14 x15 x16 x17 x18 x19 x20 x21 x22 x23 x24 x25 x26 x27 x28 x29 x30 x31 x32 x33 x34 x35 x36 x37 x38 x39 x40 x41 x42 x43 x44 x45 x46 x47 x48 x49 x50 x51 x52 x53 x54 x55 x56 x57 x58 x59 x60 x61 x62 x63 x64 x65 x66 x67 x68 x69 x70 x71 x72 x73 x74 x75 x76 x77 x78 x79 x80 x81
    all_goals (repeat' apply And.intro)
    all_goals (repeat' (first | assumption | rfl | split | omega))
    all_goals (repeat' apply And.intro)
    all_goals first | rfl | assumption | (simp only [va_up]; (repeat' (first | omega | split)) <;> first | rfl | assumption) | (intro hh; exact absurd hh (by decide)) | (intro hh; repeat' apply And.intro) 
    all_goals first | rfl | assumption | (simp only [va_up]; (repeat' (first | omega | split)) <;> first | rfl | assumption) | (simp_all; done)
  · skip
    obtain ⟨q1, q2, q3, q4⟩ := b6 t9 k9
    clear a5 a6 a7 b5 b6 b7 s3 s1
    simp only [va_up, zRn, qLay, x1, x2, x3, x4, x5, x6, x7, x8, x9, x10, x11, x12, x13, x14, x15, x16, x17, x18, x19, x20, x21, x22, x23, x24, x25, x26, x27, x28, x29, x30, x31, x32, x33, x34, x35, x36, x37, x38, x39, x40, x41, x42, x43, x44, x45, x46, x47, x48, x49, x50, x51, x52, x53, x54, x55, x56, x57, x58, x59, x60, x61, x62, x63, x64, x65, x66, x67, x68, x69, x70, x71, x72, x73, x74, x75, x76, x77, x78, x79, x80, x81, k9, if_true, if_false]
    all_goals clear x1 x2 x3 x4 x5 x6 x7 x8 x9 x10 x11 x12 x13 x14 x15 x16 x17 x18 x19 x20 x21 x22 x23 x24 x25 x26 x27 x28 x29 x30 x31 x32 x33 x34 x35 x36 x37 x38 x39 x40 x41 x42 x43 x44 x45 x46 x47 x48 x49 x50 x51 x52 x53 x54 x55 x56 x57 x58 x59 x60 x61 x62 x63 x64 x65 x66 x67 x68 x69 x70 x71 x72 x73 x74 x75 x76 x77 x78 x79 x80 x81
    all_goals (repeat' apply And.intro)
    all_goals (repeat' (first | assumption | rfl | split | omega))
    all_goals (repeat' apply And.intro)
    all_goals first | rfl | assumption | (simp only [va_up]; (repeat' (first | omega | split)) <;> first | rfl | assumption) | (intro hh; exact absurd hh (by decide)) | (intro hh; repeat' apply And.intro) 
    all_goals first | rfl | assumption | (simp only [va_up]; (repeat' (first | omega | split)) <;> first | rfl | assumption) | (simp_all; done)
  · skip
    obtain ⟨q1, q2⟩ := b7 a9 h9 t9 k9
    clear a5 a6 a7 b5 b6 b7 s3 s1
    simp only [va_up, zRn, qLay, x1, x2, x3, x4, x5, x6, x7, x8, x9, x10, x11, x12, x13, x14, x15, x16, x17, x18, x19, x20, x21, x22, x23, x24, x25, x26, x27, x28, x29, x30, x31, x32, x33, x34, x35, x36, x37, x38, x39, x40, x41, x42, x43, x44, x45, x46, x47, x48, x49, x50, x51, x52, x53, x54, x55, x56, x57, x58, x59, x60, x61, x62, x63, x64, x65, x66, x67, x68, x69, x70, x71, x72, x73, x74, x75, x76, x77, x78, x79, x80, x81, h9, k9, if_true, if_false]
    all_goals clear x1 x2 x3 x4 x5 x6 x7 x8 x9 x10 x11 x12 x13 x14 x15 x16 x17 x18 x19 x20 x21 x22 x23 x24 x25 x26 x27 x28 x29 x30 x31 x32 x33 x34 x35 x36 x37 x38 x39 x40 x41 x42 x43 x44 x45 x46 x47 x48 x49 x50 x51 x52 x53 x54 x55 x56 x57 x58 x59 x60 x61 x62 x63 x64 x65 x66 x67 x68 x69 x70 x71 x72 x73 x74 x75 x76 x77 x78 x79 x80 x81
    all_goals (repeat' apply And.intro)
    all_goals (repeat' (first | assumption | rfl | split | omega))
    all_goals (repeat' apply And.intro)
    all_goals first | rfl | assumption | (simp only [va_up]; (repeat' (first | omega | split)) <;> first | rfl | assumption) | (intro hh; exact absurd hh (by decide)) | (intro hh; repeat' apply And.intro) 
    all_goals first | rfl | assumption | (simp only [va_up]; (repeat' (first | omega | split)) <;> first | rfl | assumption) | (simp_all; done)
set_option maxRecDepth 100000 in
set_option maxHeartbeats 4000000 in
theorem zR_cl {d : Nat → Nat → Int32} {o n K : Nat} {f : Nat → Int32} {a t c : Nat} {x y : Int32} (ha : a < n) (ht : t < K) (hc : zPl (nI c) n) (h : zR d o f n K) : zR (va_up (va_up (va_up (va_up d (o + 10 + 1) (va_up (d (o + 10 + 1)) (8 * a + t) (nI 1))) (o + 10 + 2) (va_up (d (o + 10 + 2)) (8 * a + t) (nI c))) (o + 10 + 3) (va_up (d (o + 10 + 3)) (8 * a + t) x)) (o + 10 + 4) (va_up (d (o + 10 + 4)) (8 * a + t) y)) o (qLay f (72 + 4 * (8 * a + t)) (nI 1) (nI c) x y) n K := by
  obtain ⟨⟨a1, a2, a3, a4, a5, a6, a7⟩, b0, b1, b2, b3, ⟨S, s1, s2, s3⟩, b5, b6, b7⟩ := h
  have z0 : zPl (nI 0) 3 := ⟨0, by decide, rfl⟩
  have z1 : zPl (nI 1) 3 := ⟨1, by decide, rfl⟩
  have z2 : zPl (nI 2) 3 := ⟨2, by decide, rfl⟩
  have x1 : (o = o + 10 + 1) = False := eq_false (by omega)
  have x2 : (o + 1 = o + 10 + 1) = False := eq_false (by omega)
  have x3 : (o + 2 = o + 10 + 1) = False := eq_false (by omega)
  have x4 : (o + 3 = o + 10 + 1) = False := eq_false (by omega)
  have x5 : (o + 4 = o + 10 + 1) = False := eq_false (by omega)
  have x6 : (o + 5 = o + 10 + 1) = False := eq_false (by omega)
  have x7 : (o + 6 = o + 10 + 1) = False := eq_false (by omega)
  have x8 : (o + 7 = o + 10 + 1) = False := eq_false (by omega)
  have x9 : (o + 8 = o + 10 + 1) = False := eq_false (by omega)
  have x10 : (o + 9 = o + 10 + 1) = False := eq_false (by omega)
  have x11 : (o + 10 + 2 = o + 10 + 1) = False := eq_false (by omega)
  have x12 : (o + 10 + 3 = o + 10 + 1) = False := eq_false (by omega)
  have x13 : (o + 10 + 4 = o + 10 + 1) = False := eq_false (by omega)
  have x14 : (o = o + 10 + 2) = False := eq_false (by omega)
  have x15 : (o + 1 = o + 10 + 2) = False := eq_false (by omega)
  have x16 : (o + 2 = o + 10 + 2) = False := eq_false (by omega)
  have x17 : (o + 3 = o + 10 + 2) = False := eq_false (by omega)
  have x18 : (o + 4 = o + 10 + 2) = False := eq_false (by omega)
  have x19 : (o + 5 = o + 10 + 2) = False := eq_false (by omega)
  have x20 : (o + 6 = o + 10 + 2) = False := eq_false (by omega)
  have x21 : (o + 7 = o + 10 + 2) = False := eq_false (by omega)
  have x22 : (o + 8 = o + 10 + 2) = False := eq_false (by omega)
  have x23 : (o + 9 = o + 10 + 2) = False := eq_false (by omega)
  have x24 : (o + 10 + 1 = o + 10 + 2) = False := eq_false (by omega)
  have x25 : (o + 10 + 3 = o + 10 + 2) = False := eq_false (by omega)
  have x26 : (o + 10 + 4 = o + 10 + 2) = False := eq_false (by omega)
  have x27 : (o = o + 10 + 3) = False := eq_false (by omega)
  have x28 : (o + 1 = o + 10 + 3) = False := eq_false (by omega)
  have x29 : (o + 2 = o + 10 + 3) = False := eq_false (by omega)
  have x30 : (o + 3 = o + 10 + 3) = False := eq_false (by omega)
  have x31 : (o + 4 = o + 10 + 3) = False := eq_false (by omega)
  have x32 : (o + 5 = o + 10 + 3) = False := eq_false (by omega)
  have x33 : (o + 6 = o + 10 + 3) = False := eq_false (by omega)
  have x34 : (o + 7 = o + 10 + 3) = False := eq_false (by omega)
  have x35 : (o + 8 = o + 10 + 3) = False := eq_false (by omega)
  have x36 : (o + 9 = o + 10 + 3) = False := eq_false (by omega)
  have x37 : (o + 10 + 1 = o + 10 + 3) = False := eq_false (by omega)
  have x38 : (o + 10 + 2 = o + 10 + 3) = False := eq_false (by omega)
  have x39 : (o + 10 + 4 = o + 10 + 3) = False := eq_false (by omega)
  have x40 : (o = o + 10 + 4) = False := eq_false (by omega)
  have x41 : (o + 1 = o + 10 + 4) = False := eq_false (by omega)
  have x42 : (o + 2 = o + 10 + 4) = False := eq_false (by omega)
  have x43 : (o + 3 = o + 10 + 4) = False := eq_false (by omega)
  have x44 : (o + 4 = o + 10 + 4) = False := eq_false (by omega)
  have x45 : (o + 5 = o + 10 + 4) = False := eq_false (by omega)
  have x46 : (o + 6 = o + 10 + 4) = False := eq_false (by omega)
  have x47 : (o + 7 = o + 10 + 4) = False := eq_false (by omega)
  have x48 : (o + 8 = o + 10 + 4) = False := eq_false (by omega)
  have x49 : (o + 9 = o + 10 + 4) = False := eq_false (by omega)
  have x50 : (o + 10 + 1 = o + 10 + 4) = False := eq_false (by omega)
  have x51 : (o + 10 + 2 = o + 10 + 4) = False := eq_false (by omega)
  have x52 : (o + 10 + 3 = o + 10 + 4) = False := eq_false (by omega)
  have x53 : (0 = 72 + 4 * (8 * a + t)) = False := eq_false (by omega)
  have x54 : (1 = 72 + 4 * (8 * a + t)) = False := eq_false (by omega)
  have x55 : (2 = 72 + 4 * (8 * a + t)) = False := eq_false (by omega)
  have x56 : (3 = 72 + 4 * (8 * a + t)) = False := eq_false (by omega)
  have x57 : ∀ z, z < n → (4 + 6 * z = 72 + 4 * (8 * a + t)) = False := fun z hz => eq_false (by omega)
  have x58 : ∀ z, z < n → (4 + 6 * z + 1 = 72 + 4 * (8 * a + t)) = False := fun z hz => eq_false (by omega)
  have x59 : ∀ z, z < n → (4 + 6 * z + 2 = 72 + 4 * (8 * a + t)) = False := fun z hz => eq_false (by omega)
  have x60 : ∀ z, z < n → (4 + 6 * z + 3 = 72 + 4 * (8 * a + t)) = False := fun z hz => eq_false (by omega)
  have x61 : ∀ z, z < n → (4 + 6 * z + 4 = 72 + 4 * (8 * a + t)) = False := fun z hz => eq_false (by omega)
  have x62 : ∀ z, z < n → (4 + 6 * z + 5 = 72 + 4 * (8 * a + t)) = False := fun z hz => eq_false (by omega)
  have x63 : ∀ z, z < K → (40 + 4 * z = 72 + 4 * (8 * a + t)) = False := fun z hz => eq_false (by omega)
  have x64 : ∀ z, z < K → (40 + 4 * z + 1 = 72 + 4 * (8 * a + t)) = False := fun z hz => eq_false (by omega)
  have x65 : ∀ z, z < K → (40 + 4 * z + 2 = 72 + 4 * (8 * a + t)) = False := fun z hz => eq_false (by omega)
  have x66 : ∀ z, z < K → (40 + 4 * z + 3 = 72 + 4 * (8 * a + t)) = False := fun z hz => eq_false (by omega)
  have x67 : ∀ z, (72 + 4 * z + 1 = 72 + 4 * (8 * a + t)) = False := fun z => eq_false (by omega)
  have x68 : ∀ z, (72 + 4 * z + 2 = 72 + 4 * (8 * a + t)) = False := fun z => eq_false (by omega)
  have x69 : ∀ z, (72 + 4 * z + 3 = 72 + 4 * (8 * a + t)) = False := fun z => eq_false (by omega)
  have x70 : (0 = 72 + 4 * (8 * a + t) + 1) = False := eq_false (by omega)
  have x71 : (1 = 72 + 4 * (8 * a + t) + 1) = False := eq_false (by omega)
  have x72 : (2 = 72 + 4 * (8 * a + t) + 1) = False := eq_false (by omega)
  have x73 : (3 = 72 + 4 * (8 * a + t) + 1) = False := eq_false (by omega)
  have x74 : ∀ z, z < n → (4 + 6 * z = 72 + 4 * (8 * a + t) + 1) = False := fun z hz => eq_false (by omega)
  have x75 : ∀ z, z < n → (4 + 6 * z + 1 = 72 + 4 * (8 * a + t) + 1) = False := fun z hz => eq_false (by omega)
  have x76 : ∀ z, z < n → (4 + 6 * z + 2 = 72 + 4 * (8 * a + t) + 1) = False := fun z hz => eq_false (by omega)
  have x77 : ∀ z, z < n → (4 + 6 * z + 3 = 72 + 4 * (8 * a + t) + 1) = False := fun z hz => eq_false (by omega)
  have x78 : ∀ z, z < n → (4 + 6 * z + 4 = 72 + 4 * (8 * a + t) + 1) = False := fun z hz => eq_false (by omega)
  have x79 : ∀ z, z < n → (4 + 6 * z + 5 = 72 + 4 * (8 * a + t) + 1) = False := fun z hz => eq_false (by omega)
  have x80 : ∀ z, z < K → (40 + 4 * z = 72 + 4 * (8 * a + t) + 1) = False := fun z hz => eq_false (by omega)
  have x81 : ∀ z, z < K → (40 + 4 * z + 1 = 72 + 4 * (8 * a + t) + 1) = False := fun z hz => eq_false (by omega)
  have x82 : ∀ z, z < K → (40 + 4 * z + 2 = 72 + 4 * (8 * a + t) + 1) = False := fun z hz => eq_false (by omega)
  have x83 : ∀ z, z < K → (40 + 4 * z + 3 = 72 + 4 * (8 * a + t) + 1) = False := fun z hz => eq_false (by omega)
  have x84 : ∀ z, (72 + 4 * z = 72 + 4 * (8 * a + t) + 1) = False := fun z => eq_false (by omega)
  have x85 : ∀ z, (72 + 4 * z + 2 = 72 + 4 * (8 * a + t) + 1) = False := fun z => eq_false (by omega)
  have x86 : ∀ z, (72 + 4 * z + 3 = 72 + 4 * (8 * a + t) + 1) = False := fun z => eq_false (by omega)
  have x87 : (0 = 72 + 4 * (8 * a + t) + 2) = False := eq_false (by omega)
  have x88 : (1 = 72 + 4 * (8 * a + t) + 2) = False := eq_false (by omega)
  have x89 : (2 = 72 + 4 * (8 * a + t) + 2) = False := eq_false (by omega)
  have x90 : (3 = 72 + 4 * (8 * a + t) + 2) = False := eq_false (by omega)
  have x91 : ∀ z, z < n → (4 + 6 * z = 72 + 4 * (8 * a + t) + 2) = False := fun z hz => eq_false (by omega)
  have x92 : ∀ z, z < n → (4 + 6 * z + 1 = 72 + 4 * (8 * a + t) + 2) = False := fun z hz => eq_false (by omega)
  have x93 : ∀ z, z < n → (4 + 6 * z + 2 = 72 + 4 * (8 * a + t) + 2) = False := fun z hz => eq_false (by omega)
  have x94 : ∀ z, z < n → (4 + 6 * z + 3 = 72 + 4 * (8 * a + t) + 2) = False := fun z hz => eq_false (by omega)
  have x95 : ∀ z, z < n → (4 + 6 * z + 4 = 72 + 4 * (8 * a + t) + 2) = False := fun z hz => eq_false (by omega)
  have x96 : ∀ z, z < n → (4 + 6 * z + 5 = 72 + 4 * (8 * a + t) + 2) = False := fun z hz => eq_false (by omega)
  have x97 : ∀ z, z < K → (40 + 4 * z = 72 + 4 * (8 * a + t) + 2) = False := fun z hz => eq_false (by omega)
  have x98 : ∀ z, z < K → (40 + 4 * z + 1 = 72 + 4 * (8 * a + t) + 2) = False := fun z hz => eq_false (by omega)
  have x99 : ∀ z, z < K → (40 + 4 * z + 2 = 72 + 4 * (8 * a + t) + 2) = False := fun z hz => eq_false (by omega)
  have x100 : ∀ z, z < K → (40 + 4 * z + 3 = 72 + 4 * (8 * a + t) + 2) = False := fun z hz => eq_false (by omega)
  have x101 : ∀ z, (72 + 4 * z = 72 + 4 * (8 * a + t) + 2) = False := fun z => eq_false (by omega)
  have x102 : ∀ z, (72 + 4 * z + 1 = 72 + 4 * (8 * a + t) + 2) = False := fun z => eq_false (by omega)
  have x103 : ∀ z, (72 + 4 * z + 3 = 72 + 4 * (8 * a + t) + 2) = False := fun z => eq_false (by omega)
  have x104 : (0 = 72 + 4 * (8 * a + t) + 3) = False := eq_false (by omega)
  have x105 : (1 = 72 + 4 * (8 * a + t) + 3) = False := eq_false (by omega)
  have x106 : (2 = 72 + 4 * (8 * a + t) + 3) = False := eq_false (by omega)
  have x107 : (3 = 72 + 4 * (8 * a + t) + 3) = False := eq_false (by omega)
  have x108 : ∀ z, z < n → (4 + 6 * z = 72 + 4 * (8 * a + t) + 3) = False := fun z hz => eq_false (by omega)
  have x109 : ∀ z, z < n → (4 + 6 * z + 1 = 72 + 4 * (8 * a + t) + 3) = False := fun z hz => eq_false (by omega)
  have x110 : ∀ z, z < n → (4 + 6 * z + 2 = 72 + 4 * (8 * a + t) + 3) = False := fun z hz => eq_false (by omega)
  have x111 : ∀ z, z < n → (4 + 6 * z + 3 = 72 + 4 * (8 * a + t) + 3) = False := fun z hz => eq_false (by omega)
  have x112 : ∀ z, z < n → (4 + 6 * z + 4 = 72 + 4 * (8 * a + t) + 3) = False := fun z hz => eq_false (by omega)
  have x113 : ∀ z, z < n → (4 + 6 * z + 5 = 72 + 4 * (8 * a + t) + 3) = False := fun z hz => eq_false (by omega)
  have x114 : ∀ z, z < K → (40 + 4 * z = 72 + 4 * (8 * a + t) + 3) = False := fun z hz => eq_false (by omega)
  have x115 : ∀ z, z < K → (40 + 4 * z + 1 = 72 + 4 * (8 * a + t) + 3) = False := fun z hz => eq_false (by omega)
  have x116 : ∀ z, z < K → (40 + 4 * z + 2 = 72 + 4 * (8 * a + t) + 3) = False := fun z hz => eq_false (by omega)
  have x117 : ∀ z, z < K → (40 + 4 * z + 3 = 72 + 4 * (8 * a + t) + 3) = False := fun z hz => eq_false (by omega)
  have x118 : ∀ z, (72 + 4 * z = 72 + 4 * (8 * a + t) + 3) = False := fun z => eq_false (by omega)
  have x119 : ∀ z, (72 + 4 * z + 1 = 72 + 4 * (8 * a + t) + 3) = False := fun z => eq_false (by omega)
  have x120 : ∀ z, (72 + 4 * z + 2 = 72 + 4 * (8 * a + t) + 3) = False := fun z => eq_false (by omega)
  refine ⟨⟨a1, a2, ?_, ?_, fun a9 h9 => ?_, fun t9 k9 => ?_, fun a9 h9 t9 k9 => ?_⟩, ?_, ?_, ?_, ?_, ⟨S, s1, ?_, fun a9 h9 => ?_⟩, fun a9 h9 => ?_, fun t9 k9 => ?_, fun a9 h9 t9 k9 => ?_⟩
  · skip
    clear a5 a6 a7 b5 b6 b7 s3 s1
    simp only [va_up, zRn, qLay, x1, x2, x3, x4, x5, x6, x7, x8, x9, x10, x11, x12, x13, x14, x15, x16, x17, x18, x19, x20, x21, x22, x23, x24, x25, x26, x27, x28, x29, x30, x31, x32, x33, x34, x35, x36, x37, x38, x39, x40, x41, x42, x43, x44, x45, x46, x47, x48, x49, x50, x51, x52, x53, x54, x55, x56, x57, x58, x59, x60, x61, x62, x63, x64, x65, x66, x67, x68, x69, x70, x71, x72, x73, x74, x75, x76, x77, x78, x79, x80, x81, x82, x83, x84, x85, x86, x87, x88, x89, x90, x91, x92, x93, x94, x95, x96, x97, x98, x99, x100, x101, x102, x103, x104, x105, x106, x107, x108, x109, x110, x111, x112, x113, x114, x115, x116, x117, x118, x119, x120, if_true, if_false]
    all_goals clear x1 x2 x3 x4 x5 x6 x7 x8 x9 x10 x11 x12 x13 x14 x15 x16 x17 x18 x19 x20 x21 x22 x23 x24 x25 x26 x27 x28 x29 x30 x31 x32 x33 x34 x35 x36 x37 x38 x39 x40 x41 x42 x43 x44 x45 x46 x47 x48 x49 x50 x51 x52 x53 x54 x55 x56 x57 x58 x59 x60 x61 x62 x63 x64 x65 x66 x67 x68 x69 x70 x71 x72 x73 x74 x75 x76 x77 x78 x79 x80 x81 x82 x83 x84 x85 x86 x87 x88 x89 x90 x91 x92 x93 x94 x95 x96 x97 x98 x99 x100 x101 x102 x103 x104 x105 x106 x107 x108 x109 x110 x111 x112 x113 x114 x115 x116 x117 x118 x119 x120
    all_goals (repeat' apply And.intro)
    all_goals (repeat' (first | assumption | rfl | split | omega))
    all_goals (repeat' apply And.intro)
    all_goals first | rfl | assumption | (simp only [va_up]; (repeat' (first | omega | split)) <;> first | rfl | assumption) | (intro hh; exact absurd hh (by decide)) | (intro hh; repeat' apply And.intro) 
    all_goals first | rfl | assumption | (simp only [va_up]; (repeat' (first | omega | split)) <;> first | rfl | assumption) | (simp_all; done)
  · skip
    clear a5 a6 a7 b5 b6 b7 s3 s1
    simp only [va_up, zRn, qLay, x1, x2, x3, x4, x5, x6, x7, x8, x9, x10, x11, x12, x13, x14, x15, x16, x17, x18, x19, x20, x21, x22, x23, x24, x25, x26, x27, x28, x29, x30, x31, x32, x33, x34, x35, x36, x37, x38, x39, x40, x41, x42, x43, x44, x45, x46, x47, x48, x49, x50, x51, x52, x53, x54, x55, x56, x57, x58, x59, x60, x61, x62, x63, x64, x65, x66, x67, x68, x69, x70, x71, x72, x73, x74, x75, x76, x77, x78, x79, x80, x81, x82, x83, x84, x85, x86, x87, x88, x89, x90, x91, x92, x93, x94, x95, x96, x97, x98, x99, x100, x101, x102, x103, x104, x105, x106, x107, x108, x109, x110, x111, x112, x113, x114, x115, x116, x117, x118, x119, x120, if_true, if_false]
    all_goals clear x1 x2 x3 x4 x5 x6 x7 x8 x9 x10 x11 x12 x13 x14 x15 x16 x17 x18 x19 x20 x21 x22 x23 x24 x25 x26 x27 x28 x29 x30 x31 x32 x33 x34 x35 x36 x37 x38 x39 x40 x41 x42 x43 x44 x45 x46 x47 x48 x49 x50 x51 x52 x53 x54 x55 x56 x57 x58 x59 x60 x61 x62 x63 x64 x65 x66 x67 x68 x69 x70 x71 x72 x73 x74 x75 x76 x77 x78 x79 x80 x81 x82 x83 x84 x85 x86 x87 x88 x89 x90 x91 x92 x93 x94 x95 x96 x97 x98 x99 x100 x101 x102 x103 x104 x105 x106 x107 x108 x109 x110 x111 x112 x113 x114 x115 x116 x117 x118 x119 x120
    all_goals (repeat' apply And.intro)
    all_goals (repeat' (first | assumption | rfl | split | omega))
    all_goals (repeat' apply And.intro)
    all_goals first | rfl | assumption | (simp only [va_up]; (repeat' (first | omega | split)) <;> first | rfl | assumption) | (intro hh; exact absurd hh (by decide)) | (intro hh; repeat' apply And.intro) 
    all_goals first | rfl | assumption | (simp only [va_up]; (repeat' (first | omega | split)) <;> first | rfl | assumption) | (simp_all; done)
  · skip
    obtain ⟨q1, q2, q3, q4⟩ := a5 a9 h9
    clear a5 a6 a7 b5 b6 b7 s3 s1
    simp only [va_up, zRn, qLay, x1, x2, x3, x4, x5, x6, x7, x8, x9, x10, x11, x12, x13, x14, x15, x16, x17, x18, x19, x20, x21, x22, x23, x24, x25, x26, x27, x28, x29, x30, x31, x32, x33, x34, x35, x36, x37, x38, x39, x40, x41, x42, x43, x44, x45, x46, x47, x48, x49, x50, x51, x52, x53, x54, x55, x56, x57, x58, x59, x60, x61, x62, x63, x64, x65, x66, x67, x68, x69, x70, x71, x72, x73, x74, x75, x76, x77, x78, x79, x80, x81, x82, x83, x84, x85, x86, x87, x88, x89, x90, x91, x92, x93, x94, x95, x96, x97, x98, x99, x100, x101, x102, x103, x104, x105, x106, x107, x108, x109, x110, x111, x112, x113, x114, x115, x116, x117, x118, x119, x120, h9, if_true, if_false]
    all_goals clear x1 x2 x3 x4 x5 x6 x7 x8 x9 x10 x11 x12 x13 x14 x15 x16 x17 x18 x19 x20 x21 x22 x23 x24 x25 x26 x27 x28 x29 x30 x31 x32 x33 x34 x35 x36 x37 x38 x39 x40 x41 x42 x43 x44 x45 x46 x47 x48 x49 x50 x51 x52 x53 x54 x55 x56 x57 x58 x59 x60 x61 x62 x63 x64 x65 x66 x67 x68 x69 x70 x71 x72 x73 x74 x75 x76 x77 x78 x79 x80 x81 x82 x83 x84 x85 x86 x87 x88 x89 x90 x91 x92 x93 x94 x95 x96 x97 x98 x99 x100 x101 x102 x103 x104 x105 x106 x107 x108 x109 x110 x111 x112 x113 x114 x115 x116 x117 x118 x119 x120
    all_goals (repeat' apply And.intro)
    all_goals (repeat' (first | assumption | rfl | split | omega))
    all_goals (repeat' apply And.intro)
    all_goals first | rfl | assumption | (simp only [va_up]; (repeat' (first | omega | split)) <;> first | rfl | assumption) | (intro hh; exact absurd hh (by decide)) | (intro hh; repeat' apply And.intro) 
    all_goals first | rfl | assumption | (simp only [va_up]; (repeat' (first | omega | split)) <;> first | rfl | assumption) | (simp_all; done)
  · skip
    obtain ⟨q1, q2⟩ := a6 t9 k9
    clear a5 a6 a7 b5 b6 b7 s3 s1
    simp only [va_up, zRn, qLay, x1, x2, x3, x4, x5, x6, x7, x8, x9, x10, x11, x12, x13, x14, x15, x16, x17, x18, x19, x20, x21, x22, x23, x24, x25, x26, x27, x28, x29, x30, x31, x32, x33, x34, x35, x36, x37, x38, x39, x40, x41, x42, x43, x44, x45, x46, x47, x48, x49, x50, x51, x52, x53, x54, x55, x56, x57, x58, x59, x60, x61, x62, x63, x64, x65, x66, x67, x68, x69, x70, x71, x72, x73, x74, x75, x76, x77, x78, x79, x80, x81, x82, x83, x84, x85, x86, x87, x88, x89, x90, x91, x92, x93, x94, x95, x96, x97, x98, x99, x100, x101, x102, x103, x104, x105, x106, x107, x108, x109, x110, x111, x112, x113, x114, x115, x116, x117, x118, x119, x120, k9, if_true, if_false]
    all_goals clear x1 x2 x3 x4 x5 x6 x7 x8 x9 x10 x11 x12 x13 x14 x15 x16 x17 x18 x19 x20 x21 x22 x23 x24 x25 x26 x27 x28 x29 x30 x31 x32 x33 x34 x35 x36 x37 x38 x39 x40 x41 x42 x43 x44 x45 x46 x47 x48 x49 x50 x51 x52 x53 x54 x55 x56 x57 x58 x59 x60 x61 x62 x63 x64 x65 x66 x67 x68 x69 x70 x71 x72 x73 x74 x75 x76 x77 x78 x79 x80 x81 x82 x83 x84 x85 x86 x87 x88 x89 x90 x91 x92 x93 x94 x95 x96 x97 x98 x99 x100 x101 x102 x103 x104 x105 x106 x107 x108 x109 x110 x111 x112 x113 x114 x115 x116 x117 x118 x119 x120
    all_goals (repeat' apply And.intro)
    all_goals (repeat' (first | assumption | rfl | split | omega))
    all_goals (repeat' apply And.intro)
    all_goals first | rfl | assumption | (simp only [va_up]; (repeat' (first | omega | split)) <;> first | rfl | assumption) | (intro hh; exact absurd hh (by decide)) | (intro hh; repeat' apply And.intro) 
    all_goals first | rfl | assumption | (simp only [va_up]; (repeat' (first | omega | split)) <;> first | rfl | assumption) | (simp_all; done)
  · skip
    obtain ⟨q1, q2⟩ := a7 a9 h9 t9 k9
    clear a5 a6 a7 b5 b6 b7 s3 s1
    simp only [va_up, zRn, qLay, x1, x2, x3, x4, x5, x6, x7, x8, x9, x10, x11, x12, x13, x14, x15, x16, x17, x18, x19, x20, x21, x22, x23, x24, x25, x26, x27, x28, x29, x30, x31, x32, x33, x34, x35, x36, x37, x38, x39, x40, x41, x42, x43, x44, x45, x46, x47, x48, x49, x50, x51, x52, x53, x54, x55, x56, x57, x58, x59, x60, x61, x62, x63, x64, x65, x66, x67, x68, x69, x70, x71, x72, x73, x74, x75, x76, x77, x78, x79, x80, x81, x82, x83, x84, x85, x86, x87, x88, x89, x90, x91, x92, x93, x94, x95, x96, x97, x98, x99, x100, x101, x102, x103, x104, x105, x106, x107, x108, x109, x110, x111, x112, x113, x114, x115, x116, x117, x118, x119, x120, h9, k9, if_true, if_false]
    all_goals clear x1 x2 x3 x4 x5 x6 x7 x8 x9 x10 x11 x12 x13 x14 x15 x16 x17 x18 x19 x20 x21 x22 x23 x24 x25 x26 x27 x28 x29 x30 x31 x32 x33 x34 x35 x36 x37 x38 x39 x40 x41 x42 x43 x44 x45 x46 x47 x48 x49 x50 x51 x52 x53 x54 x55 x56 x57 x58 x59 x60 x61 x62 x63 x64 x65 x66 x67 x68 x69 x70 x71 x72 x73 x74 x75 x76 x77 x78 x79 x80 x81 x82 x83 x84 x85 x86 x87 x88 x89 x90 x91 x92 x93 x94 x95 x96 x97 x98 x99 x100 x101 x102 x103 x104 x105 x106 x107 x108 x109 x110 x111 x112 x113 x114 x115 x116 x117 x118 x119 x120
    all_goals (repeat' apply And.intro)
    all_goals (repeat' (first | assumption | rfl | split | omega))
    all_goals (repeat' apply And.intro)
    all_goals first | rfl | assumption | (simp only [va_up]; (repeat' (first | omega | split)) <;> first | rfl | assumption) | (intro hh; exact absurd hh (by decide)) | (intro hh; repeat' apply And.intro) 
    all_goals first | rfl | assumption | (simp only [va_up]; (repeat' (first | omega | split)) <;> first | rfl | assumption) | (simp_all; done)
  · skip
    clear a5 a6 a7 b5 b6 b7 s3 s1
    simp only [va_up, zRn, qLay, x1, x2, x3, x4, x5, x6, x7, x8, x9, x10, x11, x12, x13, x14, x15, x16, x17, x18, x19, x20, x21, x22, x23, x24, x25, x26, x27, x28, x29, x30, x31, x32, x33, x34, x35, x36, x37, x38, x39, x40, x41, x42, x43, x44, x45, x46, x47, x48, x49, x50, x51, x52, x53, x54, x55, x56, x57, x58, x59, x60, x61, x62, x63, x64, x65, x66, x67, x68, x69, x70, x71, x72, x73, x74, x75, x76, x77, x78, x79, x80, x81, x82, x83, x84, x85, x86, x87, x88, x89, x90, x91, x92, x93, x94, x95, x96, x97, x98, x99, x100, x101, x102, x103, x104, x105, x106, x107, x108, x109, x110, x111, x112, x113, x114, x115, x116, x117, x118, x119, x120, if_true, if_false]
    all_goals clear x1 x2 x3 x4 x5 x6 x7 x8 x9 x10 x11 x12 x13 x14 x15 x16 x17 x18 x19 x20 x21 x22 x23 x24 x25 x26 x27 x28 x29 x30 x31 x32 x33 x34 x35 x36 x37 x38 x39 x40 x41 x42 x43 x44 x45 x46 x47 x48 x49 x50 x51 x52 x53 x54 x55 x56 x57 x58 x59 x60 x61 x62 x63 x64 x65 x66 x67 x68 x69 x70 x71 x72 x73 x74 x75 x76 x77 x78 x79 x80 x81 x82 x83 x84 x85 x86 x87 x88 x89 x90 x91 x92 x93 x94 x95 x96 x97 x98 x99 x100 x101 x102 x103 x104 x105 x106 x107 x108 x109 x110 x111 x112 x113 x114 x115 x116 x117 x118 x119 x120
    all_goals (repeat' apply And.intro)
    all_goals (repeat' (first | assumption | rfl | split | omega))
    all_goals (repeat' apply And.intro)
    all_goals first | rfl | assumption | (simp only [va_up]; (repeat' (first | omega | split)) <;> first | rfl | assumption) | (intro hh; exact absurd hh (by decide)) | (intro hh; repeat' apply And.intro) 
    all_goals first | rfl | assumption | (simp only [va_up]; (repeat' (first | omega | split)) <;> first | rfl | assumption) | (simp_all; done)
  · skip
    clear a5 a6 a7 b5 b6 b7 s3 s1
    simp only [va_up, zRn, qLay, x1, x2, x3, x4, x5, x6, x7, x8, x9, x10, x11, x12, x13, x14, x15, x16, x17, x18, x19, x20, x21, x22, x23, x24, x25, x26, x27, x28, x29, x30, x31, x32, x33, x34, x35, x36, x37, x38, x39, x40, x41, x42, x43, x44, x45, x46, x47, x48, x49, x50, x51, x52, x53, x54, x55, x56, x57, x58, x59, x60, x61, x62, x63, x64, x65, x66, x67, x68, x69, x70, x71, x72, x73, x74, x75, x76, x77, x78, x79, x80, x81, x82, x83, x84, x85, x86, x87, x88, x89, x90, x91, x92, x93, x94, x95, x96, x97, x98, x99, x100, x101, x102, x103, x104, x105, x106, x107, x108, x109, x110, x111, x112, x113, x114, x115, x116, x117, x118, x119, x120, if_true, if_false]
    all_goals clear x1 x2 x3 x4 x5 x6 x7 x8 x9 x10 x11 x12 x13 x14 x15 x16 x17 x18 x19 x20 x21 x22 x23 x24 x25 x26 x27 x28 x29 x30 x31 x32 x33 x34 x35 x36 x37 x38 x39 x40 x41 x42 x43 x44 x45 x46 x47 x48 x49 x50 x51 x52 x53 x54 x55 x56 x57 x58 x59 x60 x61 x62 x63 x64 x65 x66 x67 x68 x69 x70 x71 x72 x73 x74 x75 x76 x77 x78 x79 x80 x81 x82 x83 x84 x85 x86 x87 x88 x89 x90 x91 x92 x93 x94 x95 x96 x97 x98 x99 x100 x101 x102 x103 x104 x105 x106 x107 x108 x109 x110 x111 x112 x113 x114 x115 x116 x117 x118 x119 x120
    all_goals (repeat' apply And.intro)
    all_goals (repeat' (first | assumption | rfl | split | omega))
    all_goals (repeat' apply And.intro)
    all_goals first | rfl | assumption | (simp only [va_up]; (repeat' (first | omega | split)) <;> first | rfl | assumption) | (intro hh; exact absurd hh (by decide)) | (intro hh; repeat' apply And.intro) 
    all_goals first | rfl | assumption | (simp only [va_up]; (repeat' (first | omega | split)) <;> first | rfl | assumption) | (simp_all; done)
  · skip
    clear a5 a6 a7 b5 b6 b7 s3 s1
    simp only [va_up, zRn, qLay, x1, x2, x3, x4, x5, x6, x7, x8, x9, x10, x11, x12, x13, x14, x15, x16, x17, x18, x19, x20, x21, x22, x23, x24, x25, x26, x27, x28, x29, x30, x31, x32, x33, x34, x35, x36, x37, x38, x39, x40, x41, x42, x43, x44, x45, x46, x47, x48, x49, x50, x51, x52, x53, x54, x55, x56, x57, x58, x59, x60, x61, x62, x63, x64, x65, x66, x67, x68, x69, x70, x71, x72, x73, x74, x75, x76, x77, x78, x79, x80, x81, x82, x83, x84, x85, x86, x87, x88, x89, x90, x91, x92, x93, x94, x95, x96, x97, x98, x99, x100, x101, x102, x103, x104, x105, x106, x107, x108, x109, x110, x111, x112, x113, x114, x115, x116, x117, x118, x119, x120, if_true, if_false]
    all_goals clear x1 x2 x3 x4 x5 x6 x7 x8 x9 x10 x11 x12 x13 x14 x15 x16 x17 x18 x19 x20 x21 x22 x23 x24 x25 x26 x27 x28 x29 x30 x31 x32 x33 x34 x35 x36 x37 x38 x39 x40 x41 x42 x43 x44 x45 x46 x47 x48 x49 x50 x51 x52 x53 x54 x55 x56 x57 x58 x59 x60 x61 x62 x63 x64 x65 x66 x67 x68 x69 x70 x71 x72 x73 x74 x75 x76 x77 x78 x79 x80 x81 x82 x83 x84 x85 x86 x87 x88 x89 x90 x91 x92 x93 x94 x95 x96 x97 x98 x99 x100 x101 x102 x103 x104 x105 x106 x107 x108 x109 x110 x111 x112 x113 x114 x115 x116 x117 x118 x119 x120
    all_goals (repeat' apply And.intro)
    all_goals (repeat' (first | assumption | rfl | split | omega))
    all_goals (repeat' apply And.intro)
    all_goals first | rfl | assumption | (simp only [va_up]; (repeat' (first | omega | split)) <;> first | rfl | assumption) | (intro hh; exact absurd hh (by decide)) | (intro hh; repeat' apply And.intro) 
    all_goals first | rfl | assumption | (simp only [va_up]; (repeat' (first | omega | split)) <;> first | rfl | assumption) | (simp_all; done)
  · skip
    clear a5 a6 a7 b5 b6 b7 s3 s1
    simp only [va_up, zRn, qLay, x1, x2, x3, x4, x5, x6, x7, x8, x9, x10, x11, x12, x13, x14, x15, x16, x17, x18, x19, x20, x21, x22, x23, x24, x25, x26, x27, x28, x29, x30, x31, x32, x33, x34, x35, x36, x37, x38, x39, x40, x41, x42, x43, x44, x45, x46, x47, x48, x49, x50, x51, x52, x53, x54, x55, x56, x57, x58, x59, x60, x61, x62, x63, x64, x65, x66, x67, x68, x69, x70, x71, x72, x73, x74, x75, x76, x77, x78, x79, x80, x81, x82, x83, x84, x85, x86, x87, x88, x89, x90, x91, x92, x93, x94, x95, x96, x97, x98, x99, x100, x101, x102, x103, x104, x105, x106, x107, x108, x109, x110, x111, x112, x113, x114, x115, x116, x117, x118, x119, x120, if_true, if_false]
    all_goals clear x1 x2 x3 x4 x5 x6 x7 x8 x9 x10 x11 x12 x13 x14 x15 x16 x17 x18 x19 x20 x21 x22 x23 x24 x25 x26 x27 x28 x29 x30 x31 x32 x33 x34 x35 x36 x37 x38 x39 x40 x41 x42 x43 x44 x45 x46 x47 x48 x49 x50 x51 x52 x53 x54 x55 x56 x57 x58 x59 x60 x61 x62 x63 x64 x65 x66 x67 x68 x69 x70 x71 x72 x73 x74 x75 x76 x77 x78 x79 x80 x81 x82 x83 x84 x85 x86 x87 x88 x89 x90 x91 x92 x93 x94 x95 x96 x97 x98 x99 x100 x101 x102 x103 x104 x105 x106 x107 x108 x109 x110 x111 x112 x113 x114 x115 x116 x117 x118 x119 x120
    all_goals (repeat' apply And.intro)
    all_goals (repeat' (first | assumption | rfl | split | omega))
    all_goals (repeat' apply And.intro)
    all_goals first | rfl | assumption | (simp only [va_up]; (repeat' (first | omega | split)) <;> first | rfl | assumption) | (intro hh; exact absurd hh (by decide)) | (intro hh; repeat' apply And.intro) 
    all_goals first | rfl | assumption | (simp only [va_up]; (repeat' (first | omega | split)) <;> first | rfl | assumption) | (simp_all; done)
  · skip
    clear a5 a6 a7 b5 b6 b7 s3 s1
    simp only [va_up, zRn, qLay, x1, x2, x3, x4, x5, x6, x7, x8, x9, x10, x11, x12, x13, x14, x15, x16, x17, x18, x19, x20, x21, x22, x23, x24, x25, x26, x27, x28, x29, x30, x31, x32, x33, x34, x35, x36, x37, x38, x39, x40, x41, x42, x43, x44, x45, x46, x47, x48, x49, x50, x51, x52, x53, x54, x55, x56, x57, x58, x59, x60, x61, x62, x63, x64, x65, x66, x67, x68, x69, x70, x71, x72, x73, x74, x75, x76, x77, x78, x79, x80, x81, x82, x83, x84, x85, x86, x87, x88, x89, x90, x91, x92, x93, x94, x95, x96, x97, x98, x99, x100, x101, x102, x103, x104, x105, x106, x107, x108, x109, x110, x111, x112, x113, x114, x115, x116, x117, x118, x119, x120, if_true, if_false]
    all_goals clear x1 x2 x3 x4 x5 x6 x7 x8 x9 x10 x11 x12 x13 x14 x15 x16 x17 x18 x19 x20 x21 x22 x23 x24 x25 x26 x27 x28 x29 x30 x31 x32 x33 x34 x35 x36 x37 x38 x39 x40 x41 x42 x43 x44 x45 x46 x47 x48 x49 x50 x51 x52 x53 x54 x55 x56 x57 x58 x59 x60 x61 x62 x63 x64 x65 x66 x67 x68 x69 x70 x71 x72 x73 x74 x75 x76 x77 x78 x79 x80 x81 x82 x83 x84 x85 x86 x87 x88 x89 x90 x91 x92 x93 x94 x95 x96 x97 x98 x99 x100 x101 x102 x103 x104 x105 x106 x107 x108 x109 x110 x111 x112 x113 x114 x115 x116 x117 x118 x119 x120
    all_goals (repeat' apply And.intro)
    all_goals (repeat' (first | assumption | rfl | split | omega))
    all_goals (repeat' apply And.intro)
    all_goals first | rfl | assumption | (simp only [va_up]; (repeat' (first | omega | split)) <;> first | rfl | assumption) | (intro hh; exact absurd hh (by decide)) | (intro hh; repeat' apply And.intro) 
    all_goals first | rfl | assumption | (simp only [va_up]; (repeat' (first | omega | split)) <;> first | rfl | assumption) | (simp_all; done)
  · rw [s3 a9 h9, qOn, qOn]
    clear a5 a6 a7 b5 b6 b7 s3 s1
    simp only [va_up, zRn, qLay, x1, x2, x3, x4, x5, x6, x7, x8, x9, x10, x11, x12, x13, x14, x15, x16, x17, x18, x19, x20, x21, x22, x23, x24, x25, x26, x27, x28, x29, x30, x31, x32, x33, x34, x35, x36, x37, x38, x39, x40, x41, x42, x43, x44, x45, x46, x47, x48, x49, x50, x51, x52, x53, x54, x55, x56, x57, x58, x59, x60, x61, x62, x63, x64, x65, x66, x67, x68, x69, x70, x71, x72, x73, x74, x75, x76, x77, x78, x79, x80, x81, x82, x83, x84, x85, x86, x87, x88, x89, x90, x91, x92, x93, x94, x95, x96, x97, x98, x99, x100, x101, x102, x103, x104, x105, x106, x107, x108, x109, x110, x111, x112, x113, x114, x115, x116, x117, x118, x119, x120, h9, if_true, if_false]
    all_goals clear x1 x2 x3 x4 x5 x6 x7 x8 x9 x10 x11 x12 x13 x14 x15 x16 x17 x18 x19 x20 x21 x22 x23 x24 x25 x26 x27 x28 x29 x30 x31 x32 x33 x34 x35 x36 x37 x38 x39 x40 x41 x42 x43 x44 x45 x46 x47 x48 x49 x50 x51 x52 x53 x54 x55 x56 x57 x58 x59 x60 x61 x62 x63 x64 x65 x66 x67 x68 x69 x70 x71 x72 x73 x74 x75 x76 x77 x78 x79 x80 x81 x82 x83 x84 x85 x86 x87 x88 x89 x90 x91 x92 x93 x94 x95 x96 x97 x98 x99 x100 x101 x102 x103 x104 x105 x106 x107 x108 x109 x110 x111 x112 x113 x114 x115 x116 x117 x118 x119 x120
    all_goals (repeat' apply And.intro)
    all_goals (repeat' (first | assumption | rfl | split | omega))
    all_goals (repeat' apply And.intro)
    all_goals first | rfl | assumption | (simp only [va_up]; (repeat' (first | omega | split)) <;> first | rfl | assumption) | (intro hh; exact absurd hh (by decide)) | (intro hh; repeat' apply And.intro) 
    all_goals first | rfl | assumption | (simp only [va_up]; (repeat' (first | omega | split)) <;> first | rfl | assumption) | (simp_all; done)
  · skip
    obtain ⟨q1, q2, q3, q4, q5⟩ := b5 a9 h9
    clear a5 a6 a7 b5 b6 b7 s3 s1
    simp only [va_up, zRn, qLay, x1, x2, x3, x4, x5, x6, x7, x8, x9, x10, x11, x12, x13, x14, x15, x16, x17, x18, x19, x20, x21, x22, x23, x24, x25, x26, x27, x28, x29, x30, x31, x32, x33, x34, x35, x36, x37, x38, x39, x40, x41, x42, x43, x44, x45, x46, x47, x48, x49, x50, x51, x52, x53, x54, x55, x56, x57, x58, x59, x60, x61, x62, x63, x64, x65, x66, x67, x68, x69, x70, x71, x72, x73, x74, x75, x76, x77, x78, x79, x80, x81, x82, x83, x84, x85, x86, x87, x88, x89, x90, x91, x92, x93, x94, x95, x96, x97, x98, x99, x100, x101, x102, x103, x104, x105, x106, x107, x108, x109, x110, x111, x112, x113, x114, x115, x116, x117, x118, x119, x120, h9, if_true, if_false]
    all_goals clear x1 x2 x3 x4 x5 x6 x7 x8 x9 x10 x11 x12 x13 x14 x15 x16 x17 x18 x19 x20 x21 x22 x23 x24 x25 x26 x27 x28 x29 x30 x31 x32 x33 x34 x35 x36 x37 x38 x39 x40 x41 x42 x43 x44 x45 x46 x47 x48 x49 x50 x51 x52 x53 x54 x55 x56 x57 x58 x59 x60 x61 x62 x63 x64 x65 x66 x67 x68 x69 x70 x71 x72 x73 x74 x75 x76 x77 x78 x79 x80 x81 x82 x83 x84 x85 x86 x87 x88 x89 x90 x91 x92 x93 x94 x95 x96 x97 x98 x99 x100 x101 x102 x103 x104 x105 x106 x107 x108 x109 x110 x111 x112 x113 x114 x115 x116 x117 x118 x119 x120
    all_goals (repeat' apply And.intro)
    all_goals (repeat' (first | assumption | rfl | split | omega))
    all_goals (repeat' apply And.intro)
    all_goals first | rfl | assumption | (simp only [va_up]; (repeat' (first | omega | split)) <;> first | rfl | assumption) | (intro hh; exact absurd hh (by decide)) | (intro hh; repeat' apply And.intro) 
    all_goals first | rfl | assumption | (simp only [va_up]; (repeat' (first | omega | split)) <;> first | rfl | assumption) | (simp_all; done)
  · skip
    obtain ⟨q1, q2, q3, q4⟩ := b6 t9 k9
    clear a5 a6 a7 b5 b6 b7 s3 s1
    simp only [va_up, zRn, qLay, x1, x2, x3, x4, x5, x6, x7, x8, x9, x10, x11, x12, x13, x14, x15, x16, x17, x18, x19, x20, x21, x22, x23, x24, x25, x26, x27, x28, x29, x30, x31, x32, x33, x34, x35, x36, x37, x38, x39, x40, x41, x42, x43, x44, x45, x46, x47, x48, x49, x50, x51, x52, x53, x54, x55, x56, x57, x58, x59, x60, x61, x62, x63, x64, x65, x66, x67, x68, x69, x70, x71, x72, x73, x74, x75, x76, x77, x78, x79, x80, x81, x82, x83, x84, x85, x86, x87, x88, x89, x90, x91, x92, x93, x94, x95, x96, x97, x98, x99, x100, x101, x102, x103, x104, x105, x106, x107, x108, x109, x110, x111, x112, x113, x114, x115, x116, x117, x118, x119, x120, k9, if_true, if_false]
    all_goals clear x1 x2 x3 x4 x5 x6 x7 x8 x9 x10 x11 x12 x13 x14 x15 x16 x17 x18 x19 x20 x21 x22 x23 x24 x25 x26 x27 x28 x29 x30 x31 x32 x33 x34 x35 x36 x37 x38 x39 x40 x41 x42 x43 x44 x45 x46 x47 x48 x49 x50 x51 x52 x53 x54 x55 x56 x57 x58 x59 x60 x61 x62 x63 x64 x65 x66 x67 x68 x69 x70 x71 x72 x73 x74 x75 x76 x77 x78 x79 x80 x81 x82 x83 x84 x85 x86 x87 x88 x89 x90 x91 x92 x93 x94 x95 x96 x97 x98 x99 x100 x101 x102 x103 x104 x105 x106 x107 x108 x109 x110 x111 x112 x113 x114 x115 x116 x117 x118 x119 x120
    all_goals (repeat' apply And.intro)
    all_goals (repeat' (first | assumption | rfl | split | omega))
    all_goals (repeat' apply And.intro)
    all_goals first | rfl | assumption | (simp only [va_up]; (repeat' (first | omega | split)) <;> first | rfl | assumption) | (intro hh; exact absurd hh (by decide)) | (intro hh; repeat' apply And.intro) 
    all_goals first | rfl | assumption | (simp only [va_up]; (repeat' (first | omega | split)) <;> first | rfl | assumption) | (simp_all; done)
  · skip
    obtain ⟨q1, q2⟩ := b7 a9 h9 t9 k9
    clear a5 a6 a7 b5 b6 b7 s3 s1
    simp only [va_up, zRn, qLay, x1, x2, x3, x4, x5, x6, x7, x8, x9, x10, x11, x12, x13, x14, x15, x16, x17, x18, x19, x20, x21, x22, x23, x24, x25, x26, x27, x28, x29, x30, x31, x32, x33, x34, x35, x36, x37, x38, x39, x40, x41, x42, x43, x44, x45, x46, x47, x48, x49, x50, x51, x52, x53, x54, x55, x56, x57, x58, x59, x60, x61, x62, x63, x64, x65, x66, x67, x68, x69, x70, x71, x72, x73, x74, x75, x76, x77, x78, x79, x80, x81, x82, x83, x84, x85, x86, x87, x88, x89, x90, x91, x92, x93, x94, x95, x96, x97, x98, x99, x100, x101, x102, x103, x104, x105, x106, x107, x108, x109, x110, x111, x112, x113, x114, x115, x116, x117, x118, x119, x120, h9, k9, if_true, if_false]
    all_goals clear x1 x2 x3 x4 x5 x6 x7 x8 x9 x10 x11 x12 x13 x14 x15 x16 x17 x18 x19 x20 x21 x22 x23 x24 x25 x26 x27 x28 x29 x30 x31 x32 x33 x34 x35 x36 x37 x38 x39 x40 x41 x42 x43 x44 x45 x46 x47 x48 x49 x50 x51 x52 x53 x54 x55 x56 x57 x58 x59 x60 x61 x62 x63 x64 x65 x66 x67 x68 x69 x70 x71 x72 x73 x74 x75 x76 x77 x78 x79 x80 x81 x82 x83 x84 x85 x86 x87 x88 x89 x90 x91 x92 x93 x94 x95 x96 x97 x98 x99 x100 x101 x102 x103 x104 x105 x106 x107 x108 x109 x110 x111 x112 x113 x114 x115 x116 x117 x118 x119 x120
    all_goals (repeat' apply And.intro)
    all_goals (repeat' (first | assumption | rfl | split | omega))
    all_goals (repeat' apply And.intro)
    all_goals first | rfl | assumption | (simp only [va_up]; (repeat' (first | omega | split)) <;> first | rfl | assumption) | (intro hh; exact absurd hh (by decide)) | (intro hh; repeat' apply And.intro) 
    all_goals first | rfl | assumption | (simp only [va_up]; (repeat' (first | omega | split)) <;> first | rfl | assumption) | (simp_all; done)
