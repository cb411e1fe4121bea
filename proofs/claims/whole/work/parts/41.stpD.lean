/-! ===== the component: an agent compares notes ===== -/
set_option maxRecDepth 100000 in
set_option maxHeartbeats 4000000 in
theorem zR_kg {d : Nat → Nat → Int32} {o n K : Nat} {f : Nat → Int32} {a t k : Nat} {x y z x1 y1 z1 : Int32} (ha : a < n) (ht : t < K) (hk : zPl (nI k) 3) (hk1 : ¬ nI k = nI 1) (h : zR d o f n K) : zR (va_up (va_up (va_up (va_up d (o + 10 + 1) (va_up (d (o + 10 + 1)) (8 * a + t) (nI k))) (o + 10 + 2) (va_up (d (o + 10 + 2)) (8 * a + t) x)) (o + 10 + 3) (va_up (d (o + 10 + 3)) (8 * a + t) y)) (o + 10 + 4) (va_up (d (o + 10 + 4)) (8 * a + t) z)) o (qLay f (72 + 4 * (8 * a + t)) (nI k) x1 y1 z1) n K := by
  obtain ⟨⟨a1, a2, a3, a4, a5, a6, a7⟩, b0, b1, b2, b3, ⟨S, s1, s2, s3⟩, b5, b6, b7⟩ := h
  have x1 : (o = o + 10 + 1) = False := eq_false (by omega)
  have x2 : (o + 1 = o + 10 + 1) = False := eq_false (by omega)
  have x3 : (o + 2 = o + 10 + 1) = False := eq_false (by omega)
  have x4 : (o + 3 = o + 10 + 1) = False := eq_false (by omega)
  have x5 : (o + 4 = o + 10 + 1) = False := eq_false (by omega)
  have x6 : (o + 5 = o + 10 + 1) = False := eq_false (by omega)
  have x7 : (o + 6 = o + 10 + 1) = False := eq_false (by omega)
  have x8 : (o + 7 = o + 10 + 1) = False := eq_false (by omega)
  have x9 : (o + 8 = o + 10 + 1) = False := eq_false (by omega)
  have x10 : (o + 9 = o + 10 + 1) = False := eq_false (by omega)
  have x11 : (o + 10 + 2 = o + 10 + 1) = False := eq_false (by omega)
  have x12 : (o + 10 + 3 = o + 10 + 1) = False := eq_false (by omega)
  have x13 : (o + 10 + 4 = o + 10 + 1) = False := eq_false (by omega)
  have x14 : (o = o + 10 + 2) = False := eq_false (by omega)
  have x15 : (o + 1 = o + 10 + 2) = False := eq_false (by omega)
  have x16 : (o + 2 = o + 10 + 2) = False := eq_false (by omega)
  have x17 : (o + 3 = o + 10 + 2) = False := eq_false (by omega)
  have x18 : (o + 4 = o + 10 + 2) = False := eq_false (by omega)
  have x19 : (o + 5 = o + 10 + 2) = False := eq_false (by omega)
  have x20 : (o + 6 = o + 10 + 2) = False := eq_false (by omega)
  have x21 : (o + 7 = o + 10 + 2) = False := eq_false (by omega)
  have x22 : (o + 8 = o + 10 + 2) = False := eq_false (by omega)
  have x23 : (o + 9 = o + 10 + 2) = False := eq_false (by omega)
  have x24 : (o + 10 + 1 = o + 10 + 2) = False := eq_false (by omega)
  have x25 : (o + 10 + 3 = o + 10 + 2) = False := eq_false (by omega)
  have x26 : (o + 10 + 4 = o + 10 + 2) = False := eq_false (by omega)
  have x27 : (o = o + 10 + 3) = False := eq_false (by omega)
  have x28 : (o + 1 = o + 10 + 3) = False := eq_false (by omega)
  have x29 : (o + 2 = o + 10 + 3) = False := eq_false (by omega)
  have x30 : (o + 3 = o + 10 + 3) = False := eq_false (by omega)
  have x31 : (o + 4 = o + 10 + 3) = False := eq_false (by omega)
  have x32 : (o + 5 = o + 10 + 3) = False := eq_false (by omega)
  have x33 : (o + 6 = o + 10 + 3) = False := eq_false (by omega)
  have x34 : (o + 7 = o + 10 + 3) = False := eq_false (by omega)
  have x35 : (o + 8 = o + 10 + 3) = False := eq_false (by omega)
  have x36 : (o + 9 = o + 10 + 3) = False := eq_false (by omega)
  have x37 : (o + 10 + 1 = o + 10 + 3) = False := eq_false (by omega)
  have x38 : (o + 10 + 2 = o + 10 + 3) = False := eq_false (by omega)
  have x39 : (o + 10 + 4 = o + 10 + 3) = False := eq_false (by omega)
  have x40 : (o = o + 10 + 4) = False := eq_false (by omega)
  have x41 : (o + 1 = o + 10 + 4) = False := eq_false (by omega)
  have x42 : (o + 2 = o + 10 + 4) = False := eq_false (by omega)
  have x43 : (o + 3 = o + 10 + 4) = False := eq_false (by omega)
  have x44 : (o + 4 = o + 10 + 4) = False := eq_false (by omega)
  have x45 : (o + 5 = o + 10 + 4) = False := eq_false (by omega)
  have x46 : (o + 6 = o + 10 + 4) = False := eq_false (by omega)
  have x47 : (o + 7 = o + 10 + 4) = False := eq_false (by omega)
  have x48 : (o + 8 = o + 10 + 4) = False := eq_false (by omega)
  have x49 : (o + 9 = o + 10 + 4) = False := eq_false (by omega)
  have x50 : (o + 10 + 1 = o + 10 + 4) = False := eq_false (by omega)
  have x51 : (o + 10 + 2 = o + 10 + 4) = False := eq_false (by omega)
  have x52 : (o + 10 + 3 = o + 10 + 4) = False := eq_false (by omega)
  have x53 : (0 = 72 + 4 * (8 * a + t)) = False := eq_false (by omega)
  have x54 : (1 = 72 + 4 * (8 * a + t)) = False := eq_false (by omega)
  have x55 : (2 = 72 + 4 * (8 * a + t)) = False := eq_false (by omega)
  have x56 : (3 = 72 + 4 * (8 * a + t)) = False := eq_false (by omega)
  have x57 : ∀ z, z < n → (4 + 6 * z = 72 + 4 * (8 * a + t)) = False := fun z hz => eq_false (by omega)
  have x58 : ∀ z, z < n → (4 + 6 * z + 1 = 72 + 4 * (8 * a + t)) = False := fun z hz => eq_false (by omega)
  have x59 : ∀ z, z < n → (4 + 6 * z + 2 = 72 + 4 * (8 * a + t)) = False := fun z hz => eq_false (by omega)
  have x60 : ∀ z, z < n → (4 + 6 * z + 3 = 72 + 4 * (8 * a + t)) = False := fun z hz => eq_false (by omega)
  have x61 : ∀ z, z < n → (4 + 6 * z + 4 = 72 + 4 * (8 * a + t)) = False := fun z hz => eq_false (by omega)
  have x62 : ∀ z, z < n → (4 + 6 * z + 5 = 72 + 4 * (8 * a + t)) = False := fun z hz => eq_false (by omega)
  have x63 : ∀ z, z < K → (40 + 4 * z = 72 + 4 * (8 * a + t)) = False := fun z hz => eq_false (by omega)
  have x64 : ∀ z, z < K → (40 + 4 * z + 1 = 72 + 4 * (8 * a + t)) = False := fun z hz => eq_false (by omega)
  have x65 : ∀ z, z < K → (40 + 4 * z + 2 = 72 + 4 * (8 * a + t)) = False := fun z hz => eq_false (by omega)
  have x66 : ∀ z, z < K → (40 + 4 * z + 3 = 72 + 4 * (8 * a + t)) = False := fun z hz => eq_false (by omega)
  have x67 : ∀ z, (72 + 4 * z + 1 = 72 + 4 * (8 * a + t)) = False := fun z => eq_false (by omega)
  have x68 : ∀ z, (72 + 4 * z + 2 = 72 + 4 * (8 * a + t)) = False := fun z => eq_false (by omega)
  have x69 : ∀ z, (72 + 4 * z + 3 = 72 + 4 * (8 * a + t)) = False := fun z => eq_false (by omega)
  have x70 : (0 = 72 + 4 * (8 * a + t) + 1) = False := eq_false (by omega)
  have x71 : (1 = 72 + 4 * (8 * a + t) + 1) = False := eq_false (by omega)
  have x72 : (2 = 72 + 4 * (8 * a + t) + 1) = False := eq_false (by omega)
  have x73 : (3 = 72 + 4 * (8 * a + t) + 1) = False := eq_false (by omega)
  have x74 : ∀ z, z < n → (4 + 6 * z = 72 + 4 * (8 * a + t) + 1) = False := fun z hz => eq_false (by omega)
  have x75 : ∀ z, z < n → (4 + 6 * z + 1 = 72 + 4 * (8 * a + t) + 1) = False := fun z hz => eq_false (by omega)
  have x76 : ∀ z, z < n → (4 + 6 * z + 2 = 72 + 4 * (8 * a + t) + 1) = False := fun z hz => eq_false (by omega)
  have x77 : ∀ z, z < n → (4 + 6 * z + 3 = 72 + 4 * (8 * a + t) + 1) = False := fun z hz => eq_false (by omega)
  have x78 : ∀ z, z < n → (4 + 6 * z + 4 = 72 + 4 * (8 * a + t) + 1) = False := fun z hz => eq_false (by omega)
  have x79 : ∀ z, z < n → (4 + 6 * z + 5 = 72 + 4 * (8 * a + t) + 1) = False := fun z hz => eq_false (by omega)
  have x80 : ∀ z, z < K → (40 + 4 * z = 72 + 4 * (8 * a + t) + 1) = False := fun z hz => eq_false (by omega)
  have x81 : ∀ z, z < K → (40 + 4 * z + 1 = 72 + 4 * (8 * a + t) + 1) = False := fun z hz => eq_false (by omega)
  have x82 : ∀ z, z < K → (40 + 4 * z + 2 = 72 + 4 * (8 * a + t) + 1) = False := fun z hz => eq_false (by omega)
  have x83 : ∀ z, z < K → (40 + 4 * z + 3 = 72 + 4 * (8 * a + t) + 1) = False := fun z hz => eq_false (by omega)
  have x84 : ∀ z, (72 + 4 * z = 72 + 4 * (8 * a + t) + 1) = False := fun z => eq_false (by omega)
  have x85 : ∀ z, (72 + 4 * z + 2 = 72 + 4 * (8 * a + t) + 1) = False := fun z => eq_false (by omega)
  have x86 : ∀ z, (72 + 4 * z + 3 = 72 + 4 * (8 * a + t) + 1) = False := fun z => eq_false (by omega)
  have x87 : (0 = 72 + 4 * (8 * a + t) + 2) = False := eq_false (by omega)
  have x88 : (1 = 72 + 4 * (8 * a + t) + 2) = False := eq_false (by omega)
  have x89 : (2 = 72 + 4 * (8 * a + t) + 2) = False := eq_false (by omega)
  have x90 : (3 = 72 + 4 * (8 * a + t) + 2) = False := eq_false (by omega)
  have x91 : ∀ z, z < n → (4 + 6 * z = 72 + 4 * (8 * a + t) + 2) = False := fun z hz => eq_false (by omega)
  have x92 : ∀ z, z < n → (4 + 6 * z + 1 = 72 + 4 * (8 * a + t) + 2) = False := fun z hz => eq_false (by omega)
  have x93 : ∀ z, z < n → (4 + 6 * z + 2 = 72 + 4 * (8 * a + t) + 2) = False := fun z hz => eq_false (by omega)
  have x94 : ∀ z, z < n → (4 + 6 * z + 3 = 72 + 4 * (8 * a + t) + 2) = False := fun z hz => eq_false (by omega)
  have x95 : ∀ z, z < n → (4 + 6 * z + 4 = 72 + 4 * (8 * a + t) + 2) = False := fun z hz => eq_false (by omega)
  have x96 : ∀ z, z < n → (4 + 6 * z + 5 = 72 + 4 * (8 * a + t) + 2) = False := fun z hz => eq_false (by omega)
  have x97 : ∀ z, z < K → (40 + 4 * z = 72 + 4 * (8 * a + t) + 2) = False := fun z hz => eq_false (by omega)
  have x98 : ∀ z, z < K → (40 + 4 * z + 1 = 72 + 4 * (8 * a + t) + 2) = False := fun z hz => eq_false (by omega)
  have x99 : ∀ z, z < K → (40 + 4 * z + 2 = 72 + 4 * (8 * a + t) + 2) = False := fun z hz => eq_false (by omega)
  have x100 : ∀ z, z < K → (40 + 4 * z + 3 = 72 + 4 * (8 * a + t) + 2) = False := fun z hz => eq_false (by omega)
  have x101 : ∀ z, (72 + 4 * z = 72 + 4 * (8 * a + t) + 2) = False := fun z => eq_false (by omega)
  have x102 : ∀ z, (72 + 4 * z + 1 = 72 + 4 * (8 * a + t) + 2) = False := fun z => eq_false (by omega)
  have x103 : ∀ z, (72 + 4 * z + 3 = 72 + 4 * (8 * a + t) + 2) = False := fun z => eq_false (by omega)
  have x104 : (0 = 72 + 4 * (8 * a + t) + 3) = False := eq_false (by omega)
  have x105 : (1 = 72 + 4 * (8 * a + t) + 3) = False := eq_false (by omega)
  have x106 : (2 = 72 + 4 * (8 * a + t) + 3) = False := eq_false (by omega)
  have x107 : (3 = 72 + 4 * (8 * a + t) + 3) = False := eq_false (by omega)
  have x108 : ∀ z, z < n → (4 + 6 * z = 72 + 4 * (8 * a + t) + 3) = False := fun z hz => eq_false (by omega)
  have x109 : ∀ z, z < n → (4 + 6 * z + 1 = 72 + 4 * (8 * a + t) + 3) = False := fun z hz => eq_false (by omega)
  have x110 : ∀ z, z < n → (4 + 6 * z + 2 = 72 + 4 * (8 * a + t) + 3) = False := fun z hz => eq_false (by omega)
  have x111 : ∀ z, z < n → (4 + 6 * z + 3 = 72 + 4 * (8 * a + t) + 3) = False := fun z hz => eq_false (by omega)
  have x112 : ∀ z, z < n → (4 + 6 * z + 4 = 72 + 4 * (8 * a + t) + 3) = False := fun z hz => eq_false (by omega)
  have x113 : ∀ z, z < n → (4 + 6 * z + 5 = 72 + 4 * (8 * a + t) + 3) = False := fun z hz => eq_false (by omega)
  have x114 : ∀ z, z < K → (40 + 4 * z = 72 + 4 * (8 * a + t) + 3) = False := fun z hz => eq_false (by omega)
  have x115 : ∀ z, z < K → (40 + 4 * z + 1 = 72 + 4 * (8 * a + t) + 3) = False := fun z hz => eq_false (by omega)
  have x116 : ∀ z, z < K → (40 + 4 * z + 2 = 72 + 4 * (8 * a + t) + 3) = False := fun z hz => eq_false (by omega)
  have x117 : ∀ z, z < K → (40 + 4 * z + 3 = 72 + 4 * (8 * a + t) + 3) = False := fun z hz => eq_false (by omega)
  have x118 : ∀ z, (72 + 4 * z = 72 + 4 * (8 * a + t) + 3) = False := fun z => eq_false (by omega)
  have x119 : ∀ z, (72 + 4 * z + 1 = 72 + 4 * (8 * a + t) + 3) = False := fun z => eq_false (by omega)
  have x120 : ∀ z, (72 + 4 * z + 2 = 72 + 4 * (8 * a + t) + 3) = False := fun z => eq_false (by omega)
  refine ⟨⟨a1, a2, ?_, ?_, fun a9 h9 => ?_, fun t9 k9 => ?_, fun a9 h9 t9 k9 => ?_⟩, ?_, ?_, ?_, ?_, ⟨S, s1, ?_, fun a9 h9 => ?_⟩, fun a9 h9 => ?_, fun t9 k9 => ?_, fun a9 h9 t9 k9 => ?_⟩
  · skip
    clear a5 a6 a7 b5 b6 b7 s3 s1
    simp only [va_up, zRn, qLay, x1, x2, x3, x4, x5, x6, x7, x8, x9, x10, x11, x12, x13, x14, x15, x16, x17, x18, x19, x20, x21, x22, x23, x24, x25, x26, x27, x28, x29, x30, x31, x32, x33, x34, x35, x36, x37, x38, x39, x40, x41, x42, x43, x44, x45, x46, x47, x48, x49, x50, x51, x52, x53, x54, x55, x56, x57, x58, x59, x60, x61, x62, x63, x64, x65, x66, x67, x68, x69, x70, x71, x72, x73, x74, x75, x76, x77, x78, x79, x80, x81, x82, x83, x84, x85, x86, x87, x88, x89, x90, x91, x92, x93, x94, x95, x96, x97, x98, x99, x100, x101, x102, x103, x104, x105, x106, x107, x108, x109, x110, x111, x112, x113, x114, x115, x116, x117, x118, x119, x120, if_true, if_false]
    all_goals clear x1 x2 x3 x4 x5 x6 x7 x8 x9 x10 x11 x12 x13 x14 x15 x16 x17 x18 x19 x20 x21 x22 x23 x24 x25 x26 x27 x28 x29 x30 x31 x32 x33 x34 x35 x36 x37 x38 x39 x40 x41 x42 x43 x44 x45 x46 x47 x48 x49 x50 x51 x52 x53 x54 x55 x56 x57 x58 x59 x60 x61 x62 x63 x64 x65 x66 x67 x68 x69 x70 x71 x72 x73 x74 x75 x76 x77 x78 x79 x80 x81 x82 x83 x84 x85 x86 x87 x88 x89 x90 x91 x92 x93 x94 x95 x96 x97 x98 x99 x100 x101 x102 x103 x104 x105 x106 x107 x108 x109 x110 x111 x112 x113 x114 x115 x116 x117 x118 x119 x120
    all_goals (repeat' apply And.intro)
    all_goals (repeat' (first | assumption | rfl | split | omega))
    all_goals (repeat' apply And.intro)
    all_goals first | rfl | assumption | (simp only [va_up]; (repeat' (first | omega | split)) <;> first | rfl | assumption) | (intro hh; exact absurd hh (by decide)) | (intro hh; repeat' apply And.intro) 
    all_goals first | rfl | assumption | (simp only [va_up]; (repeat' (first | omega | split)) <;> first | rfl | assumption) | (simp_all; done)
  · skip
    clear a5 a6 a7 b5 b6 b7 s3 s1
    simp only [va_up, zRn, qLay, x1, x2, x3, x4, x5, x6, x7, x8, x9, x10, x11, x12, x13, x14, x15, x16, x17, x18, x19, x20, x21, x22, x23, x24, x25, x26, x27, x28, x29, x30, x31, x32, x33, x34, x35, x36, x37, x38, x39, x40, x41, x42, x43, x44, x45, x46, x47, x48, x49, x50, x51, x52, x53, x54, x55, x56, x57, x58, x59, x60, x61, x62, x63, x64, x65, x66, x67, x68, x69, x70, x71, x72, x73, x74, x75, x76, x77, x78, x79, x80, x81, x82, x83, x84, x85, x86, x87, x88, x89, x90, x91, x92, x93, x94, x95, x96, x97, x98, x99, x100, x101, x102, x103, x104, x105, x106, x107, x108, x109, x110, x111, x112, x113, x114, x115, x116, x117, x118, x119, x120, if_true, if_false]
    all_goals clear x1 x2 x3 x4 x5 x6 x7 x8 x9 x10 x11 x12 x13 x14 x15 x16 x17 x18 x19 x20 x21 x22 x23 x24 x25 x26 x27 x28 x29 x30 x31 x32 x33 x34 x35 x36 x37 x38 x39 x40 x41 x42 x43 x44 x45 x46 x47 x48 x49 x50 x51 x52 x53 x54 x55 x56 x57 x58 x59 x60 x61 x62 x63 x64 x65 x66 x67 x68 x69 x70 x71 x72 x73 x74 x75 x76 x77 x78 x79 x80 x81 x82 x83 x84 x85 x86 x87 x88 x89 x90 x91 x92 x93 x94 x95 x96 x97 x98 x99 x100 x101 x102 x103 x104 x105 x106 x107 x108 x109 x110 x111 x112 x113 x114 x115 x116 x117 x118 x119 x120
    all_goals (repeat' apply And.intro)
    all_goals (repeat' (first | assumption | rfl | split | omega))
    all_goals (repeat' apply And.intro)
    all_goals first | rfl | assumption | (simp only [va_up]; (repeat' (first | omega | split)) <;> first | rfl | assumption) | (intro hh; exact absurd hh (by decide)) | (intro hh; repeat' apply And.intro) 
    all_goals first | rfl | assumption | (simp only [va_up]; (repeat' (first | omega | split)) <;> first | rfl | assumption) | (simp_all; done)
  · skip
    obtain ⟨q1, q2, q3, q4⟩ := a5 a9 h9
    clear a5 a6 a7 b5 b6 b7 s3 s1
    simp only [va_up, zRn, qLay, x1, x2, x3, x4, x5, x6, x7, x8, x9, x10, x11, x12, x13, x14, x15, x16, x17, x18, x19, x20, x21, x22, x23, x24, x25, x26, x27, x28, x29, x30, x31, x32, x33, x34, x35, x36, x37, x38, x39, x40, x41, x42, x43, x44, x45, x46, x47, x48, x49, x50, x51, x52, x53, x54, x55, x56, x57, x58, x59, x60, x61, x62, x63, x64, x65, x66, x67, x68, x69, x70, x71, x72, x73, x74, x75, x76, x77, x78, x79, x80, x81, x82, x83, x84, x85, x86, x87, x88, x89, x90, x91, x92, x93, x94, x95, x96, x97, x98, x99, x100, x101, x102, x103, x104, x105, x106, x107, x108, x109, x110, x111, x112, x113, x114, x115, x116, x117, x118, x119, x120, h9, if_true, if_false]
    all_goals clear x1 x2 x3 x4 x5 x6 x7 x8 x9 x10 x11 x12 x13 x14 x15 x16 x17 x18 x19 x20 x21 x22 x23 x24 x25 x26 x27 x28 x29 x30 x31 x32 x33 x34 x35 x36 x37 x38 x39 x40 x41 x42 x43 x44 x45 x46 x47 x48 x49 x50 x51 x52 x53 x54 x55 x56 x57 x58 x59 x60 x61 x62 x63 x64 x65 x66 x67 x68 x69 x70 x71 x72 x73 x74 x75 x76 x77 x78 x79 x80 x81 x82 x83 x84 x85 x86 x87 x88 x89 x90 x91 x92 x93 x94 x95 x96 x97 x98 x99 x100 x101 x102 x103 x104 x105 x106 x107 x108 x109 x110 x111 x112 x113 x114 x115 x116 x117 x118 x119 x120
    all_goals (repeat' apply And.intro)
    all_goals (repeat' (first | assumption | rfl | split | omega))
    all_goals (repeat' apply And.intro)
    all_goals first | rfl | assumption | (simp only [va_up]; (repeat' (first | omega | split)) <;> first | rfl | assumption) | (intro hh; exact absurd hh (by decide)) | (intro hh; repeat' apply And.intro) 
    all_goals first | rfl | assumption | (simp only [va_up]; (repeat' (first | omega | split)) <;> first | rfl | assumption) | (simp_all; done)
  · skip
    obtain ⟨q1, q2⟩ := a6 t9 k9
    clear a5 a6 a7 b5 b6 b7 s3 s1
    simp only [va_up, zRn, qLay, x1, x2, x3, x4, x5, x6, x7, x8, x9, x10, x11, x12, x13, x14, x15, x16, x17, x18, x19, x20, x21, x22, x23, x24, x25, x26, x27, x28, x29, x30, x31, x32, x33, x34, x35, x36, x37, x38, x39, x40, x41, x42, x43, x44, x45, x46, x47, x48, x49, x50, x51, x52, x53, x54, x55, x56, x57, x58, x59, x60, x61, x62, x63, x64, x65, x66, x67, x68, x69, x70, x71, x72, x73, x74, x75, x76, x77, x78, x79, x80, x81, x82, x83, x84, x85, x86, x87, x88, x89, x90, x91, x92, x93, x94, x95, x96, x97, x98, x99, x100, x101, x102, x103, x104, x105, x106, x107, x108, x109, x110, x111, x112, x113, x114, x115, x116, x117, x118, x119, x120, k9, if_true, if_false]
    all_goals clear x1 x2 x3 x4 x5 x6 x7 x8 x9 x10 x11 x12 x13 x14 x15 x16 x17 x18 x19 x20 x21 x22 x23 x24 x25 x26 x27 x28 x29 x30 x31 x32 x33 x34 x35 x36 x37 x38 x39 x40 x41 x42 x43 x44 x45 x46 x47 x48 x49 x50 x51 x52 x53 x54 x55 x56 x57 x58 x59 x60 x61 x62 x63 x64 x65 x66 x67 x68 x69 x70 x71 x72 x73 x74 x75 x76 x77 x78 x79 x80 x81 x82 x83 x84 x85 x86 x87 x88 x89 x90 x91 x92 x93 x94 x95 x96 x97 x98 x99 x100 x101 x102 x103 x104 x105 x106 x107 x108 x109 x110 x111 x112 x113 x114 x115 x116 x117 x118 x119 x120
    all_goals (repeat' apply And.intro)
    all_goals (repeat' (first | assumption | rfl | split | omega))
    all_goals (repeat' apply And.intro)
    all_goals first | rfl | assumption | (simp only [va_up]; (repeat' (first | omega | split)) <;> first | rfl | assumption) | (intro hh; exact absurd hh (by decide)) | (intro hh; repeat' apply And.intro) 
    all_goals first | rfl | assumption | (simp only [va_up]; (repeat' (first | omega | split)) <;> first | rfl | assumption) | (simp_all; done)
  · skip
    obtain ⟨q1, q2⟩ := a7 a9 h9 t9 k9
    clear a5 a6 a7 b5 b6 b7 s3 s1
    simp only [va_up, zRn, qLay, x1, x2, x3, x4, x5, x6, x7, x8, x9, x10, x11, x12, x13, x14, x15, x16, x17, x18, x19, x20, x21, x22, x23, x24, x25, x26, x27, x28, x29, x30, x31, x32, x33, x34, x35, x36, x37, x38, x39, x40, x41, x42, x43, x44, x45, x46, x47, x48, x49, x50, x51, x52, x53, x54, x55, x56, x57, x58, x59, x60, x61, x62, x63, x64, x65, x66, x67, x68, x69, x70, x71, x72, x73, x74, x75, x76, x77, x78, x79, x80, x81, x82, x83, x84, x85, x86, x87, x88, x89, x90, x91, x92, x93, x94, x95, x96, x97, x98, x99, x100, x101, x102, x103, x104, x105, x106, x107, x108, x109, x110, x111, x112, x113, x114, x115, x116, x117, x118, x119, x120, h9, k9, if_true, if_false]
    all_goals clear x1 x2 x3 x4 x5 x6 x7 x8 x9 x10 x11 x12 x13 x14 x15 x16 x17 x18 x19 x20 x21 x22 x23 x24 x25 x26 x27 x28 x29 x30 x31 x32 x33 x34 x35 x36 x37 x38 x39 x40 x41 x42 x43 x44 x45 x46 x47 x48 x49 x50 x51 x52 x53 x54 x55 x56 x57 x58 x59 x60 x61 x62 x63 x64 x65 x66 x67 x68 x69 x70 x71 x72 x73 x74 x75 x76 x77 x78 x79 x80 x81 x82 x83 x84 x85 x86 x87 x88 x89 x90 x91 x92 x93 x94 x95 x96 x97 x98 x99 x100 x101 x102 x103 x104 x105 x106 x107 x108 x109 x110 x111 x112 x113 x114 x115 x116 x117 x118 x119 x120
    all_goals (repeat' apply And.intro)
    all_goals (repeat' (first | assumption | rfl | split | omega))
    all_goals (repeat' apply And.intro)
    all_goals first | rfl | assumption | (simp only [va_up]; (repeat' (first | omega | split)) <;> first | rfl | assumption) | (intro hh; exact absurd hh (by decide)) | (intro hh; repeat' apply And.intro) 
    all_goals first | rfl | assumption | (simp only [va_up]; (repeat' (first | omega | split)) <;> first | rfl | assumption) | (simp_all; done)
  · skip
    clear a5 a6 a7 b5 b6 b7 s3 s1
    simp only [va_up, zRn, qLay, x1, x2, x3, x4, x5, x6, x7, x8, x9, x10, x11, x12, x13, x14, x15, x16, x17, x18, x19, x20, x21, x22, x23, x24, x25, x26, x27, x28, x29, x30, x31, x32, x33, x34, x35, x36, x37, x38, x39, x40, x41, x42, x43, x44, x45, x46, x47, x48, x49, x50, x51, x52, x53, x54, x55, x56, x57, x58, x59, x60, x61, x62, x63, x64, x65, x66, x67, x68, x69, x70, x71, x72, x73, x74, x75, x76, x77, x78, x79, x80, x81, x82, x83, x84, x85, x86, x87, x88, x89, x90, x91, x92, x93, x94, x95, x96, x97, x98, x99, x100, x101, x102, x103, x104, x105, x106, x107, x108, x109, x110, x111, x112, x113, x114, x115, x116, x117, x118, x119, x120, if_true, if_false]
    all_goals clear x1 x2 x3 x4 x5 x6 x7 x8 x9 x10 x11 x12 x13 x14 x15 x16 x17 x18 x19 x20 x21 x22 x23 x24 x25 x26 x27 x28 x29 x30 x31 x32 x33 x34 x35 x36 x37 x38 x39 x40 x41 x42 x43 x44 x45 x46 x47 x48 x49 x50 x51 x52 x53 x54 x55 x56 x57 x58 x59 x60 x61 x62 x63 x64 x65 x66 x67 x68 x69 x70 x71 x72 x73 x74 x75 x76 x77 x78 x79 x80 x81 x82 x83 x84 x85 x86 x87 x88 x89 x90 x91 x92 x93 x94 x95 x96 x97 x98 x99 x100 x101 x102 x103 x104 x105 x106 x107 x108 x109 x110 x111 x112 x113 x114 x115 x116 x117 x118 x119 x120
    all_goals (repeat' apply And.intro)
    all_goals (repeat' (first | assumption | rfl | split | omega))
    all_goals (repeat' apply And.intro)
    all_goals first | rfl | assumption | (simp only [va_up]; (repeat' (first | omega | split)) <;> first | rfl | assumption) | (intro hh; exact absurd hh (by decide)) | (intro hh; repeat' apply And.intro) 
    all_goals first | rfl | assumption | (simp only [va_up]; (repeat' (first | omega | split)) <;> first | rfl | assumption) | (simp_all; done)
  · skip
    clear a5 a6 a7 b5 b6 b7 s3 s1
    simp only [va_up, zRn, qLay, x1, x2, x3, x4, x5, x6, x7, x8, x9, x10, x11, x12, x13, x14, x15, x16, x17, x18, x19, x20, x21, x22, x23, x24, x25, x26, x27, x28, x29, x30, x31, x32, x33, x34, x35, x36, x37, x38, x39, x40, x41, x42, x43, x44, x45, x46, x47, x48, x49, x50, x51, x52, x53, x54, x55, x56, x57, x58, x59, x60, x61, x62, x63, x64, x65, x66, x67, x68, x69, x70, x71, x72, x73, x74, x75, x76, x77, x78, x79, x80, x81, x82, x83, x84, x85, x86, x87, x88, x89, x90, x91, x92, x93, x94, x95, x96, x97, x98, x99, x100, x101, x102, x103, x104, x105, x106, x107, x108, x109, x110, x111, x112, x113, x114, x115, x116, x117, x118, x119, x120, if_true, if_false]
    all_goals clear x1 x2 x3 x4 x5 x6 x7 x8 x9 x10 x11 x12 x13 x14 x15 x16 x17 x18 x19 x20 x21 x22 x23 x24 x25 x26 x27 x28 x29 x30 x31 x32 x33 x34 x35 x36 x37 x38 x39 x40 x41 x42 x43 x44 x45 x46 x47 x48 x49 x50 x51 x52 x53 x54 x55 x56 x57 x58 x59 x60 x61 x62 x63 x64 x65 x66 x67 x68 x69 x70 x71 x72 x73 x74 x75 x76 x77 x78 x79 x80 x81 x82 x83 x84 x85 x86 x87 x88 x89 x90 x91 x92 x93 x94 x95 x96 x97 x98 x99 x100 x101 x102 x103 x104 x105 x106 x107 x108 x109 x110 x111 x112 x113 x114 x115 x116 x117 x118 x119 x120
    all_goals (repeat' apply And.intro)
    all_goals (repeat' (first | assumption | rfl | split | omega))
    all_goals (repeat' apply And.intro)
    all_goals first | rfl | assumption | (simp only [va_up]; (repeat' (first | omega | split)) <;> first | rfl | assumption) | (intro hh; exact absurd hh (by decide)) | (intro hh; repeat' apply And.intro) 
    all_goals first | rfl | assumption | (simp only [va_up]; (repeat' (first | omega | split)) <;> first | rfl | assumption) | (simp_all; done)
  · skip
    clear a5 a6 a7 b5 b6 b7 s3 s1
    simp only [va_up, zRn, qLay, x1, x2, x3, x4, x5, x6, x7, x8, x9, x10, x11, x12, x13, x14, x15, x16, x17, x18, x19, x20, x21, x22, x23, x24, x25, x26, x27, x28, x29, x30, x31, x32, x33, x34, x35, x36, x37, x38, x39, x40, x41, x42, x43, x44, x45, x46, x47, x48, x49, x50, x51, x52, x53, x54, x55, x56, x57, x58, x59, x60, x61, x62, x63, x64, x65, x66, x67, x68, x69, x70, x71, x72, x73, x74, x75, x76, x77, x78, x79, x80, x81, x82, x83, x84, x85, x86, x87, x88, x89, x90, x91, x92, x93, x94, x95, x96, x97, x98, x99, x100, x101, x102, x103, x104, x105, x106, x107, x108, x109, x110, x111, x112, x113, x114, x115, x116, x117, x118, x119, x120, if_true, if_false]
    all_goals clear x1 x2 x3 x4 x5 x6 x7 x8 x9 x10 x11 x12 x13 x14 x15 x16 x17 x18 x19 x20 x21 x22 x23 x24 x25 x26 x27 x28 x29 x30 x31 x32 x33 x34 x35 x36 x37 x38 x39 x40 x41 x42 x43 x44 x45 x46 x47 x48 x49 x50 x51 x52 x53 x54 x55 x56 x57 x58 x59 x60 x61 x62 x63 x64 x65 x66 x67 x68 x69 x70 x71 x72 x73 x74 x75 x76 x77 x78 x79 x80 x81 x82 x83 x84 x85 x86 x87 x88 x89 x90 x91 x92 x93 x94 x95 x96 x97 x98 x99 x100 x101 x102 x103 x104 x105 x106 x107 x108 x109 x110 x111 x112 x113 x114 x115 x116 x117 x118 x119 x120
    all_goals (repeat' apply And.intro)
    all_goals (repeat' (first | assumption | rfl | split | omega))
    all_goals (repeat' apply And.intro)
    all_goals first | rfl | assumption | (simp only [va_up]; (repeat' (first | omega | split)) <;> first | rfl | assumption) | (intro hh; exact absurd hh (by decide)) | (intro hh; repeat' apply And.intro) 
    all_goals first | rfl | assumption | (simp only [va_up]; (repeat' (first | omega | split)) <;> first | rfl | assumption) | (simp_all; done)
  · skip
    clear a5 a6 a7 b5 b6 b7 s3 s1
    simp only [va_up, zRn, qLay, x1, x2, x3, x4, x5, x6, x7, x8, x9, x10, x11, x12, x13, x14, x15, x16, x17, x18, x19, x20, x21, x22, x23, x24, x25, x26, x27, x28, x29, x30, x31, x32, x33, x34, x35, x36, x37, x38, x39, x40, x41, x42, x43, x44, x45, x46, x47, x48, x49, x50, x51, x52, x53, x54, x55, x56, x57, x58, x59, x60, x61, x62, x63, x64, x65, x66, x67, x68, x69, x70, x71, x72, x73, x74, x75, x76, x77, x78, x79, x80, x81, x82, x83, x84, x85, x86, x87, x88, x89, x90, x91, x92, x93, x94, x95, x96, x97, x98, x99, x100, x101, x102, x103, x104, x105, x106, x107, x108, x109, x110, x111, x112, x113, x114, x115, x116, x117, x118, x119, x120, if_true, if_false]
    all_goals clear x1 x2 x3 x4 x5 x6 x7 x8 x9 x10 x11 x12 x13 x14 x15 x16 x17 x18 x19 x20 x21 x22 x23 x24 x25 x26 x27 x28 x29 x30 x31 x32 x33 x34 x35 x36 x37 x38 x39 x40 x41 x42 x43 x44 x45 x46 x47 x48 x49 x50 x51 x52 x53 x54 x55 x56 x57 x58 x59 x60 x61 x62 x63 x64 x65 x66 x67 x68 x69 x70 x71 x72 x73 x74 x75 x76 x77 x78 x79 x80 x81 x82 x83 x84 x85 x86 x87 x88 x89 x90 x91 x92 x93 x94 x95 x96 x97 x98 x99 x100 x101 x102 x103 x104 x105 x106 x107 x108 x109 x110 x111 x112 x113 x114 x115 x116 x117 x118 x119 x120
    all_goals (repeat' apply And.intro)
    all_goals (repeat' (first | assumption | rfl | split | omega))
    all_goals (repeat' apply And.intro)
    all_goals first | rfl | assumption | (simp only [va_up]; (repeat' (first | omega | split)) <;> first | rfl | assumption) | (intro hh; exact absurd hh (by decide)) | (intro hh; repeat' apply And.intro) 
    all_goals first | rfl | assumption | (simp only [va_up]; (repeat' (first | omega | split)) <;> first | rfl | assumption) | (simp_all; done)
  · skip
    clear a5 a6 a7 b5 b6 b7 s3 s1
    simp only [va_up, zRn, qLay, x1, x2, x3, x4, x5, x6, x7, x8, x9, x10, x11, x12, x13, x14, x15, x16, x17, x18, x19, x20, x21, x22, x23, x24, x25, x26, x27, x28, x29, x30, x31, x32, x33, x34, x35, x36, x37, x38, x39, x40, x41, x42, x43, x44, x45, x46, x47, x48, x49, x50, x51, x52, x53, x54, x55, x56, x57, x58, x59, x60, x61, x62, x63, x64, x65, x66, x67, x68, x69, x70, x71, x72, x73, x74, x75, x76, x77, x78, x79, x80, x81, x82, x83, x84, x85, x86, x87, x88, x89, x90, x91, x92, x93, x94, x95, x96, x97, x98, x99, x100, x101, x102, x103, x104, x105, x106, x107, x108, x109, x110, x111, x112, x113, x114, x115, x116, x117, x118, x119, x120, if_true, if_false]
    all_goals clear x1 x2 x3 x4 x5 x6 x7 x8 x9 x10 x11 x12 x13 x14 x15 x16 x17 x18 x19 x20 x21 x22 x23 x24 x25 x26 x27 x28 x29 x30 x31 x32 x33 x34 x35 x36 x37 x38 x39 x40 x41 x42 x43 x44 x45 x46 x47 x48 x49 x50 x51 x52 x53 x54 x55 x56 x57 x58 x59 x60 x61 x62 x63 x64 x65 x66 x67 x68 x69 x70 x71 x72 x73 x74 x75 x76 x77 x78 x79 x80 x81 x82 x83 x84 x85 x86 x87 x88 x89 x90 x91 x92 x93 x94 x95 x96 x97 x98 x99 x100 x101 x102 x103 x104 x105 x106 x107 x108 x109 x110 x111 x112 x113 x114 x115 x116 x117 x118 x119 x120
    all_goals (repeat' apply And.intro)
    all_goals (repeat' (first | assumption | rfl | split | omega))
    all_goals (repeat' apply And.intro)
    all_goals first | rfl | assumption | (simp only [va_up]; (repeat' (first | omega | split)) <;> first | rfl | assumption) | (intro hh; exact absurd hh (by decide)) | (intro hh; repeat' apply And.intro) 
    all_goals first | rfl | assumption | (simp only [va_up]; (repeat' (first | omega | split)) <;> first | rfl | assumption) | (simp_all; done)
  · rw [s3 a9 h9, qOn, qOn]
    clear a5 a6 a7 b5 b6 b7 s3 s1
    simp only [va_up, zRn, qLay, x1, x2, x3, x4, x5, x6, x7, x8, x9, x10, x11, x12, x13, x14, x15, x16, x17, x18, x19, x20, x21, x22, x23, x24, x25, x26, x27, x28, x29, x30, x31, x32, x33, x34, x35, x36, x37, x38, x39, x40, x41, x42, x43, x44, x45, x46, x47, x48, x49, x50, x51, x52, x53, x54, x55, x56, x57, x58, x59, x60, x61, x62, x63, x64, x65, x66, x67, x68, x69, x70, x71, x72, x73, x74, x75, x76, x77, x78, x79, x80, x81, x82, x83, x84, x85, x86, x87, x88, x89, x90, x91, x92, x93, x94, x95, x96, x97, x98, x99, x100, x101, x102, x103, x104, x105, x106, x107, x108, x109, x110, x111, x112, x113, x114, x115, x116, x117, x118, x119, x120, h9, if_true, if_false]
    all_goals clear x1 x2 x3 x4 x5 x6 x7 x8 x9 x10 x11 x12 x13 x14 x15 x16 x17 x18 x19 x20 x21 x22 x23 x24 x25 x26 x27 x28 x29 x30 x31 x32 x33 x34 x35 x36 x37 x38 x39 x40 x41 x42 x43 x44 x45 x46 x47 x48 x49 x50 x51 x52 x53 x54 x55 x56 x57 x58 x59 x60 x61 x62 x63 x64 x65 x66 x67 x68 x69 x70 x71 x72 x73 x74 x75 x76 x77 x78 x79 x80 x81 x82 x83 x84 x85 x86 x87 x88 x89 x90 x91 x92 x93 x94 x95 x96 x97 x98 x99 x100 x101 x102 x103 x104 x105 x106 x107 x108 x109 x110 x111 x112 x113 x114 x115 x116 x117 x118 x119 x120
    all_goals (repeat' apply And.intro)
    all_goals (repeat' (first | assumption | rfl | split | omega))
    all_goals (repeat' apply And.intro)
    all_goals first | rfl | assumption | (simp only [va_up]; (repeat' (first | omega | split)) <;> first | rfl | assumption) | (intro hh; exact absurd hh (by decide)) | (intro hh; repeat' apply And.intro) 
    all_goals first | rfl | assumption | (simp only [va_up]; (repeat' (first | omega | split)) <;> first | rfl | assumption) | (simp_all; done)
  · skip
    obtain ⟨q1, q2, q3, q4, q5⟩ := b5 a9 h9
    clear a5 a6 a7 b5 b6 b7 s3 s1
    simp only [va_up, zRn, qLay, x1, x2, x3, x4, x5, x6, x7, x8, x9, x10, x11, x12, x13, x14, x15, x16, x17, x18, x19, x20, x21, x22, x23, x24, x25, x26, x27, x28, x29, x30, x31, x32, x33, x34, x35, x36, x37, x38, x39, x40, x41, x42, x43, x44, x45, x46, x47, x48, x49, x50, x51, x52, x53, x54, x55, x56, x57, x58, x59, x60, x61, x62, x63, x64, x65, x66, x67, x68, x69, x70, x71, x72, x73, x74, x75, x76, x77, x78, x79, x80, x81, x82, x83, x84, x85, x86, x87, x88, x89, x90, x91, x92, x93, x94, x95, x96, x97, x98, x99, x100, x101, x102, x103, x104, x105, x106, x107, x108, x109, x110, x111, x112, x113, x114, x115, x116, x117, x118, x119, x120, h9, if_true, if_false]
    all_goals clear x1 x2 x3 x4 x5 x6 x7 x8 x9 x10 x11 x12 x13 x14 x15 x16 x17 x18 x19 x20 x21 x22 x23 x24 x25 x26 x27 x28 x29 x30 x31 x32 x33 x34 x35 x36 x37 x38 x39 x40 x41 x42 x43 x44 x45 x46 x47 x48 x49 x50 x51 x52 x53 x54 x55 x56 x57 x58 x59 x60 x61 x62 x63 x64 x65 x66 x67 x68 x69 x70 x71 x72 x73 x74 x75 x76 x77 x78 x79 x80 x81 x82 x83 x84 x85 x86 x87 x88 x89 x90 x91 x92 x93 x94 x95 x96 x97 x98 x99 x100 x101 x102 x103 x104 x105 x106 x107 x108 x109 x110 x111 x112 x113 x114 x115 x116 x117 x118 x119 x120
    all_goals (repeat' apply And.intro)
    all_goals (repeat' (first | assumption | rfl | split | omega))
    all_goals (repeat' apply And.intro)
    all_goals first | rfl | assumption | (simp only [va_up]; (repeat' (first | omega | split)) <;> first | rfl | assumption) | (intro hh; exact absurd hh (by decide)) | (intro hh; repeat' apply And.intro) 
    all_goals first | rfl | assumption | (simp only [va_up]; (repeat' (first | omega | split)) <;> first | rfl | assumption) | (simp_all; done)
  · skip
    obtain ⟨q1, q2, q3, q4⟩ := b6 t9 k9
    clear a5 a6 a7 b5 b6 b7 s3 s1
    simp only [va_up, zRn, qLay, x1, x2, x3, x4, x5, x6, x7, x8, x9, x10, x11, x12, x13, x14, x15, x16, x17, x18, x19, x20, x21, x22, x23, x24, x25, x26, x27, x28, x29, x30, x31, x32, x33, x34, x35, x36, x37, x38, x39, x40, x41, x42, x43, x44, x45, x46, x47, x48, x49, x50, x51, x52, x53, x54, x55, x56, x57, x58, x59, x60, x61, x62, x63, x64, x65, x66, x67, x68, x69, x70, x71, x72, x73, x74, x75, x76, x77, x78, x79, x80, x81, x82, x83, x84, x85, x86, x87, x88, x89, x90, x91, x92, x93, x94, x95, x96, x97, x98, x99, x100, x101, x102, x103, x104, x105, x106, x107, x108, x109, x110, x111, x112, x113, x114, x115, x116, x117, x118, x119, x120, k9, if_true, if_false]
    all_goals clear x1 x2 x3 x4 x5 x6 x7 x8 x9 x10 x11 x12 x13 x14 x15 x16 x17 x18 x19 x20 x21 x22 x23 x24 x25 x26 x27 x28 x29 x30 x31 x32 x33 x34 x35 x36 x37 x38 x39 x40 x41 x42 x43 x44 x45 x46 x47 x48 x49 x50 x51 x52 x53 x54 x55 x56 x57 x58 x59 x60 x61 x62 x63 x64 x65 x66 x67 x68 x69 x70 x71 x72 x73 x74 x75 x76 x77 x78 x79 x80 x81 x82 x83 x84 x85 x86 x87 x88 x89 x90 x91 x92 x93 x94 x95 x96 x97 x98 x99 x100 x101 x102 x103 x104 x105 x106 x107 x108 x109 x110 x111 x112 x113 x114 x115 x116 x117 x118 x119 x120
    all_goals (repeat' apply And.intro)
    all_goals (repeat' (first | assumption | rfl | split | omega))
    all_goals (repeat' apply And.intro)
    all_goals first | rfl | assumption | (simp only [va_up]; (repeat' (first | omega | split)) <;> first | rfl | assumption) | (intro hh; exact absurd hh (by decide)) | (intro hh; repeat' apply And.intro) 
    all_goals first | rfl | assumption | (simp only [va_up]; (repeat' (first | omega | split)) <;> first | rfl | assumption) | (simp_all; done)
  · skip
    obtain ⟨q1, q2⟩ := b7 a9 h9 t9 k9
    clear a5 a6 a7 b5 b6 b7 s3 s1
    simp only [va_up, zRn, qLay, x1, x2, x3, x4, x5, x6, x7, x8, x9, x10, x11, x12, x13, x14, x15, x16, x17, x18, x19, x20, x21, x22, x23, x24, x25, x26, x27, x28, x29, x30, x31, x32, x33, x34, x35, x36, x37, x38, x39, x40, x41, x42, x43, x44, x45, x46, x47, x48, x49, x50, x51, x52, x53, x54, x55, x56, x57, x58, x59, x60, x61, x62, x63, x64, x65, x66, x67, x68, x69, x70, x71, x72, x73, x74, x75, x76, x77, x78, x79, x80, x81, x82, x83, x84, x85, x86, x87, x88, x89, x90, x91, x92, x93, x94, x95, x96, x97, x98, x99, x100, x101, x102, x103, x104, x105, x106, x107, x108, x109, x110, x111, x112, x113, x114, x115, x116, x117, x118, x119, x120, h9, k9, if_true, if_false]
    all_goals clear x1 x2 x3 x4 x5 x6 x7 x8 x9 x10 x11 x12 x13 x14 x15 x16 x17 x18 x19 x20 x21 x22 x23 x24 x25 x26 x27 x28 x29 x30 x31 x32 x33 x34 x35 x36 x37 x38 x39 x40 x41 x42 x43 x44 x45 x46 x47 x48 x49 x50 x51 x52 x53 x54 x55 x56 x57 x58 x59 x60 x61 x62 x63 x64 x65 x66 x67 x68 x69 x70 x71 x72 x73 x74 x75 x76 x77 x78 x79 x80 x81 x82 x83 x84 x85 x86 x87 x88 x89 x90 x91 x92 x93 x94 x95 x96 x97 x98 x99 x100 x101 x102 x103 x104 x105 x106 x107 x108 x109 x110 x111 x112 x113 x114 x115 x116 x117 x118 x119 x120
    all_goals (repeat' apply And.intro)
    all_goals (repeat' (first | assumption | rfl | split | omega))
    all_goals (repeat' apply And.intro)
    all_goals first | rfl | assumption | (simp only [va_up]; (repeat' (first | omega | split)) <;> first | rfl | assumption) | (intro hh; exact absurd hh (by decide)) | (intro hh; repeat' apply And.intro) 
    all_goals first | rfl | assumption | (simp only [va_up]; (repeat' (first | omega | split)) <;> first | rfl | assumption) | (simp_all; done)
theorem zT_S {g : zGl} {h : zHp} {b : Nat} {d : Nat → Nat → Int32} : (zpT g h b d).1 (b + 276) = some (.inr (4, [.ref (b + 277)])) := zpT_c (c := 276) (by decide)
theorem zNo_b : zNo 277 := Or.inl rfl
theorem qHears_72 {e F : Nat → Int32} {a b : Nat} (h : ∀ j, j < 72 → F j = e j) (ha : a < 6) (hb : b < 6) : qHears F a b = qHears e a b := by
  have h1 : qApart F a b = qApart e a b := by rw [qApart, qApart, h (4 + 6 * a) (by omega), h (4 + 6 * b) (by omega), h (4 + 6 * a + 1) (by omega), h (4 + 6 * b + 1) (by omega)]
  have h2 : qOn F a = qOn e a := by rw [qOn, qOn, h (4 + 6 * a + 3) (by omega)]
  have h3 : qOn F b = qOn e b := by rw [qOn, qOn, h (4 + 6 * b + 3) (by omega)]
  rw [qHears, qHears, h1, h2, h3, h (4 + 6 * a + 2) (by omega), h (4 + 6 * b + 2) (by omega)]
/-- the place of the best note, among the notes -/
def qBi (e : Nat → Int32) (a t i : Nat) : Nat := qIt (fun b p => if qHears e a b && qBetter e (72 + 4 * (8 * b + t)) (72 + 4 * p) then 8 * b + t else p) (8 * a + t) i
theorem qBi_s {e : Nat → Int32} {a t i : Nat} : qBi e a t (i + 1) = if qHears e a i && qBetter e (72 + 4 * (8 * i + t)) (72 + 4 * qBi e a t i) then 8 * i + t else qBi e a t i := rfl
theorem qBi_y {e : Nat → Int32} {a t i : Nat} (h1 : qHears e a i = true) (h2 : qBetter e (72 + 4 * (8 * i + t)) (72 + 4 * qBi e a t i) = true) : qBi e a t (i + 1) = 8 * i + t := by rw [qBi_s, h1, h2]; rfl
theorem qBi_n {e : Nat → Int32} {a t i : Nat} (h1 : qHears e a i = false) : qBi e a t (i + 1) = qBi e a t i := by rw [qBi_s, h1]; rfl
theorem qBi_m {e : Nat → Int32} {a t i : Nat} (h2 : qBetter e (72 + 4 * (8 * i + t)) (72 + 4 * qBi e a t i) = false) : qBi e a t (i + 1) = qBi e a t i := by rw [qBi_s, h2, Bool.and_false]; rfl
theorem qBi_e {e : Nat → Int32} {a t i : Nat} : qBst e i a t = 72 + 4 * qBi e a t i := by
  induction i with
  | zero => rfl
  | succ i ih =>
    rw [qBst_s, qBi_s, ih]
    split <;> rfl
theorem qBi_c {e : Nat → Int32} {a t n i : Nat} (ha : a < n) (hi : i ≤ n) : ∃ c, c < n ∧ qBi e a t i = 8 * c + t := by
  induction i with
  | zero => exact ⟨a, ha, rfl⟩
  | succ i ih =>
    rw [qBi_s]
    split
    · exact ⟨i, by omega, rfl⟩
    · exact ih (by omega)
set_option maxRecDepth 100000 in
set_option maxHeartbeats 4000000 in
theorem ct_X4_bestNote {g : zGl} {h : zHp} {b o n K a t : Nat} {d : Nat → Nat → Int32} {e F : Nat → Int32} (hw : zWo o) (hp : zNo 277) (hR : zR d o F n K) (hE : zWF e n K) (hB : ∀ a, a < n → ∀ t, t < K → zRn d 277 e (8 * a + t)) (h72 : ∀ j, j < 72 → F j = e j) (ha : a < n) (ht : t < K) : zC g mX4_bestNote [.ref (b + 276), .ref (b + o), .int (nI (8 * a + t)), .int (nI (mk (qHears e a) n)), .int (nI t)] (zpT g h b d) (zV (zpT g h b d) (.int (nI (qBi e a t n)))) 0 0 := by
  have hn := zR_n6 hR
  have hK := zR_K8 hR
  have h64 : mk (qHears e a) n < 64 := zS_31 mk_lt hn
  refine zC_ofA (lv := [some (.ref (b + 276)), some (.ref (b + o)), some (.int (nI (8 * a + t))), some (.int (nI (mk (qHears e a) n))), some (.int (nI t)), none, none, none]) (by decide) rfl (Nat.le_of_ble_eq_true rfl) ?_
  have loop : ∀ r i l, i + r = n → zA g (zZc g mX4_bestNote (zV (zpT g h b d) (.int (nI (qBi e a t n)))) 0 0) 0 0 6 [some (.ref (b + 276)), some (.ref (b + o)), some (.int (nI (8 * a + t))), some (.int (nI (mk (qHears e a) n))), some (.int (nI t)), some (.int (nI (qBi e a t i))), some (.int (nI i)), l] [] (zpT g h b d) := by
    intro r
    induction r using Nat.strongRecOn with
    | ind r ih =>
      intro i l hi
      obtain ⟨c, hc, hci⟩ := qBi_c (e := e) (t := t) (i := i) ha (by omega)
      have hb48 : qBi e a t i < 48 := by omega
      have hZ := hB c hc t ht
      have wZ := (zWF_n hE hc ht).1
      rw [← hci] at hZ wZ
      have tb : i < n → (mk (qHears e a) n).testBit i = qHears e a i := fun h9 => by rw [mk_tb]; simp [h9]
      refine z_iload (q := 8) dX4_bestNote_6 rfl rfl ?_
      refine z_aload_n (q := 9) dX4_bestNote_8 rfl rfl ?_
      refine z_get (q := 12) dX4_bestNote_9 zfX4_27 (by first | exact zT_o hw | exact zT_w hw rfl | exact zT_S | exact zT_N hp | exact zT_N (zNo_w hw) | exact zT_n (zNo_w hw) (by decide)) rfl rfl ?_
      refine z_eqi (zR_0 hR) ?_
      refine z_icmp_geN (tg := 61) (q := 15) dX4_bestNote_12 rfl rfl (by omega) (by omega) ?_ ?_
      · intro hc12
        refine z_iload (q := 63) dX4_bestNote_61 rfl rfl ?_
        exact z_reti dX4_bestNote_63 rfl (⟨by rw [show i = n by omega], rfl⟩)
      · intro hc12
        refine z_iload (q := 17) dX4_bestNote_15 rfl rfl ?_
        refine z_iload (q := 19) dX4_bestNote_17 rfl rfl ?_
        refine z_s2 (q := 22) dX4_bestNote_19 zkX4_55 zt_mX7_noteIndex rfl (Nat.le_of_ble_eq_true rfl) (ct_X7_noteIndex) rfl ?_
        refine z_istore (q := 24) dX4_bestNote_22 (Nat.le_of_ble_eq_true rfl) rfl rfl ?_
        refine z_iload_n (q := 25) dX4_bestNote_24 rfl rfl ?_
        refine z_iload (q := 27) dX4_bestNote_25 rfl rfl ?_
        refine z_s2 (q := 30) dX4_bestNote_27 zkX4_75 zt_mX7_isIn rfl (Nat.le_of_ble_eq_true rfl) (ct_X7_isIn (by omega) (by omega)) rfl ?_
        refine z_ifb_eq (tg := 55) (q := 33) dX4_bestNote_30 rfl rfl ?_ ?_
        · intro hc30
          rw [tb (by omega)] at hc30
          refine z_iincN (q := 58) dX4_bestNote_55 rfl rfl rfl ?_
          refine z_goto (q := 0) (tg := 6) dX4_bestNote_58 rfl ?_
          have e9 := ih (r - 1) (by omega) (i + 1)
          first
            | (rw [qBi_y hc30 hc48] at e9; exact e9 _ (by omega))
            | (rw [qBi_n hc30] at e9; exact e9 _ (by omega))
            | (rw [qBi_m hc48] at e9; exact e9 _ (by omega))
        · intro hc30
          rw [tb (by omega)] at hc30
          refine z_aload_n (q := 34) dX4_bestNote_33 rfl rfl ?_
          refine z_get (q := 37) dX4_bestNote_34 zfX4_12 (by first | exact zT_o hw | exact zT_w hw rfl | exact zT_S | exact zT_N hp | exact zT_N (zNo_w hw) | exact zT_n (zNo_w hw) (by decide)) rfl rfl ?_
          refine z_iload (q := 39) dX4_bestNote_37 rfl rfl ?_
          refine z_iload (q := 41) dX4_bestNote_39 rfl rfl ?_
          refine z_aload_n (q := 42) dX4_bestNote_41 rfl rfl ?_
          refine z_get (q := 45) dX4_bestNote_42 zfX4_45 (by first | exact zT_o hw | exact zT_w hw rfl | exact zT_S | exact zT_N hp | exact zT_N (zNo_w hw) | exact zT_n (zNo_w hw) (by decide)) rfl rfl ?_
          refine z_eqi ((zR_3 hR).trans (h72 2 (by decide))) ?_
          refine z_v3 (q := 48) dX4_bestNote_45 zkX4_78 zt_mX2_isBetter rfl (by first | exact zT_o hw | exact zT_w hw rfl | exact zT_S | exact zT_N hp | exact zT_N (zNo_w hw) | exact zT_n (zNo_w hw) (by decide)) rfl (Nat.le_of_ble_eq_true rfl) (ct_X2_isBetter hp (by omega) hb48 (hB i (by omega) t ht) hZ (zWF_n hE (by omega) ht).1 wZ) rfl ?_
          refine z_ifb_eq (tg := 55) (q := 51) dX4_bestNote_48 rfl rfl ?_ ?_
          · intro hc48
            refine z_iincN (q := 58) dX4_bestNote_55 rfl rfl rfl ?_
            refine z_goto (q := 0) (tg := 6) dX4_bestNote_58 rfl ?_
            have e9 := ih (r - 1) (by omega) (i + 1)
            first
              | (rw [qBi_y hc30 hc48] at e9; exact e9 _ (by omega))
              | (rw [qBi_n hc30] at e9; exact e9 _ (by omega))
              | (rw [qBi_m hc48] at e9; exact e9 _ (by omega))
          · intro hc48
            refine z_iload (q := 53) dX4_bestNote_51 rfl rfl ?_
            refine z_istore (q := 55) dX4_bestNote_53 (Nat.le_of_ble_eq_true rfl) rfl rfl ?_
            refine z_iincN (q := 58) dX4_bestNote_55 rfl rfl rfl ?_
            refine z_goto (q := 0) (tg := 6) dX4_bestNote_58 rfl ?_
            have e9 := ih (r - 1) (by omega) (i + 1)
            first
              | (rw [qBi_y hc30 hc48] at e9; exact e9 _ (by omega))
              | (rw [qBi_n hc30] at e9; exact e9 _ (by omega))
              | (rw [qBi_m hc48] at e9; exact e9 _ (by omega))
  refine z_iload_n (q := 1) dX4_bestNote_0 rfl rfl ?_
  refine z_istore (q := 3) dX4_bestNote_1 (Nat.le_of_ble_eq_true rfl) rfl rfl ?_
  refine z_iconst (q := 4) dX4_bestNote_3 zci_0 rfl ?_
  refine z_istore (q := 6) dX4_bestNote_4 (Nat.le_of_ble_eq_true rfl) rfl rfl ?_
  exact loop n 0 _ (by omega)

