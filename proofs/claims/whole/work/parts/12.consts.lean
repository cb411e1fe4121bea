/-! ===== constants, booleans ===== -/
theorem zcb_m9 : (Int8.ofInt (-9)).toInt32 = (-9 : Int32) := by decide
theorem zcb_6 : (Int8.ofInt 6).toInt32 = nI 6 := by decide
theorem zcb_7 : (Int8.ofInt 7).toInt32 = nI 7 := by decide
theorem zcb_8 : (Int8.ofInt 8).toInt32 = nI 8 := by decide
theorem zcb_9 : (Int8.ofInt 9).toInt32 = nI 9 := by decide
theorem zcb_10 : (Int8.ofInt 10).toInt32 = nI 10 := by decide
theorem zcb_11 : (Int8.ofInt 11).toInt32 = nI 11 := by decide
theorem zcb_12 : (Int8.ofInt 12).toInt32 = nI 12 := by decide
theorem zcb_14 : (Int8.ofInt 14).toInt32 = nI 14 := by decide
theorem zcb_16 : (Int8.ofInt 16).toInt32 = nI 16 := by decide
theorem zcb_20 : (Int8.ofInt 20).toInt32 = nI 20 := by decide
theorem zcb_22 : (Int8.ofInt 22).toInt32 = nI 22 := by decide
theorem zcb_23 : (Int8.ofInt 23).toInt32 = nI 23 := by decide
theorem zcb_31 : (Int8.ofInt 31).toInt32 = nI 31 := by decide
theorem zcb_32 : (Int8.ofInt 32).toInt32 = nI 32 := by decide
theorem zcb_33 : (Int8.ofInt 33).toInt32 = nI 33 := by decide
theorem zcb_40 : (Int8.ofInt 40).toInt32 = nI 40 := by decide
theorem zcb_48 : (Int8.ofInt 48).toInt32 = nI 48 := by decide
theorem zcb_57 : (Int8.ofInt 57).toInt32 = nI 57 := by decide
theorem zcb_60 : (Int8.ofInt 60).toInt32 = nI 60 := by decide
theorem zcb_63 : (Int8.ofInt 63).toInt32 = nI 63 := by decide
theorem zcb_64 : (Int8.ofInt 64).toInt32 = nI 64 := by decide
theorem zcb_67 : (Int8.ofInt 67).toInt32 = nI 67 := by decide
theorem zcb_72 : (Int8.ofInt 72).toInt32 = nI 72 := by decide
theorem zcb_97 : (Int8.ofInt 97).toInt32 = nI 97 := by decide
theorem zcb_99 : (Int8.ofInt 99).toInt32 = nI 99 := by decide
theorem zcb_100 : (Int8.ofInt 100).toInt32 = nI 100 := by decide
theorem zcb_116 : (Int8.ofInt 116).toInt32 = nI 116 := by decide
theorem zcb_120 : (Int8.ofInt 120).toInt32 = nI 120 := by decide
theorem zci_m1 : Int32.ofInt (-1) = (-1 : Int32) := by decide
theorem zci_0 : Int32.ofInt 0 = nI 0 := by decide
theorem zci_1 : Int32.ofInt 1 = nI 1 := by decide
theorem zci_2 : Int32.ofInt 2 = nI 2 := by decide
theorem zci_3 : Int32.ofInt 3 = nI 3 := by decide
theorem zci_4 : Int32.ofInt 4 = nI 4 := by decide
theorem zci_5 : Int32.ofInt 5 = nI 5 := by decide
theorem zcs_150 : (Int16.ofInt 150).toInt32 = nI 150 := by decide
theorem zcs_255 : (Int16.ofInt 255).toInt32 = nI 255 := by decide
theorem zcs_256 : (Int16.ofInt 256).toInt32 = nI 256 := by decide
theorem zcs_264 : (Int16.ofInt 264).toInt32 = nI 264 := by decide
theorem zcs_528 : (Int16.ofInt 528).toInt32 = nI 528 := by decide
theorem zcs_1000 : (Int16.ofInt 1000).toInt32 = nI 1000 := by decide
theorem zcs_1024 : (Int16.ofInt 1024).toInt32 = nI 1024 := by decide
theorem zcs_1792 : (Int16.ofInt 1792).toInt32 = nI 1792 := by decide
theorem zcs_3432 : (Int16.ofInt 3432).toInt32 = nI 3432 := by decide
theorem zcs_3696 : (Int16.ofInt 3696).toInt32 = nI 3696 := by decide
theorem zcs_10000 : (Int16.ofInt 10000).toInt32 = nI 10000 := by decide
/-- a boolean as an int -/
def zbi (b : Bool) : Int32 := if b then nI 1 else nI 0
theorem zbi_t : zbi true = nI 1 := rfl
theorem zbi_f : zbi false = nI 0 := rfl
theorem zbi_01 (b : Bool) : zbi b = 0 ∨ zbi b = 1 := by cases b <;> decide
theorem zbi_0 {b : Bool} : zbi b = 0 ↔ b = false := by cases b <;> decide
theorem z_ifb_eq {g : zGl} {Z : zZt} {k n pc q : Nat} {lv : List (Option Value)} {st : List Value} {h : zHp} {b : Bool} {off : Int} {tg : Nat} (hd : decode Z.1.2.1 pc = .ok (.ifCond .eq off, 3)) (ht : (pc : Int) + off = (tg : Int)) (hp : pc + 3 = q) (kt : b = false → zA g Z k n tg lv st h) (kf : b = true → zA g Z k n q lv st h) : zA g Z k n pc lv (.int (zbi b) :: st) h :=
  z_if_eq hd ht hp (fun z => kt (zbi_0.mp z)) (fun z => kf (by cases b; exact absurd (by decide) z; rfl))
theorem z_ifb_ne {g : zGl} {Z : zZt} {k n pc q : Nat} {lv : List (Option Value)} {st : List Value} {h : zHp} {b : Bool} {off : Int} {tg : Nat} (hd : decode Z.1.2.1 pc = .ok (.ifCond .ne off, 3)) (ht : (pc : Int) + off = (tg : Int)) (hp : pc + 3 = q) (kt : b = true → zA g Z k n tg lv st h) (kf : b = false → zA g Z k n q lv st h) : zA g Z k n pc lv (.int (zbi b) :: st) h :=
  z_if_ne hd ht hp (fun z => kt (by cases b; exact absurd (by decide) z; rfl)) (fun z => kf (zbi_0.mp z))
theorem zbi_T {p : Prop} [Decidable p] (h : p) : nI 1 = zbi (decide p) := by simp [h, zbi]
theorem zbi_F {p : Prop} [Decidable p] (h : ¬ p) : nI 0 = zbi (decide p) := by simp [h, zbi]
theorem zT {h : zHp} {p : Prop} [Decidable p] (hp : p) : zV h (.int (zbi (decide p))) (some (.int (nI 1))) h := ⟨by rw [← zbi_T hp], rfl⟩
theorem zF {h : zHp} {p : Prop} [Decidable p] (hp : ¬ p) : zV h (.int (zbi (decide p))) (some (.int (nI 0))) h := ⟨by rw [← zbi_F hp], rfl⟩
theorem zVt {h : zHp} {b : Bool} (hb : b = true) : zV h (.int (zbi b)) (some (.int (nI 1))) h := ⟨by rw [hb]; rfl, rfl⟩
theorem zVf {h : zHp} {b : Bool} (hb : b = false) : zV h (.int (zbi b)) (some (.int (nI 0))) h := ⟨by rw [hb]; rfl, rfl⟩
theorem zup_zup (h : zHp) (a : Nat) (c c' : va_E) : zup (zup h a c) a c' = zup h a c' := by
  simp only [zup]
  congr 1
  funext q
  by_cases hq : q = a <;> simp [hq]
theorem zup_at (h : zHp) (a : Nat) (c : va_E) : (zup h a c).1 a = some c := by simp [zup_1]
theorem zup_ne {h : zHp} {a q : Nat} {c : va_E} (hq : q ≠ a) : (zup h a c).1 q = h.1 q := by simp [zup_1, hq]
theorem zup_self {h : zHp} {a : Nat} {c : va_E} (hc : h.1 a = some c) : zup h a c = h := by
  obtain ⟨f, s⟩ := h
  simp only [zup]
  congr 1
  funext q
  by_cases hq : q = a
  · subst hq; simp; exact hc.symm
  · simp [hq]
theorem zup_comm {h : zHp} {a b : Nat} {c d : va_E} (hab : a ≠ b) : zup (zup h a c) b d = zup (zup h b d) a c := by
  simp only [zup]
  congr 1
  funext q
  by_cases hq : q = a
  · subst hq; simp [hab]
  · by_cases hq2 : q = b
    · subst hq2; simp [hq]
    · simp [hq, hq2]
/-- storing into the row that stands on top -/
theorem z_iastU {g : zGl} {Z : zZt} {k n pc q : Nat} {lv : List (Option Value)} {st : List Value} {h : zHp} {a N j : Nat} {x : Int32} {f : Nat → Int32} (hd : decode Z.1.2.1 pc = .ok (.iastore, 1)) (hN : N < 2 ^ 31) (hj : j < N) (hp : pc + 1 = q) (kk : zA g Z k n q lv st (zup h a (zI g N (va_up f j x)))) : zA g Z k n pc lv (.int x :: .int (nI j) :: .ref a :: st) (zup h a (zI g N f)) :=
  z_iast hd (zup_at _ _ _) hN hj hp (by rw [zup_zup]; exact kk)
/-- storing into the row below the top one -/
theorem z_iastU2 {g : zGl} {Z : zZt} {k n pc q : Nat} {lv : List (Option Value)} {st : List Value} {h : zHp} {a b N j : Nat} {x : Int32} {f : Nat → Int32} {d : va_E} (hd : decode Z.1.2.1 pc = .ok (.iastore, 1)) (hab : a ≠ b) (hN : N < 2 ^ 31) (hj : j < N) (hp : pc + 1 = q) (kk : zA g Z k n q lv st (zup (zup h a (zI g N (va_up f j x))) b d)) : zA g Z k n pc lv (.int x :: .int (nI j) :: .ref a :: st) (zup (zup h a (zI g N f)) b d) := by
  rw [zup_comm hab]
  refine z_iastU hd hN hj hp ?_
  rw [zup_comm (Ne.symm hab)]
  exact kk
/-- what is found first -/
def qFst (p : Nat → Bool) (n : Nat) : Option Nat := (List.range n).find? p
def qT : Option Nat → Int32
  | none => -9
  | some t => nI t
theorem qFst_some {p : Nat → Bool} {n i : Nat} (hi : i < n) (hp : p i = true) (hj : ∀ j, j < i → p j = false) : qFst p n = some i := by
  rw [qFst, List.find?_range_eq_some]
  exact ⟨hp, List.mem_range.mpr hi, fun j hji => by simp [hj j hji]⟩
theorem qFst_none {p : Nat → Bool} {n : Nat} (hj : ∀ j, j < n → p j = false) : qFst p n = none := by
  rw [qFst, List.find?_eq_none]
  intro x hx
  simp [hj x (List.mem_range.mp hx)]
theorem qFst_lt {p : Nat → Bool} {n i : Nat} (h : qFst p n = some i) : i < n ∧ p i = true ∧ ∀ j, j < i → p j = false := by
  rw [qFst, List.find?_range_eq_some] at h
  obtain ⟨h1, h2, h3⟩ := h
  exact ⟨List.mem_range.mp h2, h1, fun j hj => by simpa using h3 j hj⟩
theorem qFst_nlt {p : Nat → Bool} {n : Nat} (h : qFst p n = none) : ∀ j, j < n → p j = false := by
  rw [qFst, List.find?_eq_none] at h
  intro j hj
  simpa using h j (List.mem_range.mpr hj)
theorem z_iadd0 {g : zGl} {Z : zZt} {k n pc q : Nat} {lv : List (Option Value)} {st : List Value} {h : zHp} {x : Nat} (hd : decode Z.1.2.1 pc = .ok (.iadd, 1)) (hp : pc + 1 = q) (kk : zA g Z k n q lv (.int (nI x) :: st) h) : zA g Z k n pc lv (.int (nI 0) :: .int (nI x) :: st) h := z_iaddN hd hp kk
