/-! ===== the component's cells: all of them at fixed places behind its first ===== -/
def zWl (j : Nat) : Option Nat := if 1 ≤ j ∧ j ≤ 5 then some 6 else if 6 ≤ j ∧ j ≤ 9 then some 8 else if 11 ≤ j ∧ j ≤ 14 then some 48 else none
/-- the places of the worlds -/
def zWo (o : Nat) : Prop := o = 3 ∨ o = 18 ∨ (∃ i, i < 14 ∧ o = 35 + 15 * i) ∨ o = 246 ∨ o = 261
/-- the places of the notes -/
def zNo (p : Nat) : Prop := p = 277 ∨ ∃ o, zWo o ∧ p = o + 10
def zWi (c : Nat) : Option Nat := if 3 ≤ c ∧ c < 33 then some ((c - 3) % 15) else if 35 ≤ c ∧ c < 245 then some ((c - 35) % 15) else if 246 ≤ c ∧ c < 276 then some ((c - 246) % 15) else none
theorem zWi_o {o j : Nat} (ho : zWo o) (hj : j < 15) : zWi (o + j) = some j := by
  rcases ho with rfl | rfl | ⟨i, hi, rfl⟩ | rfl | rfl
  · rw [zWi, if_pos (by omega)]; exact congrArg some (by omega)
  · rw [zWi, if_pos (by omega)]; exact congrArg some (by omega)
  · rw [zWi, if_neg (by omega), if_pos (by omega)]; exact congrArg some (by omega)
  · rw [zWi, if_neg (by omega), if_neg (by omega), if_pos (by omega)]; exact congrArg some (by omega)
  · rw [zWi, if_neg (by omega), if_neg (by omega), if_pos (by omega)]; exact congrArg some (by omega)
theorem zWo_lt {o : Nat} (ho : zWo o) : 3 ≤ o ∧ o + 15 ≤ 276 := by
  rcases ho with rfl | rfl | ⟨i, hi, rfl⟩ | rfl | rfl <;> omega
def zTl (c : Nat) : Option Nat := match zWi c with
  | some j => zWl j
  | none => if c = 2 then some 120 else if 278 ≤ c ∧ c ≤ 281 then some 48 else if c = 284 then some 6 else if c = 285 then some 1792 else none
def zNf (b p : Nat) : List Value := [.ref (b + (p + 1)), .ref (b + (p + 2)), .ref (b + (p + 3)), .ref (b + (p + 4))]
def zWf (b o : Nat) (v : Nat → Int32) : List Value := [.int (v 0), .int (v 1), .int (v 2), .int (v 3), .int (v 4), .ref (b + (o + 1)), .ref (b + (o + 2)), .ref (b + (o + 3)), .ref (b + (o + 4)), .ref (b + (o + 5)), .ref (b + (o + 6)), .ref (b + (o + 7)), .ref (b + (o + 8)), .ref (b + (o + 9)), .ref (b + (o + 10))]
def zTf (b : Nat) (v : Nat → Int32) : List Value := [.ref (b + 1), .ref (b + 3), .ref (b + 18), .ref (b + 33), .ref (b + 245), .int (v 5), .ref (b + 276), .ref (b + 282), .ref (b + 283)]
def zTc (g : zGl) (b c : Nat) (v : Nat → Int32) : va_E := match zTl c with
  | some N => zI g N v
  | none => match zWi c with
    | some j => if j = 0 then .inr (6, zWf b c v) else .inr (2, zNf b c)
    | none => if c = 0 then .inr (7, zTf b v) else if c = 1 then .inr (5, [.ref (b + 2), .int (v 1)]) else if c = 33 then .inr (1, [.ref (b + 34), .int (v 1), .int (v 2)])
      else if c = 34 then zW g 14 (fun i => some (b + (35 + 15 * i))) else if c = 245 then zW g 2 (fun i => some (b + (246 + 15 * i)))
      else if c = 276 then .inr (4, [.ref (b + 277)]) else if c = 277 then .inr (2, zNf b c) else if c = 282 then .inr (0, [.ref (b + 276)]) else .inr (3, [.ref (b + 284), .int (v 1), .ref (b + 285)])
def zpT (g : zGl) (h : zHp) (b : Nat) (d : Nat → Nat → Int32) : zHp := (fun q => if b ≤ q ∧ q < b + 286 then some (zTc g b (q - b) (d (q - b))) else h.1 q, h.2)
theorem zpT_c {g : zGl} {h : zHp} {b c : Nat} {d : Nat → Nat → Int32} (hc : c < 286) : (zpT g h b d).1 (b + c) = some (zTc g b c (d c)) := by
  simp [zpT, hc]
theorem zpT_o {g : zGl} {h : zHp} {b q : Nat} {d : Nat → Nat → Int32} (hq : q < b ∨ b + 286 ≤ q) : (zpT g h b d).1 q = h.1 q := by
  simp only [zpT]
  rw [if_neg (by omega)]
theorem zpT_s {g : zGl} {h : zHp} {b : Nat} {d : Nat → Nat → Int32} : (zpT g h b d).2 = h.2 := rfl
theorem zpT_up {g : zGl} {h : zHp} {b c : Nat} {d : Nat → Nat → Int32} {f : Nat → Int32} {e : va_E} (hc : c < 286) (he : zTc g b c f = e) : zup (zpT g h b d) (b + c) e = zpT g h b (va_up d c f) := by
  simp only [zup, zpT]
  congr 1
  funext q
  by_cases hq : q = b + c
  · subst hq
    rw [if_pos rfl, if_pos (by omega), Nat.add_sub_cancel_left, ← he, zu_eq]
  · rw [if_neg hq]
    by_cases hr : b ≤ q ∧ q < b + 286
    · rw [if_pos hr, if_pos hr, zu_ne (show q - b ≠ c by omega)]
    · rw [if_neg hr, if_neg hr]
theorem zTl_lt {c N : Nat} (h : zTl c = some N) : c < 286 ∧ N < 2 ^ 31 := by
  unfold zTl at h
  split at h
  · rename_i j hj
    have hc : c < 276 := by
      unfold zWi at hj
      split at hj
      · omega
      · split at hj
        · omega
        · split at hj
          · omega
          · cases hj
    have hN : N < 2 ^ 31 := by
      unfold zWl at h
      split at h
      · cases h; decide
      · split at h
        · cases h; decide
        · split at h
          · cases h; decide
          · cases h
    exact ⟨by omega, hN⟩
  · split at h
    · cases h; exact ⟨by omega, by decide⟩
    · split at h
      · cases h; exact ⟨by omega, by decide⟩
      · split at h
        · cases h; exact ⟨by omega, by decide⟩
        · split at h
          · cases h; exact ⟨by omega, by decide⟩
          · cases h
theorem zpT_a {g : zGl} {h : zHp} {b c N : Nat} {d : Nat → Nat → Int32} (hc : zTl c = some N) : (zpT g h b d).1 (b + c) = some (zI g N (d c)) := by
  rw [zpT_c (zTl_lt hc).1, zTc, hc]
theorem zpT_row {g : zGl} {h : zHp} {b c N : Nat} {d : Nat → Nat → Int32} {f : Nat → Int32} (hc : zTl c = some N) : zup (zpT g h b d) (b + c) (zI g N f) = zpT g h b (va_up d c f) :=
  zpT_up (zTl_lt hc).1 (by rw [zTc, hc])
/-- a row of a world -/
theorem zWl_T {o j N : Nat} (ho : zWo o) (hj : zWl j = some N) : zTl (o + j) = some N := by
  have h15 : j < 15 := by
    unfold zWl at hj
    split at hj
    · omega
    · split at hj
      · omega
      · split at hj
        · omega
        · cases hj
  rw [zTl, zWi_o ho h15]
  exact hj
theorem zT_w {g : zGl} {h : zHp} {b o j N : Nat} {d : Nat → Nat → Int32} (ho : zWo o) (hj : zWl j = some N) : (zpT g h b d).1 (b + (o + j)) = some (zI g N (d (o + j))) := zpT_a (zWl_T ho hj)
/-- a world -/
theorem zT_o {g : zGl} {h : zHp} {b o : Nat} {d : Nat → Nat → Int32} (ho : zWo o) : (zpT g h b d).1 (b + o) = some (.inr (6, zWf b o (d o))) := by
  have h1 := zWo_lt ho
  have h2 : zWi o = some 0 := zWi_o (j := 0) ho (by decide)
  rw [zpT_c (by omega), zTc, zTl, h2]
  rfl
theorem zNo_T {p j : Nat} (hp : zNo p) (hj : 1 ≤ j ∧ j ≤ 4) : zTl (p + j) = some 48 := by
  rcases hp with rfl | ⟨o, ho, rfl⟩
  · rcases (show j = 1 ∨ j = 2 ∨ j = 3 ∨ j = 4 by omega) with rfl | rfl | rfl | rfl <;> decide
  · rw [Nat.add_assoc]
    refine zWl_T ho ?_
    rcases (show j = 1 ∨ j = 2 ∨ j = 3 ∨ j = 4 by omega) with rfl | rfl | rfl | rfl <;> decide
theorem zT_n {g : zGl} {h : zHp} {b p j : Nat} {d : Nat → Nat → Int32} (hp : zNo p) (hj : 1 ≤ j ∧ j ≤ 4) : (zpT g h b d).1 (b + (p + j)) = some (zI g 48 (d (p + j))) := zpT_a (zNo_T hp hj)
/-- the notes -/
theorem zT_N {g : zGl} {h : zHp} {b p : Nat} {d : Nat → Nat → Int32} (hp : zNo p) : (zpT g h b d).1 (b + p) = some (.inr (2, zNf b p)) := by
  rcases hp with rfl | ⟨o, ho, rfl⟩
  · rw [zpT_c (by decide)]
    rfl
  · have h1 := zWo_lt ho
    have h2 : zWi (o + 10) = some 10 := zWi_o ho (by decide)
    rw [zpT_c (by omega), zTc, zTl, h2]
    rfl
theorem zNo_w {o : Nat} (ho : zWo o) : zNo (o + 10) := Or.inr ⟨o, ho, rfl⟩
theorem z_putT {g : zGl} {Z : zZt} {k n pc q : Nat} {lv : List (Option Value)} {st : List Value} {h : zHp} {idx kf b o : Nat} {C0 : String} {d : Nat → Nat → Int32} {v : Int32} (ho : zWo o) (hd : decode Z.1.2.1 pc = .ok (.putfield idx, 3)) (hf : zFld Z.1.1.cls idx 6 kf .int false C0) (hk : kf < 5) (hp : pc + 3 = q) (kk : zA g Z k n q lv st (zpT g h b (va_up d o (va_up (d o) kf v)))) : zA g Z k n pc lv (.int v :: .ref (b + o) :: st) (zpT g h b d) := by
  refine z_put hd hf (zT_o ho) (show kf < 15 by omega) rfl rfl hp ?_
  rw [zpT_up (f := va_up (d o) kf v) (by have := zWo_lt ho; omega)]
  · exact kk
  · have h2 : zWi o = some 0 := zWi_o (j := 0) ho (by decide)
    rw [zTc, zTl, h2]
    rcases (show kf = 0 ∨ kf = 1 ∨ kf = 2 ∨ kf = 3 ∨ kf = 4 by omega) with rfl | rfl | rfl | rfl | rfl <;> rfl
theorem z_iastT {g : zGl} {Z : zZt} {k n pc q : Nat} {lv : List (Option Value)} {st : List Value} {h : zHp} {b c N j : Nat} {d : Nat → Nat → Int32} {x : Int32} (hd : decode Z.1.2.1 pc = .ok (.iastore, 1)) (hc : zTl c = some N) (hj : j < N) (hp : pc + 1 = q) (kk : zA g Z k n q lv st (zpT g h b (va_up d c (va_up (d c) j x)))) : zA g Z k n pc lv (.int x :: .int (nI j) :: .ref (b + c) :: st) (zpT g h b d) :=
  z_iast hd (zpT_a hc) (zTl_lt hc).2 hj hp (by rw [zpT_row hc]; exact kk)
