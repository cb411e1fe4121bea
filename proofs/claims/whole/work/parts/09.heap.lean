/-! ===== rows of the heap ===== -/
def zup (h : zHp) (a : Nat) (c : va_E) : zHp := (fun q => if q = a then some c else h.1 q, h.2)
def znw (h : zHp) (a : Nat) (c : va_E) : zHp := (fun q => if q = a then some c else h.1 q, some (a + 1))
theorem zup_1 {h : zHp} {a q : Nat} {c : va_E} : (zup h a c).1 q = if q = a then some c else h.1 q := rfl
theorem zup_2 {h : zHp} {a : Nat} {c : va_E} : (zup h a c).2 = h.2 := rfl
theorem znw_1 {h : zHp} {a q : Nat} {c : va_E} : (znw h a c).1 q = if q = a then some c else h.1 q := rfl
theorem znw_2 {h : zHp} {a : Nat} {c : va_E} : (znw h a c).2 = some (a + 1) := rfl
theorem zRp_up {g : zGl} {h : zHp} {H H' : Heap} {a : Nat} {c : va_E} (hR : zRp g h H) (ha : zFr g a) (hat : va_at (zgD g) vwCl (a, c) H') (hz : H'.size = H.size) (ho : ∀ q : Nat, q ≠ a → H'[q]? = H[q]?) : zRp g (zup h a c) H' := by
  refine ⟨fun q c' hq => ?_, fun n hn => hz.trans (hR.2 n hn)⟩
  rw [zup_1] at hq
  split at hq
  · next e =>
    subst e
    cases hq
    exact ⟨ha, hat⟩
  · next e => exact ⟨(hR.1 q c' hq).1, va_at.kept (hR.1 q c' hq).2 (ho q e)⟩
theorem zRp_nw {g : zGl} {h : zHp} {H H' : Heap} {c : va_E} (hR : zRp g h H) (ha : zFr g H.size) (hat : va_at (zgD g) vwCl (H.size, c) H') (hz : H'.size = H.size + 1) (ho : ∀ q : Nat, q < H.size → H'[q]? = H[q]?) : zRp g (znw h H.size c) H' := by
  refine ⟨fun q c' hq => ?_, fun n hn => hz.trans (Option.some.inj hn)⟩
  rw [znw_1] at hq
  split at hq
  · next e =>
    subst e
    cases hq
    exact ⟨ha, hat⟩
  · next e => exact ⟨(hR.1 q c' hq).1, va_at.kept (hR.1 q c' hq).2 (ho q (hR.1 q c' hq).2.lt)⟩
theorem zP1 {D : va_G} {cl : List vw_C} {a : Nat} {c : va_E} {H : Heap} (h : va_at D cl (a, c) H) : va_P D cl [(a, c)] H := by
  intro j x hx
  cases j with
  | zero => cases hx; exact h
  | succ j => cases hx
/-- a class of ours -/
def zCl (ci : Nat) (C : String) (T : u_T) (N : Nat) (ty0 : Nat → FieldType) : Prop := vwCl[ci]? = some (C, T, N) ∧ (∀ w ∈ u_ws C T N, w ∈ zTb) ∧ (∀ k, k < N → parseFieldDescriptor (T k).2.2.1 = some (ty0 k)) ∧ (∀ a, a < N → ∀ b, b < N → a ≠ b → (T a).2.1 ≠ (T b).2.1)
/-- the entry idx of own's pool names the field kf of class ci -/
def zFld (own : String) (idx ci kf : Nat) (ty : FieldType) (fin : Bool) (C : String) : Prop := ∃ (T : u_T) (N : Nat) (ty0 : Nat → FieldType), zCl ci C T N ty0 ∧ kf < N ∧ ty0 kf = ty ∧ (T kf).2.2.2 = fin ∧ (T kf).1 = C ∧ Cond.fieldLink own idx (T kf).1 (T kf).2.1 (T kf).2.2.1 ∈ zTb
theorem z_get {g : zGl} {Z : zZt} {k n pc q : Nat} {lv : List (Option Value)} {st : List Value} {h : zHp} {idx ci kf a : Nat} {ty : FieldType} {fin : Bool} {C0 : String} {fs : List Value} {v : Value} (hd : decode Z.1.2.1 pc = .ok (.getfield idx, 3)) (hf : zFld Z.1.1.cls idx ci kf ty fin C0) (hcell : h.1 a = some (.inr (ci, fs))) (hv : fs[kf]? = some v) (hp : pc + 3 = q) (kk : zA g Z k n q lv (v :: st) h) : zA g Z k n pc lv (.ref a :: st) h := by
  intro p e s m args below meth c ls H locs cells slots C E hL hR hS hk hn
  subst hp
  obtain ⟨T, N, ty0, ⟨hc, hin, -, -⟩, hkN, -, -, -, hlk⟩ := hf
  exact va_get C.1 C.2.1 C.2.2.2.2.2.1 hin C.2.2.2.2.1 C.2.2.2.2.2.2.2.2.1 (zP1 (hR.1 a _ hcell).2) 0 rfl hc kf hkN (C.2.2.2.2.2.1 _ hlk) (fun _ z => z) hv hd (kk p e s m args below meth c ls H locs cells slots C E hL hR hS hk hn)
theorem z_put {g : zGl} {Z : zZt} {k n pc q : Nat} {lv : List (Option Value)} {st : List Value} {h : zHp} {idx ci kf a : Nat} {ty : FieldType} {C0 : String} {fs : List Value} {v : Value} (hd : decode Z.1.2.1 pc = .ok (.putfield idx, 3)) (hf : zFld Z.1.1.cls idx ci kf ty false C0) (hcell : h.1 a = some (.inr (ci, fs))) (hl : kf < fs.length) (hv1 : narrow ty v = v) (hv2 : fits ty v = true) (hp : pc + 3 = q) (kk : zA g Z k n q lv st (zup h a (.inr (ci, fs.set kf v)))) : zA g Z k n pc lv (v :: .ref a :: st) h := by
  intro p e s m args below meth c ls H locs cells slots C E hL hR hS hk hn
  subst hp
  obtain ⟨T, N, ty0, ⟨hc, hin, hty, hnm⟩, hkN, rfl, hfin, -, hlk⟩ := hf
  have hts := C.2.2.2.2.2.1
  have hK := C.2.2.2.2.2.2.2.2.1
  have hap := va_apart (own := Z.1.1.cls) hts hin ty0 hty hnm hK hc
  obtain ⟨hA, r, h1, cell, q1, q2, q3, q4⟩ := hR.1 a _ hcell
  have hr : r = (C0, T, N) := Option.some.inj (h1.symm.trans hc)
  subst hr
  obtain ⟨hS0, hfc, kC, hkC, hkind⟩ := hK.1 ci _ hc
  obtain ⟨cf, kf0, fi, f, hi, hsl⟩ := hS0 kf hkN
  have hlay := hts _ (hin _ (u_in_lay hkN))
  unfold u_lay at hlay
  rw [if_neg (by rw [hfin]; decide)] at hlay
  have hst := (u_facts hfc hkC (u_lays hts hin hkN) hi).1
  have h6 := u_store hfc hkC hkind hlay hi (hty kf hkN) hv1 hv2
  refine W.putK C.1 C.2.1 (f := f) ⟨C.2.2.2.2.1, hts _ hlk, ⟨_, _, _, hi⟩, hst⟩ (by rw [q2]; exact h6) q1 q3 (by rw [hsl]; exact k2_hasslot (q4 kf hkN)) rfl rfl hd fun H' e1 e2 e3 => ?_
  rw [hsl] at e1 ⊢
  exact kk p e s m args below meth c ls H' _ cells slots C E hL (zRp_up hR hA ⟨_, hc, t_OB.to (V := updV (vp_V fs) kf v) ⟨_, e1, q2, q3, t_set q4 hap hkN v⟩ (fun j _ => vp_updV_set hl v j)⟩ e2 e3) (hS.put e2 e3 hA) hk hn
theorem z_putF {g : zGl} {Z : zZt} {k n pc q : Nat} {lv : List (Option Value)} {st : List Value} {h : zHp} {idx ci kf a : Nat} {ty : FieldType} {C0 : String} {fs : List Value} {v : Value} (hd : decode Z.1.2.1 pc = .ok (.putfield idx, 3)) (hf : zFld Z.1.1.cls idx ci kf ty true C0) (hown : C0 = Z.1.1.cls) (hini : Z.1.1.name = "<init>") (hcell : h.1 a = some (.inr (ci, fs))) (hl : kf < fs.length) (hv1 : narrow ty v = v) (hv2 : fits ty v = true) (hp : pc + 3 = q) (kk : zA g Z k n q lv st (zup h a (.inr (ci, fs.set kf v)))) : zA g Z k n pc lv (v :: .ref a :: st) h := by
  intro p e s m args below meth c ls H locs cells slots C E hL hR hS hk hn
  subst hp
  obtain ⟨T, N, ty0, ⟨hc, hin, hty, hnm⟩, hkN, rfl, hfin, hdecl, hlk⟩ := hf
  have hts := C.2.2.2.2.2.1
  have hK := C.2.2.2.2.2.2.2.2.1
  have hap := va_apart (own := Z.1.1.cls) hts hin ty0 hty hnm hK hc
  obtain ⟨hA, r, h1, cell, q1, q2, q3, q4⟩ := hR.1 a _ hcell
  have hr : r = (C0, T, N) := Option.some.inj (h1.symm.trans hc)
  subst hr
  obtain ⟨hS0, hfc, kC, hkC, hkind⟩ := hK.1 ci _ hc
  obtain ⟨cf, kf0, fi, f, hi, hsl⟩ := hS0 kf hkN
  have hlay := hts _ (hin _ (u_in_lay hkN))
  unfold u_lay at hlay
  rw [if_pos hfin] at hlay
  have hst := (u_facts hfc hkC (u_lays hts hin hkN) hi).1
  have hcf : m.cls = cf := by
    obtain ⟨_, _, c', _, _, _, -, -, hf', -, -, -, hown2, -⟩ := Cond.laysFinal_spec hlay
    have e1 : c' = cf := by have := hi.symm.trans hf'; simp at this; exact this.1.symm
    rw [hdecl, hown] at hown2
    rw [← e1]; exact Option.some.inj (C.2.2.2.2.1.symm.trans hown2)
  have h6 := u_fits hfc hkC hkind (Or.inr hlay) hi (hty kf hkN) hv1 hv2
  refine W.putFinK C.1 C.2.1 C.2.2.2.2.1 (hts _ hlk) hi hst hcf (C.2.2.2.2.2.2.2.1.trans hini) (by rw [q2]; exact h6) q1 q3 (by rw [hsl]; exact k2_hasslot (q4 kf hkN)) rfl rfl hd fun H' e1 e2 e3 => ?_
  rw [hsl] at e1 ⊢
  exact kk p e s m args below meth c ls H' _ cells slots C E hL (zRp_up hR hA ⟨_, hc, t_OB.to (V := updV (vp_V fs) kf v) ⟨_, e1, q2, q3, t_set q4 hap hkN v⟩ (fun j _ => vp_updV_set hl v j)⟩ e2 e3) (hS.put e2 e3 hA) hk hn
/-- the cell of an int[], a boolean[], a long[], a World[] -/
abbrev zI (g : zGl) (N : Nat) (f : Nat → Int32) : va_E := .inl (zgI g, N, .inl f)
abbrev zB (g : zGl) (N : Nat) (f : Nat → Int32) : va_E := .inl (zgZ g, N, .inl f)
abbrev zJ (g : zGl) (N : Nat) (f : Nat → Int64) : va_E := .inl (zgJ g, N, .inr (.inl f))
abbrev zW (g : zGl) (N : Nat) (f : Nat → Option Nat) : va_E := .inl (zgW g, N, .inr (.inr (.inr (.inr f))))
theorem z_in {j N : Nat} (hj : j < N) (hN : N < 2 ^ 31) : vp_in (nI j) N := nI_in hj hN
theorem z_iald {g : zGl} {Z : zZt} {k n pc q : Nat} {lv : List (Option Value)} {st : List Value} {h : zHp} {a N j : Nat} {f : Nat → Int32} (hd : decode Z.1.2.1 pc = .ok (.iaload, 1)) (hcell : h.1 a = some (zI g N f)) (hN : N < 2 ^ 31) (hj : j < N) (hp : pc + 1 = q) (kk : zA g Z k n q lv (.int (f j) :: st) h) : zA g Z k n pc lv (.int (nI j) :: .ref a :: st) h := by
  intro p e s m args below meth c ls H locs cells slots C E hL hR hS hk hn
  subst hp
  refine va_iald C.1 C.2.1 C.2.2.2.2.2.2.2.2.1 (zP1 (hR.1 a _ hcell).2) 0 0 rfl rfl (z_in hj hN) hd ?_
  rw [nI_clamp (by omega)]
  exact kk p e s m args below meth c ls H locs cells slots C E hL hR hS hk hn
theorem z_zald {g : zGl} {Z : zZt} {k n pc q : Nat} {lv : List (Option Value)} {st : List Value} {h : zHp} {a N j : Nat} {f : Nat → Int32} (hd : decode Z.1.2.1 pc = .ok (.baload, 1)) (hcell : h.1 a = some (zB g N f)) (hN : N < 2 ^ 31) (hj : j < N) (hp : pc + 1 = q) (kk : zA g Z k n q lv (.int (f j) :: st) h) : zA g Z k n pc lv (.int (nI j) :: .ref a :: st) h := by
  intro p e s m args below meth c ls H locs cells slots C E hL hR hS hk hn
  subst hp
  refine va_zald C.1 C.2.1 C.2.2.2.2.2.2.2.2.1 (zP1 (hR.1 a _ hcell).2) 0 1 rfl rfl (z_in hj hN) hd ?_
  rw [nI_clamp (by omega)]
  exact kk p e s m args below meth c ls H locs cells slots C E hL hR hS hk hn
theorem z_lald {g : zGl} {Z : zZt} {k n pc q : Nat} {lv : List (Option Value)} {st : List Value} {h : zHp} {a N j : Nat} {f : Nat → Int64} (hd : decode Z.1.2.1 pc = .ok (.laload, 1)) (hcell : h.1 a = some (zJ g N f)) (hN : N < 2 ^ 31) (hj : j < N) (hp : pc + 1 = q) (kk : zA g Z k n q lv (.long (f j) :: st) h) : zA g Z k n pc lv (.int (nI j) :: .ref a :: st) h := by
  intro p e s m args below meth c ls H locs cells slots C E hL hR hS hk hn
  subst hp
  refine va_lald C.1 C.2.1 C.2.2.2.2.2.2.2.2.1 (zP1 (hR.1 a _ hcell).2) 0 2 rfl rfl (z_in hj hN) hd ?_
  rw [nI_clamp (by omega)]
  exact kk p e s m args below meth c ls H locs cells slots C E hL hR hS hk hn
theorem z_aald {g : zGl} {Z : zZt} {k n pc q : Nat} {lv : List (Option Value)} {st : List Value} {h : zHp} {a N j x : Nat} {f : Nat → Option Nat} (hd : decode Z.1.2.1 pc = .ok (.aaload, 1)) (hcell : h.1 a = some (zW g N f)) (hN : N < 2 ^ 31) (hj : j < N) (hx : f j = some x) (hp : pc + 1 = q) (kk : zA g Z k n q lv (.ref x :: st) h) : zA g Z k n pc lv (.int (nI j) :: .ref a :: st) h := by
  intro p e s m args below meth c ls H locs cells slots C E hL hR hS hk hn
  subst hp
  refine va_aldq C.1 C.2.1 C.2.2.2.2.2.2.2.2.1 (zP1 (hR.1 a _ hcell).2) 0 3 rfl rfl (z_in hj hN) hd ?_
  rw [nI_clamp (by omega), hx]
  exact kk p e s m args below meth c ls H locs cells slots C E hL hR hS hk hn
theorem z_alen {g : zGl} {Z : zZt} {k n pc q : Nat} {lv : List (Option Value)} {st : List Value} {h : zHp} {a N : Nat} {f : Nat → Int32} (hd : decode Z.1.2.1 pc = .ok (.arraylength, 1)) (hcell : h.1 a = some (zI g N f)) (hp : pc + 1 = q) (kk : zA g Z k n q lv (.int (nI N) :: st) h) : zA g Z k n pc lv (.ref a :: st) h := by
  intro p e s m args below meth c ls H locs cells slots C E hL hR hS hk hn
  subst hp
  exact va_alen C.1 C.2.1 C.2.2.2.2.2.2.2.2.1 (zP1 (hR.1 a _ hcell).2) 0 0 rfl (ty := .int) rfl rfl hd (kk p e s m args below meth c ls H locs cells slots C E hL hR hS hk hn)
theorem z_iast {g : zGl} {Z : zZt} {k n pc q : Nat} {lv : List (Option Value)} {st : List Value} {h : zHp} {a N j : Nat} {x : Int32} {f : Nat → Int32} (hd : decode Z.1.2.1 pc = .ok (.iastore, 1)) (hcell : h.1 a = some (zI g N f)) (hN : N < 2 ^ 31) (hj : j < N) (hp : pc + 1 = q) (kk : zA g Z k n q lv st (zup h a (zI g N (va_up f j x)))) : zA g Z k n pc lv (.int x :: .int (nI j) :: .ref a :: st) h := by
  intro p e s m args below meth c ls H locs cells slots C E hL hR hS hk hn
  subst hp
  obtain ⟨hA, hat⟩ := hR.1 a _ hcell
  have hK := C.2.2.2.2.2.2.2.2.1
  refine W.iast C.1 C.2.1 (show H[a]? = some (vp_cell (zgI g) (N, .inl f)) from hat) ((hK.2 0 _ rfl).1 N (fun j => .int (f j))) (fun q => by cases q) (by show ¬ (nI j < 0 ∨ (arrV _ _ _).slots.size ≤ _); rw [arrV_size]; exact z_in hj hN) rfl rfl hd fun H1 e1 z1 o1 => ?_
  rw [nI_clamp (by omega)] at e1 ⊢
  refine kk p e s m args below meth c ls H1 _ cells slots C E hL (zRp_up hR hA ?_ z1 o1) (hS.put z1 o1 hA) hk hn
  show H1[a]? = some (vp_cell _ _)
  rw [e1, vp_cell_i, vp_cell_i, arrV_store]
  congr 2
  funext z
  by_cases hz : z = j
  · subst hz
    simp [updV, va_up]
  · simp [updV, va_up, hz]
theorem z_zast {g : zGl} {Z : zZt} {k n pc q : Nat} {lv : List (Option Value)} {st : List Value} {h : zHp} {a N j : Nat} {x : Int32} {f : Nat → Int32} (hd : decode Z.1.2.1 pc = .ok (.bastore, 1)) (hcell : h.1 a = some (zB g N f)) (hN : N < 2 ^ 31) (hj : j < N) (hx : x = 0 ∨ x = 1) (hp : pc + 1 = q) (kk : zA g Z k n q lv st (zup h a (zB g N (va_up f j x)))) : zA g Z k n pc lv (.int x :: .int (nI j) :: .ref a :: st) h := by
  intro p e s m args below meth c ls H locs cells slots C E hL hR hS hk hn
  subst hp
  obtain ⟨hA, hat⟩ := hR.1 a _ hcell
  have hK := C.2.2.2.2.2.2.2.2.1
  refine W.zast C.1 C.2.1 (show H[a]? = some (vp_cell (zgZ g) (N, .inl f)) from hat) ((hK.2 1 _ rfl).1 N (fun j => .int (f j))) (fun q => by cases q) (by show ¬ (nI j < 0 ∨ (arrV _ _ _).slots.size ≤ _); rw [arrV_size]; exact z_in hj hN) rfl rfl hd fun H1 e1 z1 o1 => ?_
  rw [nI_clamp (by omega)] at e1 ⊢
  refine kk p e s m args below meth c ls H1 _ cells slots C E hL (zRp_up hR hA ?_ z1 o1) (hS.put z1 o1 hA) hk hn
  show H1[a]? = some (vp_cell _ _)
  rw [e1, vp_cell_i, vp_cell_i, arrV_store]
  congr 2
  funext z
  have hnx : narrow .boolean (.int x) = .int x := by rcases hx with rfl | rfl <;> rfl
  by_cases hz : z = j
  · subst hz
    simp [updV, va_up]
    try first | rcases hx with rfl | rfl <;> rfl | rcases hx with rfl | rfl <;> decide
  · simp [updV, va_up, hz]
theorem z_last {g : zGl} {Z : zZt} {k n pc q : Nat} {lv : List (Option Value)} {st : List Value} {h : zHp} {a N j : Nat} {x : Int64} {f : Nat → Int64} (hd : decode Z.1.2.1 pc = .ok (.lastore, 1)) (hcell : h.1 a = some (zJ g N f)) (hN : N < 2 ^ 31) (hj : j < N) (hp : pc + 1 = q) (kk : zA g Z k n q lv st (zup h a (zJ g N (va_up f j x)))) : zA g Z k n pc lv (.long x :: .int (nI j) :: .ref a :: st) h := by
  intro p e s m args below meth c ls H locs cells slots C E hL hR hS hk hn
  subst hp
  obtain ⟨hA, hat⟩ := hR.1 a _ hcell
  have hK := C.2.2.2.2.2.2.2.2.1
  refine W.last C.1 C.2.1 (show H[a]? = some (vp_cell (zgJ g) (N, .inr (.inl f))) from hat) ((hK.2 2 _ rfl).1 N (fun j => .long (f j))) (fun q => by cases q) (by show ¬ (nI j < 0 ∨ (arrV _ _ _).slots.size ≤ _); rw [arrV_size]; exact z_in hj hN) rfl rfl hd fun H1 e1 z1 o1 => ?_
  rw [nI_clamp (by omega)] at e1 ⊢
  refine kk p e s m args below meth c ls H1 _ cells slots C E hL (zRp_up hR hA ?_ z1 o1) (hS.put z1 o1 hA) hk hn
  show H1[a]? = some (vp_cell _ _)
  rw [e1, vp_cell_l, vp_cell_l, arrV_store]
  congr 2
  funext z
  by_cases hz : z = j
  · subst hz
    simp [updV, va_up]
  · simp [updV, va_up, hz]
theorem z_aast {g : zGl} {Z : zZt} {k n pc q : Nat} {lv : List (Option Value)} {st : List Value} {h : zHp} {a N j x : Nat} {f : Nat → Option Nat} {vs : List Value} (hd : decode Z.1.2.1 pc = .ok (.aastore, 1)) (hcell : h.1 a = some (zW g N f)) (hN : N < 2 ^ 31) (hj : j < N) (hx : h.1 x = some (.inr (6, vs))) (hp : pc + 1 = q) (kk : zA g Z k n q lv st (zup h a (zW g N (va_up f j (some x))))) : zA g Z k n pc lv (.ref x :: .int (nI j) :: .ref a :: st) h := by
  intro p e s m args below meth c ls H locs cells slots C E hL hR hS hk hn
  subst hp
  obtain ⟨hA, hat⟩ := hR.1 a _ hcell
  have hK := C.2.2.2.2.2.2.2.2.1
  obtain ⟨-, r', hr', cellV, g1, g2, g3, -⟩ := hR.1 x _ hx
  have hcls := (hK.1 6 (RX6, TX6, 15) rfl).2
  obtain ⟨kA, comp, k1, k2, k3, -⟩ := (hK.2 3 (zgW g, .object "ClaimedTasks$World") rfl).2
  have hcomp : comp = (zgD g).1 6 := Option.some.inj (k3.symm.trans hcls.1)
  subst hcomp
  obtain ⟨kC, hkC, -⟩ := hcls.2
  have hlt : (nI j).toNatClampNeg < N := by rw [nI_clamp (by omega)]; exact hj
  refine W.aast C.1 C.2.1 (show H[a]? = some (vp_cell (zgW g) (N, .inr (.inr (.inr (.inr f))))) from hat) (fun q h => by cases h) (fun h => by cases h) k1 k2 rfl hkC ⟨fun z => z_in hj hN (Or.inl z), by show _ < (arrV _ _ _).slots.size; rw [arrV_size]; exact hlt⟩ g1 (fun q h => by rw [g3] at h; cases h) (by rw [g2]; exact hkC) (by rw [g2]; exact va_assign hcls) rfl rfl hd fun H1 e1 z1 o1 => ?_
  rw [nI_clamp (by omega)] at e1 ⊢
  refine kk p e s m args below meth c ls H1 _ cells slots C E hL (zRp_up hR hA ?_ z1 o1) (hS.put z1 o1 hA) hk hn
  show H1[a]? = some (vp_cell _ _)
  rw [e1, vp_cell_q, vp_cell_q, arrV_store]
  congr 2
  funext z
  by_cases hz : z = j
  · subst hz
    simp [updV, va_up, va_rf]
  · simp [updV, va_up, hz]
theorem z_fresh {g : zGl} {s : State} {H : Heap} {locs : List Loc} (hI : zIv g s) (hS : va_S (zFr g) s.heap H locs) : zFr g H.size := Nat.le_trans hI.2.2.2.2.2.2.1 hS.1
theorem zS_nw {g : zGl} {H0 H H1 : Heap} {locs : List Loc} (hS : va_S (zFr g) H0 H locs) (z1 : H1.size = H.size + 1) (o1 : ∀ q : Nat, q < H.size → H1[q]? = H[q]?) : va_S (zFr g) H0 H1 locs :=
  ⟨Nat.le_trans hS.1 (by omega), fun x h1 h2 => (o1 x (Nat.lt_of_lt_of_le h1 hS.1)).trans (hS.2.1 x h1 h2), hS.2.2⟩
theorem z_new {g : zGl} {Z : zZt} {k n pc q : Nat} {lv : List (Option Value)} {st : List Value} {h : zHp} {idx ci N sz : Nat} {C0 : String} {T : u_T} {ty0 : Nat → FieldType} {fs : List Value} (hd : decode Z.1.2.1 pc = .ok (.new idx, 3)) (hcl : zCl ci C0 T N ty0) (hw1 : Cond.classLink Z.1.1.cls idx C0 ∈ zTb) (hw2 : Cond.instantiable C0 N ∈ zTb) (hw3 : Cond.initialized C0 ∈ zTb) (hsz : h.2 = some sz) (hfs : ∀ j, j < N → defaultValue (ty0 j) = vp_V fs j) (h1 : 1 ≤ k) (h2 : N ≤ n) (hp : pc + 3 = q) (kk : zA g Z (k - 1) (n - N) q lv (.ref sz :: st) (znw h sz (.inr (ci, fs)))) : zA g Z k n pc lv st h := by
  intro p e s m args below meth c ls H locs cells slots C E hL hR hS hk hn
  subst hp
  obtain ⟨hc, hin, hty, -⟩ := hcl
  have hts := C.2.2.2.2.2.1
  have hI := C.2.2.2.2.2.2.2.2
  have hKn := hI.1.1 ci _ hc
  have hs := hR.2 sz hsz
  subst hs
  refine W.newcK C.1 C.2.1 C.2.2.2.2.1 (hts _ hw1) (hts _ hw2) (hts _ hw3) rfl hd (by omega) (by omega) hKn.2.1 rfl fun H1 kC hkC e1 z1 o1 => ?_
  exact kk p e s m args below meth c ls H1 locs (cells + 1) (slots + N) C E hL (zRp_nw hR (z_fresh hI hS) ⟨_, hc, (u_born ty0 hts hin hKn hkC e1 hty).to hfs⟩ z1 o1) (zS_nw hS z1 o1) (by omega) (by omega)
theorem z_newI {g : zGl} {Z : zZt} {k n pc q : Nat} {lv : List (Option Value)} {st : List Value} {h : zHp} {sz N : Nat} (hd : decode Z.1.2.1 pc = .ok (.newarray .int, 2)) (hw : Cond.arrayClass .int ∈ zTb) (hsz : h.2 = some sz) (hN : N < 2 ^ 27) (h1 : 1 ≤ k) (h2 : N ≤ n) (hp : pc + 2 = q) (kk : zA g Z (k - 1) (n - N) q lv (.ref sz :: st) (znw h sz (zI g N (fun _ => 0)))) : zA g Z k n pc lv (.int (nI N) :: st) h := by
  intro p e s m args below meth c ls H locs cells slots C E hL hR hS hk hn
  subst hp
  have hI := C.2.2.2.2.2.2.2.2
  have hs := hR.2 sz hsz
  subst hs
  refine va_newaK C.1 C.2.1 (atype := .int) (C.2.2.2.2.2.1 _ hw) rfl hd rfl (nI_pos (by omega)) (nI_clamp (by omega)) (by show N * 4 ≤ _; omega) (by omega) (by omega) rfl fun H1 cA e1 z1 o1 hAr hNm => ?_
  have hcA : cA = zgI g := Option.some.inj (hNm.symm.trans (hI.1.2 0 (zgI g, .int) rfl).2)
  subst hcA
  refine kk p e s m args below meth c ls H1 locs (cells + 1) (slots + N) C E hL (zRp_nw hR (z_fresh hI hS) ?_ z1 o1) (zS_nw hS z1 o1) (by omega) (by omega)
  show H1[H.size]? = some (vp_cell _ _)
  rw [e1, vp_cell_i]
  rfl
theorem z_newB {g : zGl} {Z : zZt} {k n pc q : Nat} {lv : List (Option Value)} {st : List Value} {h : zHp} {sz N : Nat} (hd : decode Z.1.2.1 pc = .ok (.newarray .boolean, 2)) (hw : Cond.arrayClass .boolean ∈ zTb) (hsz : h.2 = some sz) (hN : N < 2 ^ 27) (h1 : 1 ≤ k) (h2 : N ≤ n) (hp : pc + 2 = q) (kk : zA g Z (k - 1) (n - N) q lv (.ref sz :: st) (znw h sz (zB g N (fun _ => 0)))) : zA g Z k n pc lv (.int (nI N) :: st) h := by
  intro p e s m args below meth c ls H locs cells slots C E hL hR hS hk hn
  subst hp
  have hI := C.2.2.2.2.2.2.2.2
  have hs := hR.2 sz hsz
  subst hs
  refine va_newaK C.1 C.2.1 (atype := .boolean) (C.2.2.2.2.2.1 _ hw) rfl hd rfl (nI_pos (by omega)) (nI_clamp (by omega)) (by show N * 1 ≤ _; omega) (by omega) (by omega) rfl fun H1 cA e1 z1 o1 hAr hNm => ?_
  have hcA : cA = zgZ g := Option.some.inj (hNm.symm.trans (hI.1.2 1 (zgZ g, .boolean) rfl).2)
  subst hcA
  refine kk p e s m args below meth c ls H1 locs (cells + 1) (slots + N) C E hL (zRp_nw hR (z_fresh hI hS) ?_ z1 o1) (zS_nw hS z1 o1) (by omega) (by omega)
  show H1[H.size]? = some (vp_cell _ _)
  rw [e1, vp_cell_i]
  rfl
theorem z_newJ {g : zGl} {Z : zZt} {k n pc q : Nat} {lv : List (Option Value)} {st : List Value} {h : zHp} {sz N : Nat} (hd : decode Z.1.2.1 pc = .ok (.newarray .long, 2)) (hw : Cond.arrayClass .long ∈ zTb) (hsz : h.2 = some sz) (hN : N < 2 ^ 25) (h1 : 1 ≤ k) (h2 : N ≤ n) (hp : pc + 2 = q) (kk : zA g Z (k - 1) (n - N) q lv (.ref sz :: st) (znw h sz (zJ g N (fun _ => 0)))) : zA g Z k n pc lv (.int (nI N) :: st) h := by
  intro p e s m args below meth c ls H locs cells slots C E hL hR hS hk hn
  subst hp
  have hI := C.2.2.2.2.2.2.2.2
  have hs := hR.2 sz hsz
  subst hs
  refine va_newaK C.1 C.2.1 (atype := .long) (C.2.2.2.2.2.1 _ hw) rfl hd rfl (nI_pos (by omega)) (nI_clamp (by omega)) (by show N * 8 ≤ _; omega) (by omega) (by omega) rfl fun H1 cA e1 z1 o1 hAr hNm => ?_
  have hcA : cA = zgJ g := Option.some.inj (hNm.symm.trans (hI.1.2 2 (zgJ g, .long) rfl).2)
  subst hcA
  refine kk p e s m args below meth c ls H1 locs (cells + 1) (slots + N) C E hL (zRp_nw hR (z_fresh hI hS) ?_ z1 o1) (zS_nw hS z1 o1) (by omega) (by omega)
  show H1[H.size]? = some (vp_cell _ _)
  rw [e1, vp_cell_l]
  rfl
theorem z_newW {g : zGl} {Z : zZt} {k n pc q : Nat} {lv : List (Option Value)} {st : List Value} {h : zHp} {idx sz N : Nat} (hd : decode Z.1.2.1 pc = .ok (.anewarray idx, 3)) (hw : Cond.classLink Z.1.1.cls idx "ClaimedTasks$World" ∈ zTb) (hsz : h.2 = some sz) (hN : N < 2 ^ 27) (h1 : 1 ≤ k) (h2 : N ≤ n) (hp : pc + 3 = q) (kk : zA g Z (k - 1) (n - N) q lv (.ref sz :: st) (znw h sz (zW g N (fun _ => none)))) : zA g Z k n pc lv (.int (nI N) :: st) h := by
  intro p e s m args below meth c ls H locs cells slots C E hL hR hS hk hn
  subst hp
  have hI := C.2.2.2.2.2.2.2.2
  have hs := hR.2 sz hsz
  subst hs
  refine W.anew C.1 C.2.1 C.2.2.2.2.1 (C.2.2.2.2.2.1 _ hw) (va_AO.use hI.2.2.1) rfl hd rfl (nI_pos (by omega)) (by rw [nI_clamp (by omega)]; omega) (by omega) (by rw [nI_clamp (by omega)]; omega) fun cA kA comp f1 f2 f3 f4 => ?_
  generalize hH1 : H.push ({ cls := cA, slots := Array.replicate (nI N).toNatClampNeg .null, vm := .none } : Cell) = H1
  have z1 : H1.size = H.size + 1 := by rw [← hH1, Array.size_push]
  have e1 : H1[H.size]? = some (arrV cA (nI N).toNatClampNeg (fun _ => .null)) := by rw [← hH1, Array.getElem?_push_size, ← arrV_new]
  have o1 : ∀ q : Nat, q < H.size → H1[q]? = H[q]? := fun q hq => by rw [← hH1, Array.getElem?_push, if_neg (Nat.ne_of_lt hq)]
  rw [nI_clamp (by omega)] at e1 ⊢
  obtain ⟨kA', comp', a1, a2, a3, a4⟩ := (hI.1.2 3 (zgW g, .object "ClaimedTasks$World") rfl).2
  have hcA : cA = zgW g := by first | exact Option.some.inj (f4.symm.trans a4) | exact Option.some.inj (f1.symm.trans a4)
  subst hcA
  refine kk p e s m args below meth c ls H1 locs (cells + 1) (slots + N) C E hL (zRp_nw hR (z_fresh hI hS) ?_ z1 o1) (zS_nw hS z1 o1) (by omega) (by omega)
  show H1[H.size]? = some (vp_cell _ _)
  rw [e1, vp_cell_q]
  rfl

def zLk (own : String) (idx : Nat) (M : zMt) (n : Nat) : Prop := (Cond.methodLink own idx M.1 ∈ zTb ∨ ∃ host : String, Cond.methodLinkNest own idx M.1 host ∈ zNs) ∧ Cond.code M.1 M.2.1 M.2.2.1 M.2.2.2.1 ∈ zTb ∧ Cond.initialized M.1.cls ∈ zTb ∧ (M.1.cls ≠ "java/lang/invoke/MethodHandle" ∧ M.1.cls ≠ "java/lang/invoke/VarHandle" ∧ (parseMethodDescriptor M.1.desc).map (fun d => d.parameters.length) = some n)
def zFit (R : Room) (M : zMt) : Bool := Nat.ble (M.2.2.2.2.1 + 1) R.frames && Nat.ble (8 + (M.2.2.1 + 11) + M.2.2.2.2.2) R.locals

