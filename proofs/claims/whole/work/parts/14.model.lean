/-! ===== calls that answer nothing; loops; the reference's cells ===== -/
/-- no answer; the heap is h' -/
def zU (h' : zHp) : Option Value → zHp → Prop := fun v h'' => v = none ∧ h'' = h'
/-- the answer v; the heap is h' -/
def zVU (h' : zHp) (v : Value) : Option Value → zHp → Prop := fun v' h'' => v' = some v ∧ h'' = h'
theorem z_u0 {g : zGl} {Z : zZt} {k n pc q : Nat} {lv : List (Option Value)} {h : zHp} {idx : Nat} {M : zMt}  {rest : List Value} {h' : zHp} (hd : decode Z.1.2.1 pc = .ok (.invokestatic idx, 3)) (hl : zLk Z.1.1.cls idx M 0) (hs : Cond.static M.1 ∈ zTb) (hf : zFit Z.2.2.1 M = true) (hw : (rest.map fun v => v.category).sum ≤ 8) (hc : zC g M [] h (zU h') 0 0) (hp : pc + 3 = q) (kk : zA g Z k n q lv rest h') : zA g Z k n pc lv (rest) h := z_cS hd hl hs hf rfl hw hc (Nat.zero_le _) (Nat.zero_le _) hp (by rintro _ _ ⟨rfl, rfl⟩; exact kk)
theorem z_t0 {g : zGl} {Z : zZt} {k n pc q : Nat} {lv : List (Option Value)} {h : zHp} {idx : Nat} {M : zMt}  {rest : List Value} {h' : zHp} {v : Value} (hd : decode Z.1.2.1 pc = .ok (.invokestatic idx, 3)) (hl : zLk Z.1.1.cls idx M 0) (hs : Cond.static M.1 ∈ zTb) (hf : zFit Z.2.2.1 M = true) (hw : (rest.map fun v => v.category).sum ≤ 8) (hc : zC g M [] h (zVU h' v) 0 0) (hp : pc + 3 = q) (kk : zA g Z k n q lv (v :: rest) h') : zA g Z k n pc lv (rest) h := z_cS hd hl hs hf rfl hw hc (Nat.zero_le _) (Nat.zero_le _) hp (by rintro _ _ ⟨rfl, rfl⟩; exact kk)
theorem z_u1 {g : zGl} {Z : zZt} {k n pc q : Nat} {lv : List (Option Value)} {h : zHp} {idx : Nat} {M : zMt} {x1 : Value} {rest : List Value} {h' : zHp} (hd : decode Z.1.2.1 pc = .ok (.invokestatic idx, 3)) (hl : zLk Z.1.1.cls idx M 1) (hs : Cond.static M.1 ∈ zTb) (hf : zFit Z.2.2.1 M = true) (hw : (rest.map fun v => v.category).sum ≤ 8) (hc : zC g M [x1] h (zU h') 0 0) (hp : pc + 3 = q) (kk : zA g Z k n q lv rest h') : zA g Z k n pc lv (x1 :: rest) h := z_cS hd hl hs hf rfl hw hc (Nat.zero_le _) (Nat.zero_le _) hp (by rintro _ _ ⟨rfl, rfl⟩; exact kk)
theorem z_t1 {g : zGl} {Z : zZt} {k n pc q : Nat} {lv : List (Option Value)} {h : zHp} {idx : Nat} {M : zMt} {x1 : Value} {rest : List Value} {h' : zHp} {v : Value} (hd : decode Z.1.2.1 pc = .ok (.invokestatic idx, 3)) (hl : zLk Z.1.1.cls idx M 1) (hs : Cond.static M.1 ∈ zTb) (hf : zFit Z.2.2.1 M = true) (hw : (rest.map fun v => v.category).sum ≤ 8) (hc : zC g M [x1] h (zVU h' v) 0 0) (hp : pc + 3 = q) (kk : zA g Z k n q lv (v :: rest) h') : zA g Z k n pc lv (x1 :: rest) h := z_cS hd hl hs hf rfl hw hc (Nat.zero_le _) (Nat.zero_le _) hp (by rintro _ _ ⟨rfl, rfl⟩; exact kk)
theorem z_u2 {g : zGl} {Z : zZt} {k n pc q : Nat} {lv : List (Option Value)} {h : zHp} {idx : Nat} {M : zMt} {x1 x2 : Value} {rest : List Value} {h' : zHp} (hd : decode Z.1.2.1 pc = .ok (.invokestatic idx, 3)) (hl : zLk Z.1.1.cls idx M 2) (hs : Cond.static M.1 ∈ zTb) (hf : zFit Z.2.2.1 M = true) (hw : (rest.map fun v => v.category).sum ≤ 8) (hc : zC g M [x1, x2] h (zU h') 0 0) (hp : pc + 3 = q) (kk : zA g Z k n q lv rest h') : zA g Z k n pc lv (x2 :: x1 :: rest) h := z_cS hd hl hs hf rfl hw hc (Nat.zero_le _) (Nat.zero_le _) hp (by rintro _ _ ⟨rfl, rfl⟩; exact kk)
theorem z_t2 {g : zGl} {Z : zZt} {k n pc q : Nat} {lv : List (Option Value)} {h : zHp} {idx : Nat} {M : zMt} {x1 x2 : Value} {rest : List Value} {h' : zHp} {v : Value} (hd : decode Z.1.2.1 pc = .ok (.invokestatic idx, 3)) (hl : zLk Z.1.1.cls idx M 2) (hs : Cond.static M.1 ∈ zTb) (hf : zFit Z.2.2.1 M = true) (hw : (rest.map fun v => v.category).sum ≤ 8) (hc : zC g M [x1, x2] h (zVU h' v) 0 0) (hp : pc + 3 = q) (kk : zA g Z k n q lv (v :: rest) h') : zA g Z k n pc lv (x2 :: x1 :: rest) h := z_cS hd hl hs hf rfl hw hc (Nat.zero_le _) (Nat.zero_le _) hp (by rintro _ _ ⟨rfl, rfl⟩; exact kk)
theorem z_u3 {g : zGl} {Z : zZt} {k n pc q : Nat} {lv : List (Option Value)} {h : zHp} {idx : Nat} {M : zMt} {x1 x2 x3 : Value} {rest : List Value} {h' : zHp} (hd : decode Z.1.2.1 pc = .ok (.invokestatic idx, 3)) (hl : zLk Z.1.1.cls idx M 3) (hs : Cond.static M.1 ∈ zTb) (hf : zFit Z.2.2.1 M = true) (hw : (rest.map fun v => v.category).sum ≤ 8) (hc : zC g M [x1, x2, x3] h (zU h') 0 0) (hp : pc + 3 = q) (kk : zA g Z k n q lv rest h') : zA g Z k n pc lv (x3 :: x2 :: x1 :: rest) h := z_cS hd hl hs hf rfl hw hc (Nat.zero_le _) (Nat.zero_le _) hp (by rintro _ _ ⟨rfl, rfl⟩; exact kk)
theorem z_t3 {g : zGl} {Z : zZt} {k n pc q : Nat} {lv : List (Option Value)} {h : zHp} {idx : Nat} {M : zMt} {x1 x2 x3 : Value} {rest : List Value} {h' : zHp} {v : Value} (hd : decode Z.1.2.1 pc = .ok (.invokestatic idx, 3)) (hl : zLk Z.1.1.cls idx M 3) (hs : Cond.static M.1 ∈ zTb) (hf : zFit Z.2.2.1 M = true) (hw : (rest.map fun v => v.category).sum ≤ 8) (hc : zC g M [x1, x2, x3] h (zVU h' v) 0 0) (hp : pc + 3 = q) (kk : zA g Z k n q lv (v :: rest) h') : zA g Z k n pc lv (x3 :: x2 :: x1 :: rest) h := z_cS hd hl hs hf rfl hw hc (Nat.zero_le _) (Nat.zero_le _) hp (by rintro _ _ ⟨rfl, rfl⟩; exact kk)
theorem z_u4 {g : zGl} {Z : zZt} {k n pc q : Nat} {lv : List (Option Value)} {h : zHp} {idx : Nat} {M : zMt} {x1 x2 x3 x4 : Value} {rest : List Value} {h' : zHp} (hd : decode Z.1.2.1 pc = .ok (.invokestatic idx, 3)) (hl : zLk Z.1.1.cls idx M 4) (hs : Cond.static M.1 ∈ zTb) (hf : zFit Z.2.2.1 M = true) (hw : (rest.map fun v => v.category).sum ≤ 8) (hc : zC g M [x1, x2, x3, x4] h (zU h') 0 0) (hp : pc + 3 = q) (kk : zA g Z k n q lv rest h') : zA g Z k n pc lv (x4 :: x3 :: x2 :: x1 :: rest) h := z_cS hd hl hs hf rfl hw hc (Nat.zero_le _) (Nat.zero_le _) hp (by rintro _ _ ⟨rfl, rfl⟩; exact kk)
theorem z_t4 {g : zGl} {Z : zZt} {k n pc q : Nat} {lv : List (Option Value)} {h : zHp} {idx : Nat} {M : zMt} {x1 x2 x3 x4 : Value} {rest : List Value} {h' : zHp} {v : Value} (hd : decode Z.1.2.1 pc = .ok (.invokestatic idx, 3)) (hl : zLk Z.1.1.cls idx M 4) (hs : Cond.static M.1 ∈ zTb) (hf : zFit Z.2.2.1 M = true) (hw : (rest.map fun v => v.category).sum ≤ 8) (hc : zC g M [x1, x2, x3, x4] h (zVU h' v) 0 0) (hp : pc + 3 = q) (kk : zA g Z k n q lv (v :: rest) h') : zA g Z k n pc lv (x4 :: x3 :: x2 :: x1 :: rest) h := z_cS hd hl hs hf rfl hw hc (Nat.zero_le _) (Nat.zero_le _) hp (by rintro _ _ ⟨rfl, rfl⟩; exact kk)
theorem z_u5 {g : zGl} {Z : zZt} {k n pc q : Nat} {lv : List (Option Value)} {h : zHp} {idx : Nat} {M : zMt} {x1 x2 x3 x4 x5 : Value} {rest : List Value} {h' : zHp} (hd : decode Z.1.2.1 pc = .ok (.invokestatic idx, 3)) (hl : zLk Z.1.1.cls idx M 5) (hs : Cond.static M.1 ∈ zTb) (hf : zFit Z.2.2.1 M = true) (hw : (rest.map fun v => v.category).sum ≤ 8) (hc : zC g M [x1, x2, x3, x4, x5] h (zU h') 0 0) (hp : pc + 3 = q) (kk : zA g Z k n q lv rest h') : zA g Z k n pc lv (x5 :: x4 :: x3 :: x2 :: x1 :: rest) h := z_cS hd hl hs hf rfl hw hc (Nat.zero_le _) (Nat.zero_le _) hp (by rintro _ _ ⟨rfl, rfl⟩; exact kk)
theorem z_t5 {g : zGl} {Z : zZt} {k n pc q : Nat} {lv : List (Option Value)} {h : zHp} {idx : Nat} {M : zMt} {x1 x2 x3 x4 x5 : Value} {rest : List Value} {h' : zHp} {v : Value} (hd : decode Z.1.2.1 pc = .ok (.invokestatic idx, 3)) (hl : zLk Z.1.1.cls idx M 5) (hs : Cond.static M.1 ∈ zTb) (hf : zFit Z.2.2.1 M = true) (hw : (rest.map fun v => v.category).sum ≤ 8) (hc : zC g M [x1, x2, x3, x4, x5] h (zVU h' v) 0 0) (hp : pc + 3 = q) (kk : zA g Z k n q lv (v :: rest) h') : zA g Z k n pc lv (x5 :: x4 :: x3 :: x2 :: x1 :: rest) h := z_cS hd hl hs hf rfl hw hc (Nat.zero_le _) (Nat.zero_le _) hp (by rintro _ _ ⟨rfl, rfl⟩; exact kk)
theorem z_u6 {g : zGl} {Z : zZt} {k n pc q : Nat} {lv : List (Option Value)} {h : zHp} {idx : Nat} {M : zMt} {x1 x2 x3 x4 x5 x6 : Value} {rest : List Value} {h' : zHp} (hd : decode Z.1.2.1 pc = .ok (.invokestatic idx, 3)) (hl : zLk Z.1.1.cls idx M 6) (hs : Cond.static M.1 ∈ zTb) (hf : zFit Z.2.2.1 M = true) (hw : (rest.map fun v => v.category).sum ≤ 8) (hc : zC g M [x1, x2, x3, x4, x5, x6] h (zU h') 0 0) (hp : pc + 3 = q) (kk : zA g Z k n q lv rest h') : zA g Z k n pc lv (x6 :: x5 :: x4 :: x3 :: x2 :: x1 :: rest) h := z_cS hd hl hs hf rfl hw hc (Nat.zero_le _) (Nat.zero_le _) hp (by rintro _ _ ⟨rfl, rfl⟩; exact kk)
theorem z_t6 {g : zGl} {Z : zZt} {k n pc q : Nat} {lv : List (Option Value)} {h : zHp} {idx : Nat} {M : zMt} {x1 x2 x3 x4 x5 x6 : Value} {rest : List Value} {h' : zHp} {v : Value} (hd : decode Z.1.2.1 pc = .ok (.invokestatic idx, 3)) (hl : zLk Z.1.1.cls idx M 6) (hs : Cond.static M.1 ∈ zTb) (hf : zFit Z.2.2.1 M = true) (hw : (rest.map fun v => v.category).sum ≤ 8) (hc : zC g M [x1, x2, x3, x4, x5, x6] h (zVU h' v) 0 0) (hp : pc + 3 = q) (kk : zA g Z k n q lv (v :: rest) h') : zA g Z k n pc lv (x6 :: x5 :: x4 :: x3 :: x2 :: x1 :: rest) h := z_cS hd hl hs hf rfl hw hc (Nat.zero_le _) (Nat.zero_le _) hp (by rintro _ _ ⟨rfl, rfl⟩; exact kk)
theorem z_u7 {g : zGl} {Z : zZt} {k n pc q : Nat} {lv : List (Option Value)} {h : zHp} {idx : Nat} {M : zMt} {x1 x2 x3 x4 x5 x6 x7 : Value} {rest : List Value} {h' : zHp} (hd : decode Z.1.2.1 pc = .ok (.invokestatic idx, 3)) (hl : zLk Z.1.1.cls idx M 7) (hs : Cond.static M.1 ∈ zTb) (hf : zFit Z.2.2.1 M = true) (hw : (rest.map fun v => v.category).sum ≤ 8) (hc : zC g M [x1, x2, x3, x4, x5, x6, x7] h (zU h') 0 0) (hp : pc + 3 = q) (kk : zA g Z k n q lv rest h') : zA g Z k n pc lv (x7 :: x6 :: x5 :: x4 :: x3 :: x2 :: x1 :: rest) h := z_cS hd hl hs hf rfl hw hc (Nat.zero_le _) (Nat.zero_le _) hp (by rintro _ _ ⟨rfl, rfl⟩; exact kk)
theorem z_t7 {g : zGl} {Z : zZt} {k n pc q : Nat} {lv : List (Option Value)} {h : zHp} {idx : Nat} {M : zMt} {x1 x2 x3 x4 x5 x6 x7 : Value} {rest : List Value} {h' : zHp} {v : Value} (hd : decode Z.1.2.1 pc = .ok (.invokestatic idx, 3)) (hl : zLk Z.1.1.cls idx M 7) (hs : Cond.static M.1 ∈ zTb) (hf : zFit Z.2.2.1 M = true) (hw : (rest.map fun v => v.category).sum ≤ 8) (hc : zC g M [x1, x2, x3, x4, x5, x6, x7] h (zVU h' v) 0 0) (hp : pc + 3 = q) (kk : zA g Z k n q lv (v :: rest) h') : zA g Z k n pc lv (x7 :: x6 :: x5 :: x4 :: x3 :: x2 :: x1 :: rest) h := z_cS hd hl hs hf rfl hw hc (Nat.zero_le _) (Nat.zero_le _) hp (by rintro _ _ ⟨rfl, rfl⟩; exact kk)
theorem z_w0 {g : zGl} {Z : zZt} {k n pc q : Nat} {lv : List (Option Value)} {h : zHp} {idx a ci : Nat} {fs : List Value} {T : u_T} {N : Nat} {M : zMt}  {rest : List Value} {h' : zHp} (hd : decode Z.1.2.1 pc = .ok (.invokevirtual idx, 3)) (hl : zLk Z.1.1.cls idx M 0) (hs : Cond.instanceMethod M.1 ∈ zTb ∧ Cond.selects M.1.cls M.1 M.1 ∈ zTb) (hf : zFit Z.2.2.1 M = true) (hcell : h.1 a = some (.inr (ci, fs))) (hci : vwCl[ci]? = some (M.1.cls, T, N)) (hw : (rest.map fun v => v.category).sum ≤ 8) (hc : zC g M [.ref a] h (zU h') 0 0) (hp : pc + 3 = q) (kk : zA g Z k n q lv rest h') : zA g Z k n pc lv (.ref a :: rest) h := z_cV (av := []) hd hl hs hf hcell hci rfl hw hc (Nat.zero_le _) (Nat.zero_le _) hp (by rintro _ _ ⟨rfl, rfl⟩; exact kk)
theorem z_x0 {g : zGl} {Z : zZt} {k n pc q : Nat} {lv : List (Option Value)} {h : zHp} {idx a ci : Nat} {fs : List Value} {T : u_T} {N : Nat} {M : zMt}  {rest : List Value} {h' : zHp} {v : Value} (hd : decode Z.1.2.1 pc = .ok (.invokevirtual idx, 3)) (hl : zLk Z.1.1.cls idx M 0) (hs : Cond.instanceMethod M.1 ∈ zTb ∧ Cond.selects M.1.cls M.1 M.1 ∈ zTb) (hf : zFit Z.2.2.1 M = true) (hcell : h.1 a = some (.inr (ci, fs))) (hci : vwCl[ci]? = some (M.1.cls, T, N)) (hw : (rest.map fun v => v.category).sum ≤ 8) (hc : zC g M [.ref a] h (zVU h' v) 0 0) (hp : pc + 3 = q) (kk : zA g Z k n q lv (v :: rest) h') : zA g Z k n pc lv (.ref a :: rest) h := z_cV (av := []) hd hl hs hf hcell hci rfl hw hc (Nat.zero_le _) (Nat.zero_le _) hp (by rintro _ _ ⟨rfl, rfl⟩; exact kk)
theorem z_w1 {g : zGl} {Z : zZt} {k n pc q : Nat} {lv : List (Option Value)} {h : zHp} {idx a ci : Nat} {fs : List Value} {T : u_T} {N : Nat} {M : zMt} {x1 : Value} {rest : List Value} {h' : zHp} (hd : decode Z.1.2.1 pc = .ok (.invokevirtual idx, 3)) (hl : zLk Z.1.1.cls idx M 1) (hs : Cond.instanceMethod M.1 ∈ zTb ∧ Cond.selects M.1.cls M.1 M.1 ∈ zTb) (hf : zFit Z.2.2.1 M = true) (hcell : h.1 a = some (.inr (ci, fs))) (hci : vwCl[ci]? = some (M.1.cls, T, N)) (hw : (rest.map fun v => v.category).sum ≤ 8) (hc : zC g M [.ref a, x1] h (zU h') 0 0) (hp : pc + 3 = q) (kk : zA g Z k n q lv rest h') : zA g Z k n pc lv (x1 :: .ref a :: rest) h := z_cV (av := [x1]) hd hl hs hf hcell hci rfl hw hc (Nat.zero_le _) (Nat.zero_le _) hp (by rintro _ _ ⟨rfl, rfl⟩; exact kk)
theorem z_x1 {g : zGl} {Z : zZt} {k n pc q : Nat} {lv : List (Option Value)} {h : zHp} {idx a ci : Nat} {fs : List Value} {T : u_T} {N : Nat} {M : zMt} {x1 : Value} {rest : List Value} {h' : zHp} {v : Value} (hd : decode Z.1.2.1 pc = .ok (.invokevirtual idx, 3)) (hl : zLk Z.1.1.cls idx M 1) (hs : Cond.instanceMethod M.1 ∈ zTb ∧ Cond.selects M.1.cls M.1 M.1 ∈ zTb) (hf : zFit Z.2.2.1 M = true) (hcell : h.1 a = some (.inr (ci, fs))) (hci : vwCl[ci]? = some (M.1.cls, T, N)) (hw : (rest.map fun v => v.category).sum ≤ 8) (hc : zC g M [.ref a, x1] h (zVU h' v) 0 0) (hp : pc + 3 = q) (kk : zA g Z k n q lv (v :: rest) h') : zA g Z k n pc lv (x1 :: .ref a :: rest) h := z_cV (av := [x1]) hd hl hs hf hcell hci rfl hw hc (Nat.zero_le _) (Nat.zero_le _) hp (by rintro _ _ ⟨rfl, rfl⟩; exact kk)
theorem z_w2 {g : zGl} {Z : zZt} {k n pc q : Nat} {lv : List (Option Value)} {h : zHp} {idx a ci : Nat} {fs : List Value} {T : u_T} {N : Nat} {M : zMt} {x1 x2 : Value} {rest : List Value} {h' : zHp} (hd : decode Z.1.2.1 pc = .ok (.invokevirtual idx, 3)) (hl : zLk Z.1.1.cls idx M 2) (hs : Cond.instanceMethod M.1 ∈ zTb ∧ Cond.selects M.1.cls M.1 M.1 ∈ zTb) (hf : zFit Z.2.2.1 M = true) (hcell : h.1 a = some (.inr (ci, fs))) (hci : vwCl[ci]? = some (M.1.cls, T, N)) (hw : (rest.map fun v => v.category).sum ≤ 8) (hc : zC g M [.ref a, x1, x2] h (zU h') 0 0) (hp : pc + 3 = q) (kk : zA g Z k n q lv rest h') : zA g Z k n pc lv (x2 :: x1 :: .ref a :: rest) h := z_cV (av := [x1, x2]) hd hl hs hf hcell hci rfl hw hc (Nat.zero_le _) (Nat.zero_le _) hp (by rintro _ _ ⟨rfl, rfl⟩; exact kk)
theorem z_x2 {g : zGl} {Z : zZt} {k n pc q : Nat} {lv : List (Option Value)} {h : zHp} {idx a ci : Nat} {fs : List Value} {T : u_T} {N : Nat} {M : zMt} {x1 x2 : Value} {rest : List Value} {h' : zHp} {v : Value} (hd : decode Z.1.2.1 pc = .ok (.invokevirtual idx, 3)) (hl : zLk Z.1.1.cls idx M 2) (hs : Cond.instanceMethod M.1 ∈ zTb ∧ Cond.selects M.1.cls M.1 M.1 ∈ zTb) (hf : zFit Z.2.2.1 M = true) (hcell : h.1 a = some (.inr (ci, fs))) (hci : vwCl[ci]? = some (M.1.cls, T, N)) (hw : (rest.map fun v => v.category).sum ≤ 8) (hc : zC g M [.ref a, x1, x2] h (zVU h' v) 0 0) (hp : pc + 3 = q) (kk : zA g Z k n q lv (v :: rest) h') : zA g Z k n pc lv (x2 :: x1 :: .ref a :: rest) h := z_cV (av := [x1, x2]) hd hl hs hf hcell hci rfl hw hc (Nat.zero_le _) (Nat.zero_le _) hp (by rintro _ _ ⟨rfl, rfl⟩; exact kk)
theorem z_w3 {g : zGl} {Z : zZt} {k n pc q : Nat} {lv : List (Option Value)} {h : zHp} {idx a ci : Nat} {fs : List Value} {T : u_T} {N : Nat} {M : zMt} {x1 x2 x3 : Value} {rest : List Value} {h' : zHp} (hd : decode Z.1.2.1 pc = .ok (.invokevirtual idx, 3)) (hl : zLk Z.1.1.cls idx M 3) (hs : Cond.instanceMethod M.1 ∈ zTb ∧ Cond.selects M.1.cls M.1 M.1 ∈ zTb) (hf : zFit Z.2.2.1 M = true) (hcell : h.1 a = some (.inr (ci, fs))) (hci : vwCl[ci]? = some (M.1.cls, T, N)) (hw : (rest.map fun v => v.category).sum ≤ 8) (hc : zC g M [.ref a, x1, x2, x3] h (zU h') 0 0) (hp : pc + 3 = q) (kk : zA g Z k n q lv rest h') : zA g Z k n pc lv (x3 :: x2 :: x1 :: .ref a :: rest) h := z_cV (av := [x1, x2, x3]) hd hl hs hf hcell hci rfl hw hc (Nat.zero_le _) (Nat.zero_le _) hp (by rintro _ _ ⟨rfl, rfl⟩; exact kk)
theorem z_x3 {g : zGl} {Z : zZt} {k n pc q : Nat} {lv : List (Option Value)} {h : zHp} {idx a ci : Nat} {fs : List Value} {T : u_T} {N : Nat} {M : zMt} {x1 x2 x3 : Value} {rest : List Value} {h' : zHp} {v : Value} (hd : decode Z.1.2.1 pc = .ok (.invokevirtual idx, 3)) (hl : zLk Z.1.1.cls idx M 3) (hs : Cond.instanceMethod M.1 ∈ zTb ∧ Cond.selects M.1.cls M.1 M.1 ∈ zTb) (hf : zFit Z.2.2.1 M = true) (hcell : h.1 a = some (.inr (ci, fs))) (hci : vwCl[ci]? = some (M.1.cls, T, N)) (hw : (rest.map fun v => v.category).sum ≤ 8) (hc : zC g M [.ref a, x1, x2, x3] h (zVU h' v) 0 0) (hp : pc + 3 = q) (kk : zA g Z k n q lv (v :: rest) h') : zA g Z k n pc lv (x3 :: x2 :: x1 :: .ref a :: rest) h := z_cV (av := [x1, x2, x3]) hd hl hs hf hcell hci rfl hw hc (Nat.zero_le _) (Nat.zero_le _) hp (by rintro _ _ ⟨rfl, rfl⟩; exact kk)
theorem z_w4 {g : zGl} {Z : zZt} {k n pc q : Nat} {lv : List (Option Value)} {h : zHp} {idx a ci : Nat} {fs : List Value} {T : u_T} {N : Nat} {M : zMt} {x1 x2 x3 x4 : Value} {rest : List Value} {h' : zHp} (hd : decode Z.1.2.1 pc = .ok (.invokevirtual idx, 3)) (hl : zLk Z.1.1.cls idx M 4) (hs : Cond.instanceMethod M.1 ∈ zTb ∧ Cond.selects M.1.cls M.1 M.1 ∈ zTb) (hf : zFit Z.2.2.1 M = true) (hcell : h.1 a = some (.inr (ci, fs))) (hci : vwCl[ci]? = some (M.1.cls, T, N)) (hw : (rest.map fun v => v.category).sum ≤ 8) (hc : zC g M [.ref a, x1, x2, x3, x4] h (zU h') 0 0) (hp : pc + 3 = q) (kk : zA g Z k n q lv rest h') : zA g Z k n pc lv (x4 :: x3 :: x2 :: x1 :: .ref a :: rest) h := z_cV (av := [x1, x2, x3, x4]) hd hl hs hf hcell hci rfl hw hc (Nat.zero_le _) (Nat.zero_le _) hp (by rintro _ _ ⟨rfl, rfl⟩; exact kk)
theorem z_x4 {g : zGl} {Z : zZt} {k n pc q : Nat} {lv : List (Option Value)} {h : zHp} {idx a ci : Nat} {fs : List Value} {T : u_T} {N : Nat} {M : zMt} {x1 x2 x3 x4 : Value} {rest : List Value} {h' : zHp} {v : Value} (hd : decode Z.1.2.1 pc = .ok (.invokevirtual idx, 3)) (hl : zLk Z.1.1.cls idx M 4) (hs : Cond.instanceMethod M.1 ∈ zTb ∧ Cond.selects M.1.cls M.1 M.1 ∈ zTb) (hf : zFit Z.2.2.1 M = true) (hcell : h.1 a = some (.inr (ci, fs))) (hci : vwCl[ci]? = some (M.1.cls, T, N)) (hw : (rest.map fun v => v.category).sum ≤ 8) (hc : zC g M [.ref a, x1, x2, x3, x4] h (zVU h' v) 0 0) (hp : pc + 3 = q) (kk : zA g Z k n q lv (v :: rest) h') : zA g Z k n pc lv (x4 :: x3 :: x2 :: x1 :: .ref a :: rest) h := z_cV (av := [x1, x2, x3, x4]) hd hl hs hf hcell hci rfl hw hc (Nat.zero_le _) (Nat.zero_le _) hp (by rintro _ _ ⟨rfl, rfl⟩; exact kk)
theorem z_w5 {g : zGl} {Z : zZt} {k n pc q : Nat} {lv : List (Option Value)} {h : zHp} {idx a ci : Nat} {fs : List Value} {T : u_T} {N : Nat} {M : zMt} {x1 x2 x3 x4 x5 : Value} {rest : List Value} {h' : zHp} (hd : decode Z.1.2.1 pc = .ok (.invokevirtual idx, 3)) (hl : zLk Z.1.1.cls idx M 5) (hs : Cond.instanceMethod M.1 ∈ zTb ∧ Cond.selects M.1.cls M.1 M.1 ∈ zTb) (hf : zFit Z.2.2.1 M = true) (hcell : h.1 a = some (.inr (ci, fs))) (hci : vwCl[ci]? = some (M.1.cls, T, N)) (hw : (rest.map fun v => v.category).sum ≤ 8) (hc : zC g M [.ref a, x1, x2, x3, x4, x5] h (zU h') 0 0) (hp : pc + 3 = q) (kk : zA g Z k n q lv rest h') : zA g Z k n pc lv (x5 :: x4 :: x3 :: x2 :: x1 :: .ref a :: rest) h := z_cV (av := [x1, x2, x3, x4, x5]) hd hl hs hf hcell hci rfl hw hc (Nat.zero_le _) (Nat.zero_le _) hp (by rintro _ _ ⟨rfl, rfl⟩; exact kk)
theorem z_x5 {g : zGl} {Z : zZt} {k n pc q : Nat} {lv : List (Option Value)} {h : zHp} {idx a ci : Nat} {fs : List Value} {T : u_T} {N : Nat} {M : zMt} {x1 x2 x3 x4 x5 : Value} {rest : List Value} {h' : zHp} {v : Value} (hd : decode Z.1.2.1 pc = .ok (.invokevirtual idx, 3)) (hl : zLk Z.1.1.cls idx M 5) (hs : Cond.instanceMethod M.1 ∈ zTb ∧ Cond.selects M.1.cls M.1 M.1 ∈ zTb) (hf : zFit Z.2.2.1 M = true) (hcell : h.1 a = some (.inr (ci, fs))) (hci : vwCl[ci]? = some (M.1.cls, T, N)) (hw : (rest.map fun v => v.category).sum ≤ 8) (hc : zC g M [.ref a, x1, x2, x3, x4, x5] h (zVU h' v) 0 0) (hp : pc + 3 = q) (kk : zA g Z k n q lv (v :: rest) h') : zA g Z k n pc lv (x5 :: x4 :: x3 :: x2 :: x1 :: .ref a :: rest) h := z_cV (av := [x1, x2, x3, x4, x5]) hd hl hs hf hcell hci rfl hw hc (Nat.zero_le _) (Nat.zero_le _) hp (by rintro _ _ ⟨rfl, rfl⟩; exact kk)
theorem nI_nm9 {k : Nat} (hk : k < 2 ^ 31) : ¬ nI k = -9 := by
  intro h
  have h2 := congrArg Int32.toInt h
  rw [nI_toInt hk] at h2
  have h3 : (-9 : Int32).toInt = -9 := by decide
  rw [h3] at h2
  omega
/-- the state of a loop behind i rounds -/
def qIt {α : Type} (F : Nat → α → α) (s : α) : Nat → α
  | 0 => s
  | i + 1 => F i (qIt F s i)
theorem qIt_inv {α : Type} {F : Nat → α → α} {s : α} (P : α → Prop) (h0 : P s) {n : Nat} (hs : ∀ i x, i < n → P x → P (F i x)) : P (qIt F s n) := by
  induction n with
  | zero => exact h0
  | succ n ih => exact hs n _ (Nat.lt_succ_self n) (ih (fun i x hi hx => hs i x (Nat.lt_succ_of_lt hi) hx))
theorem qIt_congr {α : Type} {F G : Nat → α → α} {s : α} {n : Nat} (h : ∀ i x, i < n → F i x = G i x) : qIt F s n = qIt G s n := by
  induction n with
  | zero => rfl
  | succ n ih =>
    show F n _ = G n _
    rw [h n _ (Nat.lt_succ_self n), ih (fun i x hi => h i x (Nat.lt_succ_of_lt hi))]
/-- the reference's cells: itself, and its rows -/
def zMl : Nat → Option Nat
  | 1 => some 120
  | 2 => some 264
  | 3 => some 264
  | 4 => some 264
  | 5 => some 264
  | 6 => some 3696
  | 7 => some 528
  | 9 => some 6
  | 10 => some 6
  | 11 => some 6
  | _ => none
def zMf (m : Nat) (v : Nat → Int32) : List Value := [.int (v 0), .ref (m + 1), .int (v 2), .int (v 3), .ref (m + 2), .ref (m + 3), .ref (m + 4), .ref (m + 5), .ref (m + 6), .int (v 9), .ref (m + 7), .ref (m + 8), .ref (m + 9), .ref (m + 10), .ref (m + 11)]
def zMc (g : zGl) (m : Nat) (u : Nat → Nat → Int32) (c : Nat) : va_E :=
  if c = 0 then .inr (8, zMf m (u 0)) else if c = 8 then zB g 2 (u 8) else match zMl c with
  | some N => zI g N (u c)
  | none => zI g 0 (u c)
def zpM (g : zGl) (h : zHp) (m : Nat) (u : Nat → Nat → Int32) : zHp := (fun q => if m ≤ q ∧ q < m + 12 then some (zMc g m u (q - m)) else h.1 q, h.2)
theorem zpM_c {g : zGl} {h : zHp} {m c : Nat} {u : Nat → Nat → Int32} (hc : c < 12) : (zpM g h m u).1 (m + c) = some (zMc g m u c) := by
  simp [zpM, hc]
theorem zpM_0 {g : zGl} {h : zHp} {m : Nat} {u : Nat → Nat → Int32} : (zpM g h m u).1 m = some (.inr (8, zMf m (u 0))) := zpM_c (c := 0) (by decide)
theorem zpM_8 {g : zGl} {h : zHp} {m : Nat} {u : Nat → Nat → Int32} : (zpM g h m u).1 (m + 8) = some (zB g 2 (u 8)) := zpM_c (c := 8) (by decide)
theorem zMl_lt {c N : Nat} (h : zMl c = some N) : c < 12 ∧ c ≠ 0 ∧ c ≠ 8 ∧ N < 2 ^ 31 := by
  unfold zMl at h
  split at h <;> first | (cases h; decide) | cases h
theorem zpM_a {g : zGl} {h : zHp} {m c N : Nat} {u : Nat → Nat → Int32} (hc : zMl c = some N) : (zpM g h m u).1 (m + c) = some (zI g N (u c)) := by
  obtain ⟨h1, h2, h3, -⟩ := zMl_lt hc
  rw [zpM_c h1]
  simp [zMc, h2, h3, hc]
theorem zpM_o {g : zGl} {h : zHp} {m q : Nat} {u : Nat → Nat → Int32} (hq : q < m ∨ m + 12 ≤ q) : (zpM g h m u).1 q = h.1 q := by
  simp only [zpM]
  rw [if_neg (by omega)]
theorem zpM_s {g : zGl} {h : zHp} {m : Nat} {u : Nat → Nat → Int32} : (zpM g h m u).2 = h.2 := rfl
theorem zpM_up {g : zGl} {h : zHp} {m c : Nat} {u : Nat → Nat → Int32} {f : Nat → Int32} {e : va_E} (hc : c < 12) (he : zMc g m (va_up u c f) c = e) : zup (zpM g h m u) (m + c) e = zpM g h m (va_up u c f) := by
  simp only [zup, zpM]
  congr 1
  funext q
  by_cases hq : q = m + c
  · subst hq
    rw [if_pos rfl, if_pos (by omega), Nat.add_sub_cancel_left, he]
  · rw [if_neg hq]
    by_cases hr : m ≤ q ∧ q < m + 12
    · rw [if_pos hr, if_pos hr]
      have hne : q - m ≠ c := by omega
      have e1 : va_up u c f (q - m) = u (q - m) := by simp [va_up, hne]
      simp only [zMc]
      by_cases h0 : q - m = 0
      · have hc0 : ¬ 0 = c := by omega
        simp [h0, va_up, hc0]
      · simp only [h0, if_false]
        by_cases h8 : q - m = 8
        · have hc8 : ¬ 8 = c := by omega
          simp [h8, va_up, hc8]
        · simp only [h8, if_false, e1]
    · rw [if_neg hr, if_neg hr]
theorem zpM_row {g : zGl} {h : zHp} {m c N : Nat} {u : Nat → Nat → Int32} {f : Nat → Int32} (hc : zMl c = some N) : zup (zpM g h m u) (m + c) (zI g N f) = zpM g h m (va_up u c f) := by
  obtain ⟨h1, h2, h3, -⟩ := zMl_lt hc
  refine zpM_up h1 ?_
  simp [zMc, h2, h3, hc, va_up]
theorem zpM_b {g : zGl} {h : zHp} {m : Nat} {u : Nat → Nat → Int32} {f : Nat → Int32} : zup (zpM g h m u) (m + 8) (zB g 2 f) = zpM g h m (va_up u 8 f) := by
  refine zpM_up (by decide) ?_
  simp [zMc, va_up]
theorem zpM_own {g : zGl} {h : zHp} {m c N : Nat} {u : Nat → Nat → Int32} (hc : zMl c = some N) : zpM g h m u = zup (zpM g h m u) (m + c) (zI g N (u c)) := (zup_self (zpM_a hc)).symm
theorem zpM_put {g : zGl} {h : zHp} {m kf : Nat} {u : Nat → Nat → Int32} {v : Int32} (hk : kf = 0 ∨ kf = 2 ∨ kf = 3 ∨ kf = 9) : zup (zpM g h m u) m (.inr (8, (zMf m (u 0)).set kf (.int v))) = zpM g h m (va_up u 0 (va_up (u 0) kf v)) := by
  refine zpM_up (c := 0) (by decide) ?_
  rcases hk with rfl | rfl | rfl | rfl <;> rfl
theorem z_putM {g : zGl} {Z : zZt} {k n pc q : Nat} {lv : List (Option Value)} {st : List Value} {h : zHp} {idx kf m : Nat} {C0 : String} {u : Nat → Nat → Int32} {v : Int32} (hd : decode Z.1.2.1 pc = .ok (.putfield idx, 3)) (hf : zFld Z.1.1.cls idx 8 kf .int false C0) (hk : kf = 0 ∨ kf = 2 ∨ kf = 3 ∨ kf = 9) (hp : pc + 3 = q) (kk : zA g Z k n q lv st (zpM g h m (va_up u 0 (va_up (u 0) kf v)))) : zA g Z k n pc lv (.int v :: .ref m :: st) (zpM g h m u) :=
  z_put hd hf zpM_0 (by rcases hk with rfl | rfl | rfl | rfl <;> exact Nat.le_of_ble_eq_true rfl) rfl rfl hp (by rw [zpM_put hk]; exact kk)
theorem z_iastM {g : zGl} {Z : zZt} {k n pc q : Nat} {lv : List (Option Value)} {st : List Value} {h : zHp} {m c N j : Nat} {u : Nat → Nat → Int32} {x : Int32} (hd : decode Z.1.2.1 pc = .ok (.iastore, 1)) (hc : zMl c = some N) (hj : j < N) (hp : pc + 1 = q) (kk : zA g Z k n q lv st (zpM g h m (va_up u c (va_up (u c) j x)))) : zA g Z k n pc lv (.int x :: .int (nI j) :: .ref (m + c) :: st) (zpM g h m u) :=
  z_iast hd (zpM_a hc) (zMl_lt hc).2.2.2 hj hp (by rw [zpM_row hc]; exact kk)
theorem zu_eq {α : Type} (f : Nat → α) (k : Nat) (v : α) : va_up f k v k = v := by simp [va_up]
theorem zu_ne {α : Type} {f : Nat → α} {k j : Nat} {v : α} (h : j ≠ k) : va_up f k v j = f j := by simp [va_up, h]
theorem zu_up {α : Type} (f : Nat → α) (k : Nat) (v w : α) : va_up (va_up f k v) k w = va_up f k w := by
  funext j
  by_cases h : j = k <;> simp [va_up, h]
theorem zu_self {α : Type} (f : Nat → α) (k : Nat) : va_up f k (f k) = f := by
  funext j
  by_cases h : j = k <;> simp [va_up, h]
/-- a contract over a row that stands in the reference's cells -/
theorem zM_row {g : zGl} {M : zMt} {av : List Value} {h : zHp} {m c N : Nat} {u : Nat → Nat → Int32} {f' : Nat → Int32} {v : Option Value} (hc : zMl c = some N)
    (hC : zC g M av (zup (zpM g h m u) (m + c) (zI g N (u c))) (fun v' h' => v' = v ∧ h' = zup (zpM g h m u) (m + c) (zI g N f')) 0 0) : zC g M av (zpM g h m u) (fun v' h' => v' = v ∧ h' = zpM g h m (va_up u c f')) 0 0 := by
  rw [← zpM_own hc, zpM_row hc] at hC
  exact hC
