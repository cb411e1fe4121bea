/-! ===== methods that catch ===== -/
/-- the three exceptions are apart -/
def zNc3 (U : State) : Prop :=
  (va_Nc "java/lang/IllegalArgumentException" "java/lang/IllegalStateException" U ∧ va_Nc "java/lang/IllegalArgumentException" "java/lang/IndexOutOfBoundsException" U) ∧
  (va_Nc "java/lang/IllegalStateException" "java/lang/IllegalArgumentException" U ∧ va_Nc "java/lang/IllegalStateException" "java/lang/IndexOutOfBoundsException" U) ∧
  va_Nc "java/lang/IndexOutOfBoundsException" "java/lang/IllegalArgumentException" U ∧ va_Nc "java/lang/IndexOutOfBoundsException" "java/lang/IllegalStateException" U
theorem zNc3_moved {s U : State} (hW : s.WarmedH U.vm) (h : zNc3 s) : zNc3 U := by
  obtain ⟨⟨h1, h2⟩, ⟨h3, h4⟩, h5, h6⟩ := h
  exact ⟨⟨va_Nc.moved hW.alike h1, va_Nc.moved hW.alike h2⟩, ⟨va_Nc.moved hW.alike h3, va_Nc.moved hW.alike h4⟩, va_Nc.moved hW.alike h5, va_Nc.moved hW.alike h6⟩
def zWsW (M : zMt) (hh : List (Nat × Nat × Nat × Nat)) : List Cond := Cond.codeWith M.1 M.2.1 M.2.2.1 M.2.2.2.1 hh :: zTb
/-- a method with an exception table: its contract -/
def zCW (g : zGl) (M : zMt) (hh : List (Nat × Nat × Nat × Nat)) (av : List Value) (h : zHp) (P : Option Value → zHp → Prop) (k n : Nat) : Prop :=
  Met g.1 M.1 (zWsW M hh) (zRm M k n) (va_Pc av (fun U => zPr g h U ∧ zNc3 U)) (zQ g P) k n (zFr g)
def zZw (g : zGl) (M : zMt) (hh : List (Nat × Nat × Nat × Nat)) (P : Option Value → zHp → Prop) (k n : Nat) : zZt :=
  (M, fun _ s c => c.exceptionTable.toList = tableOf hh ∧ zNc3 s, zRm M k n, fun below args s => MQ below (zQ g P) args s k n (zFr g))
theorem zCW_ofA {g : zGl} {M : zMt} {hh : List (Nat × Nat × Nat × Nat)} {av : List Value} {h : zHp} {P : Option Value → zHp → Prop} {k n : Nat} {lv : List (Option Value)} (hy : plainName M.1.cls = true) (hlv : zlv M.2.2.1 (lv_args 0 av) = lv) (hn : (lg_sl av).length ≤ M.2.2.1)
    (kk : zA g (zZw g M hh P k n) k n 0 lv [] h) : zCW g M hh av h P k n := by
  refine va_MetW (cc := M.2.1) (maxL := M.2.2.1) (ret := M.2.2.2.1) (hh := hh) hy rfl ?_
  intro p e s m args below meth c s₁ B hml hv
  obtain ⟨rfl, ⟨hR, hI⟩, hN⟩ := hv
  have hts := atoms_spec (ws := zWsW M hh) B.pre
  have hx : c.exceptionTable.toList = tableOf hh := vx_table (x := M.1) B (hts _ List.mem_cons_self)
  have hl := lv_entry av (n := M.2.2.1) hn
  rw [lg_entry_eq]
  refine kk p e s m _ below meth c _ s.heap [] 0 0 ⟨B.exec, B.bytes, B.returns, hml, findClass_of_methodNamed B.named, fun w hw => hts w (List.mem_cons_of_mem _ hw), B.notSynchronized, (name_of_methodNamed B.named B.method).1, hI⟩ ⟨hx, hN⟩ ?_ hR va_S.rf ?_ ?_
  · rw [← hlv]
    exact zL_of hl
  · show 0 + k ≤ k
    omega
  · show 0 + n ≤ n
    omega
theorem z_retiW {g : zGl} {M : zMt} {hh : List (Nat × Nat × Nat × Nat)} {P : Option Value → zHp → Prop} {K N k n pc : Nat} {lv : List (Option Value)} {h : zHp} {x : Int32} (hd : decode M.2.1 pc = .ok (.ireturn, 1)) (hr : M.2.2.2.1 = some .int) (hP : P (some (.int x)) h) : zA g (zZw g M hh P K N) k n pc lv [.int x] h := by
  intro p e s m args below meth c ls H locs cells slots C E hL hR hS hk hn
  refine W.widen (k := K) (n := N) (Nat.le_trans (Nat.le_add_right _ _) hk) (Nat.le_trans (Nat.le_add_right _ _) hn) ?_
  exact W.iret C.1 C.2.1 (C.2.2.1.trans hr) (fun t ht _ => ⟨⟨some (.int x), h, rfl, by rw [ht]; exact hR, hP⟩, hS.F ht⟩) hS.2.2 hd C.2.2.2.2.2.2.1
/-- a callee throws, and it is caught here -/
theorem z_cVX {g : zGl} {M0 : zMt} {hh : List (Nat × Nat × Nat × Nat)} {P0 : Option Value → zHp → Prop} {K N k n pc : Nat} {lv : List (Option Value)} {st : List Value} {h : zHp} {idx a ci Nn : Nat} {fs : List Value} {T0 : u_T} {M : zMt} {av rest : List Value} {X : String} {P : zHp → Prop} {kc nc : Nat}
    {pre suf : List (Nat × Nat × Nat × Nat)} {x : Nat × Nat × Nat × Nat} (hd : decode M0.2.1 pc = .ok (.invokevirtual idx, 3)) (hl : zLk M0.1.cls idx M av.length) (hlk : Cond.methodLink M0.1.cls idx M.1 ∈ zTb) (hs : Cond.instanceMethod M.1 ∈ zTb ∧ Cond.selects M.1.cls M.1 M.1 ∈ zTb) (hf : zFit (zRm M0 K N) M = true)
    (hcell : h.1 a = some (.inr (ci, fs))) (hci : vwCl[ci]? = some (M.1.cls, T0, Nn)) (hst : st = av.reverse ++ .ref a :: rest) (hw : (rest.map fun v => v.category).sum ≤ 8) (hc : zX g M (.ref a :: av) h X P kc nc) (hkc : kc ≤ k) (hnc : nc ≤ n)
    (hsp : hh = pre ++ x :: suf) (hpass : ∀ z ∈ pre, z.2.2.2 ≠ 0 ∧ ∃ nm : String, Cond.classLink M0.1.cls z.2.2.2 nm ∈ zTb ∧ ∀ U, zNc3 U → va_Nc X nm U) (hx : covers (⟨x.1, x.2.1, x.2.2.1, x.2.2.2⟩ : ExceptionTableEntry) pc = true) (h0 : x.2.2.2 ≠ 0) (hlink : Cond.classLink M0.1.cls x.2.2.2 X ∈ zTb) (hcast : Cond.castable X X ∈ zNs)
    (kk : ∀ (q : Nat) (h' : zHp), P h' → zA g (zZw g M0 hh P0 K N) (k - kc) (n - nc) x.2.2.1 lv [.ref q] h') : zA g (zZw g M0 hh P0 K N) k n pc lv st h := by
  intro p e s m args below meth c ls H locs cells slots C E hL hR hS hk hn
  have hts := C.2.2.2.2.2.1
  have hI := C.2.2.2.2.2.2.2.2
  have hk' : cells + k ≤ K := hk
  have hn' : slots + n ≤ N := hn
  obtain ⟨-, hco, hin, hnm⟩ := hl
  have hr := vx_runV (R := zRm M0 K N) (below := below) (meth := meth) (cells := cells) (slots := slots) (locs := locs) (e := e) (Ts := zTb) (own := M0.1.cls) (C := M.1.cls) (nL := M0.2.2.1) (cc := M0.2.1) ⟨C.1, C.2.1, C.2.2.2.1, C.2.2.2.2.1, hts⟩ hc ⟨callB_of av.length hts (zWs_good hco) rfl rfl rfl (hts _ hin) (hts _ hlk) hnm (zFit_use hf), hts _ hs.1, hts _ hs.2⟩ (zPreV hI hR hS hcell hci) (g := F0 m pc ls st) rfl rfl hL.1 hst (lv_room hw) hd ⟨by show cells + kc ≤ K; omega, by show slots + nc ≤ N; omega⟩
  intro T hT Y
  rcases hr T hT Y with ⟨v, st₀, t, T', L, h9, X', hL2, e1, e2, hq, st2⟩ | ⟨q, st₀, t, T', L, E2, ce, h9, X', hL2, e1, e2, ⟨rfl, ⟨h', hR', hP'⟩, hz, hkp⟩, hce, hcv, hcl, st2⟩
  · exact hq.elim
  · rw [h9] at hz hkp
    have hS' : va_S (zFr g) s.heap T'.heap (locs ++ L) := ⟨Nat.le_trans hS.1 (by rw [e1]; exact hz), fun q h1 h2 => by rw [e1, hkp q (Nat.lt_of_lt_of_le h1 hS.1) h2]; exact hS.2.1 q h1 h2, fun q hq => by
      rcases List.mem_append.mp hq with h | h
      · exact hS.2.2 q h
      · exact hL2 q h⟩
    obtain ⟨t2, a1, b1⟩ := vx_catch (own := M0.1.cls) (name := E2) (E := E2) (ce := ce) (q := q) (pc := pc) (ls := ls) (rest := rest) C.2.2.2.2.1 (tableOf pre) ⟨x.1, x.2.1, x.2.2.1, x.2.2.2⟩ (tableOf suf) (by rw [E.1, hsp]; simp [tableOf]) (fun z hz2 => by
        obtain ⟨w, hw1, rfl⟩ := List.mem_map.mp hz2
        obtain ⟨g1, nm, g2, g3⟩ := hpass w hw1
        exact Or.inr ⟨g1, nm, hts _ g2, g3 s E.2⟩) hx h0 (hts _ hlink) (va_Nw.use (zNs_tab hcast) (hI.2.1 _ hcast)) (by rw [e1]; exact hce) hcv hcl
      (kk q h' hP' p e s m args below meth c ls T'.heap (locs ++ L) (cells + kc) (slots + nc) C E hL (by rw [e1]; exact hR') hS' (by show cells + kc + (k - kc) ≤ K; omega) (by show slots + nc + (n - nc) ≤ N; omega)) T' rfl X'
    exact ⟨t2, st2.trans a1, b1⟩
theorem zca_A : Cond.castable "java/lang/IllegalArgumentException" "java/lang/IllegalArgumentException" ∈ zNs := by decide +kernel
theorem zca_S : Cond.castable "java/lang/IllegalStateException" "java/lang/IllegalStateException" ∈ zNs := by decide +kernel
theorem zca_I : Cond.castable "java/lang/IndexOutOfBoundsException" "java/lang/IndexOutOfBoundsException" ∈ zNs := by decide +kernel
/-- behind a wrapper: it returned; it caught -/
def zWR (g : zGl) (h : zHp) (b o : Nat) (w0 : Nat → Int64) (u : Nat → Nat → Int32) (v : Int32) : Option Value → zHp → Prop := fun v' h' => v' = some (.int (nI 0)) ∧ ∃ D, zJE D u ∧ h' = zpT g (zup h o (zJ g 1 (va_up w0 0 v.toInt64))) b D
def zWX (g : zGl) (h : zHp) (b : Nat) (u : Nat → Nat → Int32) (k : Nat) : Option Value → zHp → Prop := fun v' h' => v' = some (.int (nI k)) ∧ ∃ D, zJE D u ∧ h' = zpT g (h.1, none) b D
theorem zpT_zup {g : zGl} {h : zHp} {b o : Nat} {d : Nat → Nat → Int32} {c : va_E} (ho : o < b ∨ b + 286 ≤ o) : zup (zpT g h b d) o c = zpT g (zup h o c) b d := by
  refine Prod.ext ?_ rfl
  funext q
  by_cases hq : q = o
  · subst hq
    rw [zup_at, zpT_o ho, zup_at]
  · rw [zup_ne hq]
    by_cases hb : b ≤ q ∧ q < b + 286
    · simp only [zpT]
      rw [if_pos hb, if_pos hb]
    · rw [zpT_o (by omega), zpT_o (by omega), zup_ne hq]
