/-! ===== the machine in short: an abstract heap, a contract over it, a row an instruction ===== -/
/-- an abstract heap: what is known of the cells; the size where it is known -/
abbrev zHp : Type := (Nat → Option va_E) × Option Nat
/-- what stays the same in a run: launch, classes and slots, the classes of int[], boolean[], long[], World[]; the first free address; the addresses of three texts -/
abbrev zGl : Type := Launch × va_G × (ClassId × ClassId × ClassId × ClassId) × Nat × (Nat × Nat × Nat)
/-- a method: name, code, locals, result, frames and words that it nests -/
abbrev zMt : Type := MethodName × ByteArray × Nat × Option FieldType × Nat × Nat
def zgD (g : zGl) : va_G := g.2.1
def zgI (g : zGl) : ClassId := g.2.2.1.1
def zgZ (g : zGl) : ClassId := g.2.2.1.2.1
def zgJ (g : zGl) : ClassId := g.2.2.1.2.2.1
def zgW (g : zGl) : ClassId := g.2.2.1.2.2.2
def zgB (g : zGl) : Nat := g.2.2.2.1
def zTy (g : zGl) : List (ClassId × FieldType) := [(zgI g, .int), (zgZ g, .boolean), (zgJ g, .long), (zgW g, .object "ClaimedTasks$World")]
def zFr (g : zGl) : Nat → Prop := fun q => zgB g ≤ q
def zTb : List Cond := lw_tbl.filter goodWord
def zIsN : Cond → Bool
  | .methodLinkNest _ _ _ _ => true
  | .castable _ _ => true
  | .declares _ => true
  | _ => false
def zNs : List Cond := lw_tbl.filter zIsN
/-- what holds all along: the tables, the statics of Throwable, the texts -/
def zIv (g : zGl) (U : State) : Prop :=
  va_K (zgD g) vwCl (zTy g) U ∧ (∀ w ∈ zNs, va_Nw w U) ∧ va_AO "ClaimedTasks$World" U ∧
  vx_Zq Bundle.tN "UNASSIGNED_STACK" Bundle.steD (zFr g) U U.heap ∧ vx_Zq Bundle.tN "SUPPRESSED_SENTINEL" Bundle.listD (zFr g) U U.heap ∧
  (vk_R "ClaimedTasks" 294 "there is no such agent, task or slot" g.2.2.2.2.1 U ∧ vk_R "ClaimedTasks" 301 "an argument is out of its range" g.2.2.2.2.2.1 U ∧ vk_R "ClaimedTasks" 306 "the present state does not allow this call" g.2.2.2.2.2.2 U) ∧
  zgB g ≤ U.heap.size ∧ g.1.stackTraces = false
theorem zIv_moved {g : zGl} {s U : State} (hW : s.WarmedH U.vm) (hz : s.heap.size ≤ U.heap.size) (hk : ∀ q : Nat, q < s.heap.size → ¬ zFr g q → U.heap[q]? = s.heap[q]?) (h : zIv g s) : zIv g U := by
  obtain ⟨h1, h2, h3, h4, h5, ⟨h6, h7, h8⟩, h9, h10⟩ := h
  refine ⟨va_K.moved hW.alike h1, fun w hw => ?_, va_AO.moved hW.alike h3, vx_Zq.moved hW.alike (h4.kept hk), vx_Zq.moved hW.alike (h5.kept hk), ⟨vk_R.warm hW h6, vk_R.warm hW h7, vk_R.warm hW h8⟩, Nat.le_trans h9 hz, h10⟩
  have hn : zIsN w = true := (List.mem_filter.mp hw).2
  have hz := h2 w hw
  cases w <;> first | exact va_Nw.warmM hW hz | exact va_Nw.warmC hW hz | exact va_Nw.warmD hW hz | (simp [zIsN] at hn)
/-- the real heap holds what the abstract one says -/
def zRp (g : zGl) (h : zHp) (H : Heap) : Prop := (∀ (q : Nat) (c : va_E), h.1 q = some c → zFr g q ∧ va_at (zgD g) vwCl (q, c) H) ∧ ∀ n : Nat, h.2 = some n → H.size = n
def zPr (g : zGl) (h : zHp) (U : State) : Prop := zRp g h U.heap ∧ zIv g U
def zWs (M : zMt) : List Cond := Cond.code M.1 M.2.1 M.2.2.1 M.2.2.2.1 :: zTb
def zRm (M : zMt) (k n : Nat) : Room := { frames := M.2.2.2.2.1, cells := k, slots := n, locals := M.2.2.2.2.2 }
def zQ (g : zGl) (P : Option Value → zHp → Prop) : Array Value → State → Outcome → State → Prop := fun _ st o t => (∃ (v : Option Value) (h' : zHp), o = .returned v ∧ zRp g h' t.heap ∧ P v h') ∧ va_F (zFr g) st t
def zQX (g : zGl) (E : String) (P : zHp → Prop) : String → State → State → Prop := fun E' st t => E' = E ∧ (∃ h' : zHp, zRp g h' t.heap ∧ P h') ∧ va_F (zFr g) st t
/-- method M, called with av over the heap h: it returns; of answer and heap then P; at most k cells of n slots are new -/
def zC (g : zGl) (M : zMt) (av : List Value) (h : zHp) (P : Option Value → zHp → Prop) (k n : Nat) : Prop :=
  Met g.1 M.1 (zWs M) (zRm M k n) (va_Pc av (zPr g h)) (zQ g P) k n (zFr g)
/-- method M, called with av over the heap h: it throws an E; of the heap then P -/
def zX (g : zGl) (M : zMt) (av : List Value) (h : zHp) (E : String) (P : zHp → Prop) (k n : Nat) : Prop :=
  vx_Met g.1 M.1 (zWs M) (zRm M k n) (va_Pc av (zPr g h)) (fun _ _ _ _ => False) (zQX g E P) k n (zFr g)
theorem zPr_blind {g : zGl} {h : zHp} {av : List Value} : FrameBlind (va_Pc av (zPr g h)) := by
  intro a U gf mk q
  obtain ⟨q0, q1, q2⟩ := q
  exact ⟨q0, q1, zIv_moved (s := U) (U := U.calling gf mk a) (State.WarmedH.refl U) (Nat.le_refl _) (fun _ _ _ => rfl) q2⟩
/-- what a body stands on -/
def zCx (g : zGl) (M : zMt) (p : Program) (s : State) (m : MethodId) (args : Array Value) (meth : Method) (c : Code) : Prop :=
  p.tables.exec = Jvm.exec ∧ c.code = M.2.1 ∧ meth.sig.returnType = M.2.2.2.1 ∧ c.maxLocals = M.2.2.1 ∧ s.vm.findClass M.1.cls = some m.cls ∧ (∀ w ∈ zTb, w.before args s = true) ∧ meth.locks = false ∧ meth.name = M.1.name ∧ zIv g s
/-- the locals -/
def zL (N : Nat) (lv : List (Option Value)) (ls : Array Slot) : Prop := ls.size = N ∧ lv.length = N ∧ lv_wf ls ∧ ∀ (i : Nat) (v : Value), lv[i]? = some (some v) → ls[i]? = some (.val v)
/-- a method under way: the method, what else is known of its start, its room, what it owes -/
abbrev zZt : Type := zMt × (Array Value → State → Code → Prop) × Room × (List Frame → Array Value → State → State → Prop)
def zA (g : zGl) (Z : zZt) (k n pc : Nat) (lv : List (Option Value)) (st : List Value) (h : zHp) : Prop :=
  ∀ (p : Program) (e : Env) (s : State) (m : MethodId) (args : Array Value) (below : List Frame) (meth : Method) (c : Code) (ls : Array Slot) (H : Heap) (locs : List Loc) (cells slots : Nat),
    zCx g Z.1 p s m args meth c → Z.2.1 args s c → zL Z.1.2.2.1 lv ls → zRp g h H → va_S (zFr g) s.heap H locs → cells + k ≤ Z.2.2.1.cells → slots + n ≤ Z.2.2.1.slots →
    W p g.1 e Z.2.2.1 s m args below meth c H locs cells slots (Z.2.2.2 below args s) (F0 m pc ls st)
def zZc (g : zGl) (M : zMt) (P : Option Value → zHp → Prop) (k n : Nat) : zZt :=
  (M, fun _ _ c => ∀ x ∈ c.exceptionTable.toList, False, zRm M k n, fun below args s => MQ below (zQ g P) args s k n (zFr g))
def zZx (g : zGl) (M : zMt) (E : String) (P : zHp → Prop) (k n : Nat) : zZt :=
  (M, fun _ _ c => ∀ x ∈ c.exceptionTable.toList, False, zRm M k n, fun below args s => vx_MQ below (fun _ _ _ _ => False) (zQX g E P) args s k n (zFr g))
def zlv (n : Nat) (l : List (Nat × Value)) : List (Option Value) := (List.range n).map fun i => (l.find? (fun q => q.1 == i)).map (fun q => q.2)
theorem zL_of {ls : Array Slot} {n : Nat} {l : List (Nat × Value)} (h : lv_has ls n l) : zL n (zlv n l) ls := by
  obtain ⟨h1, h2, h3⟩ := h
  refine ⟨h1, by simp [zlv], h2, fun i v hi => ?_⟩
  simp only [zlv, List.getElem?_map, Option.map_eq_some_iff] at hi
  obtain ⟨j, hj, q, hq, rfl⟩ := hi
  have hji : j = i := by
    rw [List.getElem?_range] at hj
    · exact (Option.some.inj hj).symm
    · exact (by simpa using (List.getElem?_eq_some_iff.mp hj).1)
  have h5 := List.find?_some hq
  have h6 := h3 q (List.mem_of_find?_eq_some hq)
  simp only [beq_iff_eq] at h5
  rw [← hji, ← h5]
  exact h6
theorem zIv_body {g : zGl} {s U : State} {H : Heap} {locs : List Loc} (hI : zIv g s) (hS : va_S (zFr g) s.heap H locs) (hU : U.heap = H) (hW : s.WarmedH U.vm) : zIv g U := by
  subst hU
  exact zIv_moved hW hS.1 hS.2.1 hI
theorem zC_ofA {g : zGl} {M : zMt} {av : List Value} {h : zHp} {P : Option Value → zHp → Prop} {k n : Nat} {lv : List (Option Value)} (hy : plainName M.1.cls = true) (hlv : zlv M.2.2.1 (lv_args 0 av) = lv) (hn : (lg_sl av).length ≤ M.2.2.1)
    (kk : zA g (zZc g M P k n) k n 0 lv [] h) : zC g M av h P k n := by
  have hm : vx_Met g.1 M.1 (zWs M) (zRm M k n) (va_Pc av (zPr g h)) (zQ g P) (fun _ _ _ => False) k n (zFr g) := by
    refine vx_ofW (cc := M.2.1) (maxL := M.2.2.1) (ret := M.2.2.2.1) hy rfl ?_
    intro p e s m args below meth c s₁ B hml hx hv
    obtain ⟨rfl, hR, hI⟩ := hv
    have hts := atoms_spec (ws := zWs M) B.pre
    have hl := lv_entry av (n := M.2.2.1) hn
    rw [lg_entry_eq]
    refine vx_ret ?_
    refine kk p e s m _ below meth c _ s.heap [] 0 0 ⟨B.exec, B.bytes, B.returns, hml, findClass_of_methodNamed B.named, fun w hw => hts w (List.mem_cons_of_mem _ hw), B.notSynchronized, (name_of_methodNamed B.named B.method).1, hI⟩ hx ?_ hR va_S.rf ?_ ?_
    · rw [← hlv]
      exact zL_of hl
    · show 0 + k ≤ k
      omega
    · show 0 + n ≤ n
      omega
  intro p e ha hc hk s m args below hf happ hP hT
  obtain ⟨kk2, o, h1, h2, h3, hq⟩ := hm p e ha hc hk s m args below hf happ hP hT
  refine ⟨kk2, o, h1, h2, h3, ?_⟩
  rcases hq with hq | ⟨q, -, E, ce, L, hx, -⟩
  · exact hq
  · exact hx.elim
theorem zX_ofA {g : zGl} {M : zMt} {av : List Value} {h : zHp} {E : String} {P : zHp → Prop} {k n : Nat} {lv : List (Option Value)} (hy : plainName M.1.cls = true) (hlv : zlv M.2.2.1 (lv_args 0 av) = lv) (hn : (lg_sl av).length ≤ M.2.2.1)
    (kk : zA g (zZx g M E P k n) k n 0 lv [] h) : zX g M av h E P k n := by
  refine vx_ofW (cc := M.2.1) (maxL := M.2.2.1) (ret := M.2.2.2.1) hy rfl ?_
  intro p e s m args below meth c s₁ B hml hx hv
  obtain ⟨rfl, hR, hI⟩ := hv
  have hts := atoms_spec (ws := zWs M) B.pre
  have hl := lv_entry av (n := M.2.2.1) hn
  rw [lg_entry_eq]
  refine kk p e s m _ below meth c _ s.heap [] 0 0 ⟨B.exec, B.bytes, B.returns, hml, findClass_of_methodNamed B.named, fun w hw => hts w (List.mem_cons_of_mem _ hw), B.notSynchronized, (name_of_methodNamed B.named B.method).1, hI⟩ hx ?_ hR va_S.rf ?_ ?_
  · rw [← hlv]
    exact zL_of hl
  · show 0 + k ≤ k
    omega
  · show 0 + n ≤ n
    omega
def zl (lv : List (Option Value)) : List (Nat × Value) := (List.range lv.length).filterMap fun i => match lv[i]? with
  | some (some v) => some (i, v)
  | _ => none
theorem zl_mem {lv : List (Option Value)} {i : Nat} {v : Value} : (i, v) ∈ zl lv ↔ lv[i]? = some (some v) := by
  constructor
  · intro h
    obtain ⟨j, -, hj⟩ := List.mem_filterMap.mp h
    split at hj
    · next w hw =>
      cases hj
      exact hw
    · cases hj
  · intro h
    refine List.mem_filterMap.mpr ⟨i, List.mem_range.mpr (List.getElem?_eq_some_iff.mp h).1, ?_⟩
    rw [h]
theorem zL_has {N : Nat} {lv : List (Option Value)} {ls : Array Slot} (h : zL N lv ls) : lv_has ls N (zl lv) := ⟨h.1, h.2.2.1, fun q hq => h.2.2.2 q.1 q.2 (zl_mem.mp hq)⟩
/-- nothing of two slots ends at i -/
def zok (lv : List (Option Value)) (i : Nat) : Bool := match i with
  | 0 => true
  | j + 1 => match lv[j]? with
    | some (some v) => v.category != 2
    | _ => true
theorem zL_set {N : Nat} {lv : List (Option Value)} {ls' : Array Slot} {i : Nat} {v : Value} (hN : lv.length = N) (hk : zok lv i = true)
    (h : lv_has ls' N ((i, v) :: (zl lv).filter (fun q => !(q.1 == i) && !(q.1 + 1 == i && q.2.category == 2)))) : zL N (lv.set i (some v)) ls' := by
  obtain ⟨h1, h2, h3⟩ := h
  refine ⟨h1, by simp [hN], h2, fun j x hj => ?_⟩
  by_cases hji : j = i
  · subst hji
    rw [List.getElem?_set] at hj
    simp only [if_true] at hj
    split at hj
    · cases hj
      exact h3 (j, v) List.mem_cons_self
    · cases hj
  · rw [List.getElem?_set_ne (Ne.symm hji)] at hj
    refine h3 (j, x) (List.mem_cons_of_mem _ (List.mem_filter.mpr ⟨zl_mem.mpr hj, ?_⟩))
    simp only [Bool.and_eq_true, Bool.not_eq_true', beq_eq_false_iff_ne, ne_eq, Bool.and_eq_false_iff]
    refine ⟨hji, ?_⟩
    by_cases h9 : j + 1 = i
    · subst h9
      right
      simp only [zok, hj, bne_iff_ne, ne_eq] at hk
      simpa using hk
    · left
      simpa using h9
theorem zL_set2 {N : Nat} {lv : List (Option Value)} {ls' : Array Slot} {i : Nat} {v : Value} (hN : lv.length = N) (hk : zok lv i = true)
    (h : lv_has ls' N ((i, v) :: (zl lv).filter (fun q => !(q.1 == i) && (!(q.1 == i + 1) && !(q.1 + 1 == i && q.2.category == 2))))) : zL N ((lv.set i (some v)).set (i + 1) none) ls' := by
  obtain ⟨h1, h2, h3⟩ := h
  refine ⟨h1, by simp [hN], h2, fun j x hj => ?_⟩
  by_cases hj1 : j = i + 1
  · subst hj1
    rw [List.getElem?_set] at hj
    simp only [if_true] at hj
    split at hj <;> cases hj
  · rw [List.getElem?_set_ne (Ne.symm hj1)] at hj
    by_cases hji : j = i
    · subst hji
      rw [List.getElem?_set] at hj
      simp only [if_true] at hj
      split at hj
      · cases hj
        exact h3 (j, v) List.mem_cons_self
      · cases hj
    · rw [List.getElem?_set_ne (Ne.symm hji)] at hj
      refine h3 (j, x) (List.mem_cons_of_mem _ (List.mem_filter.mpr ⟨zl_mem.mpr hj, ?_⟩))
      simp only [Bool.and_eq_true, Bool.not_eq_true', beq_eq_false_iff_ne, ne_eq, Bool.and_eq_false_iff]
      refine ⟨hji, hj1, ?_⟩
      by_cases h9 : j + 1 = i
      · subst h9
        right
        simp only [zok, hj, bne_iff_ne, ne_eq] at hk
        simpa using hk
      · left
        simpa using h9
theorem nI_mul (a b : Nat) : nI a * nI b = nI (a * b) := (Int32.ofNat_mul a b).symm

theorem z_iconst {g : zGl} {Z : zZt} {k n pc q : Nat} {lv : List (Option Value)} {st : List Value} {h : zHp} {i : Int} {v : Int32} (hd : decode Z.1.2.1 pc = .ok (.iconst i, 1)) (hv : Int32.ofInt i = v) (hp : pc + 1 = q) (kk : zA g Z k n q lv (.int v :: st) h) : zA g Z k n pc lv st h := by
  intro p e s m args below meth c ls H locs cells slots C E hL hR hS hk hn
  subst hp
  exact lv_iconst C.1 C.2.1 hd hv (kk p e s m args below meth c ls H locs cells slots C E hL hR hS hk hn)
theorem z_bipush {g : zGl} {Z : zZt} {k n pc q : Nat} {lv : List (Option Value)} {st : List Value} {h : zHp} {i : Int} {v : Int32} (hd : decode Z.1.2.1 pc = .ok (.bipush i, 2)) (hv : (Int8.ofInt i).toInt32 = v) (hp : pc + 2 = q) (kk : zA g Z k n q lv (.int v :: st) h) : zA g Z k n pc lv st h := by
  intro p e s m args below meth c ls H locs cells slots C E hL hR hS hk hn
  subst hp
  exact lv_bipush C.1 C.2.1 hd hv (kk p e s m args below meth c ls H locs cells slots C E hL hR hS hk hn)
theorem z_sipush {g : zGl} {Z : zZt} {k n pc q : Nat} {lv : List (Option Value)} {st : List Value} {h : zHp} {i : Int} {v : Int32} (hd : decode Z.1.2.1 pc = .ok (.sipush i, 3)) (hv : (Int16.ofInt i).toInt32 = v) (hp : pc + 3 = q) (kk : zA g Z k n q lv (.int v :: st) h) : zA g Z k n pc lv st h := by
  intro p e s m args below meth c ls H locs cells slots C E hL hR hS hk hn
  subst hp
  exact lv_sipush C.1 C.2.1 hd hv (kk p e s m args below meth c ls H locs cells slots C E hL hR hS hk hn)
theorem z_lconst {g : zGl} {Z : zZt} {k n pc q : Nat} {lv : List (Option Value)} {st : List Value} {h : zHp} {i : Fin 2} {v : Int64} (hd : decode Z.1.2.1 pc = .ok (.lconst i, 1)) (hv : Int64.ofNat (i : Nat) = v) (hp : pc + 1 = q) (kk : zA g Z k n q lv (.long v :: st) h) : zA g Z k n pc lv st h := by
  intro p e s m args below meth c ls H locs cells slots C E hL hR hS hk hn
  subst hp
  exact lv_lconst C.1 C.2.1 hd hv (kk p e s m args below meth c ls H locs cells slots C E hL hR hS hk hn)
theorem z_ldc2 {g : zGl} {Z : zZt} {k n pc q : Nat} {lv : List (Option Value)} {st : List Value} {h : zHp} {i : Nat} {v : Int64} (hd : decode Z.1.2.1 pc = .ok (.ldc2_w i, 3)) (hc : Cond.constantLong Z.1.1.cls i v ∈ zTb) (hp : pc + 3 = q) (kk : zA g Z k n q lv (.long v :: st) h) : zA g Z k n pc lv st h := by
  intro p e s m args below meth c ls H locs cells slots C E hL hR hS hk hn
  subst hp
  exact lv_ldc2 C.1 C.2.1 C.2.2.2.2.1 (C.2.2.2.2.2.1 _ hc) hd (kk p e s m args below meth c ls H locs cells slots C E hL hR hS hk hn)
theorem z_ldcw {g : zGl} {Z : zZt} {k n pc q : Nat} {lv : List (Option Value)} {st : List Value} {h : zHp} {i : Nat} {v : Int32} (hd : decode Z.1.2.1 pc = .ok (.ldc_w i, 3)) (hc : Cond.constant Z.1.1.cls i v ∈ zTb) (hp : pc + 3 = q) (kk : zA g Z k n q lv (.int v :: st) h) : zA g Z k n pc lv st h := by
  intro p e s m args below meth c ls H locs cells slots C E hL hR hS hk hn
  subst hp
  exact lv_ldcw C.1 C.2.1 C.2.2.2.2.1 (C.2.2.2.2.2.1 _ hc) hd (kk p e s m args below meth c ls H locs cells slots C E hL hR hS hk hn)
theorem z_iload_n {g : zGl} {Z : zZt} {k n pc q : Nat} {lv : List (Option Value)} {st : List Value} {h : zHp} {i : Fin 4} {x : Int32} (hd : decode Z.1.2.1 pc = .ok (.iload_n i, 1)) (hl : lv[(i : Nat)]? = some (some (.int x))) (hp : pc + 1 = q) (kk : zA g Z k n q lv (.int x :: st) h) : zA g Z k n pc lv st h := by
  intro p e s m args below meth c ls H locs cells slots C E hL hR hS hk hn
  subst hp
  exact lv_iload_n C.1 C.2.1 hd rfl (hL.2.2.2 _ _ hl) (kk p e s m args below meth c ls H locs cells slots C E hL hR hS hk hn)
theorem z_iload {g : zGl} {Z : zZt} {k n pc q : Nat} {lv : List (Option Value)} {st : List Value} {h : zHp} {i : Nat} {x : Int32} (hd : decode Z.1.2.1 pc = .ok (.iload i, 2)) (hl : lv[i]? = some (some (.int x))) (hp : pc + 2 = q) (kk : zA g Z k n q lv (.int x :: st) h) : zA g Z k n pc lv st h := by
  intro p e s m args below meth c ls H locs cells slots C E hL hR hS hk hn
  subst hp
  exact lv_iload C.1 C.2.1 hd (hL.2.2.2 _ _ hl) (kk p e s m args below meth c ls H locs cells slots C E hL hR hS hk hn)
theorem z_lload_n {g : zGl} {Z : zZt} {k n pc q : Nat} {lv : List (Option Value)} {st : List Value} {h : zHp} {i : Fin 4} {x : Int64} (hd : decode Z.1.2.1 pc = .ok (.lload_n i, 1)) (hl : lv[(i : Nat)]? = some (some (.long x))) (hp : pc + 1 = q) (kk : zA g Z k n q lv (.long x :: st) h) : zA g Z k n pc lv st h := by
  intro p e s m args below meth c ls H locs cells slots C E hL hR hS hk hn
  subst hp
  exact lv_lload_n C.1 C.2.1 hd rfl (hL.2.2.2 _ _ hl) (kk p e s m args below meth c ls H locs cells slots C E hL hR hS hk hn)
theorem z_lload {g : zGl} {Z : zZt} {k n pc q : Nat} {lv : List (Option Value)} {st : List Value} {h : zHp} {i : Nat} {x : Int64} (hd : decode Z.1.2.1 pc = .ok (.lload i, 2)) (hl : lv[i]? = some (some (.long x))) (hp : pc + 2 = q) (kk : zA g Z k n q lv (.long x :: st) h) : zA g Z k n pc lv st h := by
  intro p e s m args below meth c ls H locs cells slots C E hL hR hS hk hn
  subst hp
  exact lv_lload C.1 C.2.1 hd (hL.2.2.2 _ _ hl) (kk p e s m args below meth c ls H locs cells slots C E hL hR hS hk hn)
theorem z_aload_n {g : zGl} {Z : zZt} {k n pc q : Nat} {lv : List (Option Value)} {st : List Value} {h : zHp} {i : Fin 4} {x : Nat} (hd : decode Z.1.2.1 pc = .ok (.aload_n i, 1)) (hl : lv[(i : Nat)]? = some (some (.ref x))) (hp : pc + 1 = q) (kk : zA g Z k n q lv (.ref x :: st) h) : zA g Z k n pc lv st h := by
  intro p e s m args below meth c ls H locs cells slots C E hL hR hS hk hn
  subst hp
  exact lv_aload_n C.1 C.2.1 hd rfl (hL.2.2.2 _ _ hl) (kk p e s m args below meth c ls H locs cells slots C E hL hR hS hk hn)
theorem z_aload {g : zGl} {Z : zZt} {k n pc q : Nat} {lv : List (Option Value)} {st : List Value} {h : zHp} {i : Nat} {x : Nat} (hd : decode Z.1.2.1 pc = .ok (.aload i, 2)) (hl : lv[i]? = some (some (.ref x))) (hp : pc + 2 = q) (kk : zA g Z k n q lv (.ref x :: st) h) : zA g Z k n pc lv st h := by
  intro p e s m args below meth c ls H locs cells slots C E hL hR hS hk hn
  subst hp
  exact lv_aload C.1 C.2.1 hd (hL.2.2.2 _ _ hl) (kk p e s m args below meth c ls H locs cells slots C E hL hR hS hk hn)
theorem z_istore_n {g : zGl} {Z : zZt} {k n pc q : Nat} {lv : List (Option Value)} {st : List Value} {h : zHp} {i : Fin 4} {x : Int32} (hd : decode Z.1.2.1 pc = .ok (.istore_n i, 1)) (hi : (i : Nat) < lv.length) (ho : zok lv (i : Nat) = true) (hp : pc + 1 = q) (kk : zA g Z k n q (lv.set (i : Nat) (some (.int x))) st h) : zA g Z k n pc lv (.int x :: st) h := by
  intro p e s m args below meth c ls H locs cells slots C E hL hR hS hk hn
  subst hp
  exact lv_istore_n C.1 C.2.1 hd rfl (zL_has hL) (by rw [← hL.2.1]; exact hi) rfl (fun ls' hl' => kk p e s m args below meth c ls' H locs cells slots C E (zL_set hL.2.1 ho hl') hR hS hk hn)
theorem z_istore {g : zGl} {Z : zZt} {k n pc q : Nat} {lv : List (Option Value)} {st : List Value} {h : zHp} {i : Nat} {x : Int32} (hd : decode Z.1.2.1 pc = .ok (.istore i, 2)) (hi : i < lv.length) (ho : zok lv i = true) (hp : pc + 2 = q) (kk : zA g Z k n q (lv.set i (some (.int x))) st h) : zA g Z k n pc lv (.int x :: st) h := by
  intro p e s m args below meth c ls H locs cells slots C E hL hR hS hk hn
  subst hp
  exact lv_istore C.1 C.2.1 hd (zL_has hL) (by rw [← hL.2.1]; exact hi) rfl (fun ls' hl' => kk p e s m args below meth c ls' H locs cells slots C E (zL_set hL.2.1 ho hl') hR hS hk hn)
theorem z_astore_n {g : zGl} {Z : zZt} {k n pc q : Nat} {lv : List (Option Value)} {st : List Value} {h : zHp} {i : Fin 4} {x : Nat} (hd : decode Z.1.2.1 pc = .ok (.astore_n i, 1)) (hi : (i : Nat) < lv.length) (ho : zok lv (i : Nat) = true) (hp : pc + 1 = q) (kk : zA g Z k n q (lv.set (i : Nat) (some (.ref x))) st h) : zA g Z k n pc lv (.ref x :: st) h := by
  intro p e s m args below meth c ls H locs cells slots C E hL hR hS hk hn
  subst hp
  exact lv_astore_n C.1 C.2.1 hd rfl (zL_has hL) (by rw [← hL.2.1]; exact hi) rfl (fun ls' hl' => kk p e s m args below meth c ls' H locs cells slots C E (zL_set hL.2.1 ho hl') hR hS hk hn)
theorem z_astore {g : zGl} {Z : zZt} {k n pc q : Nat} {lv : List (Option Value)} {st : List Value} {h : zHp} {i : Nat} {x : Nat} (hd : decode Z.1.2.1 pc = .ok (.astore i, 2)) (hi : i < lv.length) (ho : zok lv i = true) (hp : pc + 2 = q) (kk : zA g Z k n q (lv.set i (some (.ref x))) st h) : zA g Z k n pc lv (.ref x :: st) h := by
  intro p e s m args below meth c ls H locs cells slots C E hL hR hS hk hn
  subst hp
  exact lv_astore C.1 C.2.1 hd (zL_has hL) (by rw [← hL.2.1]; exact hi) rfl (fun ls' hl' => kk p e s m args below meth c ls' H locs cells slots C E (zL_set hL.2.1 ho hl') hR hS hk hn)
theorem z_lstore_n {g : zGl} {Z : zZt} {k n pc q : Nat} {lv : List (Option Value)} {st : List Value} {h : zHp} {i : Fin 4} {x : Int64} (hd : decode Z.1.2.1 pc = .ok (.lstore_n i, 1)) (hi : (i : Nat) + 1 < lv.length) (ho : zok lv (i : Nat) = true) (hp : pc + 1 = q) (kk : zA g Z k n q ((lv.set (i : Nat) (some (.long x))).set ((i : Nat) + 1) none) st h) : zA g Z k n pc lv (.long x :: st) h := by
  intro p e s m args below meth c ls H locs cells slots C E hL hR hS hk hn
  subst hp
  exact lv_lstore_n C.1 C.2.1 hd rfl (zL_has hL) (by rw [← hL.2.1]; exact hi) rfl (fun ls' hl' => kk p e s m args below meth c ls' H locs cells slots C E (zL_set2 hL.2.1 ho hl') hR hS hk hn)
theorem z_lstore {g : zGl} {Z : zZt} {k n pc q : Nat} {lv : List (Option Value)} {st : List Value} {h : zHp} {i : Nat} {x : Int64} (hd : decode Z.1.2.1 pc = .ok (.lstore i, 2)) (hi : i + 1 < lv.length) (ho : zok lv i = true) (hp : pc + 2 = q) (kk : zA g Z k n q ((lv.set i (some (.long x))).set (i + 1) none) st h) : zA g Z k n pc lv (.long x :: st) h := by
  intro p e s m args below meth c ls H locs cells slots C E hL hR hS hk hn
  subst hp
  exact lv_lstore C.1 C.2.1 hd (zL_has hL) (by rw [← hL.2.1]; exact hi) rfl (fun ls' hl' => kk p e s m args below meth c ls' H locs cells slots C E (zL_set2 hL.2.1 ho hl') hR hS hk hn)
theorem z_iinc {g : zGl} {Z : zZt} {k n pc q : Nat} {lv : List (Option Value)} {st : List Value} {h : zHp} {i : Nat} {d : Int} {x v : Int32} (hd : decode Z.1.2.1 pc = .ok (.iinc i d, 3)) (hl : lv[i]? = some (some (.int x))) (hv : x + Int32.ofInt d = v) (ho : zok lv i = true) (hp : pc + 3 = q) (kk : zA g Z k n q (lv.set i (some (.int v))) st h) : zA g Z k n pc lv st h := by
  intro p e s m args below meth c ls H locs cells slots C E hL hR hS hk hn
  subst hp
  obtain ⟨j, hj⟩ := List.getElem?_of_mem (zl_mem.mpr hl)
  exact lv_iinc C.1 C.2.1 hd (zL_has hL) hj hv (by rw [← hL.2.1]; exact (List.getElem?_eq_some_iff.mp hl).1) rfl (fun ls' hl' => kk p e s m args below meth c ls' H locs cells slots C E (zL_set hL.2.1 ho hl') hR hS hk hn)
theorem z_iincN {g : zGl} {Z : zZt} {k n pc q : Nat} {lv : List (Option Value)} {st : List Value} {h : zHp} {i x : Nat} (hd : decode Z.1.2.1 pc = .ok (.iinc i 1, 3)) (hl : lv[i]? = some (some (.int (nI x)))) (ho : zok lv i = true) (hp : pc + 3 = q) (kk : zA g Z k n q (lv.set i (some (.int (nI (x + 1))))) st h) : zA g Z k n pc lv st h :=
  z_iinc hd hl (show nI x + Int32.ofInt 1 = nI (x + 1) from nI_1 x) ho hp kk
theorem z_dup {g : zGl} {Z : zZt} {k n pc q : Nat} {lv : List (Option Value)} {st : List Value} {h : zHp} {v : Value} (hd : decode Z.1.2.1 pc = .ok (.dup, 1)) (hc : v.category = 1) (hp : pc + 1 = q) (kk : zA g Z k n q lv (v :: v :: st) h) : zA g Z k n pc lv (v :: st) h := by
  intro p e s m args below meth c ls H locs cells slots C E hL hR hS hk hn
  subst hp
  exact lv_dup C.1 C.2.1 hd hc (kk p e s m args below meth c ls H locs cells slots C E hL hR hS hk hn)
theorem z_dup2 {g : zGl} {Z : zZt} {k n pc q : Nat} {lv : List (Option Value)} {st : List Value} {h : zHp} {v u : Value} (hd : decode Z.1.2.1 pc = .ok (.dup2, 1)) (hc : v.category = 1) (hc2 : u.category = 1) (hp : pc + 1 = q) (kk : zA g Z k n q lv (v :: u :: v :: u :: st) h) : zA g Z k n pc lv (v :: u :: st) h := by
  intro p e s m args below meth c ls H locs cells slots C E hL hR hS hk hn
  subst hp
  exact lv_dup2_11 C.1 C.2.1 hd hc hc2 (kk p e s m args below meth c ls H locs cells slots C E hL hR hS hk hn)
theorem z_pop {g : zGl} {Z : zZt} {k n pc q : Nat} {lv : List (Option Value)} {st : List Value} {h : zHp} {v : Value} (hd : decode Z.1.2.1 pc = .ok (.pop, 1)) (hc : v.category = 1) (hp : pc + 1 = q) (kk : zA g Z k n q lv st h) : zA g Z k n pc lv (v :: st) h := by
  intro p e s m args below meth c ls H locs cells slots C E hL hR hS hk hn
  subst hp
  exact lv_pop C.1 C.2.1 hd hc (kk p e s m args below meth c ls H locs cells slots C E hL hR hS hk hn)
theorem z_dup_x1 {g : zGl} {Z : zZt} {k n pc q : Nat} {lv : List (Option Value)} {st : List Value} {h : zHp} {v u : Value} (hd : decode Z.1.2.1 pc = .ok (.dup_x1, 1)) (hc : v.category = 1) (hc2 : u.category = 1) (hp : pc + 1 = q) (kk : zA g Z k n q lv (v :: u :: v :: st) h) : zA g Z k n pc lv (v :: u :: st) h := by
  intro p e s m args below meth c ls H locs cells slots C E hL hR hS hk hn
  subst hp
  exact lv_dup_x1 C.1 C.2.1 hd hc hc2 (kk p e s m args below meth c ls H locs cells slots C E hL hR hS hk hn)
theorem z_iadd {g : zGl} {Z : zZt} {k n pc q : Nat} {lv : List (Option Value)} {st : List Value} {h : zHp} {x y : Int32} (hd : decode Z.1.2.1 pc = .ok (.iadd, 1))  (hp : pc + 1 = q) (kk : zA g Z k n q lv (.int (x + y) :: st) h) : zA g Z k n pc lv (.int y :: .int x :: st) h := by
  intro p e s m args below meth c ls H locs cells slots C E hL hR hS hk hn
  subst hp
  exact lv_iadd C.1 C.2.1 hd (kk p e s m args below meth c ls H locs cells slots C E hL hR hS hk hn)
theorem z_isub {g : zGl} {Z : zZt} {k n pc q : Nat} {lv : List (Option Value)} {st : List Value} {h : zHp} {x y : Int32} (hd : decode Z.1.2.1 pc = .ok (.isub, 1))  (hp : pc + 1 = q) (kk : zA g Z k n q lv (.int (x - y) :: st) h) : zA g Z k n pc lv (.int y :: .int x :: st) h := by
  intro p e s m args below meth c ls H locs cells slots C E hL hR hS hk hn
  subst hp
  exact lv_isub C.1 C.2.1 hd (kk p e s m args below meth c ls H locs cells slots C E hL hR hS hk hn)
theorem z_imul {g : zGl} {Z : zZt} {k n pc q : Nat} {lv : List (Option Value)} {st : List Value} {h : zHp} {x y : Int32} (hd : decode Z.1.2.1 pc = .ok (.imul, 1))  (hp : pc + 1 = q) (kk : zA g Z k n q lv (.int (x * y) :: st) h) : zA g Z k n pc lv (.int y :: .int x :: st) h := by
  intro p e s m args below meth c ls H locs cells slots C E hL hR hS hk hn
  subst hp
  exact lv_imul C.1 C.2.1 hd (kk p e s m args below meth c ls H locs cells slots C E hL hR hS hk hn)
theorem z_iand {g : zGl} {Z : zZt} {k n pc q : Nat} {lv : List (Option Value)} {st : List Value} {h : zHp} {x y : Int32} (hd : decode Z.1.2.1 pc = .ok (.iand, 1))  (hp : pc + 1 = q) (kk : zA g Z k n q lv (.int (x &&& y) :: st) h) : zA g Z k n pc lv (.int y :: .int x :: st) h := by
  intro p e s m args below meth c ls H locs cells slots C E hL hR hS hk hn
  subst hp
  exact lv_iand C.1 C.2.1 hd (kk p e s m args below meth c ls H locs cells slots C E hL hR hS hk hn)
theorem z_ior {g : zGl} {Z : zZt} {k n pc q : Nat} {lv : List (Option Value)} {st : List Value} {h : zHp} {x y : Int32} (hd : decode Z.1.2.1 pc = .ok (.ior, 1))  (hp : pc + 1 = q) (kk : zA g Z k n q lv (.int (x ||| y) :: st) h) : zA g Z k n pc lv (.int y :: .int x :: st) h := by
  intro p e s m args below meth c ls H locs cells slots C E hL hR hS hk hn
  subst hp
  exact lv_ior C.1 C.2.1 hd (kk p e s m args below meth c ls H locs cells slots C E hL hR hS hk hn)
theorem z_ixor {g : zGl} {Z : zZt} {k n pc q : Nat} {lv : List (Option Value)} {st : List Value} {h : zHp} {x y : Int32} (hd : decode Z.1.2.1 pc = .ok (.ixor, 1))  (hp : pc + 1 = q) (kk : zA g Z k n q lv (.int (x ^^^ y) :: st) h) : zA g Z k n pc lv (.int y :: .int x :: st) h := by
  intro p e s m args below meth c ls H locs cells slots C E hL hR hS hk hn
  subst hp
  exact lv_ixor C.1 C.2.1 hd (kk p e s m args below meth c ls H locs cells slots C E hL hR hS hk hn)
theorem z_ishl {g : zGl} {Z : zZt} {k n pc q : Nat} {lv : List (Option Value)} {st : List Value} {h : zHp} {x y : Int32} (hd : decode Z.1.2.1 pc = .ok (.ishl, 1))  (hp : pc + 1 = q) (kk : zA g Z k n q lv (.int (x <<< (y &&& 31)) :: st) h) : zA g Z k n pc lv (.int y :: .int x :: st) h := by
  intro p e s m args below meth c ls H locs cells slots C E hL hR hS hk hn
  subst hp
  exact lv_ishl C.1 C.2.1 hd (kk p e s m args below meth c ls H locs cells slots C E hL hR hS hk hn)
theorem z_ishr {g : zGl} {Z : zZt} {k n pc q : Nat} {lv : List (Option Value)} {st : List Value} {h : zHp} {x y : Int32} (hd : decode Z.1.2.1 pc = .ok (.ishr, 1))  (hp : pc + 1 = q) (kk : zA g Z k n q lv (.int (x >>> (y &&& 31)) :: st) h) : zA g Z k n pc lv (.int y :: .int x :: st) h := by
  intro p e s m args below meth c ls H locs cells slots C E hL hR hS hk hn
  subst hp
  exact lv_ishr C.1 C.2.1 hd (kk p e s m args below meth c ls H locs cells slots C E hL hR hS hk hn)
theorem z_idiv {g : zGl} {Z : zZt} {k n pc q : Nat} {lv : List (Option Value)} {st : List Value} {h : zHp} {x y : Int32} (hd : decode Z.1.2.1 pc = .ok (.idiv, 1)) (hne : ¬ y = 0) (hp : pc + 1 = q) (kk : zA g Z k n q lv (.int (x / y) :: st) h) : zA g Z k n pc lv (.int y :: .int x :: st) h := by
  intro p e s m args below meth c ls H locs cells slots C E hL hR hS hk hn
  subst hp
  exact lv_idiv C.1 C.2.1 hd hne (kk p e s m args below meth c ls H locs cells slots C E hL hR hS hk hn)
theorem z_irem {g : zGl} {Z : zZt} {k n pc q : Nat} {lv : List (Option Value)} {st : List Value} {h : zHp} {x y : Int32} (hd : decode Z.1.2.1 pc = .ok (.irem, 1)) (hne : ¬ y = 0) (hp : pc + 1 = q) (kk : zA g Z k n q lv (.int (x - x / y * y) :: st) h) : zA g Z k n pc lv (.int y :: .int x :: st) h := by
  intro p e s m args below meth c ls H locs cells slots C E hL hR hS hk hn
  subst hp
  exact lv_irem C.1 C.2.1 hd hne (kk p e s m args below meth c ls H locs cells slots C E hL hR hS hk hn)
theorem z_ineg {g : zGl} {Z : zZt} {k n pc q : Nat} {lv : List (Option Value)} {st : List Value} {h : zHp} {x : Int32} (hd : decode Z.1.2.1 pc = .ok (.ineg, 1))  (hp : pc + 1 = q) (kk : zA g Z k n q lv (.int (-x) :: st) h) : zA g Z k n pc lv (.int x :: st) h := by
  intro p e s m args below meth c ls H locs cells slots C E hL hR hS hk hn
  subst hp
  exact lv_ineg C.1 C.2.1 hd (kk p e s m args below meth c ls H locs cells slots C E hL hR hS hk hn)
theorem z_iushr {g : zGl} {Z : zZt} {k n pc q : Nat} {lv : List (Option Value)} {st : List Value} {h : zHp} {x y v : Int32} (hd : decode Z.1.2.1 pc = .ok (.iushr, 1)) (hv : (x.toUInt32 >>> (y.toUInt32 &&& Int32.toUInt32 31)).toInt32 = v) (hp : pc + 1 = q) (kk : zA g Z k n q lv (.int v :: st) h) : zA g Z k n pc lv (.int y :: .int x :: st) h := by
  intro p e s m args below meth c ls H locs cells slots C E hL hR hS hk hn
  subst hp
  exact lv_iushr C.1 C.2.1 hd hv (kk p e s m args below meth c ls H locs cells slots C E hL hR hS hk hn)
theorem z_ladd {g : zGl} {Z : zZt} {k n pc q : Nat} {lv : List (Option Value)} {st : List Value} {h : zHp} {x y : Int64} (hd : decode Z.1.2.1 pc = .ok (.ladd, 1))  (hp : pc + 1 = q) (kk : zA g Z k n q lv (.long (x + y) :: st) h) : zA g Z k n pc lv (.long y :: .long x :: st) h := by
  intro p e s m args below meth c ls H locs cells slots C E hL hR hS hk hn
  subst hp
  exact lv_ladd C.1 C.2.1 hd (kk p e s m args below meth c ls H locs cells slots C E hL hR hS hk hn)
theorem z_lmul {g : zGl} {Z : zZt} {k n pc q : Nat} {lv : List (Option Value)} {st : List Value} {h : zHp} {x y : Int64} (hd : decode Z.1.2.1 pc = .ok (.lmul, 1))  (hp : pc + 1 = q) (kk : zA g Z k n q lv (.long (x * y) :: st) h) : zA g Z k n pc lv (.long y :: .long x :: st) h := by
  intro p e s m args below meth c ls H locs cells slots C E hL hR hS hk hn
  subst hp
  exact lv_lmul C.1 C.2.1 hd (kk p e s m args below meth c ls H locs cells slots C E hL hR hS hk hn)
theorem z_land {g : zGl} {Z : zZt} {k n pc q : Nat} {lv : List (Option Value)} {st : List Value} {h : zHp} {x y : Int64} (hd : decode Z.1.2.1 pc = .ok (.land, 1))  (hp : pc + 1 = q) (kk : zA g Z k n q lv (.long (x &&& y) :: st) h) : zA g Z k n pc lv (.long y :: .long x :: st) h := by
  intro p e s m args below meth c ls H locs cells slots C E hL hR hS hk hn
  subst hp
  exact lv_land C.1 C.2.1 hd (kk p e s m args below meth c ls H locs cells slots C E hL hR hS hk hn)
theorem z_lor {g : zGl} {Z : zZt} {k n pc q : Nat} {lv : List (Option Value)} {st : List Value} {h : zHp} {x y : Int64} (hd : decode Z.1.2.1 pc = .ok (.lor, 1))  (hp : pc + 1 = q) (kk : zA g Z k n q lv (.long (x ||| y) :: st) h) : zA g Z k n pc lv (.long y :: .long x :: st) h := by
  intro p e s m args below meth c ls H locs cells slots C E hL hR hS hk hn
  subst hp
  exact lv_lor C.1 C.2.1 hd (kk p e s m args below meth c ls H locs cells slots C E hL hR hS hk hn)
theorem z_lsub {g : zGl} {Z : zZt} {k n pc q : Nat} {lv : List (Option Value)} {st : List Value} {h : zHp} {x y : Int64} (hd : decode Z.1.2.1 pc = .ok (.lsub, 1))  (hp : pc + 1 = q) (kk : zA g Z k n q lv (.long (x - y) :: st) h) : zA g Z k n pc lv (.long y :: .long x :: st) h := by
  intro p e s m args below meth c ls H locs cells slots C E hL hR hS hk hn
  subst hp
  exact lv_lsub C.1 C.2.1 hd (kk p e s m args below meth c ls H locs cells slots C E hL hR hS hk hn)
theorem z_ldiv {g : zGl} {Z : zZt} {k n pc q : Nat} {lv : List (Option Value)} {st : List Value} {h : zHp} {x y : Int64} (hd : decode Z.1.2.1 pc = .ok (.ldiv, 1)) (hne : ¬ y = 0) (hp : pc + 1 = q) (kk : zA g Z k n q lv (.long (x / y) :: st) h) : zA g Z k n pc lv (.long y :: .long x :: st) h := by
  intro p e s m args below meth c ls H locs cells slots C E hL hR hS hk hn
  subst hp
  exact lv_ldiv C.1 C.2.1 hd hne (kk p e s m args below meth c ls H locs cells slots C E hL hR hS hk hn)
theorem z_lrem {g : zGl} {Z : zZt} {k n pc q : Nat} {lv : List (Option Value)} {st : List Value} {h : zHp} {x y : Int64} (hd : decode Z.1.2.1 pc = .ok (.lrem, 1)) (hne : ¬ y = 0) (hp : pc + 1 = q) (kk : zA g Z k n q lv (.long (x - x / y * y) :: st) h) : zA g Z k n pc lv (.long y :: .long x :: st) h := by
  intro p e s m args below meth c ls H locs cells slots C E hL hR hS hk hn
  subst hp
  exact lv_lrem C.1 C.2.1 hd hne (kk p e s m args below meth c ls H locs cells slots C E hL hR hS hk hn)
theorem z_lshl {g : zGl} {Z : zZt} {k n pc q : Nat} {lv : List (Option Value)} {st : List Value} {h : zHp} {x v : Int64} {y : Int32} (hd : decode Z.1.2.1 pc = .ok (.lshl, 1)) (hv : x <<< (y.toInt64 &&& 63) = v) (hp : pc + 1 = q) (kk : zA g Z k n q lv (.long v :: st) h) : zA g Z k n pc lv (.int y :: .long x :: st) h := by
  intro p e s m args below meth c ls H locs cells slots C E hL hR hS hk hn
  subst hp
  exact lv_lshl C.1 C.2.1 hd hv (kk p e s m args below meth c ls H locs cells slots C E hL hR hS hk hn)
theorem z_lushr {g : zGl} {Z : zZt} {k n pc q : Nat} {lv : List (Option Value)} {st : List Value} {h : zHp} {x v : Int64} {y : Int32} (hd : decode Z.1.2.1 pc = .ok (.lushr, 1)) (hv : (x.toUInt64 >>> (y.toInt64.toUInt64 &&& Int64.toUInt64 63)).toInt64 = v) (hp : pc + 1 = q) (kk : zA g Z k n q lv (.long v :: st) h) : zA g Z k n pc lv (.int y :: .long x :: st) h := by
  intro p e s m args below meth c ls H locs cells slots C E hL hR hS hk hn
  subst hp
  exact lv_lushr C.1 C.2.1 hd hv (kk p e s m args below meth c ls H locs cells slots C E hL hR hS hk hn)
theorem z_i2l {g : zGl} {Z : zZt} {k n pc q : Nat} {lv : List (Option Value)} {st : List Value} {h : zHp} {x : Int32} {v : Int64} (hd : decode Z.1.2.1 pc = .ok (.i2l, 1)) (hv : x.toInt64 = v) (hp : pc + 1 = q) (kk : zA g Z k n q lv (.long v :: st) h) : zA g Z k n pc lv (.int x :: st) h := by
  intro p e s m args below meth c ls H locs cells slots C E hL hR hS hk hn
  subst hp
  exact lv_i2l C.1 C.2.1 hd hv (kk p e s m args below meth c ls H locs cells slots C E hL hR hS hk hn)
theorem z_l2i {g : zGl} {Z : zZt} {k n pc q : Nat} {lv : List (Option Value)} {st : List Value} {h : zHp} {x : Int64} {v : Int32} (hd : decode Z.1.2.1 pc = .ok (.l2i, 1)) (hv : x.toInt32 = v) (hp : pc + 1 = q) (kk : zA g Z k n q lv (.int v :: st) h) : zA g Z k n pc lv (.long x :: st) h := by
  intro p e s m args below meth c ls H locs cells slots C E hL hR hS hk hn
  subst hp
  exact lv_l2i C.1 C.2.1 hd hv (kk p e s m args below meth c ls H locs cells slots C E hL hR hS hk hn)
theorem z_lcmp {g : zGl} {Z : zZt} {k n pc q : Nat} {lv : List (Option Value)} {st : List Value} {h : zHp} {x y : Int64} (hd : decode Z.1.2.1 pc = .ok (.lcmp, 1))  (hp : pc + 1 = q) (kk : zA g Z k n q lv (.int (lg_cmp x y) :: st) h) : zA g Z k n pc lv (.long y :: .long x :: st) h := by
  intro p e s m args below meth c ls H locs cells slots C E hL hR hS hk hn
  subst hp
  exact W.lcmp C.1 C.2.1 hd (kk p e s m args below meth c ls H locs cells slots C E hL hR hS hk hn)
theorem z_iaddN {g : zGl} {Z : zZt} {k n pc q : Nat} {lv : List (Option Value)} {st : List Value} {h : zHp} {x y : Nat} (hd : decode Z.1.2.1 pc = .ok (.iadd, 1)) (hp : pc + 1 = q) (kk : zA g Z k n q lv (.int (nI (x + y)) :: st) h) : zA g Z k n pc lv (.int (nI y) :: .int (nI x) :: st) h := z_iadd hd hp (by rw [nI_add]; exact kk)
theorem z_imulN {g : zGl} {Z : zZt} {k n pc q : Nat} {lv : List (Option Value)} {st : List Value} {h : zHp} {x y : Nat} (hd : decode Z.1.2.1 pc = .ok (.imul, 1)) (hp : pc + 1 = q) (kk : zA g Z k n q lv (.int (nI (x * y)) :: st) h) : zA g Z k n pc lv (.int (nI y) :: .int (nI x) :: st) h := z_imul hd hp (by rw [nI_mul]; exact kk)
theorem z_eqi {g : zGl} {Z : zZt} {k n pc : Nat} {lv : List (Option Value)} {st : List Value} {h : zHp} {x y : Int32} (hxy : x = y) (kk : zA g Z k n pc lv (.int y :: st) h) : zA g Z k n pc lv (.int x :: st) h := hxy ▸ kk
theorem z_eql {g : zGl} {Z : zZt} {k n pc : Nat} {lv : List (Option Value)} {st : List Value} {h : zHp} {x y : Int64} (hxy : x = y) (kk : zA g Z k n pc lv (.long y :: st) h) : zA g Z k n pc lv (.long x :: st) h := hxy ▸ kk
theorem z_icmp_eq {g : zGl} {Z : zZt} {k n pc q : Nat} {lv : List (Option Value)} {st : List Value} {h : zHp} {x y : Int32} {off : Int} {tg : Nat} (hd : decode Z.1.2.1 pc = .ok (.if_icmp .eq off, 3)) (ht : (pc : Int) + off = (tg : Int)) (hp : pc + 3 = q) (kt : x = y → zA g Z k n tg lv st h) (kf : ¬ x = y → zA g Z k n q lv st h) : zA g Z k n pc lv (.int y :: .int x :: st) h := by
  intro p e s m args below meth c ls H locs cells slots C E hL hR hS hk hn
  subst hp
  exact lv_icmp_eq C.1 C.2.1 hd ht (fun z => kt z p e s m args below meth c ls H locs cells slots C E hL hR hS hk hn) (fun z => kf z p e s m args below meth c ls H locs cells slots C E hL hR hS hk hn)
theorem z_if_eq {g : zGl} {Z : zZt} {k n pc q : Nat} {lv : List (Option Value)} {st : List Value} {h : zHp} {x : Int32} {off : Int} {tg : Nat} (hd : decode Z.1.2.1 pc = .ok (.ifCond .eq off, 3)) (ht : (pc : Int) + off = (tg : Int)) (hp : pc + 3 = q) (kt : x = 0 → zA g Z k n tg lv st h) (kf : ¬ x = 0 → zA g Z k n q lv st h) : zA g Z k n pc lv (.int x :: st) h := by
  intro p e s m args below meth c ls H locs cells slots C E hL hR hS hk hn
  subst hp
  exact lv_if_eq C.1 C.2.1 hd ht (fun z => kt z p e s m args below meth c ls H locs cells slots C E hL hR hS hk hn) (fun z => kf z p e s m args below meth c ls H locs cells slots C E hL hR hS hk hn)
theorem z_icmp_eqN {g : zGl} {Z : zZt} {k n pc q : Nat} {lv : List (Option Value)} {st : List Value} {h : zHp} {x y : Nat} {off : Int} {tg : Nat} (hd : decode Z.1.2.1 pc = .ok (.if_icmp .eq off, 3)) (ht : (pc : Int) + off = (tg : Int)) (hp : pc + 3 = q) (hx : x < 2 ^ 31) (hy : y < 2 ^ 31) (kt : x = y → zA g Z k n tg lv st h) (kf : ¬ x = y → zA g Z k n q lv st h) : zA g Z k n pc lv (.int (nI y) :: .int (nI x) :: st) h := z_icmp_eq hd ht hp (fun z => kt ((nI_eq hx hy).mp z)) (fun z => kf (fun e => z (congrArg nI e)))
theorem z_icmp_ne {g : zGl} {Z : zZt} {k n pc q : Nat} {lv : List (Option Value)} {st : List Value} {h : zHp} {x y : Int32} {off : Int} {tg : Nat} (hd : decode Z.1.2.1 pc = .ok (.if_icmp .ne off, 3)) (ht : (pc : Int) + off = (tg : Int)) (hp : pc + 3 = q) (kt : ¬ x = y → zA g Z k n tg lv st h) (kf : x = y → zA g Z k n q lv st h) : zA g Z k n pc lv (.int y :: .int x :: st) h := by
  intro p e s m args below meth c ls H locs cells slots C E hL hR hS hk hn
  subst hp
  exact lv_icmp_ne C.1 C.2.1 hd ht (fun z => kt z p e s m args below meth c ls H locs cells slots C E hL hR hS hk hn) (fun z => kf z p e s m args below meth c ls H locs cells slots C E hL hR hS hk hn)
theorem z_if_ne {g : zGl} {Z : zZt} {k n pc q : Nat} {lv : List (Option Value)} {st : List Value} {h : zHp} {x : Int32} {off : Int} {tg : Nat} (hd : decode Z.1.2.1 pc = .ok (.ifCond .ne off, 3)) (ht : (pc : Int) + off = (tg : Int)) (hp : pc + 3 = q) (kt : ¬ x = 0 → zA g Z k n tg lv st h) (kf : x = 0 → zA g Z k n q lv st h) : zA g Z k n pc lv (.int x :: st) h := by
  intro p e s m args below meth c ls H locs cells slots C E hL hR hS hk hn
  subst hp
  exact lv_if_ne C.1 C.2.1 hd ht (fun z => kt z p e s m args below meth c ls H locs cells slots C E hL hR hS hk hn) (fun z => kf z p e s m args below meth c ls H locs cells slots C E hL hR hS hk hn)
theorem z_icmp_neN {g : zGl} {Z : zZt} {k n pc q : Nat} {lv : List (Option Value)} {st : List Value} {h : zHp} {x y : Nat} {off : Int} {tg : Nat} (hd : decode Z.1.2.1 pc = .ok (.if_icmp .ne off, 3)) (ht : (pc : Int) + off = (tg : Int)) (hp : pc + 3 = q) (hx : x < 2 ^ 31) (hy : y < 2 ^ 31) (kt : ¬ x = y → zA g Z k n tg lv st h) (kf : x = y → zA g Z k n q lv st h) : zA g Z k n pc lv (.int (nI y) :: .int (nI x) :: st) h := z_icmp_ne hd ht hp (fun z => kt (fun e => z (congrArg nI e))) (fun z => kf ((nI_eq hx hy).mp z))
theorem z_icmp_lt {g : zGl} {Z : zZt} {k n pc q : Nat} {lv : List (Option Value)} {st : List Value} {h : zHp} {x y : Int32} {off : Int} {tg : Nat} (hd : decode Z.1.2.1 pc = .ok (.if_icmp .lt off, 3)) (ht : (pc : Int) + off = (tg : Int)) (hp : pc + 3 = q) (kt : x < y → zA g Z k n tg lv st h) (kf : ¬ x < y → zA g Z k n q lv st h) : zA g Z k n pc lv (.int y :: .int x :: st) h := by
  intro p e s m args below meth c ls H locs cells slots C E hL hR hS hk hn
  subst hp
  exact lv_icmp_lt C.1 C.2.1 hd ht (fun z => kt z p e s m args below meth c ls H locs cells slots C E hL hR hS hk hn) (fun z => kf z p e s m args below meth c ls H locs cells slots C E hL hR hS hk hn)
theorem z_if_lt {g : zGl} {Z : zZt} {k n pc q : Nat} {lv : List (Option Value)} {st : List Value} {h : zHp} {x : Int32} {off : Int} {tg : Nat} (hd : decode Z.1.2.1 pc = .ok (.ifCond .lt off, 3)) (ht : (pc : Int) + off = (tg : Int)) (hp : pc + 3 = q) (kt : x < 0 → zA g Z k n tg lv st h) (kf : ¬ x < 0 → zA g Z k n q lv st h) : zA g Z k n pc lv (.int x :: st) h := by
  intro p e s m args below meth c ls H locs cells slots C E hL hR hS hk hn
  subst hp
  exact lv_if_lt C.1 C.2.1 hd ht (fun z => kt z p e s m args below meth c ls H locs cells slots C E hL hR hS hk hn) (fun z => kf z p e s m args below meth c ls H locs cells slots C E hL hR hS hk hn)
theorem z_icmp_ltN {g : zGl} {Z : zZt} {k n pc q : Nat} {lv : List (Option Value)} {st : List Value} {h : zHp} {x y : Nat} {off : Int} {tg : Nat} (hd : decode Z.1.2.1 pc = .ok (.if_icmp .lt off, 3)) (ht : (pc : Int) + off = (tg : Int)) (hp : pc + 3 = q) (hx : x < 2 ^ 31) (hy : y < 2 ^ 31) (kt : x < y → zA g Z k n tg lv st h) (kf : y ≤ x → zA g Z k n q lv st h) : zA g Z k n pc lv (.int (nI y) :: .int (nI x) :: st) h := z_icmp_lt hd ht hp (fun z => kt ((nI_ltI hx hy).mp z)) (fun z => kf (Nat.not_lt.mp (fun e => z ((nI_ltI hx hy).mpr e))))
theorem z_icmp_ge {g : zGl} {Z : zZt} {k n pc q : Nat} {lv : List (Option Value)} {st : List Value} {h : zHp} {x y : Int32} {off : Int} {tg : Nat} (hd : decode Z.1.2.1 pc = .ok (.if_icmp .ge off, 3)) (ht : (pc : Int) + off = (tg : Int)) (hp : pc + 3 = q) (kt : y ≤ x → zA g Z k n tg lv st h) (kf : ¬ y ≤ x → zA g Z k n q lv st h) : zA g Z k n pc lv (.int y :: .int x :: st) h := by
  intro p e s m args below meth c ls H locs cells slots C E hL hR hS hk hn
  subst hp
  exact lv_icmp_ge C.1 C.2.1 hd ht (fun z => kt z p e s m args below meth c ls H locs cells slots C E hL hR hS hk hn) (fun z => kf z p e s m args below meth c ls H locs cells slots C E hL hR hS hk hn)
theorem z_if_ge {g : zGl} {Z : zZt} {k n pc q : Nat} {lv : List (Option Value)} {st : List Value} {h : zHp} {x : Int32} {off : Int} {tg : Nat} (hd : decode Z.1.2.1 pc = .ok (.ifCond .ge off, 3)) (ht : (pc : Int) + off = (tg : Int)) (hp : pc + 3 = q) (kt : 0 ≤ x → zA g Z k n tg lv st h) (kf : ¬ 0 ≤ x → zA g Z k n q lv st h) : zA g Z k n pc lv (.int x :: st) h := by
  intro p e s m args below meth c ls H locs cells slots C E hL hR hS hk hn
  subst hp
  exact lv_if_ge C.1 C.2.1 hd ht (fun z => kt z p e s m args below meth c ls H locs cells slots C E hL hR hS hk hn) (fun z => kf z p e s m args below meth c ls H locs cells slots C E hL hR hS hk hn)
theorem z_icmp_geN {g : zGl} {Z : zZt} {k n pc q : Nat} {lv : List (Option Value)} {st : List Value} {h : zHp} {x y : Nat} {off : Int} {tg : Nat} (hd : decode Z.1.2.1 pc = .ok (.if_icmp .ge off, 3)) (ht : (pc : Int) + off = (tg : Int)) (hp : pc + 3 = q) (hx : x < 2 ^ 31) (hy : y < 2 ^ 31) (kt : y ≤ x → zA g Z k n tg lv st h) (kf : x < y → zA g Z k n q lv st h) : zA g Z k n pc lv (.int (nI y) :: .int (nI x) :: st) h := z_icmp_ge hd ht hp (fun z => kt ((nI_leI hy hx).mp z)) (fun z => kf (Nat.not_le.mp (fun e => z ((nI_leI hy hx).mpr e))))
theorem z_icmp_gt {g : zGl} {Z : zZt} {k n pc q : Nat} {lv : List (Option Value)} {st : List Value} {h : zHp} {x y : Int32} {off : Int} {tg : Nat} (hd : decode Z.1.2.1 pc = .ok (.if_icmp .gt off, 3)) (ht : (pc : Int) + off = (tg : Int)) (hp : pc + 3 = q) (kt : y < x → zA g Z k n tg lv st h) (kf : ¬ y < x → zA g Z k n q lv st h) : zA g Z k n pc lv (.int y :: .int x :: st) h := by
  intro p e s m args below meth c ls H locs cells slots C E hL hR hS hk hn
  subst hp
  exact lv_icmp_gt C.1 C.2.1 hd ht (fun z => kt z p e s m args below meth c ls H locs cells slots C E hL hR hS hk hn) (fun z => kf z p e s m args below meth c ls H locs cells slots C E hL hR hS hk hn)
theorem z_if_gt {g : zGl} {Z : zZt} {k n pc q : Nat} {lv : List (Option Value)} {st : List Value} {h : zHp} {x : Int32} {off : Int} {tg : Nat} (hd : decode Z.1.2.1 pc = .ok (.ifCond .gt off, 3)) (ht : (pc : Int) + off = (tg : Int)) (hp : pc + 3 = q) (kt : 0 < x → zA g Z k n tg lv st h) (kf : ¬ 0 < x → zA g Z k n q lv st h) : zA g Z k n pc lv (.int x :: st) h := by
  intro p e s m args below meth c ls H locs cells slots C E hL hR hS hk hn
  subst hp
  exact lv_if_gt C.1 C.2.1 hd ht (fun z => kt z p e s m args below meth c ls H locs cells slots C E hL hR hS hk hn) (fun z => kf z p e s m args below meth c ls H locs cells slots C E hL hR hS hk hn)
theorem z_icmp_gtN {g : zGl} {Z : zZt} {k n pc q : Nat} {lv : List (Option Value)} {st : List Value} {h : zHp} {x y : Nat} {off : Int} {tg : Nat} (hd : decode Z.1.2.1 pc = .ok (.if_icmp .gt off, 3)) (ht : (pc : Int) + off = (tg : Int)) (hp : pc + 3 = q) (hx : x < 2 ^ 31) (hy : y < 2 ^ 31) (kt : y < x → zA g Z k n tg lv st h) (kf : x ≤ y → zA g Z k n q lv st h) : zA g Z k n pc lv (.int (nI y) :: .int (nI x) :: st) h := z_icmp_gt hd ht hp (fun z => kt ((nI_ltI hy hx).mp z)) (fun z => kf (Nat.not_lt.mp (fun e => z ((nI_ltI hy hx).mpr e))))
theorem z_icmp_le {g : zGl} {Z : zZt} {k n pc q : Nat} {lv : List (Option Value)} {st : List Value} {h : zHp} {x y : Int32} {off : Int} {tg : Nat} (hd : decode Z.1.2.1 pc = .ok (.if_icmp .le off, 3)) (ht : (pc : Int) + off = (tg : Int)) (hp : pc + 3 = q) (kt : x ≤ y → zA g Z k n tg lv st h) (kf : ¬ x ≤ y → zA g Z k n q lv st h) : zA g Z k n pc lv (.int y :: .int x :: st) h := by
  intro p e s m args below meth c ls H locs cells slots C E hL hR hS hk hn
  subst hp
  exact lv_icmp_le C.1 C.2.1 hd ht (fun z => kt z p e s m args below meth c ls H locs cells slots C E hL hR hS hk hn) (fun z => kf z p e s m args below meth c ls H locs cells slots C E hL hR hS hk hn)
theorem z_if_le {g : zGl} {Z : zZt} {k n pc q : Nat} {lv : List (Option Value)} {st : List Value} {h : zHp} {x : Int32} {off : Int} {tg : Nat} (hd : decode Z.1.2.1 pc = .ok (.ifCond .le off, 3)) (ht : (pc : Int) + off = (tg : Int)) (hp : pc + 3 = q) (kt : x ≤ 0 → zA g Z k n tg lv st h) (kf : ¬ x ≤ 0 → zA g Z k n q lv st h) : zA g Z k n pc lv (.int x :: st) h := by
  intro p e s m args below meth c ls H locs cells slots C E hL hR hS hk hn
  subst hp
  exact lv_if_le C.1 C.2.1 hd ht (fun z => kt z p e s m args below meth c ls H locs cells slots C E hL hR hS hk hn) (fun z => kf z p e s m args below meth c ls H locs cells slots C E hL hR hS hk hn)
theorem z_icmp_leN {g : zGl} {Z : zZt} {k n pc q : Nat} {lv : List (Option Value)} {st : List Value} {h : zHp} {x y : Nat} {off : Int} {tg : Nat} (hd : decode Z.1.2.1 pc = .ok (.if_icmp .le off, 3)) (ht : (pc : Int) + off = (tg : Int)) (hp : pc + 3 = q) (hx : x < 2 ^ 31) (hy : y < 2 ^ 31) (kt : x ≤ y → zA g Z k n tg lv st h) (kf : y < x → zA g Z k n q lv st h) : zA g Z k n pc lv (.int (nI y) :: .int (nI x) :: st) h := z_icmp_le hd ht hp (fun z => kt ((nI_leI hx hy).mp z)) (fun z => kf (Nat.not_le.mp (fun e => z ((nI_leI hx hy).mpr e))))
theorem z_goto {g : zGl} {Z : zZt} {k n pc q : Nat} {lv : List (Option Value)} {st : List Value} {h : zHp} {off : Int} {tg : Nat} (hd : decode Z.1.2.1 pc = .ok (.goto off, 3)) (ht : (pc : Int) + off = (tg : Int)) (kk : zA g Z k n tg lv st h) : zA g Z k n pc lv st h := by
  intro p e s m args below meth c ls H locs cells slots C E hL hR hS hk hn
  exact lv_goto C.1 C.2.1 hd ht (kk p e s m args below meth c ls H locs cells slots C E hL hR hS hk hn)
theorem z_tableIn {g : zGl} {Z : zZt} {k n pc q : Nat} {lv : List (Option Value)} {st : List Value} {h : zHp} {dflt lo hi : Int} {offs : Array Int} {len : Nat} {x : Int32} {off : Int} {tg : Nat} (hd : decode Z.1.2.1 pc = .ok (.tableswitch dflt lo hi offs, len)) (h1 : ¬ x.toInt < lo) (h2 : ¬ hi < x.toInt) (ho : offs[(x.toInt - lo).toNat]? = some off) (ht : (pc : Int) + off = (tg : Int)) (kk : zA g Z k n tg lv st h) : zA g Z k n pc lv (.int x :: st) h := by
  intro p e s m args below meth c ls H locs cells slots C E hL hR hS hk hn
  exact lv_tableIn C.1 C.2.1 hd h1 h2 ho ht (kk p e s m args below meth c ls H locs cells slots C E hL hR hS hk hn)
theorem z_tableOut {g : zGl} {Z : zZt} {k n pc q : Nat} {lv : List (Option Value)} {st : List Value} {h : zHp} {dflt lo hi : Int} {offs : Array Int} {len : Nat} {x : Int32} {tg : Nat} (hd : decode Z.1.2.1 pc = .ok (.tableswitch dflt lo hi offs, len)) (h1 : x.toInt < lo ∨ hi < x.toInt) (ht : (pc : Int) + dflt = (tg : Int)) (kk : zA g Z k n tg lv st h) : zA g Z k n pc lv (.int x :: st) h := by
  intro p e s m args below meth c ls H locs cells slots C E hL hR hS hk hn
  exact lv_tableOut C.1 C.2.1 hd h1 ht (kk p e s m args below meth c ls H locs cells slots C E hL hR hS hk hn)
theorem z_lookup {g : zGl} {Z : zZt} {k n pc q : Nat} {lv : List (Option Value)} {st : List Value} {h : zHp} {dflt : Int} {ps : Array (Int × Int)} {len : Nat} {x : Int32} {off : Int} {tg : Nat} (hd : decode Z.1.2.1 pc = .ok (.lookupswitch dflt ps, len)) (hps : (ps.toList.zip (ps.toList.drop 1)).all (fun (a, next) => a.1 < next.1) = true) (ho : Op.lookupswitch.offset ps.toList dflt x.toInt = off) (ht : (pc : Int) + off = (tg : Int)) (kk : zA g Z k n tg lv st h) : zA g Z k n pc lv (.int x :: st) h := by
  intro p e s m args below meth c ls H locs cells slots C E hL hR hS hk hn
  exact lv_lookup C.1 C.2.1 hd hps ho ht (kk p e s m args below meth c ls H locs cells slots C E hL hR hS hk hn)
