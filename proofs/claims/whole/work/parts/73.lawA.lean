/-! ===== the law: its body's rows ===== -/
/-- what is known at the law's start -/
def zEl (g : zGl) (b0 L : Nat) (xs : Nat → Int32) : Array Value → State → Code → Prop := fun args s _ => args = #[Value.ref b0] ∧ zNc3 s ∧ va_X b0 L xs s s.heap ∧ b0 < s.heap.size ∧ zgB g = s.heap.size
def zZl (g : zGl) (nm : String) (b0 L : Nat) (xs : Nat → Int32) : zZt := ((⟨RL, nm, ""⟩, cL_law, 7, ret, 0, 0), zEl g b0 L xs, room_1, fun below args s => lw_Z below args s)
theorem z_le {g : zGl} {Z : zZt} {k n k' n' pc : Nat} {lv : List (Option Value)} {st : List Value} {h : zHp} (hk : k' ≤ k) (hn : n' ≤ n) (kk : zA g Z k' n' pc lv st h) : zA g Z k n pc lv st h := by
  intro p e s m args below meth c ls H locs cells slots C E hL hR hS h1 h2
  exact kk p e s m args below meth c ls H locs cells slots C E hL hR hS (by omega) (by omega)
theorem z_forget {g : zGl} {Z : zZt} {k n pc : Nat} {lv : List (Option Value)} {st : List Value} {h : zHp} (kk : zA g Z k n pc lv st (h.1, none)) : zA g Z k n pc lv st h := by
  intro p e s m args below meth c ls H locs cells slots C E hL hR hS h1 h2
  exact kk p e s m args below meth c ls H locs cells slots C E hL ⟨hR.1, fun n hn => by cases hn⟩ hS h1 h2
theorem z_sld {g : zGl} {nm : String} {b0 L : Nat} {xs : Nat → Int32} {k n pc q j : Nat} {lv : List (Option Value)} {st : List Value} {h : zHp} (hd : decode cL_law pc = .ok (.iaload, 1)) (hj : j < L) (hL : L < 2 ^ 31) (hp : pc + 1 = q) (kk : zA g (zZl g nm b0 L xs) k n q lv (.int (xs j) :: st) h) : zA g (zZl g nm b0 L xs) k n pc lv (.int (nI j) :: .ref b0 :: st) h := by
  intro p e s m args below meth c ls H locs cells slots C E hL2 hR hS hk hn
  subst hp
  obtain ⟨-, -, hX, hb, hB⟩ := id E
  refine va_sld (A := zFr g) C.1 C.2.1 hX hb (fun h9 => by have h8 : zgB g ≤ b0 := h9; omega) hS (z_in hj hL) hd ?_
  rw [nI_clamp (by omega)]
  exact kk p e s m args below meth c ls H locs cells slots C E hL2 hR hS hk hn
theorem z_slen {g : zGl} {nm : String} {b0 L : Nat} {xs : Nat → Int32} {k n pc q : Nat} {lv : List (Option Value)} {st : List Value} {h : zHp} (hd : decode cL_law pc = .ok (.arraylength, 1)) (hp : pc + 1 = q) (kk : zA g (zZl g nm b0 L xs) k n q lv (.int (nI L) :: st) h) : zA g (zZl g nm b0 L xs) k n pc lv (.ref b0 :: st) h := by
  intro p e s m args below meth c ls H locs cells slots C E hL2 hR hS hk hn
  subst hp
  obtain ⟨-, -, hX, hb, hB⟩ := id E
  exact va_slen (A := zFr g) C.1 C.2.1 hX hb (fun h9 => by have h8 : zgB g ≤ b0 := h9; omega) hS hd (kk p e s m args below meth c ls H locs cells slots C E hL2 hR hS hk hn)
theorem z_lawret {g : zGl} {nm : String} {b0 L : Nat} {xs : Nat → Int32} {k n pc : Nat} {lv : List (Option Value)} {h : zHp} (hd : decode cL_law pc = .ok (.ireturn, 1)) : zA g (zZl g nm b0 L xs) k n pc lv [.int (nI 1)] h := by
  intro p e s m args below meth c ls H locs cells slots C E hL hR hS hk hn
  obtain ⟨rfl, -, -, -, hB⟩ := id E
  have hk' : cells + k ≤ 601024 := hk
  have hn' : slots + n ≤ 7293034 := hn
  refine W.widen (k := 601024) (n := 7293034) (by omega) (by omega) ?_
  refine va_forget (fun q hq => by have h9 : zgB g ≤ q.base := hS.2.2 q hq; omega) ?_
  exact lw_ret C.1 C.2.1 C.2.2.1 C.2.2.2.2.2.2.1 hd
theorem zCW_blind {g : zGl} {h : zHp} {av : List Value} : FrameBlind (va_Pc av (fun U => zPr g h U ∧ zNc3 U)) := by
  intro a U gf mk q
  obtain ⟨q0, ⟨q1, q2⟩, q3⟩ := q
  exact ⟨q0, ⟨q1, zIv_moved (s := U) (U := U.calling gf mk a) (State.WarmedH.refl U) (Nat.le_refl _) (fun _ _ _ => rfl) q2⟩, zNc3_moved (s := U) (U := U.calling gf mk a) (State.WarmedH.refl U) q3⟩
/-- a call of a wrapper -/
theorem z_cSW {g : zGl} {nm : String} {b0 L : Nat} {xs : Nat → Int32} {k n pc q : Nat} {lv : List (Option Value)} {st : List Value} {h : zHp} {idx : Nat} {M : zMt} {hh : List (Nat × Nat × Nat × Nat)} {av rest : List Value} {P : Option Value → zHp → Prop} {kc nc : Nat} (hd : decode cL_law pc = .ok (.invokestatic idx, 3))
    (hlk : Cond.methodLink RL idx M.1 ∈ zTb) (hco : Cond.codeWith M.1 M.2.1 M.2.2.1 M.2.2.2.1 hh ∈ zTb) (hin : Cond.initialized M.1.cls ∈ zTb) (hs : Cond.static M.1 ∈ zTb) (hnm : M.1.cls ≠ "java/lang/invoke/MethodHandle" ∧ M.1.cls ≠ "java/lang/invoke/VarHandle" ∧ (parseMethodDescriptor M.1.desc).map (fun d => d.parameters.length) = some av.length)
    (hf : zFit room_1 M = true) (hst : st = av.reverse ++ rest) (hw : (rest.map fun v => v.category).sum ≤ 8) (hc : zCW g M hh av h P kc nc) (hkc : kc ≤ k) (hnc : nc ≤ n) (hp : pc + 3 = q) (kk : ∀ (v : Option Value) (h' : zHp), P v h' → zA g (zZl g nm b0 L xs) (k - kc) (n - nc) q lv (v.toList ++ rest) h') : zA g (zZl g nm b0 L xs) k n pc lv st h := by
  intro p e s m args below meth c ls H locs cells slots C E hL hR hS hk hn
  subst hp
  have hts := C.2.2.2.2.2.1
  have hI := C.2.2.2.2.2.2.2.2
  have hk' : cells + k ≤ room_1.cells := hk
  have hn' : slots + n ≤ room_1.slots := hn
  have go : ∀ (v : Option Value) (h' : zHp) (H1 : Heap) (locs1 : List Loc), P v h' → zRp g h' H1 → va_S (zFr g) s.heap H1 locs1 → W p g.1 e room_1 s m args below meth c H1 locs1 (cells + kc) (slots + nc) (lw_Z below args s) (F0 m (pc + 3) ls (v.toList ++ rest)) := fun v h' H1 locs1 a1 a2 a3 => kk v h' a1 p e s m args below meth c ls H1 locs1 _ _ C E hL a2 a3 (by show cells + kc + (k - kc) ≤ room_1.cells; omega) (by show slots + nc + (n - nc) ≤ room_1.slots; omega)
  have hG : GoodIn zTb (va_wsS RL idx M.1 (zWsW M hh)) := by
    intro w hw
    have h9 : w ∈ zTb := by
      rcases List.mem_append.mp hw with h1 | h1
      · rcases List.mem_cons.mp h1 with rfl | h1
        · exact hlk
        · rcases List.mem_cons.mp h1 with rfl | h1
          · exact hs
          · rcases List.mem_singleton.mp h1 with rfl
            exact hin
      · rcases List.mem_cons.mp h1 with rfl | h1
        · exact hco
        · exact h1
    exact ⟨h9, zTb_good h9⟩
  exact z_after (vx_runSW (Ts := zTb) (own := RL) ⟨C.1, C.2.1, C.2.2.2.1, C.2.2.2.2.1, hts⟩ hc (vx_cwSW av.length hts hG rfl rfl rfl hnm (zFit_use hf)) ⟨zCW_blind, fun U hU hW => ⟨rfl, ⟨by rw [hU]; exact hR, zIv_body hI hS hU hW⟩, zNc3_moved hW E.2.1⟩⟩ rfl rfl hL.1 hst (lv_room hw) hd ⟨by omega, by omega⟩) hS go
/-- the law's heap: the component, the reference, the row of one long -/
def zHE (g : zGl) (w : Nat → Int64) : zHp := zup (fun _ => none, none) (zgB g + 298) (zJ g 1 w)
def zHl (g : zGl) (d u : Nat → Nat → Int32) (w : Nat → Int64) : zHp := zpT g (zpM g (zHE g w) (zgB g + 286) u) (zgB g) d
theorem zTM {g : zGl} {h : zHp} {b m : Nat} {d u : Nat → Nat → Int32} (hbm : b + 286 ≤ m) : zpT g (zpM g h m u) b d = zpM g (zpT g h b d) m u := by
  refine Prod.ext ?_ rfl
  funext q
  by_cases h1 : b ≤ q ∧ q < b + 286
  · rw [zpM_o (by omega)]
    simp only [zpT]
    rw [if_pos h1, if_pos h1]
  · rw [zpT_o (by omega)]
    by_cases h2 : m ≤ q ∧ q < m + 12
    · simp only [zpM]
      rw [if_pos h2, if_pos h2]
    · rw [zpM_o (by omega), zpM_o (by omega), zpT_o (by omega)]
theorem zHl_M {g : zGl} {d u : Nat → Nat → Int32} {w : Nat → Int64} : zHl g d u w = zpM g (zpT g (zHE g w) (zgB g) d) (zgB g + 286) u := zTM (Nat.le_refl _)
theorem zHl_o {g : zGl} {u : Nat → Nat → Int32} {w : Nat → Int64} : (zpM g (zHE g w) (zgB g + 286) u).1 (zgB g + 298) = some (zJ g 1 w) := by
  rw [zpM_o (by omega)]
  exact zup_at _ _ _
theorem zHl_w {g : zGl} {u : Nat → Nat → Int32} {w w' : Nat → Int64} : zup (zpM g (zHE g w) (zgB g + 286) u) (zgB g + 298) (zJ g 1 w') = zpM g (zHE g w') (zgB g + 286) u := by
  refine Prod.ext ?_ rfl
  funext q
  by_cases hq : q = zgB g + 298
  · subst hq
    rw [zup_at, zHl_o]
  · rw [zup_ne hq]
    by_cases h2 : zgB g + 286 ≤ q ∧ q < zgB g + 286 + 12
    · simp only [zpM]
      rw [if_pos h2, if_pos h2]
    · rw [zpM_o (by omega), zpM_o (by omega), zHE, zHE, zup_ne hq, zup_ne hq]
theorem zMl_o {g : zGl} {d u : Nat → Nat → Int32} {w : Nat → Int64} : (zpM g (zpT g (zHE g w) (zgB g) d) (zgB g + 286) u).1 (zgB g + 298) = some (zJ g 1 w) := by
  rw [zpM_o (by omega), zpT_o (by omega)]
  exact zup_at _ _ _
theorem cmp_0 (x : Int64) : lg_cmp x x = nI 0 := by
  have h1 : ¬ lg_cmp x x < 0 := fun h => Int64.lt_irrefl ((lg_cmp_lt x x).mp h)
  have h2 : ¬ 0 < lg_cmp x x := fun h => Int64.lt_irrefl ((lg_cmp_gt x x).mp h)
  exact Int32.le_antisymm (Int32.not_lt.mp h2) (Int32.not_lt.mp h1)
/-- a long out of two ints -/
def zLg (x y : Int32) : Int64 := (x.toInt64 <<< ((nI 32).toInt64 &&& 63)) ||| (y.toInt64 &&& 4294967295)
theorem lN_of {z : Int64} {U : Nat} (hU : U ≤ 10 ^ 15) (h0 : 0 < U) (hz : qIn z 0 (lN U - 1) = true) : ∃ Y, Y < 10 ^ 15 ∧ z = lN Y := by
  rw [qIn_u h0 (by omega), Bool.and_eq_true, decide_eq_true_eq, decide_eq_true_eq] at hz
  obtain ⟨h1, h2⟩ := hz
  rw [Int64.lt_iff_toInt_lt, show (0 : Int64).toInt = 0 by decide] at h1
  rw [Int64.lt_iff_toInt_lt, lN_tI (by omega)] at h2
  refine ⟨z.toInt.toNat, by omega, Int64.toInt_inj.mp ?_⟩
  rw [lN_tI (by omega)]
  omega
