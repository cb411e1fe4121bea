/-! ===== rows of calls into the library: Math.min, Math.max, System.arraycopy ===== -/
def qMn (x y : Int32) : Int32 := if y < x then y else x
def qMx (x y : Int32) : Int32 := if x < y then y else x
theorem z_mmin {g : zGl} {Z : zZt} {k n pc q : Nat} {lv : List (Option Value)} {st : List Value} {h : zHp} {idx : Nat} {x y : Int32} (hd : decode Z.1.2.1 pc = .ok (.invokestatic idx, 3)) (h1 : Cond.methodLink Z.1.1.cls idx mJ9_min_7cf53.1 ∈ zTb) (hf : 1 ≤ Z.2.2.1.frames) (hlo : (st.map fun v => v.category).sum + 13 ≤ Z.2.2.1.locals) (hp : pc + 3 = q) (kk : zA g Z k n q lv (.int (qMn x y) :: st) h) : zA g Z k n pc lv (.int y :: .int x :: st) h := by
  intro p e s m args below meth c ls H locs cells slots C E hL hR hS hk hn
  subst hp
  have hts := C.2.2.2.2.2.1
  exact va_mmin C.1 C.2.1 (C.2.2.2.1.trans hL.1.symm) C.2.2.2.2.1 (hts _ h1) (hts _ zt_mJ9_min_7cf53) (hts _ zw17) (hts _ zw332) hf hlo (by omega) (by omega) hd (kk p e s m args below meth c ls H locs cells slots C E hL hR hS hk hn)
theorem z_mmax {g : zGl} {Z : zZt} {k n pc q : Nat} {lv : List (Option Value)} {st : List Value} {h : zHp} {idx : Nat} {x y : Int32} (hd : decode Z.1.2.1 pc = .ok (.invokestatic idx, 3)) (h1 : Cond.methodLink Z.1.1.cls idx mJ9_max_7cf53.1 ∈ zTb) (hf : 1 ≤ Z.2.2.1.frames) (hlo : (st.map fun v => v.category).sum + 13 ≤ Z.2.2.1.locals) (hp : pc + 3 = q) (kk : zA g Z k n q lv (.int (qMx x y) :: st) h) : zA g Z k n pc lv (.int y :: .int x :: st) h := by
  intro p e s m args below meth c ls H locs cells slots C E hL hR hS hk hn
  subst hp
  have hts := C.2.2.2.2.2.1
  exact va_mmax C.1 C.2.1 (C.2.2.2.1.trans hL.1.symm) C.2.2.2.2.1 (hts _ h1) (hts _ zt_mJ9_max_7cf53) (hts _ zw17) (hts _ zw830) hf hlo (by omega) (by omega) hd (kk p e s m args below meth c ls H locs cells slots C E hL hR hS hk hn)
theorem zy_acX6 : Cond.methodLink RX6 62 arraycopyName ∈ zTb := List.mem_filter.mpr ⟨List.mem_append_right _ (List.mem_of_getElem? (i := 341) (by decide +kernel)), by decide +kernel⟩
theorem zy_acX2 : Cond.methodLink RX2 24 arraycopyName ∈ zTb := List.mem_filter.mpr ⟨List.mem_append_right _ (List.mem_of_getElem? (i := 348) (by decide +kernel)), by decide +kernel⟩
theorem zy_ac_s : Cond.static arraycopyName ∈ zTb := List.mem_filter.mpr ⟨List.mem_append_right _ (List.mem_of_getElem? (i := 342) (by decide +kernel)), by decide +kernel⟩
theorem zy_ac_n : Cond.native arraycopyName ∈ zTb := List.mem_filter.mpr ⟨List.mem_append_right _ (List.mem_of_getElem? (i := 343) (by decide +kernel)), by decide +kernel⟩
theorem zy_ac_i : Cond.initialized "java/lang/System" ∈ zTb := List.mem_filter.mpr ⟨List.mem_append_right _ (List.mem_of_getElem? (i := 15) (by decide +kernel)), by decide +kernel⟩
theorem zI_cg {C : ClassId} {N : Nat} {f f' : Nat → Int32} (h : ∀ j, j < N → f j = f' j) : vp_cell C (N, .inl f) = vp_cell C (N, .inl f') := by
  rw [vp_cell_i, vp_cell_i, arrV, arrV]
  congr 2
  funext j
  rw [h j.val j.isLt]
/-- a row copied as a whole -/
theorem z_copy {g : zGl} {Z : zZt} {k n pc q : Nat} {lv : List (Option Value)} {st : List Value} {h : zHp} {idx a b N : Nat} {f f' : Nat → Int32} (hd : decode Z.1.2.1 pc = .ok (.invokestatic idx, 3)) (h1 : Cond.methodLink Z.1.1.cls idx arraycopyName ∈ zTb) (hca : h.1 a = some (zI g N f)) (hcb : h.1 b = some (zI g N f')) (hN : N < 2 ^ 31) (hf : 1 ≤ Z.2.2.1.frames) (hlo : (st.map fun v => v.category).sum + 18 ≤ Z.2.2.1.locals) (hp : pc + 3 = q) (kk : zA g Z k n q lv st (zup h b (zI g N f))) : zA g Z k n pc lv (.int (nI N) :: .int (nI 0) :: .ref b :: .int (nI 0) :: .ref a :: st) h := by
  intro p e s m args below meth c ls H locs cells slots C E hL hR hS hk hn T hT X
  subst hp
  have hts := C.2.2.2.2.2.1
  have hK := C.2.2.2.2.2.2.2.2.1
  obtain ⟨-, ata⟩ := hR.1 a _ hca
  obtain ⟨hA, atb⟩ := hR.1 b _ hcb
  have ea : H[a]? = some (vp_cell (zgI g) (N, .inl f)) := ata
  have eb : H[b]? = some (vp_cell (zgI g) (N, .inl f')) := atb
  obtain ⟨-, ka, hka, _, hkka⟩ := (hK.2 0 _ rfl).1 N (fun j => .int (f j))
  obtain ⟨-, kb, hkb, _, hkkb⟩ := (hK.2 0 _ rfl).1 N (fun j => .int (f' j))
  have c0 : (nI 0).toNatClampNeg = 0 := nI_clamp (by decide)
  have cN : (nI N).toNatClampNeg = N := nI_clamp hN
  have t0 : (nI 0).toInt = (0 : Nat) := nI_toInt (by decide)
  have tN : (nI N).toInt = (N : Int) := nI_toInt hN
  have hw : nativeFrameWords "java/lang/System" "arraycopy" 5 + 11 = 18 := by decide
  have hloc : 2 * (F0 m pc ls (.int (nI N) :: .int (nI 0) :: .ref b :: .int (nI 0) :: .ref a :: st)).monitorRoom + (st.map fun v => v.category).sum + (nativeFrameWords "java/lang/System" "arraycopy" 5 + 11) ≤ Z.2.2.1.locals := by
    show 2 * 0 + _ + _ ≤ _
    omega
  obtain ⟨vm', X', step⟩ := X.arraycopy C.1 C.2.2.2.2.1 (hts _ h1) (hts _ zy_ac_n) (hts _ zy_ac_s) (hts _ zy_ac_i) (src := a) (dst := b) (cs := vp_cell (zgI g) (N, .inl f)) (cd := vp_cell (zgI g) (N, .inl f')) (srcPos := nI 0) (destPos := nI 0) (n := nI N)
    (hT ▸ ea) (hT ▸ eb) (fun _ q => by cases q) (fun _ q => by cases q) (fun q => by cases q) (fun q => by cases q) hka hkb hkka hkkb (by rfl) (nI_pos (by decide)) (nI_pos (by decide)) (nI_pos hN)
    (by rw [t0, tN]; show ¬ _ > ((arrV (zgI g) N (fun j => .int (f j))).slots.size : Int); rw [arrV_size]; omega)
    (by rw [t0, tN]; show ¬ _ > ((arrV (zgI g) N (fun j => .int (f' j))).slots.size : Int); rw [arrV_size]; omega)
    (fun vm1 _ i hi => by
      rw [cN] at hi
      have e9 : (vp_cell (zgI g) (N, .inl f)).slots.getD ((nI 0).toNatClampNeg + i) .null = .int (f i) := by
        rw [c0, Nat.zero_add, Array.getD_eq_getD_getElem?]
        show ((arrV (zgI g) N (fun j => .int (f j))).slots[i]?).getD _ = _
        rw [arrV_read _ _ hi]
        rfl
      rw [e9]
      exact ⟨rfl, trivial⟩)
    (g := F0 m pc ls (.int (nI N) :: .int (nI 0) :: .ref b :: .int (nI 0) :: .ref a :: st)) rfl (hL.1.trans C.2.2.2.1.symm) (rest := st) rfl (C.2.1 ▸ hd) hf hloc
  have ec : copied (vp_cell (zgI g) (N, .inl f)) (vp_cell (zgI g) (N, .inl f')) (nI 0) (nI 0) (nI N) = vp_cell (zgI g) (N, .inl f) := by
    refine (va_copied (fun z => Value.int z) (zgI g) (zgI g) f f' (by rw [c0, cN]; omega)).trans ?_
    rw [c0, cN]
    exact zI_cg (fun j hj => cpy_all j hj)
  rw [ec] at X' step
  have hb : b < H.size := (Array.getElem?_eq_some_iff.mp eb).1
  have hh : ((T.setVm vm').setCell b (vp_cell (zgI g) (N, .inl f))).heap = H.setIfInBounds b (vp_cell (zgI g) (N, .inl f)) := by rw [← hT]; rfl
  have hz : (H.setIfInBounds b (vp_cell (zgI g) (N, .inl f))).size = H.size := Array.size_setIfInBounds
  have ho : ∀ q : Nat, q ≠ b → (H.setIfInBounds b (vp_cell (zgI g) (N, .inl f)))[q]? = H[q]? := fun q hq => by simp [Array.getElem?_setIfInBounds, Ne.symm hq]
  have hat : (H.setIfInBounds b (vp_cell (zgI g) (N, .inl f)))[b]? = some (vp_cell (zgI g) (N, .inl f)) := by simp [Array.getElem?_setIfInBounds, hb]
  obtain ⟨t, a1, b1⟩ := kk p e s m args below meth c ls _ _ cells slots C E hL (zRp_up hR hA hat hz ho) ⟨by rw [hz]; exact hS.1, fun q g1 g2 => (ho q (fun e1 => g2 (e1 ▸ hA))).trans (hS.2.1 q g1 g2), fun q hq => by
    rcases List.mem_append.mp hq with h8 | h8
    · exact hS.2.2 q h8
    · obtain ⟨z, -, rfl⟩ := List.mem_map.mp h8
      exact hA⟩ hk hn _ hh X'
  exact ⟨t, step t a1, b1⟩
