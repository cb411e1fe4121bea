/-! ===== the component: methods that write ===== -/
theorem z_copyT {g : zGl} {Z : zZt} {k n pc q : Nat} {lv : List (Option Value)} {st : List Value} {h : zHp} {idx b c0 c1 N : Nat} {d : Nat → Nat → Int32} (hd : decode Z.1.2.1 pc = .ok (.invokestatic idx, 3)) (h1 : Cond.methodLink Z.1.1.cls idx arraycopyName ∈ zTb) (hc0 : zTl c0 = some N) (hc1 : zTl c1 = some N) (hf : 1 ≤ Z.2.2.1.frames) (hlo : (st.map fun v => v.category).sum + 18 ≤ Z.2.2.1.locals) (hp : pc + 3 = q) (kk : zA g Z k n q lv st (zpT g h b (va_up d c1 (d c0)))) : zA g Z k n pc lv (.int (nI N) :: .int (nI 0) :: .ref (b + c1) :: .int (nI 0) :: .ref (b + c0) :: st) (zpT g h b d) :=
  z_copy hd h1 (zpT_a hc0) (zpT_a hc1) (zTl_lt hc0).2 hf hlo hp (by rw [zpT_row hc1]; exact kk)
theorem z_gen {g : zGl} {Z : zZt} {k n pc : Nat} {lv : List (Option Value)} {st : List Value} {h : zHp} {b : Nat} {D : Nat → Nat → Int32} {P : (Nat → Nat → Int32) → Prop} (hP : P D) (kk : ∀ D, P D → zA g Z k n pc lv st (zpT g h b D)) : zA g Z k n pc lv st (zpT g h b D) := kk D hP
/-- nothing is written but from o on, w cells -/
def zOut (d d' : Nat → Nat → Int32) (o w : Nat) : Prop := ∀ c, c < o ∨ o + w ≤ c → d' c = d c
def zTU (g : zGl) (h : zHp) (b : Nat) (P : (Nat → Nat → Int32) → Prop) (v : Option Value) : Option Value → zHp → Prop := fun v' h' => v' = v ∧ ∃ d', h' = zpT g h b d' ∧ P d'
set_option maxRecDepth 100000 in
set_option maxHeartbeats 4000000 in
theorem ct_X2_makeClaim {g : zGl} {h : zHp} {b p i : Nat} {x y z : Int32} {d : Nat → Nat → Int32} (hp : zNo p) (hi : i < 48) : zC g mX2_makeClaim [.ref (b + p), .int (nI i), .int x, .int y, .int z] (zpT g h b d) (zU (zpT g h b (va_up (va_up (va_up (va_up d (p + 1) (va_up (d (p + 1)) i (nI 1))) (p + 2) (va_up (d (p + 2)) i x)) (p + 3) (va_up (d (p + 3)) i y)) (p + 4) (va_up (d (p + 4)) i z)))) 0 0 := by
  refine zC_ofA (lv := [some (.ref (b + p)), some (.int (nI i)), some (.int x), some (.int y), some (.int z)]) (by decide) rfl (Nat.le_of_ble_eq_true rfl) ?_
  have e1 : ∀ X, va_up d (p + 1) X (p + 2) = d (p + 2) := fun X => zu_ne (by omega)
  have e2 : ∀ X Y, va_up (va_up d (p + 1) X) (p + 2) Y (p + 3) = d (p + 3) := fun X Y => by rw [zu_ne (by omega), zu_ne (by omega)]
  have e3 : ∀ X Y W, va_up (va_up (va_up d (p + 1) X) (p + 2) Y) (p + 3) W (p + 4) = d (p + 4) := fun X Y W => by rw [zu_ne (by omega), zu_ne (by omega), zu_ne (by omega)]
  refine z_aload_n (q := 1) dX2_makeClaim_0 rfl rfl ?_
  refine z_get (q := 4) dX2_makeClaim_1 zfX2_9 (by first | exact zT_o hw | exact zT_w hw rfl | exact zT_N (zNo_w hw) | exact zT_n (zNo_w hw) (by decide) | exact zT_N hp | exact zT_n hp (by decide) | exact zT_o hv | exact zT_w hv rfl | exact zT_N hv | exact zT_n hv (by decide) | exact zT_N (zNo_w hv)) rfl rfl ?_
  refine z_iload_n (q := 5) dX2_makeClaim_4 rfl rfl ?_
  refine z_iconst (q := 6) dX2_makeClaim_5 zci_1 rfl ?_
  refine z_iastT (q := 7) dX2_makeClaim_6 (zNo_T hp (by decide)) (by omega) rfl ?_
  refine z_aload_n (q := 8) dX2_makeClaim_7 rfl rfl ?_
  refine z_get (q := 11) dX2_makeClaim_8 zfX2_15 (by first | exact zT_o hw | exact zT_w hw rfl | exact zT_N (zNo_w hw) | exact zT_n (zNo_w hw) (by decide) | exact zT_N hp | exact zT_n hp (by decide) | exact zT_o hv | exact zT_w hv rfl | exact zT_N hv | exact zT_n hv (by decide) | exact zT_N (zNo_w hv)) rfl rfl ?_
  refine z_iload_n (q := 12) dX2_makeClaim_11 rfl rfl ?_
  refine z_iload_n (q := 13) dX2_makeClaim_12 rfl rfl ?_
  refine z_iastT (q := 14) dX2_makeClaim_13 (zNo_T hp (by decide)) (by omega) rfl ?_
  rw [e1]
  refine z_aload_n (q := 15) dX2_makeClaim_14 rfl rfl ?_
  refine z_get (q := 18) dX2_makeClaim_15 zfX2_18 (by first | exact zT_o hw | exact zT_w hw rfl | exact zT_N (zNo_w hw) | exact zT_n (zNo_w hw) (by decide) | exact zT_N hp | exact zT_n hp (by decide) | exact zT_o hv | exact zT_w hv rfl | exact zT_N hv | exact zT_n hv (by decide) | exact zT_N (zNo_w hv)) rfl rfl ?_
  refine z_iload_n (q := 19) dX2_makeClaim_18 rfl rfl ?_
  refine z_iload_n (q := 20) dX2_makeClaim_19 rfl rfl ?_
  refine z_iastT (q := 21) dX2_makeClaim_20 (zNo_T hp (by decide)) (by omega) rfl ?_
  rw [e2]
  refine z_aload_n (q := 22) dX2_makeClaim_21 rfl rfl ?_
  refine z_get (q := 25) dX2_makeClaim_22 zfX2_21 (by first | exact zT_o hw | exact zT_w hw rfl | exact zT_N (zNo_w hw) | exact zT_n (zNo_w hw) (by decide) | exact zT_N hp | exact zT_n hp (by decide) | exact zT_o hv | exact zT_w hv rfl | exact zT_N hv | exact zT_n hv (by decide) | exact zT_N (zNo_w hv)) rfl rfl ?_
  refine z_iload_n (q := 26) dX2_makeClaim_25 rfl rfl ?_
  refine z_iload (q := 28) dX2_makeClaim_26 rfl rfl ?_
  refine z_iastT (q := 29) dX2_makeClaim_28 (zNo_T hp (by decide)) (by omega) rfl ?_
  rw [e3]
  exact z_ret dX2_makeClaim_29 rfl (⟨rfl, rfl⟩)
/-- behind i of the four rows of the notes -/
def zNq (d D : Nat → Nat → Int32) (p q i : Nat) : Prop := (∀ j, 1 ≤ j ∧ j ≤ i → D (p + j) = d (q + j)) ∧ zOut d D p 5
theorem zNq_s {d D : Nat → Nat → Int32} {p q i : Nat} (h : zNq d D p q i) (hi : i < 4) (hpq : p + 5 ≤ q ∨ q + 5 ≤ p) : zNq d (va_up D (p + (i + 1)) (D (q + (i + 1)))) p q (i + 1) := by
  refine ⟨fun j hj => ?_, fun c hc => ?_⟩
  · by_cases hji : j = i + 1
    · subst hji
      rw [zu_eq]
      exact h.2 _ (by omega)
    · rw [zu_ne (by omega)]
      exact h.1 j (by omega)
  · rw [zu_ne (by omega)]
    exact h.2 c hc
set_option maxRecDepth 100000 in
set_option maxHeartbeats 4000000 in
theorem ct_X2_copyFrom {g : zGl} {h : zHp} {b p q : Nat} {d : Nat → Nat → Int32} (hp : zNo p) (hv : zNo q) (hpq : p + 5 ≤ q ∨ q + 5 ≤ p) : zC g mX2_copyFrom [.ref (b + p), .ref (b + q)] (zpT g h b d) (zTU g h b (fun D => zNq d D p q 4) none) 0 0 := by
  refine zC_ofA (lv := [some (.ref (b + p)), some (.ref (b + q))]) (by decide) rfl (Nat.le_of_ble_eq_true rfl) ?_
  refine z_gen (P := fun D => zNq d D p q 0) ⟨fun j hj => by omega, fun c _ => rfl⟩ ?_
  intro D hq
  refine z_aload_n (q := 1) dX2_copyFrom_0 rfl rfl ?_
  refine z_get (q := 4) dX2_copyFrom_1 zfX2_9 (by first | exact zT_o hw | exact zT_w hw rfl | exact zT_N (zNo_w hw) | exact zT_n (zNo_w hw) (by decide) | exact zT_N hp | exact zT_n hp (by decide) | exact zT_o hv | exact zT_w hv rfl | exact zT_N hv | exact zT_n hv (by decide) | exact zT_N (zNo_w hv)) rfl rfl ?_
  refine z_iconst (q := 5) dX2_copyFrom_4 zci_0 rfl ?_
  refine z_aload_n (q := 6) dX2_copyFrom_5 rfl rfl ?_
  refine z_get (q := 9) dX2_copyFrom_6 zfX2_9 (by first | exact zT_o hw | exact zT_w hw rfl | exact zT_N (zNo_w hw) | exact zT_n (zNo_w hw) (by decide) | exact zT_N hp | exact zT_n hp (by decide) | exact zT_o hv | exact zT_w hv rfl | exact zT_N hv | exact zT_n hv (by decide) | exact zT_N (zNo_w hv)) rfl rfl ?_
  refine z_iconst (q := 10) dX2_copyFrom_9 zci_0 rfl ?_
  refine z_aload_n (q := 11) dX2_copyFrom_10 rfl rfl ?_
  refine z_get (q := 14) dX2_copyFrom_11 zfX2_9 (by first | exact zT_o hw | exact zT_w hw rfl | exact zT_N (zNo_w hw) | exact zT_n (zNo_w hw) (by decide) | exact zT_N hp | exact zT_n hp (by decide) | exact zT_o hv | exact zT_w hv rfl | exact zT_N hv | exact zT_n hv (by decide) | exact zT_N (zNo_w hv)) rfl rfl ?_
  refine z_alen (q := 15) dX2_copyFrom_14 (by first | exact zT_o hw | exact zT_w hw rfl | exact zT_N (zNo_w hw) | exact zT_n (zNo_w hw) (by decide) | exact zT_N hp | exact zT_n hp (by decide) | exact zT_o hv | exact zT_w hv rfl | exact zT_N hv | exact zT_n hv (by decide) | exact zT_N (zNo_w hv)) rfl ?_
  refine z_copyT (q := 18) dX2_copyFrom_15 zy_acX2 (zNo_T hv (by decide)) (zNo_T hp (by decide)) (Nat.le_of_ble_eq_true rfl) (Nat.le_of_ble_eq_true rfl) rfl ?_
  refine z_gen (P := fun D => zNq d D p q 1) (zNq_s hq (by decide) hpq) ?_
  clear hq D
  intro D hq
  refine z_aload_n (q := 19) dX2_copyFrom_18 rfl rfl ?_
  refine z_get (q := 22) dX2_copyFrom_19 zfX2_15 (by first | exact zT_o hw | exact zT_w hw rfl | exact zT_N (zNo_w hw) | exact zT_n (zNo_w hw) (by decide) | exact zT_N hp | exact zT_n hp (by decide) | exact zT_o hv | exact zT_w hv rfl | exact zT_N hv | exact zT_n hv (by decide) | exact zT_N (zNo_w hv)) rfl rfl ?_
  refine z_iconst (q := 23) dX2_copyFrom_22 zci_0 rfl ?_
  refine z_aload_n (q := 24) dX2_copyFrom_23 rfl rfl ?_
  refine z_get (q := 27) dX2_copyFrom_24 zfX2_15 (by first | exact zT_o hw | exact zT_w hw rfl | exact zT_N (zNo_w hw) | exact zT_n (zNo_w hw) (by decide) | exact zT_N hp | exact zT_n hp (by decide) | exact zT_o hv | exact zT_w hv rfl | exact zT_N hv | exact zT_n hv (by decide) | exact zT_N (zNo_w hv)) rfl rfl ?_
  refine z_iconst (q := 28) dX2_copyFrom_27 zci_0 rfl ?_
  refine z_aload_n (q := 29) dX2_copyFrom_28 rfl rfl ?_
  refine z_get (q := 32) dX2_copyFrom_29 zfX2_15 (by first | exact zT_o hw | exact zT_w hw rfl | exact zT_N (zNo_w hw) | exact zT_n (zNo_w hw) (by decide) | exact zT_N hp | exact zT_n hp (by decide) | exact zT_o hv | exact zT_w hv rfl | exact zT_N hv | exact zT_n hv (by decide) | exact zT_N (zNo_w hv)) rfl rfl ?_
  refine z_alen (q := 33) dX2_copyFrom_32 (by first | exact zT_o hw | exact zT_w hw rfl | exact zT_N (zNo_w hw) | exact zT_n (zNo_w hw) (by decide) | exact zT_N hp | exact zT_n hp (by decide) | exact zT_o hv | exact zT_w hv rfl | exact zT_N hv | exact zT_n hv (by decide) | exact zT_N (zNo_w hv)) rfl ?_
  refine z_copyT (q := 36) dX2_copyFrom_33 zy_acX2 (zNo_T hv (by decide)) (zNo_T hp (by decide)) (Nat.le_of_ble_eq_true rfl) (Nat.le_of_ble_eq_true rfl) rfl ?_
  refine z_gen (P := fun D => zNq d D p q 2) (zNq_s hq (by decide) hpq) ?_
  clear hq D
  intro D hq
  refine z_aload_n (q := 37) dX2_copyFrom_36 rfl rfl ?_
  refine z_get (q := 40) dX2_copyFrom_37 zfX2_18 (by first | exact zT_o hw | exact zT_w hw rfl | exact zT_N (zNo_w hw) | exact zT_n (zNo_w hw) (by decide) | exact zT_N hp | exact zT_n hp (by decide) | exact zT_o hv | exact zT_w hv rfl | exact zT_N hv | exact zT_n hv (by decide) | exact zT_N (zNo_w hv)) rfl rfl ?_
  refine z_iconst (q := 41) dX2_copyFrom_40 zci_0 rfl ?_
  refine z_aload_n (q := 42) dX2_copyFrom_41 rfl rfl ?_
  refine z_get (q := 45) dX2_copyFrom_42 zfX2_18 (by first | exact zT_o hw | exact zT_w hw rfl | exact zT_N (zNo_w hw) | exact zT_n (zNo_w hw) (by decide) | exact zT_N hp | exact zT_n hp (by decide) | exact zT_o hv | exact zT_w hv rfl | exact zT_N hv | exact zT_n hv (by decide) | exact zT_N (zNo_w hv)) rfl rfl ?_
  refine z_iconst (q := 46) dX2_copyFrom_45 zci_0 rfl ?_
  refine z_aload_n (q := 47) dX2_copyFrom_46 rfl rfl ?_
  refine z_get (q := 50) dX2_copyFrom_47 zfX2_18 (by first | exact zT_o hw | exact zT_w hw rfl | exact zT_N (zNo_w hw) | exact zT_n (zNo_w hw) (by decide) | exact zT_N hp | exact zT_n hp (by decide) | exact zT_o hv | exact zT_w hv rfl | exact zT_N hv | exact zT_n hv (by decide) | exact zT_N (zNo_w hv)) rfl rfl ?_
  refine z_alen (q := 51) dX2_copyFrom_50 (by first | exact zT_o hw | exact zT_w hw rfl | exact zT_N (zNo_w hw) | exact zT_n (zNo_w hw) (by decide) | exact zT_N hp | exact zT_n hp (by decide) | exact zT_o hv | exact zT_w hv rfl | exact zT_N hv | exact zT_n hv (by decide) | exact zT_N (zNo_w hv)) rfl ?_
  refine z_copyT (q := 54) dX2_copyFrom_51 zy_acX2 (zNo_T hv (by decide)) (zNo_T hp (by decide)) (Nat.le_of_ble_eq_true rfl) (Nat.le_of_ble_eq_true rfl) rfl ?_
  refine z_gen (P := fun D => zNq d D p q 3) (zNq_s hq (by decide) hpq) ?_
  clear hq D
  intro D hq
  refine z_aload_n (q := 55) dX2_copyFrom_54 rfl rfl ?_
  refine z_get (q := 58) dX2_copyFrom_55 zfX2_21 (by first | exact zT_o hw | exact zT_w hw rfl | exact zT_N (zNo_w hw) | exact zT_n (zNo_w hw) (by decide) | exact zT_N hp | exact zT_n hp (by decide) | exact zT_o hv | exact zT_w hv rfl | exact zT_N hv | exact zT_n hv (by decide) | exact zT_N (zNo_w hv)) rfl rfl ?_
  refine z_iconst (q := 59) dX2_copyFrom_58 zci_0 rfl ?_
  refine z_aload_n (q := 60) dX2_copyFrom_59 rfl rfl ?_
  refine z_get (q := 63) dX2_copyFrom_60 zfX2_21 (by first | exact zT_o hw | exact zT_w hw rfl | exact zT_N (zNo_w hw) | exact zT_n (zNo_w hw) (by decide) | exact zT_N hp | exact zT_n hp (by decide) | exact zT_o hv | exact zT_w hv rfl | exact zT_N hv | exact zT_n hv (by decide) | exact zT_N (zNo_w hv)) rfl rfl ?_
  refine z_iconst (q := 64) dX2_copyFrom_63 zci_0 rfl ?_
  refine z_aload_n (q := 65) dX2_copyFrom_64 rfl rfl ?_
  refine z_get (q := 68) dX2_copyFrom_65 zfX2_21 (by first | exact zT_o hw | exact zT_w hw rfl | exact zT_N (zNo_w hw) | exact zT_n (zNo_w hw) (by decide) | exact zT_N hp | exact zT_n hp (by decide) | exact zT_o hv | exact zT_w hv rfl | exact zT_N hv | exact zT_n hv (by decide) | exact zT_N (zNo_w hv)) rfl rfl ?_
  refine z_alen (q := 69) dX2_copyFrom_68 (by first | exact zT_o hw | exact zT_w hw rfl | exact zT_N (zNo_w hw) | exact zT_n (zNo_w hw) (by decide) | exact zT_N hp | exact zT_n hp (by decide) | exact zT_o hv | exact zT_w hv rfl | exact zT_N hv | exact zT_n hv (by decide) | exact zT_N (zNo_w hv)) rfl ?_
  refine z_copyT (q := 72) dX2_copyFrom_69 zy_acX2 (zNo_T hv (by decide)) (zNo_T hp (by decide)) (Nat.le_of_ble_eq_true rfl) (Nat.le_of_ble_eq_true rfl) rfl ?_
  refine z_gen (P := fun D => zNq d D p q 4) (zNq_s hq (by decide) hpq) ?_
  clear hq D
  intro D hq
  exact z_ret dX2_copyFrom_72 rfl (⟨rfl, D, rfl, hq⟩)
/-- behind i fields and j rows of a world -/
def zCq (d D : Nat → Nat → Int32) (o o' i j : Nat) : Prop := (∀ k, k < i → D o k = d o' k) ∧ (∀ c, 1 ≤ c ∧ c ≤ j → D (o + c) = d (o' + c)) ∧ zOut d D o 15
theorem zCq_f {d D : Nat → Nat → Int32} {o o' i : Nat} (h : zCq d D o o' i 0) (ho : o + 15 ≤ o' ∨ o' + 15 ≤ o) : zCq d (va_up D o (va_up (D o) i (D o' i))) o o' (i + 1) 0 := by
  refine ⟨fun k hk => ?_, fun c hc => by omega, fun c hc => ?_⟩
  · rw [zu_eq]
    by_cases hki : k = i
    · subst hki
      rw [zu_eq, h.2.2 o' (by omega)]
    · rw [zu_ne hki]
      exact h.1 k (by omega)
  · rw [zu_ne (by omega)]
    exact h.2.2 c hc
theorem zCq_r {d D : Nat → Nat → Int32} {o o' j : Nat} (h : zCq d D o o' 5 j) (hj : j < 9) (ho : o + 15 ≤ o' ∨ o' + 15 ≤ o) : zCq d (va_up D (o + (j + 1)) (D (o' + (j + 1)))) o o' 5 (j + 1) := by
  refine ⟨fun k hk => ?_, fun c hc => ?_, fun c hc => ?_⟩
  · rw [zu_ne (by omega)]
    exact h.1 k hk
  · by_cases hcj : c = j + 1
    · subst hcj
      rw [zu_eq]
      exact h.2.2 _ (by omega)
    · rw [zu_ne (by omega)]
      exact h.2.1 c (by omega)
  · rw [zu_ne (by omega)]
    exact h.2.2 c hc
/-- the world at o is the one that was at o' -/
def zCy (d D : Nat → Nat → Int32) (o o' : Nat) : Prop := (∀ k, k < 5 → D o k = d o' k) ∧ (∀ c, 1 ≤ c ∧ c ≤ 9 → D (o + c) = d (o' + c)) ∧ (∀ c, 1 ≤ c ∧ c ≤ 4 → D (o + 10 + c) = d (o' + 10 + c)) ∧ zOut d D o 15
theorem zCy_R {d D : Nat → Nat → Int32} {o o' n K : Nat} {f : Nat → Int32} (h : zCy d D o o') (hR : zR d o' f n K) : zR D o f n K := by
  obtain ⟨h1, h2, h3, -⟩ := h
  obtain ⟨hW, b0, b1, b2, b3, ⟨S, s1, s2, s3⟩, b5, b6, b7⟩ := hR
  refine ⟨hW, ?_, ?_, ?_, ?_, ⟨S, s1, ?_, s3⟩, ?_, ?_, ?_⟩
  · rw [h1 0 (by decide)]; exact b0
  · rw [h1 1 (by decide)]; exact b1
  · rw [h1 2 (by decide)]; exact b2
  · rw [h1 3 (by decide)]; exact b3
  · rw [h1 4 (by decide)]; exact s2
  · rw [h2 1 (by decide), h2 2 (by decide), h2 3 (by decide), h2 4 (by decide), h2 5 (by decide)]; exact b5
  · rw [h2 6 (by decide), h2 7 (by decide), h2 8 (by decide), h2 9 (by decide)]; exact b6
  · intro a ha t ht
    have h9 := b7 a ha t ht
    rw [zRn] at h9 ⊢
    rw [h3 1 (by decide), h3 2 (by decide), h3 3 (by decide), h3 4 (by decide)]
    exact h9
set_option maxRecDepth 100000 in
set_option maxHeartbeats 4000000 in
theorem ct_X6_copyFrom {g : zGl} {h : zHp} {b o o' : Nat} {d : Nat → Nat → Int32} (hw : zWo o) (hv : zWo o') (ho : o + 15 ≤ o' ∨ o' + 15 ≤ o) : zC g mX6_copyFrom [.ref (b + o), .ref (b + o')] (zpT g h b d) (zTU g h b (fun D => zCy d D o o') none) 0 0 := by
  refine zC_ofA (lv := [some (.ref (b + o)), some (.ref (b + o'))]) (by decide) rfl (Nat.le_of_ble_eq_true rfl) ?_
  refine z_gen (P := fun D => zCq d D o o' 0 0) ⟨fun j hj => by omega, fun c hc => by omega, fun c _ => rfl⟩ ?_
  intro D hq
  refine z_aload_n (q := 1) dX6_copyFrom_0 rfl rfl ?_
  refine z_aload_n (q := 2) dX6_copyFrom_1 rfl rfl ?_
  refine z_get (q := 5) dX6_copyFrom_2 zfX6_50 (by first | exact zT_o hw | exact zT_w hw rfl | exact zT_N (zNo_w hw) | exact zT_n (zNo_w hw) (by decide) | exact zT_N hp | exact zT_n hp (by decide) | exact zT_o hv | exact zT_w hv rfl | exact zT_N hv | exact zT_n hv (by decide) | exact zT_N (zNo_w hv)) rfl rfl ?_
  refine z_putT (q := 8) hw dX6_copyFrom_5 zfX6_50 (by decide) rfl ?_
  refine z_gen (P := fun D => zCq d D o o' 1 0) (zCq_f hq ho) ?_
  clear hq D
  intro D hq
  refine z_aload_n (q := 9) dX6_copyFrom_8 rfl rfl ?_
  refine z_aload_n (q := 10) dX6_copyFrom_9 rfl rfl ?_
  refine z_get (q := 13) dX6_copyFrom_10 zfX6_53 (by first | exact zT_o hw | exact zT_w hw rfl | exact zT_N (zNo_w hw) | exact zT_n (zNo_w hw) (by decide) | exact zT_N hp | exact zT_n hp (by decide) | exact zT_o hv | exact zT_w hv rfl | exact zT_N hv | exact zT_n hv (by decide) | exact zT_N (zNo_w hv)) rfl rfl ?_
  refine z_putT (q := 16) hw dX6_copyFrom_13 zfX6_53 (by decide) rfl ?_
  refine z_gen (P := fun D => zCq d D o o' 2 0) (zCq_f hq ho) ?_
  clear hq D
  intro D hq
  refine z_aload_n (q := 17) dX6_copyFrom_16 rfl rfl ?_
  refine z_aload_n (q := 18) dX6_copyFrom_17 rfl rfl ?_
  refine z_get (q := 21) dX6_copyFrom_18 zfX6_9 (by first | exact zT_o hw | exact zT_w hw rfl | exact zT_N (zNo_w hw) | exact zT_n (zNo_w hw) (by decide) | exact zT_N hp | exact zT_n hp (by decide) | exact zT_o hv | exact zT_w hv rfl | exact zT_N hv | exact zT_n hv (by decide) | exact zT_N (zNo_w hv)) rfl rfl ?_
  refine z_putT (q := 24) hw dX6_copyFrom_21 zfX6_9 (by decide) rfl ?_
  refine z_gen (P := fun D => zCq d D o o' 3 0) (zCq_f hq ho) ?_
  clear hq D
  intro D hq
  refine z_aload_n (q := 25) dX6_copyFrom_24 rfl rfl ?_
  refine z_aload_n (q := 26) dX6_copyFrom_25 rfl rfl ?_
  refine z_get (q := 29) dX6_copyFrom_26 zfX6_56 (by first | exact zT_o hw | exact zT_w hw rfl | exact zT_N (zNo_w hw) | exact zT_n (zNo_w hw) (by decide) | exact zT_N hp | exact zT_n hp (by decide) | exact zT_o hv | exact zT_w hv rfl | exact zT_N hv | exact zT_n hv (by decide) | exact zT_N (zNo_w hv)) rfl rfl ?_
  refine z_putT (q := 32) hw dX6_copyFrom_29 zfX6_56 (by decide) rfl ?_
  refine z_gen (P := fun D => zCq d D o o' 4 0) (zCq_f hq ho) ?_
  clear hq D
  intro D hq
  refine z_aload_n (q := 33) dX6_copyFrom_32 rfl rfl ?_
  refine z_aload_n (q := 34) dX6_copyFrom_33 rfl rfl ?_
  refine z_get (q := 37) dX6_copyFrom_34 zfX6_59 (by first | exact zT_o hw | exact zT_w hw rfl | exact zT_N (zNo_w hw) | exact zT_n (zNo_w hw) (by decide) | exact zT_N hp | exact zT_n hp (by decide) | exact zT_o hv | exact zT_w hv rfl | exact zT_N hv | exact zT_n hv (by decide) | exact zT_N (zNo_w hv)) rfl rfl ?_
  refine z_putT (q := 40) hw dX6_copyFrom_37 zfX6_59 (by decide) rfl ?_
  refine z_gen (P := fun D => zCq d D o o' 5 0) (zCq_f hq ho) ?_
  clear hq D
  intro D hq
  refine z_aload_n (q := 41) dX6_copyFrom_40 rfl rfl ?_
  refine z_get (q := 44) dX6_copyFrom_41 zfX6_15 (by first | exact zT_o hw | exact zT_w hw rfl | exact zT_N (zNo_w hw) | exact zT_n (zNo_w hw) (by decide) | exact zT_N hp | exact zT_n hp (by decide) | exact zT_o hv | exact zT_w hv rfl | exact zT_N hv | exact zT_n hv (by decide) | exact zT_N (zNo_w hv)) rfl rfl ?_
  refine z_iconst (q := 45) dX6_copyFrom_44 zci_0 rfl ?_
  refine z_aload_n (q := 46) dX6_copyFrom_45 rfl rfl ?_
  refine z_get (q := 49) dX6_copyFrom_46 zfX6_15 (by first | exact zT_o hw | exact zT_w hw rfl | exact zT_N (zNo_w hw) | exact zT_n (zNo_w hw) (by decide) | exact zT_N hp | exact zT_n hp (by decide) | exact zT_o hv | exact zT_w hv rfl | exact zT_N hv | exact zT_n hv (by decide) | exact zT_N (zNo_w hv)) rfl rfl ?_
  refine z_iconst (q := 50) dX6_copyFrom_49 zci_0 rfl ?_
  refine z_bipush (q := 52) dX6_copyFrom_50 zcb_6 rfl ?_
  refine z_copyT (q := 55) dX6_copyFrom_52 zy_acX6 (zWl_T hv rfl) (zWl_T hw rfl) (Nat.le_of_ble_eq_true rfl) (Nat.le_of_ble_eq_true rfl) rfl ?_
  refine z_gen (P := fun D => zCq d D o o' 5 1) (zCq_r hq (by decide) ho) ?_
  clear hq D
  intro D hq
  refine z_aload_n (q := 56) dX6_copyFrom_55 rfl rfl ?_
  refine z_get (q := 59) dX6_copyFrom_56 zfX6_19 (by first | exact zT_o hw | exact zT_w hw rfl | exact zT_N (zNo_w hw) | exact zT_n (zNo_w hw) (by decide) | exact zT_N hp | exact zT_n hp (by decide) | exact zT_o hv | exact zT_w hv rfl | exact zT_N hv | exact zT_n hv (by decide) | exact zT_N (zNo_w hv)) rfl rfl ?_
  refine z_iconst (q := 60) dX6_copyFrom_59 zci_0 rfl ?_
  refine z_aload_n (q := 61) dX6_copyFrom_60 rfl rfl ?_
  refine z_get (q := 64) dX6_copyFrom_61 zfX6_19 (by first | exact zT_o hw | exact zT_w hw rfl | exact zT_N (zNo_w hw) | exact zT_n (zNo_w hw) (by decide) | exact zT_N hp | exact zT_n hp (by decide) | exact zT_o hv | exact zT_w hv rfl | exact zT_N hv | exact zT_n hv (by decide) | exact zT_N (zNo_w hv)) rfl rfl ?_
  refine z_iconst (q := 65) dX6_copyFrom_64 zci_0 rfl ?_
  refine z_bipush (q := 67) dX6_copyFrom_65 zcb_6 rfl ?_
  refine z_copyT (q := 70) dX6_copyFrom_67 zy_acX6 (zWl_T hv rfl) (zWl_T hw rfl) (Nat.le_of_ble_eq_true rfl) (Nat.le_of_ble_eq_true rfl) rfl ?_
  refine z_gen (P := fun D => zCq d D o o' 5 2) (zCq_r hq (by decide) ho) ?_
  clear hq D
  intro D hq
  refine z_aload_n (q := 71) dX6_copyFrom_70 rfl rfl ?_
  refine z_get (q := 74) dX6_copyFrom_71 zfX6_22 (by first | exact zT_o hw | exact zT_w hw rfl | exact zT_N (zNo_w hw) | exact zT_n (zNo_w hw) (by decide) | exact zT_N hp | exact zT_n hp (by decide) | exact zT_o hv | exact zT_w hv rfl | exact zT_N hv | exact zT_n hv (by decide) | exact zT_N (zNo_w hv)) rfl rfl ?_
  refine z_iconst (q := 75) dX6_copyFrom_74 zci_0 rfl ?_
  refine z_aload_n (q := 76) dX6_copyFrom_75 rfl rfl ?_
  refine z_get (q := 79) dX6_copyFrom_76 zfX6_22 (by first | exact zT_o hw | exact zT_w hw rfl | exact zT_N (zNo_w hw) | exact zT_n (zNo_w hw) (by decide) | exact zT_N hp | exact zT_n hp (by decide) | exact zT_o hv | exact zT_w hv rfl | exact zT_N hv | exact zT_n hv (by decide) | exact zT_N (zNo_w hv)) rfl rfl ?_
  refine z_iconst (q := 80) dX6_copyFrom_79 zci_0 rfl ?_
  refine z_bipush (q := 82) dX6_copyFrom_80 zcb_6 rfl ?_
  refine z_copyT (q := 85) dX6_copyFrom_82 zy_acX6 (zWl_T hv rfl) (zWl_T hw rfl) (Nat.le_of_ble_eq_true rfl) (Nat.le_of_ble_eq_true rfl) rfl ?_
  refine z_gen (P := fun D => zCq d D o o' 5 3) (zCq_r hq (by decide) ho) ?_
  clear hq D
  intro D hq
  refine z_aload_n (q := 86) dX6_copyFrom_85 rfl rfl ?_
  refine z_get (q := 89) dX6_copyFrom_86 zfX6_25 (by first | exact zT_o hw | exact zT_w hw rfl | exact zT_N (zNo_w hw) | exact zT_n (zNo_w hw) (by decide) | exact zT_N hp | exact zT_n hp (by decide) | exact zT_o hv | exact zT_w hv rfl | exact zT_N hv | exact zT_n hv (by decide) | exact zT_N (zNo_w hv)) rfl rfl ?_
  refine z_iconst (q := 90) dX6_copyFrom_89 zci_0 rfl ?_
  refine z_aload_n (q := 91) dX6_copyFrom_90 rfl rfl ?_
  refine z_get (q := 94) dX6_copyFrom_91 zfX6_25 (by first | exact zT_o hw | exact zT_w hw rfl | exact zT_N (zNo_w hw) | exact zT_n (zNo_w hw) (by decide) | exact zT_N hp | exact zT_n hp (by decide) | exact zT_o hv | exact zT_w hv rfl | exact zT_N hv | exact zT_n hv (by decide) | exact zT_N (zNo_w hv)) rfl rfl ?_
  refine z_iconst (q := 95) dX6_copyFrom_94 zci_0 rfl ?_
  refine z_bipush (q := 97) dX6_copyFrom_95 zcb_6 rfl ?_
  refine z_copyT (q := 100) dX6_copyFrom_97 zy_acX6 (zWl_T hv rfl) (zWl_T hw rfl) (Nat.le_of_ble_eq_true rfl) (Nat.le_of_ble_eq_true rfl) rfl ?_
  refine z_gen (P := fun D => zCq d D o o' 5 4) (zCq_r hq (by decide) ho) ?_
  clear hq D
  intro D hq
  refine z_aload_n (q := 101) dX6_copyFrom_100 rfl rfl ?_
  refine z_get (q := 104) dX6_copyFrom_101 zfX6_28 (by first | exact zT_o hw | exact zT_w hw rfl | exact zT_N (zNo_w hw) | exact zT_n (zNo_w hw) (by decide) | exact zT_N hp | exact zT_n hp (by decide) | exact zT_o hv | exact zT_w hv rfl | exact zT_N hv | exact zT_n hv (by decide) | exact zT_N (zNo_w hv)) rfl rfl ?_
  refine z_iconst (q := 105) dX6_copyFrom_104 zci_0 rfl ?_
  refine z_aload_n (q := 106) dX6_copyFrom_105 rfl rfl ?_
  refine z_get (q := 109) dX6_copyFrom_106 zfX6_28 (by first | exact zT_o hw | exact zT_w hw rfl | exact zT_N (zNo_w hw) | exact zT_n (zNo_w hw) (by decide) | exact zT_N hp | exact zT_n hp (by decide) | exact zT_o hv | exact zT_w hv rfl | exact zT_N hv | exact zT_n hv (by decide) | exact zT_N (zNo_w hv)) rfl rfl ?_
  refine z_iconst (q := 110) dX6_copyFrom_109 zci_0 rfl ?_
  refine z_bipush (q := 112) dX6_copyFrom_110 zcb_6 rfl ?_
  refine z_copyT (q := 115) dX6_copyFrom_112 zy_acX6 (zWl_T hv rfl) (zWl_T hw rfl) (Nat.le_of_ble_eq_true rfl) (Nat.le_of_ble_eq_true rfl) rfl ?_
  refine z_gen (P := fun D => zCq d D o o' 5 5) (zCq_r hq (by decide) ho) ?_
  clear hq D
  intro D hq
  refine z_aload_n (q := 116) dX6_copyFrom_115 rfl rfl ?_
  refine z_get (q := 119) dX6_copyFrom_116 zfX6_31 (by first | exact zT_o hw | exact zT_w hw rfl | exact zT_N (zNo_w hw) | exact zT_n (zNo_w hw) (by decide) | exact zT_N hp | exact zT_n hp (by decide) | exact zT_o hv | exact zT_w hv rfl | exact zT_N hv | exact zT_n hv (by decide) | exact zT_N (zNo_w hv)) rfl rfl ?_
  refine z_iconst (q := 120) dX6_copyFrom_119 zci_0 rfl ?_
  refine z_aload_n (q := 121) dX6_copyFrom_120 rfl rfl ?_
  refine z_get (q := 124) dX6_copyFrom_121 zfX6_31 (by first | exact zT_o hw | exact zT_w hw rfl | exact zT_N (zNo_w hw) | exact zT_n (zNo_w hw) (by decide) | exact zT_N hp | exact zT_n hp (by decide) | exact zT_o hv | exact zT_w hv rfl | exact zT_N hv | exact zT_n hv (by decide) | exact zT_N (zNo_w hv)) rfl rfl ?_
  refine z_iconst (q := 125) dX6_copyFrom_124 zci_0 rfl ?_
  refine z_bipush (q := 127) dX6_copyFrom_125 zcb_8 rfl ?_
  refine z_copyT (q := 130) dX6_copyFrom_127 zy_acX6 (zWl_T hv rfl) (zWl_T hw rfl) (Nat.le_of_ble_eq_true rfl) (Nat.le_of_ble_eq_true rfl) rfl ?_
  refine z_gen (P := fun D => zCq d D o o' 5 6) (zCq_r hq (by decide) ho) ?_
  clear hq D
  intro D hq
  refine z_aload_n (q := 131) dX6_copyFrom_130 rfl rfl ?_
  refine z_get (q := 134) dX6_copyFrom_131 zfX6_34 (by first | exact zT_o hw | exact zT_w hw rfl | exact zT_N (zNo_w hw) | exact zT_n (zNo_w hw) (by decide) | exact zT_N hp | exact zT_n hp (by decide) | exact zT_o hv | exact zT_w hv rfl | exact zT_N hv | exact zT_n hv (by decide) | exact zT_N (zNo_w hv)) rfl rfl ?_
  refine z_iconst (q := 135) dX6_copyFrom_134 zci_0 rfl ?_
  refine z_aload_n (q := 136) dX6_copyFrom_135 rfl rfl ?_
  refine z_get (q := 139) dX6_copyFrom_136 zfX6_34 (by first | exact zT_o hw | exact zT_w hw rfl | exact zT_N (zNo_w hw) | exact zT_n (zNo_w hw) (by decide) | exact zT_N hp | exact zT_n hp (by decide) | exact zT_o hv | exact zT_w hv rfl | exact zT_N hv | exact zT_n hv (by decide) | exact zT_N (zNo_w hv)) rfl rfl ?_
  refine z_iconst (q := 140) dX6_copyFrom_139 zci_0 rfl ?_
  refine z_bipush (q := 142) dX6_copyFrom_140 zcb_8 rfl ?_
  refine z_copyT (q := 145) dX6_copyFrom_142 zy_acX6 (zWl_T hv rfl) (zWl_T hw rfl) (Nat.le_of_ble_eq_true rfl) (Nat.le_of_ble_eq_true rfl) rfl ?_
  refine z_gen (P := fun D => zCq d D o o' 5 7) (zCq_r hq (by decide) ho) ?_
  clear hq D
  intro D hq
  refine z_aload_n (q := 146) dX6_copyFrom_145 rfl rfl ?_
  refine z_get (q := 149) dX6_copyFrom_146 zfX6_37 (by first | exact zT_o hw | exact zT_w hw rfl | exact zT_N (zNo_w hw) | exact zT_n (zNo_w hw) (by decide) | exact zT_N hp | exact zT_n hp (by decide) | exact zT_o hv | exact zT_w hv rfl | exact zT_N hv | exact zT_n hv (by decide) | exact zT_N (zNo_w hv)) rfl rfl ?_
  refine z_iconst (q := 150) dX6_copyFrom_149 zci_0 rfl ?_
  refine z_aload_n (q := 151) dX6_copyFrom_150 rfl rfl ?_
  refine z_get (q := 154) dX6_copyFrom_151 zfX6_37 (by first | exact zT_o hw | exact zT_w hw rfl | exact zT_N (zNo_w hw) | exact zT_n (zNo_w hw) (by decide) | exact zT_N hp | exact zT_n hp (by decide) | exact zT_o hv | exact zT_w hv rfl | exact zT_N hv | exact zT_n hv (by decide) | exact zT_N (zNo_w hv)) rfl rfl ?_
  refine z_iconst (q := 155) dX6_copyFrom_154 zci_0 rfl ?_
  refine z_bipush (q := 157) dX6_copyFrom_155 zcb_8 rfl ?_
  refine z_copyT (q := 160) dX6_copyFrom_157 zy_acX6 (zWl_T hv rfl) (zWl_T hw rfl) (Nat.le_of_ble_eq_true rfl) (Nat.le_of_ble_eq_true rfl) rfl ?_
  refine z_gen (P := fun D => zCq d D o o' 5 8) (zCq_r hq (by decide) ho) ?_
  clear hq D
  intro D hq
  refine z_aload_n (q := 161) dX6_copyFrom_160 rfl rfl ?_
  refine z_get (q := 164) dX6_copyFrom_161 zfX6_40 (by first | exact zT_o hw | exact zT_w hw rfl | exact zT_N (zNo_w hw) | exact zT_n (zNo_w hw) (by decide) | exact zT_N hp | exact zT_n hp (by decide) | exact zT_o hv | exact zT_w hv rfl | exact zT_N hv | exact zT_n hv (by decide) | exact zT_N (zNo_w hv)) rfl rfl ?_
  refine z_iconst (q := 165) dX6_copyFrom_164 zci_0 rfl ?_
  refine z_aload_n (q := 166) dX6_copyFrom_165 rfl rfl ?_
  refine z_get (q := 169) dX6_copyFrom_166 zfX6_40 (by first | exact zT_o hw | exact zT_w hw rfl | exact zT_N (zNo_w hw) | exact zT_n (zNo_w hw) (by decide) | exact zT_N hp | exact zT_n hp (by decide) | exact zT_o hv | exact zT_w hv rfl | exact zT_N hv | exact zT_n hv (by decide) | exact zT_N (zNo_w hv)) rfl rfl ?_
  refine z_iconst (q := 170) dX6_copyFrom_169 zci_0 rfl ?_
  refine z_bipush (q := 172) dX6_copyFrom_170 zcb_8 rfl ?_
  refine z_copyT (q := 175) dX6_copyFrom_172 zy_acX6 (zWl_T hv rfl) (zWl_T hw rfl) (Nat.le_of_ble_eq_true rfl) (Nat.le_of_ble_eq_true rfl) rfl ?_
  refine z_gen (P := fun D => zCq d D o o' 5 9) (zCq_r hq (by decide) ho) ?_
  clear hq D
  intro D hq
  refine z_aload_n (q := 176) dX6_copyFrom_175 rfl rfl ?_
  refine z_get (q := 179) dX6_copyFrom_176 zfX6_46 (by first | exact zT_o hw | exact zT_w hw rfl | exact zT_N (zNo_w hw) | exact zT_n (zNo_w hw) (by decide) | exact zT_N hp | exact zT_n hp (by decide) | exact zT_o hv | exact zT_w hv rfl | exact zT_N hv | exact zT_n hv (by decide) | exact zT_N (zNo_w hv)) rfl rfl ?_
  refine z_aload_n (q := 180) dX6_copyFrom_179 rfl rfl ?_
  refine z_get (q := 183) dX6_copyFrom_180 zfX6_46 (by first | exact zT_o hw | exact zT_w hw rfl | exact zT_N (zNo_w hw) | exact zT_n (zNo_w hw) (by decide) | exact zT_N hp | exact zT_n hp (by decide) | exact zT_o hv | exact zT_w hv rfl | exact zT_N hv | exact zT_n hv (by decide) | exact zT_N (zNo_w hv)) rfl rfl ?_
  refine z_V1 (q := 186) dX6_copyFrom_183 zkX6_68 zt_mX2_copyFrom rfl (by first | exact zT_o hw | exact zT_w hw rfl | exact zT_N (zNo_w hw) | exact zT_n (zNo_w hw) (by decide) | exact zT_N hp | exact zT_n hp (by decide) | exact zT_o hv | exact zT_w hv rfl | exact zT_N hv | exact zT_n hv (by decide) | exact zT_N (zNo_w hv)) rfl (Nat.le_of_ble_eq_true rfl) (ct_X2_copyFrom (zNo_w hw) (zNo_w hv) (by omega)) (Nat.zero_le _) (Nat.zero_le _) rfl ?_
  rintro _ _ ⟨rfl, D', rfl, hN1, hN2⟩
  exact z_ret dX6_copyFrom_186 rfl (⟨rfl, D', rfl, fun k hk => by rw [hN2 o (by omega)]; exact hq.1 k hk, fun c hc => by rw [hN2 (o + c) (by omega)]; exact hq.2.1 c hc, fun c hc => by rw [hN1 c hc]; exact hq.2.2 _ (by omega), fun c hc => by rw [hN2 c (by omega)]; exact hq.2.2 c hc⟩)
