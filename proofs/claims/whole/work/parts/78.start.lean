/-! ===== the law: from the entry ===== -/
set_option maxRecDepth 100000 in
set_option maxHeartbeats 4000000 in
theorem whole_start {p : Program} {e : Env} {s : State} {m : MethodId} {below : List Frame} {meth : Method} {c : Code} (l : Launch) (hflags : l.flags = flags0) {b L : Nat} {xs : Nat → Int32} (hL : L ≤ 2048) (C0 : lw_At p s m meth c b L xs) : W p l e room_1 s m #[Value.ref b] below meth c s.heap [] 0 0 (lw_Z below #[Value.ref b] s) (entryFrame m ([Value.ref b] : List Value).toArray 7) := by
  obtain ⟨hx, hb, hr, hml, hown, hts, hX, hbl, hlocks, hgv⟩ := id C0
  have htT : ∀ w ∈ zTb, w.before #[Value.ref b] s = true := fun w hw => hts w (List.mem_filter.mp hw).1
  have hs := flat_of_before _ hgv
  obtain ⟨c0, i0, k0⟩ := u_known (C := RX0) (T := TX0) (N := 1) (n := 1) htT zcl_0.2.1 (htT _ zuX0)
  obtain ⟨c1, i1, k1⟩ := u_known (C := RX1) (T := TX1) (N := 3) (n := 3) htT zcl_1.2.1 (htT _ zuX1)
  obtain ⟨c2, i2, k2⟩ := u_known (C := RX2) (T := TX2) (N := 4) (n := 4) htT zcl_2.2.1 (htT _ zuX2)
  obtain ⟨c3, i3, k3⟩ := u_known (C := RX3) (T := TX3) (N := 3) (n := 3) htT zcl_3.2.1 (htT _ zuX3)
  obtain ⟨c4, i4, k4⟩ := u_known (C := RX4) (T := TX4) (N := 1) (n := 1) htT zcl_4.2.1 (htT _ zuX4)
  obtain ⟨c5, i5, k5⟩ := u_known (C := RX5) (T := TX5) (N := 2) (n := 2) htT zcl_5.2.1 (htT _ zuX5)
  obtain ⟨c6, i6, k6⟩ := u_known (C := RX6) (T := TX6) (N := 15) (n := 15) htT zcl_6.2.1 (htT _ zuX6)
  obtain ⟨c7, i7, k7⟩ := u_known (C := RX7) (T := TX7) (N := 9) (n := 9) htT zcl_7.2.1 (htT _ zuX7)
  obtain ⟨c8, i8, k8⟩ := u_known (C := RX8) (T := TX8) (N := 15) (n := 15) htT zcl_8.2.1 (htT _ zuX8)
  obtain ⟨dC, dI, hKc⟩ : ∃ (dC : Nat → ClassId) (dI : Nat → Nat → Nat), ∀ (k : Nat) (q : vw_C), vwCl[k]? = some q → u_Kn s q.1 q.2.1 q.2.2 (dC k) (dI k) := by
    refine ⟨fun k => if k = 0 then c0 else if k = 1 then c1 else if k = 2 then c2 else if k = 3 then c3 else if k = 4 then c4 else if k = 5 then c5 else if k = 6 then c6 else if k = 7 then c7 else c8, fun k => if k = 0 then i0 else if k = 1 then i1 else if k = 2 then i2 else if k = 3 then i3 else if k = 4 then i4 else if k = 5 then i5 else if k = 6 then i6 else if k = 7 then i7 else i8, ?_⟩
    intro k q hq
    match k, hq with
    | 0, hq => cases hq; exact k0
    | 1, hq => cases hq; exact k1
    | 2, hq => cases hq; exact k2
    | 3, hq => cases hq; exact k3
    | 4, hq => cases hq; exact k4
    | 5, hq => cases hq; exact k5
    | 6, hq => cases hq; exact k6
    | 7, hq => cases hq; exact k7
    | 8, hq => cases hq; exact k8
    | k + 9, hq => simp [vwCl] at hq
  obtain ⟨cI, kI, pI, i1, i2, i3⟩ := Cond.arrayClass_spec (htT _ za_int)
  obtain ⟨cZ, kZ, pZ, z1, z2, z3⟩ := Cond.arrayClass_spec (htT _ za_boolean)
  obtain ⟨cJ, kJ, pJ, j1, j2, j3⟩ := Cond.arrayClass_spec (htT _ za_long)
  have hAO := hts (.arrayOver (.object "ClaimedTasks$World")) (List.mem_append_right _ (List.mem_of_getElem? (i := 159) (by decide +kernel)))
  obtain ⟨pW, cW, kW, w1, -, w3, w4, w5⟩ := Cond.arrayOver_spec hAO
  obtain ⟨a294, -, -, -, s294, -⟩ := Cond.exactly_spec (hs (.exactly (.string "ClaimedTasks" 294) "java/lang/String") (by decide +kernel))
  obtain ⟨a301, -, -, -, s301, -⟩ := Cond.exactly_spec (hs (.exactly (.string "ClaimedTasks" 301) "java/lang/String") (by decide +kernel))
  obtain ⟨a306, -, -, -, s306, -⟩ := Cond.exactly_spec (hs (.exactly (.string "ClaimedTasks" 306) "java/lang/String") (by decide +kernel))
  have hI : zIv (l, (dC, dI), (cI, cZ, cJ, cW), s.heap.size, (a294, a301, a306)) s := by
    refine ⟨⟨hKc, fun k q hq => ?_⟩, fun w hw => va_Nw.of (zNs_tab hw) (hts w (List.mem_filter.mp hw).1), va_AO.of hAO, ?_, ?_, ⟨?_, ?_, ?_⟩, Nat.le_refl _, ?_⟩
    · match k, hq with
      | 0, hq => cases hq; exact ⟨fun n z => ⟨fun k h => (by cases h), kI, i2, pI, i3⟩, i1⟩
      | 1, hq => cases hq; exact ⟨fun n z => ⟨fun k h => (by cases h), kZ, z2, pZ, z3⟩, z1⟩
      | 2, hq => cases hq; exact ⟨fun n z => ⟨fun k h => (by cases h), kJ, j2, pJ, j3⟩, j1⟩
      | 3, hq => cases hq; exact ⟨fun n z => ⟨fun k h => (by cases h), kW, w3, pW, w4⟩, kW, pW, w3, w4, w1, w5⟩
      | k + 4, hq => simp [zTy] at hq
    · exact vx_Zqof (hts (.laysStatic "java/lang/Throwable" "UNASSIGNED_STACK" "[Ljava/lang/StackTraceElement;") (List.mem_append_right _ (List.mem_of_getElem? (i := 395) (by decide +kernel)))) (hts (.initialized "java/lang/Throwable") (List.mem_append_right _ (List.mem_of_getElem? (i := 10) (by decide +kernel)))) (hs (.isRef (.static "java/lang/Throwable" "UNASSIGNED_STACK" "[Ljava/lang/StackTraceElement;")) (by decide +kernel)) (fun a ha h9 => absurd ha (Nat.not_lt.mpr h9))
    · exact vx_Zqof (hts (.laysStatic "java/lang/Throwable" "SUPPRESSED_SENTINEL" "Ljava/util/List;") (List.mem_append_right _ (List.mem_of_getElem? (i := 397) (by decide +kernel)))) (hts (.initialized "java/lang/Throwable") (List.mem_append_right _ (List.mem_of_getElem? (i := 10) (by decide +kernel)))) (hs (.isRef (.static "java/lang/Throwable" "SUPPRESSED_SENTINEL" "Ljava/util/List;")) (by decide +kernel)) (fun a ha h9 => absurd ha (Nat.not_lt.mpr h9))
    · exact vk_R.of (hts (.stringRef "ClaimedTasks" 294 "there is no such agent, task or slot") (List.mem_append_right _ (List.mem_of_getElem? (i := 525) (by decide +kernel)))) s294
    · exact vk_R.of (hts (.stringRef "ClaimedTasks" 301 "an argument is out of its range") (List.mem_append_right _ (List.mem_of_getElem? (i := 409) (by decide +kernel)))) s301
    · exact vk_R.of (hts (.stringRef "ClaimedTasks" 306 "the present state does not allow this call") (List.mem_append_right _ (List.mem_of_getElem? (i := 452) (by decide +kernel)))) s306
    · show l.stackTraces = false
      rw [Launch.stackTraces, hflags]
      decide +kernel
  have hN : zNc3 s := ⟨⟨va_Nc.of (hs (.not (.castable "java/lang/IllegalArgumentException" "java/lang/IllegalStateException")) (by decide +kernel)), va_Nc.of (hs (.not (.castable "java/lang/IllegalArgumentException" "java/lang/IndexOutOfBoundsException")) (by decide +kernel))⟩, ⟨va_Nc.of (hs (.not (.castable "java/lang/IllegalStateException" "java/lang/IllegalArgumentException")) (by decide +kernel)), va_Nc.of (hs (.not (.castable "java/lang/IllegalStateException" "java/lang/IndexOutOfBoundsException")) (by decide +kernel))⟩, va_Nc.of (hs (.not (.castable "java/lang/IndexOutOfBoundsException" "java/lang/IllegalArgumentException")) (by decide +kernel)), va_Nc.of (hs (.not (.castable "java/lang/IndexOutOfBoundsException" "java/lang/IllegalStateException")) (by decide +kernel))⟩
  have hl := lv_entry ([.ref b]) (n := 7) (Nat.le_of_ble_eq_true rfl)
  rw [lg_entry_eq]
  exact law_start (g := (l, (dC, dI), (cI, cZ, cJ, cW), s.heap.size, (a294, a301, a306))) (nm := meth.name) (b0 := b) (xs := xs) hL p e s m #[Value.ref b] below meth c _ s.heap [] 0 0 ⟨hx, hb, hr, hml, hown, htT, hlocks, rfl, hI⟩ ⟨rfl, hN, hX, hbl, rfl⟩ (show zL 7 [some (.ref b), none, none, none, none, none, none] _ from zL_of hl) ⟨fun q c hq => absurd (show (none : Option va_E) = some c from hq) (fun h9 => nomatch h9), fun n hn => Option.some.inj (show some s.heap.size = some n from hn)⟩ va_S.rf (Nat.le_of_ble_eq_true rfl) (Nat.le_of_ble_eq_true rfl)
