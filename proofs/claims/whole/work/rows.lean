section
-- ===== PART A: goes FIRST, ahead of the names: the tables' words, and 'selects' of the private methods out of them =====
/-- a private method of a class that the tables say can be made, by its rows of tables_1 -/
def lw_okq (q : MethodName × Nat) : Prop := (q.1.cls ≠ "java/lang/invoke/MethodHandle" ∧ q.1.cls ≠ "java/lang/invoke/VarHandle") ∧ Cond.instantiable q.1.cls q.2 ∈ tables_1 ∧ Cond.privateMethod q.1 ∈ tables_1 ∧ Cond.instanceMethod q.1 ∈ tables_1
theorem lw_p0 : lw_okq (⟨"ClaimedTasks$Text", "codeAt", "(I)I"⟩, 2) := ⟨⟨by decide +kernel, by decide +kernel⟩, List.mem_of_getElem? (i := 28) (by decide +kernel), List.mem_of_getElem? (i := 253) (by decide +kernel), List.mem_of_getElem? (i := 254) (by decide +kernel)⟩
theorem lw_p1 : lw_okq (⟨"ClaimedTasks$Text", "badInNumber", "(III)I"⟩, 2) := ⟨⟨by decide +kernel, by decide +kernel⟩, List.mem_of_getElem? (i := 28) (by decide +kernel), List.mem_of_getElem? (i := 257) (by decide +kernel), List.mem_of_getElem? (i := 258) (by decide +kernel)⟩
theorem lw_p2 : lw_okq (⟨"ClaimedTasks$Text", "digitAt", "(I)I"⟩, 2) := ⟨⟨by decide +kernel, by decide +kernel⟩, List.mem_of_getElem? (i := 28) (by decide +kernel), List.mem_of_getElem? (i := 261) (by decide +kernel), List.mem_of_getElem? (i := 262) (by decide +kernel)⟩
theorem lw_p3 : lw_okq (⟨"ClaimedTasks$Text", "numberAt", "(I)I"⟩, 2) := ⟨⟨by decide +kernel, by decide +kernel⟩, List.mem_of_getElem? (i := 28) (by decide +kernel), List.mem_of_getElem? (i := 265) (by decide +kernel), List.mem_of_getElem? (i := 266) (by decide +kernel)⟩
theorem lw_p4 : lw_okq (⟨"ClaimedTasks$Text", "readAgent", "(ILClaimedTasks$World;)I"⟩, 2) := ⟨⟨by decide +kernel, by decide +kernel⟩, List.mem_of_getElem? (i := 28) (by decide +kernel), List.mem_of_getElem? (i := 277) (by decide +kernel), List.mem_of_getElem? (i := 278) (by decide +kernel)⟩
theorem lw_p5 : lw_okq (⟨"ClaimedTasks$Text", "badInPlace", "(I)I"⟩, 2) := ⟨⟨by decide +kernel, by decide +kernel⟩, List.mem_of_getElem? (i := 28) (by decide +kernel), List.mem_of_getElem? (i := 281) (by decide +kernel), List.mem_of_getElem? (i := 282) (by decide +kernel)⟩
theorem lw_p6 : lw_okq (⟨"ClaimedTasks$Text", "readTask", "(ILClaimedTasks$World;)I"⟩, 2) := ⟨⟨by decide +kernel, by decide +kernel⟩, List.mem_of_getElem? (i := 28) (by decide +kernel), List.mem_of_getElem? (i := 289) (by decide +kernel), List.mem_of_getElem? (i := 290) (by decide +kernel)⟩
theorem lw_p7 : lw_okq (⟨"java/lang/Throwable", "fillInStackTrace", "(I)Ljava/lang/Throwable;"⟩, 6) := ⟨⟨by decide +kernel, by decide +kernel⟩, List.mem_of_getElem? (i := 407) (by decide +kernel), List.mem_of_getElem? (i := 405) (by decide +kernel), List.mem_of_getElem? (i := 406) (by decide +kernel)⟩
theorem lw_p8 : lw_okq (⟨"ClaimedTasks$Stepper", "compareNotes", "(LClaimedTasks$World;I)V"⟩, 1) := ⟨⟨by decide +kernel, by decide +kernel⟩, List.mem_of_getElem? (i := 173) (by decide +kernel), List.mem_of_getElem? (i := 601) (by decide +kernel), List.mem_of_getElem? (i := 602) (by decide +kernel)⟩
theorem lw_p9 : lw_okq (⟨"ClaimedTasks$Stepper", "bestNote", "(LClaimedTasks$World;III)I"⟩, 1) := ⟨⟨by decide +kernel, by decide +kernel⟩, List.mem_of_getElem? (i := 173) (by decide +kernel), List.mem_of_getElem? (i := 607) (by decide +kernel), List.mem_of_getElem? (i := 608) (by decide +kernel)⟩
theorem lw_p10 : lw_okq (⟨"ClaimedTasks", "progressWithout", "(II)I"⟩, 9) := ⟨⟨by decide +kernel, by decide +kernel⟩, List.mem_of_getElem? (i := 20) (by decide +kernel), List.mem_of_getElem? (i := 795) (by decide +kernel), List.mem_of_getElem? (i := 796) (by decide +kernel)⟩
theorem lw_p11 : lw_okq (⟨"ClaimedTasks$Sharing", "mostFor", "(LClaimedTasks$World;II)I"⟩, 3) := ⟨⟨by decide +kernel, by decide +kernel⟩, List.mem_of_getElem? (i := 195) (by decide +kernel), List.mem_of_getElem? (i := 814) (by decide +kernel), List.mem_of_getElem? (i := 815) (by decide +kernel)⟩
theorem lw_p12 : lw_okq (⟨"ClaimedTasks$Sharing", "worthOf", "(LClaimedTasks$World;III)I"⟩, 3) := ⟨⟨by decide +kernel, by decide +kernel⟩, List.mem_of_getElem? (i := 195) (by decide +kernel), List.mem_of_getElem? (i := 824) (by decide +kernel), List.mem_of_getElem? (i := 825) (by decide +kernel)⟩
theorem lw_p13 : lw_okq (⟨"ClaimedTasks$Sharing", "followBest", "(LClaimedTasks$World;)V"⟩, 3) := ⟨⟨by decide +kernel, by decide +kernel⟩, List.mem_of_getElem? (i := 195) (by decide +kernel), List.mem_of_getElem? (i := 832) (by decide +kernel), List.mem_of_getElem? (i := 833) (by decide +kernel)⟩
theorem lw_p14 : lw_okq (⟨"ClaimedTasks$Sharing", "smallestBest", "(LClaimedTasks$World;II)I"⟩, 3) := ⟨⟨by decide +kernel, by decide +kernel⟩, List.mem_of_getElem? (i := 195) (by decide +kernel), List.mem_of_getElem? (i := 836) (by decide +kernel), List.mem_of_getElem? (i := 837) (by decide +kernel)⟩
theorem lw_p15 : lw_okq (⟨"ClaimedTasksModel", "refused", "(I)Z"⟩, 15) := ⟨⟨by decide +kernel, by decide +kernel⟩, List.mem_of_getElem? (i := 891) (by decide +kernel), List.mem_of_getElem? (i := 956) (by decide +kernel), List.mem_of_getElem? (i := 957) (by decide +kernel)⟩
def lw_privs_1 : List (MethodName × Nat) := [(⟨"ClaimedTasks$Text", "codeAt", "(I)I"⟩, 2), (⟨"ClaimedTasks$Text", "badInNumber", "(III)I"⟩, 2), (⟨"ClaimedTasks$Text", "digitAt", "(I)I"⟩, 2), (⟨"ClaimedTasks$Text", "numberAt", "(I)I"⟩, 2), (⟨"ClaimedTasks$Text", "readAgent", "(ILClaimedTasks$World;)I"⟩, 2), (⟨"ClaimedTasks$Text", "badInPlace", "(I)I"⟩, 2), (⟨"ClaimedTasks$Text", "readTask", "(ILClaimedTasks$World;)I"⟩, 2), (⟨"java/lang/Throwable", "fillInStackTrace", "(I)Ljava/lang/Throwable;"⟩, 6), (⟨"ClaimedTasks$Stepper", "compareNotes", "(LClaimedTasks$World;I)V"⟩, 1), (⟨"ClaimedTasks$Stepper", "bestNote", "(LClaimedTasks$World;III)I"⟩, 1), (⟨"ClaimedTasks", "progressWithout", "(II)I"⟩, 9), (⟨"ClaimedTasks$Sharing", "mostFor", "(LClaimedTasks$World;II)I"⟩, 3), (⟨"ClaimedTasks$Sharing", "worthOf", "(LClaimedTasks$World;III)I"⟩, 3), (⟨"ClaimedTasks$Sharing", "followBest", "(LClaimedTasks$World;)V"⟩, 3), (⟨"ClaimedTasks$Sharing", "smallestBest", "(LClaimedTasks$World;II)I"⟩, 3), (⟨"ClaimedTasksModel", "refused", "(I)Z"⟩, 15)]
theorem lw_r1 : ∀ q ∈ lw_privs_1, lw_okq q := List.forall_mem_cons.mpr ⟨lw_p0, List.forall_mem_cons.mpr ⟨lw_p1, List.forall_mem_cons.mpr ⟨lw_p2, List.forall_mem_cons.mpr ⟨lw_p3, List.forall_mem_cons.mpr ⟨lw_p4, List.forall_mem_cons.mpr ⟨lw_p5, List.forall_mem_cons.mpr ⟨lw_p6, List.forall_mem_cons.mpr ⟨lw_p7, List.forall_mem_cons.mpr ⟨lw_p8, List.forall_mem_cons.mpr ⟨lw_p9, List.forall_mem_cons.mpr ⟨lw_p10, List.forall_mem_cons.mpr ⟨lw_p11, List.forall_mem_cons.mpr ⟨lw_p12, List.forall_mem_cons.mpr ⟨lw_p13, List.forall_mem_cons.mpr ⟨lw_p14, List.forall_mem_cons.mpr ⟨lw_p15, fun _ h => absurd h List.not_mem_nil⟩⟩⟩⟩⟩⟩⟩⟩⟩⟩⟩⟩⟩⟩⟩⟩
theorem lw_p16 : lw_okq (⟨"ClaimedTasksModel", "readText", "()I"⟩, 15) := ⟨⟨by decide +kernel, by decide +kernel⟩, List.mem_of_getElem? (i := 891) (by decide +kernel), List.mem_of_getElem? (i := 968) (by decide +kernel), List.mem_of_getElem? (i := 969) (by decide +kernel)⟩
theorem lw_p17 : lw_okq (⟨"ClaimedTasksModel", "two", "(II)I"⟩, 15) := ⟨⟨by decide +kernel, by decide +kernel⟩, List.mem_of_getElem? (i := 891) (by decide +kernel), List.mem_of_getElem? (i := 972) (by decide +kernel), List.mem_of_getElem? (i := 973) (by decide +kernel)⟩
theorem lw_p18 : lw_okq (⟨"ClaimedTasksModel", "digit", "(II)I"⟩, 15) := ⟨⟨by decide +kernel, by decide +kernel⟩, List.mem_of_getElem? (i := 891) (by decide +kernel), List.mem_of_getElem? (i := 976) (by decide +kernel), List.mem_of_getElem? (i := 977) (by decide +kernel)⟩
theorem lw_p19 : lw_okq (⟨"ClaimedTasksModel", "readAgent", "()Z"⟩, 15) := ⟨⟨by decide +kernel, by decide +kernel⟩, List.mem_of_getElem? (i := 891) (by decide +kernel), List.mem_of_getElem? (i := 980) (by decide +kernel), List.mem_of_getElem? (i := 981) (by decide +kernel)⟩
theorem lw_p20 : lw_okq (⟨"ClaimedTasksModel", "readTask", "()Z"⟩, 15) := ⟨⟨by decide +kernel, by decide +kernel⟩, List.mem_of_getElem? (i := 891) (by decide +kernel), List.mem_of_getElem? (i := 987) (by decide +kernel), List.mem_of_getElem? (i := 988) (by decide +kernel)⟩
theorem lw_p21 : lw_okq (⟨"ClaimedTasksModel", "isAgent", "(I)Z"⟩, 15) := ⟨⟨by decide +kernel, by decide +kernel⟩, List.mem_of_getElem? (i := 891) (by decide +kernel), List.mem_of_getElem? (i := 1022) (by decide +kernel), List.mem_of_getElem? (i := 1023) (by decide +kernel)⟩
theorem lw_p22 : lw_okq (⟨"ClaimedTasksModel", "isTask", "(I)Z"⟩, 15) := ⟨⟨by decide +kernel, by decide +kernel⟩, List.mem_of_getElem? (i := 891) (by decide +kernel), List.mem_of_getElem? (i := 1051) (by decide +kernel), List.mem_of_getElem? (i := 1052) (by decide +kernel)⟩
theorem lw_p23 : lw_okq (⟨"ClaimedTasksModel", "note", "()V"⟩, 15) := ⟨⟨by decide +kernel, by decide +kernel⟩, List.mem_of_getElem? (i := 891) (by decide +kernel), List.mem_of_getElem? (i := 1069) (by decide +kernel), List.mem_of_getElem? (i := 1070) (by decide +kernel)⟩
theorem lw_p24 : lw_okq (⟨"ClaimedTasksModel", "stepOn", "([I)V"⟩, 15) := ⟨⟨by decide +kernel, by decide +kernel⟩, List.mem_of_getElem? (i := 891) (by decide +kernel), List.mem_of_getElem? (i := 1073) (by decide +kernel), List.mem_of_getElem? (i := 1074) (by decide +kernel)⟩
theorem lw_p25 : lw_okq (⟨"ClaimedTasksModel", "listen", "([I)V"⟩, 15) := ⟨⟨by decide +kernel, by decide +kernel⟩, List.mem_of_getElem? (i := 891) (by decide +kernel), List.mem_of_getElem? (i := 1077) (by decide +kernel), List.mem_of_getElem? (i := 1078) (by decide +kernel)⟩
theorem lw_p26 : lw_okq (⟨"ClaimedTasksModel", "layWays", "([II)V"⟩, 15) := ⟨⟨by decide +kernel, by decide +kernel⟩, List.mem_of_getElem? (i := 891) (by decide +kernel), List.mem_of_getElem? (i := 1146) (by decide +kernel), List.mem_of_getElem? (i := 1147) (by decide +kernel)⟩
theorem lw_p27 : lw_okq (⟨"ClaimedTasksModel", "groupsOf", "([I)I"⟩, 15) := ⟨⟨by decide +kernel, by decide +kernel⟩, List.mem_of_getElem? (i := 891) (by decide +kernel), List.mem_of_getElem? (i := 1154) (by decide +kernel), List.mem_of_getElem? (i := 1155) (by decide +kernel)⟩
theorem lw_p28 : lw_okq (⟨"ClaimedTasksModel", "setRanges", "([II)V"⟩, 15) := ⟨⟨by decide +kernel, by decide +kernel⟩, List.mem_of_getElem? (i := 891) (by decide +kernel), List.mem_of_getElem? (i := 1162) (by decide +kernel), List.mem_of_getElem? (i := 1163) (by decide +kernel)⟩
theorem lw_p29 : lw_okq (⟨"ClaimedTasksModel", "share", "()I"⟩, 15) := ⟨⟨by decide +kernel, by decide +kernel⟩, List.mem_of_getElem? (i := 891) (by decide +kernel), List.mem_of_getElem? (i := 1201) (by decide +kernel), List.mem_of_getElem? (i := 1202) (by decide +kernel)⟩
theorem lw_p30 : lw_okq (⟨"ClaimedTasksModel", "canGet", "(III)Z"⟩, 15) := ⟨⟨by decide +kernel, by decide +kernel⟩, List.mem_of_getElem? (i := 891) (by decide +kernel), List.mem_of_getElem? (i := 1205) (by decide +kernel), List.mem_of_getElem? (i := 1206) (by decide +kernel)⟩
theorem lw_p31 : lw_okq (⟨"ClaimedTasksModel", "command", "(I)Z"⟩, 15) := ⟨⟨by decide +kernel, by decide +kernel⟩, List.mem_of_getElem? (i := 891) (by decide +kernel), List.mem_of_getElem? (i := 1218) (by decide +kernel), List.mem_of_getElem? (i := 1219) (by decide +kernel)⟩
def lw_privs_2 : List (MethodName × Nat) := [(⟨"ClaimedTasksModel", "readText", "()I"⟩, 15), (⟨"ClaimedTasksModel", "two", "(II)I"⟩, 15), (⟨"ClaimedTasksModel", "digit", "(II)I"⟩, 15), (⟨"ClaimedTasksModel", "readAgent", "()Z"⟩, 15), (⟨"ClaimedTasksModel", "readTask", "()Z"⟩, 15), (⟨"ClaimedTasksModel", "isAgent", "(I)Z"⟩, 15), (⟨"ClaimedTasksModel", "isTask", "(I)Z"⟩, 15), (⟨"ClaimedTasksModel", "note", "()V"⟩, 15), (⟨"ClaimedTasksModel", "stepOn", "([I)V"⟩, 15), (⟨"ClaimedTasksModel", "listen", "([I)V"⟩, 15), (⟨"ClaimedTasksModel", "layWays", "([II)V"⟩, 15), (⟨"ClaimedTasksModel", "groupsOf", "([I)I"⟩, 15), (⟨"ClaimedTasksModel", "setRanges", "([II)V"⟩, 15), (⟨"ClaimedTasksModel", "share", "()I"⟩, 15), (⟨"ClaimedTasksModel", "canGet", "(III)Z"⟩, 15), (⟨"ClaimedTasksModel", "command", "(I)Z"⟩, 15)]
theorem lw_r2 : ∀ q ∈ lw_privs_2, lw_okq q := List.forall_mem_cons.mpr ⟨lw_p16, List.forall_mem_cons.mpr ⟨lw_p17, List.forall_mem_cons.mpr ⟨lw_p18, List.forall_mem_cons.mpr ⟨lw_p19, List.forall_mem_cons.mpr ⟨lw_p20, List.forall_mem_cons.mpr ⟨lw_p21, List.forall_mem_cons.mpr ⟨lw_p22, List.forall_mem_cons.mpr ⟨lw_p23, List.forall_mem_cons.mpr ⟨lw_p24, List.forall_mem_cons.mpr ⟨lw_p25, List.forall_mem_cons.mpr ⟨lw_p26, List.forall_mem_cons.mpr ⟨lw_p27, List.forall_mem_cons.mpr ⟨lw_p28, List.forall_mem_cons.mpr ⟨lw_p29, List.forall_mem_cons.mpr ⟨lw_p30, List.forall_mem_cons.mpr ⟨lw_p31, fun _ h => absurd h List.not_mem_nil⟩⟩⟩⟩⟩⟩⟩⟩⟩⟩⟩⟩⟩⟩⟩⟩
def lw_privs : List (MethodName × Nat) := lw_privs_1 ++ (lw_privs_2)
def lw_tbl : List Cond := k2_sels lw_privs ++ tables_1
theorem lw_privs_ok : ∀ q ∈ lw_privs, lw_okq q := by
  show ∀ q ∈ lw_privs_1 ++ (lw_privs_2), lw_okq q
  exact List.forall_mem_append.mpr ⟨lw_r1, lw_r2⟩
end
section
/-! ===== BEGIN words of one list among another's, by their places ===== -/
theorem goodIn_r {big : List Cond} (ws : List Cond) (ps : List Nat) (hp : ws = ps.filterMap (fun i => big[i]?)) (h : ws.all goodWord = true) : GoodIn big ws := by
  intro w hw
  have h1 := List.all_eq_true.mp h w hw
  rw [hp] at hw
  obtain ⟨i, -, hi⟩ := List.mem_filterMap.mp hw
  have hm : w ∈ big := by first | exact List.mem_of_getElem? hi | exact List.getElem?_mem hi
  exact ⟨hm, good_of_word h1⟩
theorem goodIn_app {big a b : List Cond} (ha : GoodIn big a) (hb : GoodIn big b) : GoodIn big (a ++ b) := fun w h => (List.mem_append.mp h).elim (ha w) (hb w)
theorem goodIn_ca {big a b : List Cond} {c : Cond} (ha : GoodIn big (c :: a)) (hb : GoodIn big b) : GoodIn big (c :: (a ++ b)) := fun w h => (List.mem_cons.mp h).elim (fun e => ha w (List.mem_cons.mpr (Or.inl e))) (fun h => (List.mem_append.mp h).elim (fun h => ha w (List.mem_cons.mpr (Or.inr h))) (hb w))
theorem goodIn_sub {big ws : List Cond} (hm : ∀ w ∈ ws, w ∈ big) (h : ws.all goodWord = true) : GoodIn big ws := fun w hw => ⟨hm w hw, good_of_word (List.all_eq_true.mp h w hw)⟩
/-! ===== END ===== -/

/-! ===== BEGIN exceptions that leave a method, and their catching by the caller (launches without stack traces) ===== -/
section VXA
/-! The laws vx_back, vx_callV, vx_callS, vx_callSW, vx_throw0, vx_throwS follow proofs of the library, with one case more: JvmDerived/Free/Laws.lean (Back.of_free), Shelf42/LK1.lean (callV, callS), Shelf/KitTraced.lean (throwNew0V, throwNewS). -/
/-- where a method has thrown q: the class by its name, the cell, what was written, the world -/
def vx_T (XC : String → State → State → Prop) (st : State) (q : Addr) (t : State) (mc ms : Nat) (free : Addr → Prop) : Prop :=
  ∃ (E : String) (ce : Cell) (L : List Loc), XC E st t ∧ t.heap[q]? = some ce ∧ ce.vm = .none ∧ st.vm.findClass E = some ce.cls ∧ st.WarmedH t.vm ∧ st.sameButNew ({ t with vm := st.vm } : State) L mc ms ∧ ∀ z ∈ L, free z.base
def vx_Q (Qc : Array Value → State → Outcome → State → Prop) (XC : String → State → State → Prop) (mc ms : Nat) (free : Addr → Prop) : Array Value → State → Outcome → State → Prop := fun a st o t =>
  (Qc a st o t ∧ ∃ L, FrameEnd st o t L mc ms ∧ ∀ q ∈ L, free q.base) ∨ ∃ q, o = .threw q ∧ vx_T XC st q t mc ms free
/-- a callee that returns or throws -/
def vx_Met (l : Launch) (y : MethodName) (ws : List Cond) (rm : Room) (Pc : Array Value → State → Prop) (Qc : Array Value → State → Outcome → State → Prop) (XC : String → State → State → Prop) (mc ms : Nat) (free : Addr → Prop) : Prop :=
  MetFree l y (headSpec ws rm) Pc (fun _ _ _ _ _ => True) (vx_Q Qc XC mc ms free)
def vx_Post (XC : String → State → State → Prop) (mc ms : Nat) (free : Addr → Prop) : Pt → Array Value → Addr → Pt → Prop := fun A a q B =>
  ∃ (g : JFrame) (mk : MethodId) (t : State) (L : List Loc) (E : String) (ce : Cell), B.U.heap = t.heap ∧ B.U.vm = t.vm ∧ XC E (A.U.calling g mk a) t ∧ t.heap[q]? = some ce ∧ ce.vm = .none ∧ A.U.vm.findClass E = some ce.cls ∧ B.locs = A.locs ++ L ∧ (∀ z ∈ L, free z.base) ∧ B.cells = A.cells + mc ∧ B.slots = A.slots + ms
def vx_Back (l : Launch) (R : Room) (p : Program) (e : Env) (below : List Frame) (s : State) (sargs : Array Value) (y : MethodName) (len W9 : Nat)
    (Pre : Pt → Array Value → Prop) (Post : Pt → Array Value → Option Value → Pt → Prop) (PostX : Pt → Array Value → Addr → Pt → Prop) : Prop :=
  ∀ (m : MethodId) (meth : Method) (c : Code) (A : Pt) (g : JFrame) (ig : Instr) (mk : MethodId) (a : Array Value),
    Stand p l e R s m sargs below meth c A.U A.locs A.cells A.slots → g.method = m → g.locals.size = c.maxLocals → decode c.code g.pc = .ok (ig, len) →
    2 * g.monitorRoom + (g.stack.map fun v => v.category).sum ≤ W9 → A.U.methodNamed? y = some mk → Pre A a →
    (∃ (v : Option Value) (B : Pt), Stand p l e R s m sargs below meth c B.U B.locs B.cells B.slots ∧ Post A a v B ∧
      Steps p.tables e below (doInvoke e (A.U.setTop g) [] mk a).1 (B.U.setTop { g with pc := g.pc + len, stack := v.toList ++ g.stack })) ∨
    (∃ (q : Addr) (B : Pt), Stand p l e R s m sargs below meth c B.U B.locs B.cells B.slots ∧ PostX A a q B ∧
      Steps p.tables e below (doInvoke e (A.U.setTop g) [] mk a).1 ((B.U.setTop g).pushFrame (.throwing q)))
section Payer
variable {l : Launch} {R : Room} {p : Program} {e : Env} {below : List Frame} {s : State} {sargs : Array Value} {y : MethodName} {len W9 : Nat}
theorem vx_back {ws : List Cond} {rm : Room} {Pc : Array Value → State → Prop} {Qc : Array Value → State → Outcome → State → Prop} {XC : String → State → State → Prop} {mc ms : Nat} {free : Addr → Prop} {bytes : ByteArray} {maxL : Nat} {ret : Option FieldType}
    (hM : vx_Met l y ws rm Pc Qc XC mc ms free) (hblind : FrameBlind Pc) (hrc : rm.cells = mc) (hrs : rm.slots = ms)
    (hframes : rm.frames + 1 ≤ R.frames) (hlocals : W9 + (maxL + 11) + rm.locals ≤ R.locals)
    (hws : ∀ w ∈ ws, ∀ a' U, s.WarmedH U.vm → w.before a' U = true) (hcode : Cond.code y bytes maxL ret ∈ ws) (hinit : ∀ a' U, s.WarmedH U.vm → (Cond.initialized y.cls).before a' U = true) :
    vx_Back l R p e below s sargs y len W9 (PreOf R mc ms Pc) (PostOf Qc mc ms free) (vx_Post XC mc ms free) := by
  intro m meth c A g ig mk a X hg hsize hdg hW hn hp
  have h1 : (headSpec ws rm).pre.before a A.U = true := atoms_intro fun w hw => hws w hw _ _ X.warmed
  have h2 : (Cond.code y bytes maxL ret).before a A.U = true := hws _ hcode _ _ X.warmed
  have h3 : (Cond.initialized y.cls).before a A.U = true := hinit _ _ X.warmed
  have h4 : A.cells + (headSpec ws rm).room.cells ≤ R.cells := by rw [show (headSpec ws rm).room.cells = mc from hrc]; exact hp.1
  have h5 : A.slots + (headSpec ws rm).room.slots ≤ R.slots := by rw [show (headSpec ws rm).room.slots = ms from hrs]; exact hp.2.1
  have hPc : Pc a (A.U.calling g mk a) := hblind _ _ _ _ hp.2.2
  obtain ⟨U, Ls, c0, s0⟩ := A
  dsimp only [Pt.U, Pt.locs, Pt.cells, Pt.slots] at h1 h2 h3 h4 h5 X hn hPc ⊢
  obtain ⟨methY, cY, hmY, hcY, -, hlY, -, -, -, -⟩ := Cond.code_spec hn h2
  obtain ⟨kY, hkY, -⟩ := className_of_methodNamed hn
  have hinitY : kY.init = .initialized := Cond.initialized_spec (findClass_of_methodNamed hn) hkY h3
  have h : At U g.method c below := by rw [hg]; exact X.here
  have hlocals9 : W9 + (maxL + 11) + (headSpec ws rm).room.locals ≤ R.locals := hlocals
  have happ : (headSpec ws rm).appliesLoose y e.platform (U.calling g mk a) = true :=
    Spec.appliesLoose_calling (g := g) h hdg hn hkY hinitY
      (X.room_calling (g := g) (R' := (headSpec ws rm).room) hsize hmY hcY hframes (by rw [hlY]; omega) h4 h5) h1
  obtain ⟨mid, hmid⟩ := h.above
  have hfr : (U.setTop g).frames = (.java g :: mid) ++ below := by rw [State.frames_setTop' g h.top, hmid]; rfl
  obtain ⟨o, s₂, hsteps, -, hend, hq⟩ := Steps.callFree hM p X.admits X.cas X.clock (acts := []) hfr happ hPc trivial
  have hq' : vx_Q Qc XC mc ms free a (U.calling g mk a) o s₂ := hq
  rw [State.frames_setTop' g h.top] at hend
  obtain ⟨g₀, hg0⟩ := Option.isSome_iff_exists.mp h.top
  obtain ⟨r, hr⟩ := State.topJava?_eq_some.mp hg0
  have hr' : (({ U with heap := s₂.heap, slotsUsed := s₂.slotsUsed } : State).setVm s₂.vm).frames = .java g₀ :: r := hr
  rcases hq' with ⟨hqc, L, hfe, hL⟩ | ⟨q, rfl, E, ce, L, hx, hce, hcv, hcl, hW₂, hsm, hL⟩
  · obtain ⟨⟨v, rfl⟩, hW₂, e2, q2, q3, q4, q5, q6⟩ := id hfe
    have e3 : s₂ = ({ (U.calling g mk a).setFrames s₂.frames with heap := s₂.heap, slotsUsed := s₂.slotsUsed } : State).setVm s₂.vm := by
      have : s₂ = ({ s₂ with vm := (U.calling g mk a).vm } : State).setVm s₂.vm := rfl
      rw [e2] at this
      exact this
    obtain ⟨c₂, i₂, len₂, hc₂, hd₂, hf₂⟩ := hend
    have hW' : U.WarmedH s₂.vm := hW₂
    have hcc : c₂ = c := by
      have h1 : s₂.code? g.method = U.code? g.method := by
        rw [State.code?_eq, State.code?_eq, hW'.alike.method?]
      exact Option.some.inj (hc₂.symm.trans (h1.trans h.code))
    subst hcc
    have hlen : len₂ = len := by rw [hdg] at hd₂; cases hd₂; rfl
    subst hlen
    have hs₂ : s₂ = (({ U with heap := s₂.heap, slotsUsed := s₂.slotsUsed } : State).setVm s₂.vm).setTop { g with pc := g.pc + len₂, stack := v.toList ++ g.stack } := by
      refine e3.trans ?_
      rw [hf₂, State.calling_eq h.top, State.setFrames_setFrames, State.setTop_of_frames _ hr', hr]
      rfl
    have hsame : U.sameButNew ({ U with heap := s₂.heap, slotsUsed := s₂.slotsUsed } : State) L mc ms := by
      refine ⟨?_, q2, q3, q4, q5, q6⟩
      obtain ⟨t, ht, -⟩ := State.frames_cons hr
      show ({ U with heap := s₂.heap, slotsUsed := s₂.slotsUsed } : State) = { U.setFrames U.frames with heap := s₂.heap, slotsUsed := s₂.slotsUsed }
      rw [State.setFrames_self ht]
    subst hg
    refine Or.inl ⟨v, ⟨(({ U with heap := s₂.heap, slotsUsed := s₂.slotsUsed } : State).setVm s₂.vm), Ls ++ L, c0 + mc, s0 + ms⟩,
      ⟨X.admits, X.cas, X.clock, X.frames, X.room, X.hears, X.method, X.code, (X.here.setHeapUsed s₂.heap s₂.slotsUsed).setVm hW'.alike, X.tail, State.WarmedH.trans X.warmed hW', X.limits, X.bytes, X.same.trans (hsame.setVm s.vm)⟩,
      ⟨g, mk, s₂, L, rfl, rfl, hqc, rfl, hL, rfl, rfl⟩, ?_⟩
    show Steps p.tables e below _ ((({ U with heap := s₂.heap, slotsUsed := s₂.slotsUsed } : State).setVm s₂.vm).setTop { g with pc := g.pc + len₂, stack := v.toList ++ g.stack })
    rw [← hs₂]
    exact hsteps
  · obtain ⟨e2, q2, q3, q4, q5, q6⟩ := id hsm
    have e3 : s₂ = ({ (U.calling g mk a).setFrames s₂.frames with heap := s₂.heap, slotsUsed := s₂.slotsUsed } : State).setVm s₂.vm := by
      have : s₂ = ({ s₂ with vm := (U.calling g mk a).vm } : State).setVm s₂.vm := rfl
      rw [e2] at this
      exact this
    have hf₂ : s₂.frames = .throwing q :: .java g :: U.frames.tail := hend
    have hW' : U.WarmedH s₂.vm := hW₂
    have hs₂ : s₂ = ((({ U with heap := s₂.heap, slotsUsed := s₂.slotsUsed } : State).setVm s₂.vm).setTop g).pushFrame (.throwing q) := by
      refine e3.trans ?_
      rw [hf₂, State.calling_eq h.top, State.setFrames_setFrames, State.pushFrame, State.frames_setTop _ hr', State.setTop_of_frames _ hr', State.setFrames_setFrames, hr]
      rfl
    have hsame : U.sameButNew ({ U with heap := s₂.heap, slotsUsed := s₂.slotsUsed } : State) L mc ms := by
      refine ⟨?_, q2, q3, q4, q5, q6⟩
      obtain ⟨t, ht, -⟩ := State.frames_cons hr
      show ({ U with heap := s₂.heap, slotsUsed := s₂.slotsUsed } : State) = { U.setFrames U.frames with heap := s₂.heap, slotsUsed := s₂.slotsUsed }
      rw [State.setFrames_self ht]
    subst hg
    refine Or.inr ⟨q, ⟨(({ U with heap := s₂.heap, slotsUsed := s₂.slotsUsed } : State).setVm s₂.vm), Ls ++ L, c0 + mc, s0 + ms⟩,
      ⟨X.admits, X.cas, X.clock, X.frames, X.room, X.hears, X.method, X.code, (X.here.setHeapUsed s₂.heap s₂.slotsUsed).setVm hW'.alike, X.tail, State.WarmedH.trans X.warmed hW', X.limits, X.bytes, X.same.trans (hsame.setVm s.vm)⟩,
      ⟨g, mk, s₂, L, E, ce, rfl, rfl, hx, hce, hcv, hcl, rfl, hL, rfl, rfl⟩, ?_⟩
    show Steps p.tables e below _ (((({ U with heap := s₂.heap, slotsUsed := s₂.slotsUsed } : State).setVm s₂.vm).setTop g).pushFrame (.throwing q))
    rw [← hs₂]
    exact hsteps
end Payer
section Calls
variable {p : Program} {l : Launch} {e : Env} {R : Room} {s : State} {m : MethodId} {args : Array Value} {below : List Frame} {meth : Method} {c : Code} {T : State} {locs : List Loc} {cells slots : Nat}
theorem vx_callV (X : Stand p l e R s m args below meth c T locs cells slots) (hexec : p.tables.exec = Jvm.exec) {own C : String} {index : Nat} {y : MethodName} {bytes : ByteArray} {maxL : Nat} {ret : Option FieldType}
    (hown : s.vm.findClass own = some m.cls) (hlink : (Cond.methodLink own index y).before args s = true) (hinst : (Cond.instanceMethod y).before args s = true) (hsel : (Cond.selects C y y).before args s = true)
    (hcode : (Cond.code y bytes maxL ret).before args s = true) (hy : y.cls ≠ "java/lang/invoke/MethodHandle" ∧ y.cls ≠ "java/lang/invoke/VarHandle")
    {W9 : Nat} {Pre : Pt → Array Value → Prop} {Post : Pt → Array Value → Option Value → Pt → Prop} {PostX : Pt → Array Value → Addr → Pt → Prop} (hK : vx_Back l R p e below s args y 3 W9 Pre Post PostX)
    {b : Addr} {cellB : Cell} (hcell : T.heap[b]? = some cellB) (hobj : cellB.vm.isStatics = false) (hcls : s.vm.findClass C = some cellB.cls)
    {g : JFrame} (hg : g.method = m) (hsize : g.locals.size = c.maxLocals) {argsL rest : List Value} (hlen : ∀ sig, parseMethodDescriptor y.desc = some sig → argsL.length = sig.parameters.length)
    (hstack : g.stack = argsL.reverse ++ .ref b :: rest) (hW : 2 * g.monitorRoom + (rest.map fun v => v.category).sum ≤ W9) (hdg : decode c.code g.pc = .ok (.invokevirtual index, 3))
    (hpre : ∀ vm₁, s.WarmedH vm₁ → Pre ⟨T.setVm vm₁, locs, cells, slots⟩ (Value.ref b :: argsL).toArray) :
    (∃ (v : Option Value) (vm₁ : Vm) (B : Pt), s.WarmedH vm₁ ∧ Stand p l e R s m args below meth c B.U B.locs B.cells B.slots ∧ Post ⟨T.setVm vm₁, locs, cells, slots⟩ (Value.ref b :: argsL).toArray v B ∧
      ∀ target, Steps p.tables e below (B.U.setTop { g with pc := g.pc + 3, stack := v.toList ++ rest }) target → Steps p.tables e below (T.setTop g) target) ∨
    (∃ (q : Addr) (vm₁ : Vm) (B : Pt), s.WarmedH vm₁ ∧ Stand p l e R s m args below meth c B.U B.locs B.cells B.slots ∧ PostX ⟨T.setVm vm₁, locs, cells, slots⟩ (Value.ref b :: argsL).toArray q B ∧
      Steps p.tables e below (T.setTop g) ((B.U.setTop { g with stack := rest }).pushFrame (.throwing q))) := by
  obtain ⟨mk, methM, hnamed, hmethM, hstM, habM⟩ := Cond.instanceMethod_spec hinst
  obtain ⟨methM', cM, hmethM', -, -, -, -, -, -, hsigM⟩ := Cond.code_spec hnamed hcode
  cases hmethM.symm.trans hmethM'
  obtain ⟨c2, r2, m2, q1, q2, q3, q4, kP, hkP, hkPi⟩ := Cond.selects_spec hsel
  cases hcls.symm.trans q1
  cases (State.methodFound?_of_named hnamed hy).symm.trans q2
  cases hnamed.symm.trans q3
  have hselP : selectMethod e.platform s.vm cellB.cls mk = .method mk := by rw [Launch.admits_selectMethod X.admits]; exact q4
  obtain ⟨vm₁, X₁, hstep₁⟩ := X.invokevirtual hexec hown hlink hnamed hmethM hstM hkP hkPi hy (a := b) (cell := cellB) hcell
    (fun z h => by rw [h] at hobj; cases hobj) hselP hmethM habM hkP hkPi (g := g) hg (argsL := argsL) (rest := rest) (hlen _ hsigM) hstack hdg
  rcases hK m meth c ⟨T.setVm vm₁, locs, cells, slots⟩ { g with stack := rest } (.invokevirtual index) mk (Value.ref b :: argsL).toArray X₁ hg hsize hdg hW (X₁.named hnamed) (hpre vm₁ X₁.warmed) with ⟨v, B, X', hpost, hsteps⟩ | ⟨q, B, X', hpost, hsteps⟩
  · exact Or.inl ⟨v, vm₁, B, X₁.warmed, X', hpost, fun target h => hstep₁ _ fun acts => by rw [doInvoke_state]; exact hsteps.trans h⟩
  · exact Or.inr ⟨q, vm₁, B, X₁.warmed, X', hpost, hstep₁ _ fun acts => by rw [doInvoke_state]; exact hsteps⟩
theorem vx_callS (X : Stand p l e R s m args below meth c T locs cells slots) (hexec : p.tables.exec = Jvm.exec) {own : String} {index : Nat} {y : MethodName} {bytes : ByteArray} {maxL : Nat} {ret : Option FieldType}
    (hown : s.vm.findClass own = some m.cls) (hlink : (Cond.methodLink own index y).before args s = true) (hstat : (Cond.static y).before args s = true) (hinit : (Cond.initialized y.cls).before args s = true)
    (hcode : (Cond.code y bytes maxL ret).before args s = true) (hy : y.cls ≠ "java/lang/invoke/MethodHandle" ∧ y.cls ≠ "java/lang/invoke/VarHandle")
    {W9 : Nat} {Pre : Pt → Array Value → Prop} {Post : Pt → Array Value → Option Value → Pt → Prop} {PostX : Pt → Array Value → Addr → Pt → Prop} (hK : vx_Back l R p e below s args y 3 W9 Pre Post PostX)
    {g : JFrame} (hg : g.method = m) (hsize : g.locals.size = c.maxLocals) {argsL rest : List Value} (hlen : ∀ sig, parseMethodDescriptor y.desc = some sig → argsL.length = sig.parameters.length)
    (hstack : g.stack = argsL.reverse ++ rest) (hW : 2 * g.monitorRoom + (rest.map fun v => v.category).sum ≤ W9) (hdg : decode c.code g.pc = .ok (.invokestatic index, 3))
    (hpre : ∀ vm₁, s.WarmedH vm₁ → Pre ⟨T.setVm vm₁, locs, cells, slots⟩ argsL.toArray) :
    (∃ (v : Option Value) (vm₁ : Vm) (B : Pt), s.WarmedH vm₁ ∧ Stand p l e R s m args below meth c B.U B.locs B.cells B.slots ∧ Post ⟨T.setVm vm₁, locs, cells, slots⟩ argsL.toArray v B ∧
      ∀ target, Steps p.tables e below (B.U.setTop { g with pc := g.pc + 3, stack := v.toList ++ rest }) target → Steps p.tables e below (T.setTop g) target) ∨
    (∃ (q : Addr) (vm₁ : Vm) (B : Pt), s.WarmedH vm₁ ∧ Stand p l e R s m args below meth c B.U B.locs B.cells B.slots ∧ PostX ⟨T.setVm vm₁, locs, cells, slots⟩ argsL.toArray q B ∧
      Steps p.tables e below (T.setTop g) ((B.U.setTop { g with stack := rest }).pushFrame (.throwing q))) := by
  obtain ⟨mk, hnamed⟩ := Cond.code_named hcode
  obtain ⟨methM, cM, hmethM, -, -, -, -, -, -, hsigM⟩ := Cond.code_spec hnamed hcode
  have hstatic : methM.isStatic = true := Cond.static_spec hnamed hmethM hstat
  obtain ⟨kP, hkP, -⟩ := className_of_methodNamed hnamed
  have hinitP : kP.init = .initialized := Cond.initialized_spec (findClass_of_methodNamed hnamed) hkP hinit
  obtain ⟨vm₁, X₁, hstep₁⟩ := X.invokestatic hexec hown hlink hnamed hmethM hstatic hkP hinitP hy (g := g) hg (argsL := argsL) (rest := rest) (hlen _ hsigM) hstack hdg
  rcases hK m meth c ⟨T.setVm vm₁, locs, cells, slots⟩ { g with stack := rest } (.invokestatic index) mk argsL.toArray X₁ hg hsize hdg hW (X₁.named hnamed) (hpre vm₁ X₁.warmed) with ⟨v, B, X', hpost, hsteps⟩ | ⟨q, B, X', hpost, hsteps⟩
  · exact Or.inl ⟨v, vm₁, B, X₁.warmed, X', hpost, fun target h => hstep₁ _ fun acts => by rw [doInvoke_state]; exact hsteps.trans h⟩
  · exact Or.inr ⟨q, vm₁, B, X₁.warmed, X', hpost, hstep₁ _ fun acts => by rw [doInvoke_state]; exact hsteps⟩
end Calls
theorem vx_cls {s : State} {T : State} {vm₁ : Vm} {E : String} {k : ClassId} (hW : s.WarmedH vm₁) (h : (T.setVm vm₁).vm.findClass E = some k) : s.vm.findClass E = some k := by
  have h1 : vm₁.findClass E = some k := h
  rw [hW.alike.findClass] at h1
  exact h1
/-- the method's frame g, with q thrown over it -/
def vx_W (p : Program) (l : Launch) (e : Env) (R : Room) (s : State) (m : MethodId) (args : Array Value) (below : List Frame) (meth : Method) (c : Code) (H : Heap) (locs : List Loc) (cells slots : Nat) (Q : State → Prop) (g : JFrame) (q : Addr) : Prop :=
  ∀ T : State, T.heap = H → Stand p l e R s m args below meth c T locs cells slots → ∃ t, Steps p.tables e below ((T.setTop g).pushFrame (.throwing q)) t ∧ Q t
def vx_Run (p : Program) (l : Launch) (e : Env) (R : Room) (s : State) (m : MethodId) (args : Array Value) (below : List Frame) (meth : Method) (c : Code) (H : Heap) (locs : List Loc) (cells slots mc ms : Nat) (g : JFrame) (rest : List Value) (Qa : State → Outcome → State → Prop) (XC : String → State → State → Prop) (free : Addr → Prop) : Prop :=
  ∀ T : State, T.heap = H → Stand p l e R s m args below meth c T locs cells slots →
    (∃ (v : Option Value) (st₀ t T' : State) (L : List Loc), st₀.heap = H ∧ Stand p l e R s m args below meth c T' (locs ++ L) (cells + mc) (slots + ms) ∧ (∀ q ∈ L, free q.base) ∧ T'.heap = t.heap ∧ T'.vm = t.vm ∧ Qa st₀ (.returned v) t ∧
      Goes p e below T g T' { g with pc := g.pc + 3, stack := v.toList ++ rest }) ∨
    (∃ (q : Addr) (st₀ t T' : State) (L : List Loc) (E : String) (ce : Cell), st₀.heap = H ∧ Stand p l e R s m args below meth c T' (locs ++ L) (cells + mc) (slots + ms) ∧ (∀ z ∈ L, free z.base) ∧ T'.heap = t.heap ∧ T'.vm = t.vm ∧ XC E st₀ t ∧ t.heap[q]? = some ce ∧ ce.vm = .none ∧ s.vm.findClass E = some ce.cls ∧
      Steps p.tables e below (T.setTop g) ((T'.setTop { g with stack := rest }).pushFrame (.throwing q)))
def vx_X {S : Type} (px : S → Prop) (B : String → S → State → Prop) (A : Nat → Prop) : String → State → State → Prop := fun E st t => ∃ u : S, px u ∧ B E u t ∧ va_F A st t
section Runs
variable {p : Program} {l : Launch} {e : Env} {R : Room} {s : State} {m : MethodId} {args : Array Value} {below : List Frame} {meth : Method} {c : Code} {H : Heap} {locs : List Loc} {cells slots : Nat}
variable {y : MethodName} {bytes cc : ByteArray} {maxL nL mc ms n index : Nat} {ret : Option FieldType} {ws : List Cond} {rm : Room} {Pc : Array Value → State → Prop} {Qc : Array Value → State → Outcome → State → Prop} {XC : String → State → State → Prop} {free : Addr → Prop} {Ts : List Cond} {own C : String} {b : Addr} {As rest : List Value} {g : JFrame}
theorem vx_callBack (cb : CallB R s args own index y bytes maxL ret ws rm mc ms n) (hM : vx_Met l y ws rm Pc Qc XC mc ms free) (hbl : FrameBlind Pc) : vx_Back l R p e below s args y 3 8 (PreOf R mc ms Pc) (PostOf Qc mc ms free) (vx_Post XC mc ms free) := by
  obtain ⟨hrc, hrs, hfr, hlo, hws, hcw, -, hini, -⟩ := cb
  exact vx_back (bytes := bytes) (maxL := maxL) (ret := ret) hM hbl hrc hrs hfr hlo hws hcw (fun a' U hW => word_at hW (Or.inl (by first | rfl | simp [Cond.onTables, Cond.keeps, Cond.steady])) hini)
theorem vx_runV (S : CallFix p m c cc nL s args Ts own) (hM : vx_Met l y ws rm Pc Qc XC mc ms free) (cw : CallW R s args own C index y bytes maxL ret ws rm mc ms n) (hp : PreV s H C b Pc As)
    (hg : g.method = m) (hn : As.length = n) (hsize : g.locals.size = nL) (hstack : g.stack = As.reverse ++ .ref b :: rest) (hW : 2 * g.monitorRoom + (rest.map fun v => v.category).sum ≤ 8) (hdg : decode cc g.pc = .ok (.invokevirtual index, 3)) (hf : cells + mc ≤ R.cells ∧ slots + ms ≤ R.slots) :
    vx_Run p l e R s m args below meth c H locs cells slots mc ms g rest (Qc (Value.ref b :: As).toArray) XC free := by
  have hK : vx_Back l R p e below s args y 3 8 (PreOf R mc ms Pc) (PostOf Qc mc ms free) (vx_Post XC mc ms free) := vx_callBack cw.1 hM hp.1
  obtain ⟨⟨-, -, -, -, -, -, hcode, -, hy, hlen, hl⟩, hin, hse⟩ := cw
  obtain ⟨hx, hb, hml, ho, -⟩ := S
  obtain ⟨-, ⟨cellB, hcB, hoB, hclB⟩, hPc⟩ := hp
  intro T hT X
  rcases vx_callV X hx (C := C) (bytes := bytes) (maxL := maxL) (ret := ret) ho hl hin hse hcode hy hK (by rw [hT]; exact hcB) hoB hclB hg (hsize.trans hml.symm) (argsL := As) (rest := rest) (fun sig h => hn.trans (hlen sig h)) hstack hW (by rw [hb]; exact hdg)
    (fun vm₁ hW₁ => ⟨hf.1, hf.2, hPc (T.setVm vm₁) hT hW₁⟩) with ⟨v, vm₁, ⟨U', l2, c2, s2⟩, hW₁, X', ⟨g', mk, t, L, e1, e2, hq, h1, hL, h2, h3⟩, st⟩ | ⟨q, vm₁, ⟨U', l2, c2, s2⟩, hW₁, X', ⟨g', mk, t, L, E, ce, e1, e2, hq, hce, hcv, hcl, h1, hL, h2, h3⟩, st⟩
  · dsimp only [Pt.U, Pt.locs, Pt.cells, Pt.slots] at X' e1 e2 h1 h2 h3 st
    subst h1; subst h2; subst h3
    exact Or.inl ⟨v, (T.setVm vm₁).calling g' mk (Value.ref b :: As).toArray, t, U', L, hT, X', hL, e1, e2, hq, st⟩
  · dsimp only [Pt.U, Pt.locs, Pt.cells, Pt.slots] at X' e1 e2 h1 h2 h3 st hcl
    subst h1; subst h2; subst h3
    exact Or.inr ⟨q, (T.setVm vm₁).calling g' mk (Value.ref b :: As).toArray, t, U', L, E, ce, hT, X', hL, e1, e2, hq, hce, hcv, vx_cls hW₁ hcl, st⟩
theorem vx_runS (S : CallFix p m c cc nL s args Ts own) (hM : vx_Met l y ws rm Pc Qc XC mc ms free) (cw : CallB R s args own index y bytes maxL ret ws rm mc ms n ∧ (Cond.static y).before args s = true) (hp : PreS s H Pc As)
    (hg : g.method = m) (hn : As.length = n) (hsize : g.locals.size = nL) (hstack : g.stack = As.reverse ++ rest) (hW : 2 * g.monitorRoom + (rest.map fun v => v.category).sum ≤ 8) (hdg : decode cc g.pc = .ok (.invokestatic index, 3)) (hf : cells + mc ≤ R.cells ∧ slots + ms ≤ R.slots) :
    vx_Run p l e R s m args below meth c H locs cells slots mc ms g rest (Qc As.toArray) XC free := by
  have hK : vx_Back l R p e below s args y 3 8 (PreOf R mc ms Pc) (PostOf Qc mc ms free) (vx_Post XC mc ms free) := vx_callBack cw.1 hM hp.1
  obtain ⟨⟨-, -, -, -, -, -, hcode, hini, hy, hlen, hl⟩, hstt⟩ := cw
  obtain ⟨hx, hb, hml, ho, -⟩ := S
  intro T hT X
  rcases vx_callS X hx (bytes := bytes) (maxL := maxL) (ret := ret) ho hl hstt hini hcode hy hK hg (hsize.trans hml.symm) (argsL := As) (rest := rest) (fun sig h => hn.trans (hlen sig h)) hstack hW (by rw [hb]; exact hdg)
    (fun vm₁ hW₁ => ⟨hf.1, hf.2, hp.2 (T.setVm vm₁) hT hW₁⟩) with ⟨v, vm₁, ⟨U', l2, c2, s2⟩, hW₁, X', ⟨g', mk, t, L, e1, e2, hq, h1, hL, h2, h3⟩, st⟩ | ⟨q, vm₁, ⟨U', l2, c2, s2⟩, hW₁, X', ⟨g', mk, t, L, E, ce, e1, e2, hq, hce, hcv, hcl, h1, hL, h2, h3⟩, st⟩
  · dsimp only [Pt.U, Pt.locs, Pt.cells, Pt.slots] at X' e1 e2 h1 h2 h3 st
    subst h1; subst h2; subst h3
    exact Or.inl ⟨v, (T.setVm vm₁).calling g' mk As.toArray, t, U', L, hT, X', hL, e1, e2, hq, st⟩
  · dsimp only [Pt.U, Pt.locs, Pt.cells, Pt.slots] at X' e1 e2 h1 h2 h3 st hcl
    subst h1; subst h2; subst h3
    exact Or.inr ⟨q, (T.setVm vm₁).calling g' mk As.toArray, t, U', L, E, ce, hT, X', hL, e1, e2, hq, hce, hcv, vx_cls hW₁ hcl, st⟩
end Runs
section Rows
variable {p : Program} {l : Launch} {e : Env} {R : Room} {s : State} {m : MethodId} {args : Array Value} {below : List Frame} {meth : Method} {c : Code} {H : Heap} {locs : List Loc} {cells slots : Nat} {Q : State → Prop}
variable {mc ms : Nat} {free : Addr → Prop} {A0 A1 : Nat → Prop} {H0 : Heap} {a : Array Value} {pc : Nat} {ls : Array Slot} {st0 rest : List Value}
theorem vx_keep {st₀ t T' : State} {L : List Loc} (h0 : st₀.heap = H) (e1 : T'.heap = t.heap) (hS : va_S A0 H0 H locs) (hA : ∀ q, q < H.size → A1 q → A0 q) (hf : ∀ q, free q → A0 q) (hL : ∀ q ∈ L, free q.base) (hF : va_F A1 st₀ t) :
    H.size ≤ T'.heap.size ∧ (∀ q : Nat, q < H.size → ¬ A1 q → T'.heap[q]? = H[q]?) ∧ va_S A0 H0 T'.heap (locs ++ L) := by
  obtain ⟨hz, hk⟩ := hF
  rw [h0] at hz hk
  exact ⟨by rw [e1]; exact hz, fun q h1 h2 => by rw [e1]; exact hk q h1 h2,
    ⟨Nat.le_trans hS.1 (by rw [e1]; exact hz), fun q h1 h2 => by rw [e1, hk q (Nat.lt_of_lt_of_le h1 hS.1) (fun z => h2 (hA q (Nat.lt_of_lt_of_le h1 hS.1) z))]; exact hS.2.1 q h1 h2, fun q hq => by
      rcases List.mem_append.mp hq with h | h
      · exact hS.2.2 q h
      · exact hf _ (hL q h)⟩⟩
theorem vx_calli {S SX : Type} {post : Int32 → S → Prop} {px : SX → Prop} {B : S → State → Prop} {BX : String → SX → State → Prop} {AX : Nat → Prop} (hr : vx_Run p l e R s m args below meth c H locs cells slots mc ms (F0 m pc ls st0) rest (va_Qi post B A1 a) (vx_X px BX AX) free) (hS : va_S A0 H0 H locs) (hA : ∀ q, q < H.size → A1 q → A0 q) (hf : ∀ q, free q → A0 q) (hAX : ∀ q, q < H.size → AX q → A0 q)
    (kx : ∀ (E : String) (ce : Cell) (q9 : Addr) (u : SX) (t : State) (H1 : Heap) (locs1 : List Loc), t.heap = H1 → s.vm.Alike t.vm → px u → BX E u t → H.size ≤ H1.size → (∀ q : Nat, q < H.size → ¬ AX q → H1[q]? = H[q]?) → va_S A0 H0 H1 locs1 → H1[q9]? = some ce → ce.vm = .none → s.vm.findClass E = some ce.cls → vx_W p l e R s m args below meth c H1 locs1 (cells + mc) (slots + ms) Q (F0 m pc ls rest) q9)
    (kk : ∀ (r : Int32) (u : S) (t : State) (H1 : Heap) (locs1 : List Loc), t.heap = H1 → s.vm.Alike t.vm → post r u → B u t → H.size ≤ H1.size → (∀ q : Nat, q < H.size → ¬ A1 q → H1[q]? = H[q]?) → va_S A0 H0 H1 locs1 → W p l e R s m args below meth c H1 locs1 (cells + mc) (slots + ms) Q (F0 m (pc + 3) ls (.int r :: rest))) : W p l e R s m args below meth c H locs cells slots Q (F0 m pc ls st0) := by
  intro T hT X
  rcases hr T hT X with ⟨v, st₀, t, T', L, h0, X', hL, e1, e2, ⟨⟨r, u, hv, hp, hb⟩, hF⟩, st⟩ | ⟨q, st₀, t, T', L, E, ce, h0, X', hL, e1, e2, ⟨u, hp, hb, hF⟩, hce, hcv, hcl, st⟩
  · cases hv
    obtain ⟨k1, k2, k3⟩ := vx_keep h0 e1 hS hA hf hL hF
    obtain ⟨t2, a1, b1⟩ := kk r u t T'.heap (locs ++ L) e1.symm (by rw [← e2]; exact X'.warmed.alike) hp hb k1 k2 k3 T' rfl X'
    exact ⟨t2, st t2 a1, b1⟩
  · obtain ⟨k1, k2, k3⟩ := vx_keep h0 e1 hS hAX hf hL hF
    obtain ⟨t2, a1, b1⟩ := kx E ce q u t T'.heap (locs ++ L) e1.symm (by rw [← e2]; exact X'.warmed.alike) hp hb k1 k2 k3 (by rw [e1]; exact hce) hcv hcl T' rfl X'
    exact ⟨t2, st.trans a1, b1⟩
theorem vx_calll {S SX : Type} {post : Int64 → S → Prop} {px : SX → Prop} {B : S → State → Prop} {BX : String → SX → State → Prop} {AX : Nat → Prop} (hr : vx_Run p l e R s m args below meth c H locs cells slots mc ms (F0 m pc ls st0) rest (va_Ql post B A1 a) (vx_X px BX AX) free) (hS : va_S A0 H0 H locs) (hA : ∀ q, q < H.size → A1 q → A0 q) (hf : ∀ q, free q → A0 q) (hAX : ∀ q, q < H.size → AX q → A0 q)
    (kx : ∀ (E : String) (ce : Cell) (q9 : Addr) (u : SX) (t : State) (H1 : Heap) (locs1 : List Loc), t.heap = H1 → s.vm.Alike t.vm → px u → BX E u t → H.size ≤ H1.size → (∀ q : Nat, q < H.size → ¬ AX q → H1[q]? = H[q]?) → va_S A0 H0 H1 locs1 → H1[q9]? = some ce → ce.vm = .none → s.vm.findClass E = some ce.cls → vx_W p l e R s m args below meth c H1 locs1 (cells + mc) (slots + ms) Q (F0 m pc ls rest) q9)
    (kk : ∀ (r : Int64) (u : S) (t : State) (H1 : Heap) (locs1 : List Loc), t.heap = H1 → s.vm.Alike t.vm → post r u → B u t → H.size ≤ H1.size → (∀ q : Nat, q < H.size → ¬ A1 q → H1[q]? = H[q]?) → va_S A0 H0 H1 locs1 → W p l e R s m args below meth c H1 locs1 (cells + mc) (slots + ms) Q (F0 m (pc + 3) ls (.long r :: rest))) : W p l e R s m args below meth c H locs cells slots Q (F0 m pc ls st0) := by
  intro T hT X
  rcases hr T hT X with ⟨v, st₀, t, T', L, h0, X', hL, e1, e2, ⟨⟨r, u, hv, hp, hb⟩, hF⟩, st⟩ | ⟨q, st₀, t, T', L, E, ce, h0, X', hL, e1, e2, ⟨u, hp, hb, hF⟩, hce, hcv, hcl, st⟩
  · cases hv
    obtain ⟨k1, k2, k3⟩ := vx_keep h0 e1 hS hA hf hL hF
    obtain ⟨t2, a1, b1⟩ := kk r u t T'.heap (locs ++ L) e1.symm (by rw [← e2]; exact X'.warmed.alike) hp hb k1 k2 k3 T' rfl X'
    exact ⟨t2, st t2 a1, b1⟩
  · obtain ⟨k1, k2, k3⟩ := vx_keep h0 e1 hS hAX hf hL hF
    obtain ⟨t2, a1, b1⟩ := kx E ce q u t T'.heap (locs ++ L) e1.symm (by rw [← e2]; exact X'.warmed.alike) hp hb k1 k2 k3 (by rw [e1]; exact hce) hcv hcl T' rfl X'
    exact ⟨t2, st.trans a1, b1⟩
theorem vx_callf {S SX : Type} {post : UInt32 → S → Prop} {px : SX → Prop} {B : S → State → Prop} {BX : String → SX → State → Prop} {AX : Nat → Prop} (hr : vx_Run p l e R s m args below meth c H locs cells slots mc ms (F0 m pc ls st0) rest (va_Qf post B A1 a) (vx_X px BX AX) free) (hS : va_S A0 H0 H locs) (hA : ∀ q, q < H.size → A1 q → A0 q) (hf : ∀ q, free q → A0 q) (hAX : ∀ q, q < H.size → AX q → A0 q)
    (kx : ∀ (E : String) (ce : Cell) (q9 : Addr) (u : SX) (t : State) (H1 : Heap) (locs1 : List Loc), t.heap = H1 → s.vm.Alike t.vm → px u → BX E u t → H.size ≤ H1.size → (∀ q : Nat, q < H.size → ¬ AX q → H1[q]? = H[q]?) → va_S A0 H0 H1 locs1 → H1[q9]? = some ce → ce.vm = .none → s.vm.findClass E = some ce.cls → vx_W p l e R s m args below meth c H1 locs1 (cells + mc) (slots + ms) Q (F0 m pc ls rest) q9)
    (kk : ∀ (r : UInt32) (u : S) (t : State) (H1 : Heap) (locs1 : List Loc), t.heap = H1 → s.vm.Alike t.vm → post r u → B u t → H.size ≤ H1.size → (∀ q : Nat, q < H.size → ¬ A1 q → H1[q]? = H[q]?) → va_S A0 H0 H1 locs1 → W p l e R s m args below meth c H1 locs1 (cells + mc) (slots + ms) Q (F0 m (pc + 3) ls (.float r :: rest))) : W p l e R s m args below meth c H locs cells slots Q (F0 m pc ls st0) := by
  intro T hT X
  rcases hr T hT X with ⟨v, st₀, t, T', L, h0, X', hL, e1, e2, ⟨⟨r, u, hv, hp, hb⟩, hF⟩, st⟩ | ⟨q, st₀, t, T', L, E, ce, h0, X', hL, e1, e2, ⟨u, hp, hb, hF⟩, hce, hcv, hcl, st⟩
  · cases hv
    obtain ⟨k1, k2, k3⟩ := vx_keep h0 e1 hS hA hf hL hF
    obtain ⟨t2, a1, b1⟩ := kk r u t T'.heap (locs ++ L) e1.symm (by rw [← e2]; exact X'.warmed.alike) hp hb k1 k2 k3 T' rfl X'
    exact ⟨t2, st t2 a1, b1⟩
  · obtain ⟨k1, k2, k3⟩ := vx_keep h0 e1 hS hAX hf hL hF
    obtain ⟨t2, a1, b1⟩ := kx E ce q u t T'.heap (locs ++ L) e1.symm (by rw [← e2]; exact X'.warmed.alike) hp hb k1 k2 k3 (by rw [e1]; exact hce) hcv hcl T' rfl X'
    exact ⟨t2, st.trans a1, b1⟩
theorem vx_calld {S SX : Type} {post : UInt64 → S → Prop} {px : SX → Prop} {B : S → State → Prop} {BX : String → SX → State → Prop} {AX : Nat → Prop} (hr : vx_Run p l e R s m args below meth c H locs cells slots mc ms (F0 m pc ls st0) rest (va_Qd post B A1 a) (vx_X px BX AX) free) (hS : va_S A0 H0 H locs) (hA : ∀ q, q < H.size → A1 q → A0 q) (hf : ∀ q, free q → A0 q) (hAX : ∀ q, q < H.size → AX q → A0 q)
    (kx : ∀ (E : String) (ce : Cell) (q9 : Addr) (u : SX) (t : State) (H1 : Heap) (locs1 : List Loc), t.heap = H1 → s.vm.Alike t.vm → px u → BX E u t → H.size ≤ H1.size → (∀ q : Nat, q < H.size → ¬ AX q → H1[q]? = H[q]?) → va_S A0 H0 H1 locs1 → H1[q9]? = some ce → ce.vm = .none → s.vm.findClass E = some ce.cls → vx_W p l e R s m args below meth c H1 locs1 (cells + mc) (slots + ms) Q (F0 m pc ls rest) q9)
    (kk : ∀ (r : UInt64) (u : S) (t : State) (H1 : Heap) (locs1 : List Loc), t.heap = H1 → s.vm.Alike t.vm → post r u → B u t → H.size ≤ H1.size → (∀ q : Nat, q < H.size → ¬ A1 q → H1[q]? = H[q]?) → va_S A0 H0 H1 locs1 → W p l e R s m args below meth c H1 locs1 (cells + mc) (slots + ms) Q (F0 m (pc + 3) ls (.double r :: rest))) : W p l e R s m args below meth c H locs cells slots Q (F0 m pc ls st0) := by
  intro T hT X
  rcases hr T hT X with ⟨v, st₀, t, T', L, h0, X', hL, e1, e2, ⟨⟨r, u, hv, hp, hb⟩, hF⟩, st⟩ | ⟨q, st₀, t, T', L, E, ce, h0, X', hL, e1, e2, ⟨u, hp, hb, hF⟩, hce, hcv, hcl, st⟩
  · cases hv
    obtain ⟨k1, k2, k3⟩ := vx_keep h0 e1 hS hA hf hL hF
    obtain ⟨t2, a1, b1⟩ := kk r u t T'.heap (locs ++ L) e1.symm (by rw [← e2]; exact X'.warmed.alike) hp hb k1 k2 k3 T' rfl X'
    exact ⟨t2, st t2 a1, b1⟩
  · obtain ⟨k1, k2, k3⟩ := vx_keep h0 e1 hS hAX hf hL hF
    obtain ⟨t2, a1, b1⟩ := kx E ce q u t T'.heap (locs ++ L) e1.symm (by rw [← e2]; exact X'.warmed.alike) hp hb k1 k2 k3 (by rw [e1]; exact hce) hcv hcl T' rfl X'
    exact ⟨t2, st.trans a1, b1⟩
theorem vx_callv {S SX : Type} {post : S → Prop} {px : SX → Prop} {B : S → State → Prop} {BX : String → SX → State → Prop} {AX : Nat → Prop} (hr : vx_Run p l e R s m args below meth c H locs cells slots mc ms (F0 m pc ls st0) rest (va_Qv post B A1 a) (vx_X px BX AX) free) (hS : va_S A0 H0 H locs) (hA : ∀ q, q < H.size → A1 q → A0 q) (hf : ∀ q, free q → A0 q) (hAX : ∀ q, q < H.size → AX q → A0 q)
    (kx : ∀ (E : String) (ce : Cell) (q9 : Addr) (u : SX) (t : State) (H1 : Heap) (locs1 : List Loc), t.heap = H1 → s.vm.Alike t.vm → px u → BX E u t → H.size ≤ H1.size → (∀ q : Nat, q < H.size → ¬ AX q → H1[q]? = H[q]?) → va_S A0 H0 H1 locs1 → H1[q9]? = some ce → ce.vm = .none → s.vm.findClass E = some ce.cls → vx_W p l e R s m args below meth c H1 locs1 (cells + mc) (slots + ms) Q (F0 m pc ls rest) q9)
    (kk : ∀ (u : S) (t : State) (H1 : Heap) (locs1 : List Loc), t.heap = H1 → s.vm.Alike t.vm → post u → B u t → H.size ≤ H1.size → (∀ q : Nat, q < H.size → ¬ A1 q → H1[q]? = H[q]?) → va_S A0 H0 H1 locs1 → W p l e R s m args below meth c H1 locs1 (cells + mc) (slots + ms) Q (F0 m (pc + 3) ls (rest))) : W p l e R s m args below meth c H locs cells slots Q (F0 m pc ls st0) := by
  intro T hT X
  rcases hr T hT X with ⟨v, st₀, t, T', L, h0, X', hL, e1, e2, ⟨⟨u, hv, hp, hb⟩, hF⟩, st⟩ | ⟨q, st₀, t, T', L, E, ce, h0, X', hL, e1, e2, ⟨u, hp, hb, hF⟩, hce, hcv, hcl, st⟩
  · cases hv
    obtain ⟨k1, k2, k3⟩ := vx_keep h0 e1 hS hA hf hL hF
    obtain ⟨t2, a1, b1⟩ := kk u t T'.heap (locs ++ L) e1.symm (by rw [← e2]; exact X'.warmed.alike) hp hb k1 k2 k3 T' rfl X'
    exact ⟨t2, st t2 a1, b1⟩
  · obtain ⟨k1, k2, k3⟩ := vx_keep h0 e1 hS hAX hf hL hF
    obtain ⟨t2, a1, b1⟩ := kx E ce q u t T'.heap (locs ++ L) e1.symm (by rw [← e2]; exact X'.warmed.alike) hp hb k1 k2 k3 (by rw [e1]; exact hce) hcv hcl T' rfl X'
    exact ⟨t2, st.trans a1, b1⟩
/-- caught by the row x of this method's table; the rows ahead don't take it -/
theorem vx_catch {own name : String} {E : String} {ce : Cell} {q : Addr} (hown : s.vm.findClass own = some m.cls) (pre : List ExceptionTableEntry) (x : ExceptionTableEntry) (suf : List ExceptionTableEntry) (hsplit : c.exceptionTable.toList = pre ++ x :: suf)
    (hpass : ∀ z ∈ pre, covers z pc = false ∨ (z.catchType ≠ 0 ∧ ∃ nm : String, (Cond.classLink own z.catchType nm).before args s = true ∧ va_Nc E nm s)) (hx : covers x pc = true) (h0 : x.catchType ≠ 0)
    (hlink : (Cond.classLink own x.catchType name).before args s = true) (hcast : (Cond.castable E name).before args s = true) (hcell : H[q]? = some ce) (hv : ce.vm = .none) (hcl : s.vm.findClass E = some ce.cls)
    (kk : W p l e R s m args below meth c H locs cells slots Q (F0 m x.handlerPc ls [.ref q])) : vx_W p l e R s m args below meth c H locs cells slots Q (F0 m pc ls rest) q := by
  intro T hT X
  have hpl : e.platform.magicAccessors = ({} : Platform).magicAccessors := by rw [X.admits.platform]
  obtain ⟨c3, c4, hc3, hc4, hasg⟩ := Cond.castable_spec hcast
  cases Option.some.inj (hc3.symm.trans hcl)
  obtain ⟨c5, hc5, hcl5⟩ := Cond.classLink_spec hown hlink e.platform hpl
  cases Option.some.inj (hc4.symm.trans hc5)
  obtain ⟨vm', X', st⟩ := X.thenCaughtThrough q (g := F0 m pc ls rest) rfl (Steps.refl _) (by rw [hT]; exact hcell) (by rw [hv]; rfl) (by obtain ⟨k9, h9, -⟩ := Vm.findClass_spec hcl; exact ⟨k9, h9⟩) pre x suf hsplit
    (fun z hz => by
      rcases hpass z hz with h | ⟨hz0, nm, hl1, hn1⟩
      · exact Or.inl h
      · obtain ⟨c6, hc6, hcl6⟩ := Cond.classLink_spec hown hl1 e.platform hpl
        obtain ⟨a8, b8, h1, h2, h3⟩ := hn1
        cases Option.some.inj (h1.symm.trans hcl)
        cases Option.some.inj (h2.symm.trans hc6)
        exact Or.inr ⟨hz0, _, hcl6, h3⟩) hx (Or.inr ⟨h0, c4, hcl5, hasg⟩)
  obtain ⟨t, a1, b1⟩ := kk (T.setVm vm') hT X'
  exact ⟨t, st.trans a1, b1⟩
end Rows
section Ends
variable {p : Program} {l : Launch} {e : Env} {R : Room} {s : State} {m : MethodId} {args : Array Value} {below : List Frame} {meth : Method} {c : Code} {H : Heap} {locs : List Loc} {cells slots : Nat} {Q : State → Prop}
variable {mc ms : Nat} {free : Addr → Prop} {A0 A1 : Nat → Prop} {H0 : Heap} {a : Array Value} {ls : Array Slot} {st0 rest : List Value}
variable {Qc : Array Value → State → Outcome → State → Prop} {XC : String → State → State → Prop}
/-- what a body that may throw owes at its end -/
def vx_MQ (below : List Frame) (Qc : Array Value → State → Outcome → State → Prop) (XC : String → State → State → Prop) (a : Array Value) (s : State) (mc ms : Nat) (free : Addr → Prop) : State → Prop := fun t =>
  ∃ o, t.status = .running ∧ Ended t below o ∧ vx_Q Qc XC mc ms free a s o t
theorem vx_ret {g : JFrame} {mc ms : Nat} (k : W p l e R s m args below meth c H locs cells slots (MQ below Qc args s mc ms free) g) : W p l e R s m args below meth c H locs cells slots (vx_MQ below Qc XC args s mc ms free) g := by
  intro T hT X
  obtain ⟨t, a1, o, b1, b2, b3, b4⟩ := k T hT X
  exact ⟨t, a1, o, b1, b2, Or.inl ⟨b3, b4⟩⟩
/-- not caught here: it goes on to the caller -/
theorem vx_widen {g : JFrame} {q : Addr} {k n : Nat} (h1 : cells ≤ k) (h2 : slots ≤ n) (kk : vx_W p l e R s m args below meth c H locs k n Q g q) : vx_W p l e R s m args below meth c H locs cells slots Q g q := fun T hT X => kk T hT (stand_widen X h1 h2)
theorem vx_out {pc : Nat} {E : String} {ce : Cell} {q : Addr} {mc ms : Nat} (hout : ∀ x ∈ c.exceptionTable.toList, covers x pc = false) (hlocks : meth.locks = false) (hcell : H[q]? = some ce) (hv : ce.vm = .none) (hcl : s.vm.findClass E = some ce.cls)
    (hx : ∀ t : State, t.heap = H → s.vm.Alike t.vm → XC E s t) (hf : ∀ z ∈ locs, free z.base) (hc : cells ≤ mc) (hs : slots ≤ ms) :
    vx_W p l e R s m args below meth c H locs cells slots (vx_MQ below Qc XC args s mc ms free) (F0 m pc ls rest) q := by
  intro T hT X
  obtain ⟨st1, hrun, hend, hW, hsm⟩ := X.leaveThrown q (g := F0 m pc ls rest) rfl rfl rfl hout hlocks
  have hcell9 : (T.setFrames (.throwing q :: below)).heap[q]? = some ce := by
    show T.heap[q]? = some ce
    rw [hT]; exact hcell
  exact ⟨_, st1, .threw q, hrun, hend, Or.inr ⟨q, rfl, E, ce, locs, hx _ hT hW.alike, hcell9, hv, hcl, hW, hsm.mono hc hs, hf⟩⟩
theorem vx_frame {U : State} {k n : Nat} (h : s.sameButNew ({ U with vm := s.vm } : State) locs k n) : s.heap.size ≤ U.heap.size ∧ ∀ q : Nat, q < s.heap.size → (∀ z ∈ locs, z.base ≠ q) → U.heap[q]? = s.heap[q]? := by
  obtain ⟨-, h2, -, -, -, h6⟩ := h
  refine ⟨h2, fun q hq hz => ?_⟩
  obtain ⟨c9, e1, e2, e3, e4⟩ := h6 q _ (Array.getElem?_eq_getElem hq)
  have hs : c9.slots = (s.heap[q]).slots := Array.ext_getElem? fun i => e4 i fun hm => hz _ hm rfl
  have h9 : c9 = s.heap[q] := by
    rw [hs] at e2
    exact e2
  have e5 : U.heap[q]? = some c9 := e1
  rw [e5, h9, Array.getElem?_eq_getElem hq]
/-- the words of a throw but the four that speak of the heap -/
def vx_no (w : Cond) : Bool := decide (w ≠ .isRef (.static Bundle.tN "UNASSIGNED_STACK" Bundle.steD)) && decide (w ≠ .isRef (.static Bundle.tN "SUPPRESSED_SENTINEL" Bundle.listD)) && decide (w ≠ .laysStatic Bundle.tN "UNASSIGNED_STACK" Bundle.steD) && decide (w ≠ .laysStatic Bundle.tN "SUPPRESSED_SENTINEL" Bundle.listD)
def vx_at0 (own : String) (ic : Nat) (X : String) (names : List String) : List Cond := (Bundle.ownAtoms0 own ic X names).filter vx_no
def vx_atS (own : String) (ic : Nat) (X : String) (names : List String) : List Cond := (Bundle.ownAtoms own ic X names).filter vx_no
/-- a word that the tables alone decide, or a good one -/
def vx_ot (w : Cond) : Bool := w.onTables || goodWord w
theorem vx_ot_at {args a' : Array Value} {s U : State} {w : Cond} (hW : s.WarmedH U.vm) (hvm : s.vm = U.vm) (hg : vx_ot w = true) (h : w.before args s = true) : w.before a' U = true := by
  simp only [vx_ot, Bool.or_eq_true] at hg
  rcases hg with hg | hg
  · exact va_tabs hg hvm h
  · exact word_at hW (good_of_word hg) h
/-- a list's words: the good ones out of the method's own list, the others by premises of their own -/
theorem vx_hat {args : Array Value} {s : State} {L B : List Cond} (h1 : ∀ w ∈ L.filter goodWord, w.before args s = true) (h2 : ∀ w ∈ L.filter (fun w => !goodWord w), w ∈ B) (h3 : ∀ w ∈ B, w.before args s = true) : ∀ w ∈ L, w.before args s = true := by
  intro w hw
  by_cases g : goodWord w = true
  · exact h1 w (List.mem_filter.mpr ⟨hw, g⟩)
  · refine h3 w (h2 w (List.mem_filter.mpr ⟨hw, ?_⟩))
    show (!goodWord w) = true
    cases hgw : goodWord w
    · rfl
    · exact absurd hgw g
theorem vx_c {args : Array Value} {s : State} {w : Cond} {B : List Cond} (h : w.before args s = true) (t : ∀ w ∈ B, w.before args s = true) : ∀ w' ∈ w :: B, w'.before args s = true := fun w' h' => (List.mem_cons.mp h').elim (fun e => by rw [e]; exact h) (t w')
theorem vx_n {args : Array Value} {s : State} : ∀ w ∈ ([] : List Cond), w.before args s = true := fun _ h => nomatch h
theorem vx_own {args : Array Value} {s : State} {L : List Cond} (h1 : ∀ w ∈ L.filter vx_no, w.before args s = true)
    (hU : (Cond.isRef (.static Bundle.tN "UNASSIGNED_STACK" Bundle.steD)).before args s = true) (hN : (Cond.isRef (.static Bundle.tN "SUPPRESSED_SENTINEL" Bundle.listD)).before args s = true)
    (lU : (Cond.laysStatic Bundle.tN "UNASSIGNED_STACK" Bundle.steD).before args s = true) (lN : (Cond.laysStatic Bundle.tN "SUPPRESSED_SENTINEL" Bundle.listD).before args s = true) : ∀ w ∈ L, w.before args s = true := by
  intro w hw
  by_cases e1 : w = .isRef (.static Bundle.tN "UNASSIGNED_STACK" Bundle.steD)
  · rw [e1]; exact hU
  · by_cases e2 : w = .isRef (.static Bundle.tN "SUPPRESSED_SENTINEL" Bundle.listD)
    · rw [e2]; exact hN
    · by_cases e3 : w = .laysStatic Bundle.tN "UNASSIGNED_STACK" Bundle.steD
      · rw [e3]; exact lU
      · by_cases e4 : w = .laysStatic Bundle.tN "SUPPRESSED_SENTINEL" Bundle.listD
        · rw [e4]; exact lN
        · exact h1 w (List.mem_filter.mpr ⟨hw, by unfold vx_no; rw [decide_eq_true e1, decide_eq_true e2, decide_eq_true e3, decide_eq_true e4]; rfl⟩)
/-- where a static field lies, its class's statics cell in H -/
def vx_L (C n d : String) (A : Nat → Prop) (U : State) (H : Heap) : Prop := ∃ (c : ClassId) (k : Class) (i : Nat) (f : Field) (a : Nat) (cell : Cell), U.vm.findClass C = some c ∧ U.fieldFound? C n d = some (c, k, i, f) ∧ f.isStatic = true ∧ k.statics = some a ∧ H[a]? = some cell ∧ cell.vm.isStatics = true ∧ cell.cls = c ∧ f.slot < cell.slots.size ∧ k.staticTypes[f.slot]? = some f.type ∧ ¬ A a
theorem vx_L.moved {C n d : String} {A : Nat → Prop} {u U : State} {H : Heap} (hvm : u.vm.Alike U.vm) (h : vx_L C n d A u H) : vx_L C n d A U H := by
  obtain ⟨c, k, i, f, a, cell, h1, h2, h3, h4, h5, h6, h7, h8, h9, h10⟩ := h
  obtain ⟨k', hi', he⟩ := State.fieldFound?_setVm hvm h2
  exact ⟨c, k', i, f, a, cell, by rw [hvm.findClass]; exact h1, hi', h3, by rw [he]; exact h4, h5, h6, h7, h8, by rw [he]; exact h9, h10⟩
theorem vx_L.kept {C n d : String} {A : Nat → Prop} {U : State} {H H1 : Heap} (h : vx_L C n d A U H) (hq : ∀ a : Nat, a < H.size → ¬ A a → H1[a]? = H[a]?) : vx_L C n d A U H1 := by
  obtain ⟨c, k, i, f, a, cell, h1, h2, h3, h4, h5, h6, h7, h8, h9, h10⟩ := h
  exact ⟨c, k, i, f, a, cell, h1, h2, h3, h4, by rw [hq a (Array.getElem?_eq_some_iff.mp h5).1 h10]; exact h5, h6, h7, h8, h9, h10⟩
theorem vx_L.narrow {C n d : String} {A B : Nat → Prop} {U : State} {H : Heap} (h : vx_L C n d A U H) (hAB : ∀ q, B q → A q) : vx_L C n d B U H := by
  obtain ⟨c, k, i, f, a, cell, h1, h2, h3, h4, h5, h6, h7, h8, h9, h10⟩ := h
  exact ⟨c, k, i, f, a, cell, h1, h2, h3, h4, h5, h6, h7, h8, h9, fun z => h10 (hAB _ z)⟩
theorem vx_L.word {C n d : String} {A : Nat → Prop} {s : State} {args : Array Value} (h : vx_L C n d A s s.heap) : (Cond.laysStatic C n d).before args s = true := by
  obtain ⟨c, k, i, f, a, cell, h1, h2, h3, h4, h5, h6, h7, h8, h9, -⟩ := h
  show (Cond.laysStatic C n d).holds args s none s [] = true
  exact Cond.laysStatic_of h1 h2 h3 h4 h5 h6 h7 h8 h9
/-- .. and what it holds: null or some reference -/
def vx_Zq (C n d : String) (A : Nat → Prop) (U : State) (H : Heap) : Prop := va_Zq C n d A U H ∧ vx_L C n d A U H
theorem vx_Zq.moved {C n d : String} {A : Nat → Prop} {u U : State} {H : Heap} (hvm : u.vm.Alike U.vm) (h : vx_Zq C n d A u H) : vx_Zq C n d A U H := ⟨va_Zq.moved hvm h.1, vx_L.moved hvm h.2⟩
theorem vx_Zq.kept {C n d : String} {A : Nat → Prop} {U : State} {H H1 : Heap} (h : vx_Zq C n d A U H) (hq : ∀ a : Nat, a < H.size → ¬ A a → H1[a]? = H[a]?) : vx_Zq C n d A U H1 := ⟨va_Zq.kept h.1 hq, vx_L.kept h.2 hq⟩
theorem vx_Zq.narrow {C n d : String} {A B : Nat → Prop} {U : State} {H : Heap} (h : vx_Zq C n d A U H) (hAB : ∀ q, B q → A q) : vx_Zq C n d B U H := ⟨va_Zq.narrow h.1 hAB, vx_L.narrow h.2 hAB⟩
theorem vx_Zqof {args : Array Value} {s : State} {C n d : String} {A : Nat → Prop} (hl : (Cond.laysStatic C n d).before args s = true) (hini : (Cond.initialized C).before args s = true) (h : (Cond.isRef (.static C n d)).before args s = true) (hA : ∀ a : Nat, a < s.heap.size → ¬ A a) : vx_Zq C n d A s s.heap := by
  refine ⟨va_Zqof hl hini h hA, ?_⟩
  obtain ⟨c, k, i, f, a, cell, h1, h2, h3, h4, h5, h6, h7, h8, h9⟩ := Cond.laysStatic_spec hl
  exact ⟨c, k, i, f, a, cell, h1, h2, h3, h4, h5, h6, h7, h8, h9, hA a (Array.getElem?_eq_some_iff.mp h5).1⟩
theorem vx_isRef {C n d : String} {v : Value} {A : Nat → Prop} {s : State} {args : Array Value} (h : va_Z C n d v A s s.heap) (hv : v.isRef = true) : (Cond.isRef (.static C n d)).before args s = true := by
  obtain ⟨cf, kf, fi, f, a, cell, h1, h2, h3, h4, h5, h6, h7, -⟩ := h
  have he : (Term.static C n d).eval args s none [] s = some v := by
    simp [Term.eval, State.fieldNamed?, h1, h2, h4, h5, h6, h7]
  simp only [Cond.before, Cond.holds, Cond.value, he]
  cases v <;> simp_all [Value.isRef]
theorem vx_isRefq {C n d : String} {A : Nat → Prop} {s : State} {args : Array Value} (h : va_Zq C n d A s s.heap) : (Cond.isRef (.static C n d)).before args s = true := by
  rcases h with h | ⟨t, h⟩
  · exact vx_isRef h rfl
  · exact vx_isRef h rfl
/-- the same frame, seen from here: as if the method were called anew in this heap -/
theorem vx_rebase {T : State} (X : Stand p l e R s m args below meth c T locs cells slots) {R' : Room} (hf : R'.frames ≤ R.frames) (hl : R'.locals ≤ R.locals) (hc : cells + R'.cells ≤ R.cells) (hs : slots + R'.slots ≤ R.slots) :
    Stand p l e R' ((T.setVm s.vm).setFrames (.invoking m args :: below)) m args below meth c T [] 0 0 := by
  have htop : (T.setVm s.vm).topJava?.isSome := X.here.top
  have hF : ((T.setVm s.vm).setFrames (.invoking m args :: below)).frames = .invoking m args :: below := State.frames_setFrames _ (State.cur_lt_of_top htop)
  obtain ⟨g₀, hg0⟩ := Option.isSome_iff_exists.mp htop
  obtain ⟨r, hr⟩ := State.topJava?_eq_some.mp hg0
  have hl9 : e.platform.stackLimits (T.setVm s.vm).me = e.platform.stackLimits s.me := X.limits
  have hb9 : (T.setVm s.vm).me.stackBytes = s.me.stackBytes := X.bytes
  refine ⟨X.admits, X.cas, X.clock, hF, ?_, X.hears, X.method, X.code, X.here, X.tail, X.warmed, ?_, ?_, ?_⟩
  · have h := X.room
    have hU : ((T.setVm s.vm).setFrames (.invoking m args :: below)).localsInUse = s.localsInUse := by
      rw [State.localsInUse_invoking hF (meth := meth) (c := c) X.method X.code, State.localsInUse_invoking X.frames X.method X.code]
    simp only [State.hasRoom, Bool.and_eq_true, decide_eq_true_eq] at h ⊢
    obtain ⟨⟨⟨⟨h1, h2, h3, h4, h5, h6⟩, h7⟩, h8⟩, h9⟩ := h
    rw [X.frames, List.length_cons] at h2 h3
    have q1 := X.heapSize
    have q2 := X.used
    simp only [hF, hU, List.length_cons, State.stackLimits_setFrames, State.stackBytes_setFrames, hl9, hb9]
    refine ⟨⟨⟨⟨by omega, by omega, by omega, by omega, by omega, h6⟩, ?_⟩, ?_⟩, X.book⟩
    · show T.heap.size + R'.cells ≤ e.platform.maxCells
      omega
    · show T.slotsUsed + R'.slots ≤ e.platform.maxSlots
      omega
  · rw [State.stackLimits_setFrames]; rfl
  · rw [State.stackBytes_setFrames]; rfl
  · refine ⟨?_, Nat.le_refl _, Nat.le_refl _, ?_, ?_, fun a c9 h9 => ⟨c9, h9, rfl, rfl, fun _ _ => rfl⟩⟩
    · obtain ⟨t, ht, -⟩ := State.frames_cons hr
      show T.setVm s.vm = { ((T.setVm s.vm).setFrames (.invoking m args :: below)).setFrames (T.setVm s.vm).frames with heap := T.heap, slotsUsed := T.slotsUsed }
      rw [State.setFrames_setFrames, State.setFrames_self ht]
      rfl
    · show T.slotsUsed = T.slotsUsed + ((T.heap.toList.drop T.heap.size).map (·.slots.size)).sum
      rw [List.drop_eq_nil_of_le (Nat.le_of_eq Array.length_toList)]
      rfl
    · show ((T.heap.toList.drop T.heap.size).map (·.slots.size)).sum ≤ 0
      rw [List.drop_eq_nil_of_le (Nat.le_of_eq Array.length_toList)]
      exact Nat.le_refl _
/-- 'throw new E()': new; dup; invokespecial; athrow -/
theorem vx_throw0 {cc : ByteArray} {pc : Nat} (hexec : p.tables.exec = Jvm.exec) (hb : c.code = cc) (hl : l.stackTraces = false) {own cls : String} {names : List String} {ik ic mc ms : Nat} {A : Nat → Prop}
    (hown : s.vm.findClass own = some m.cls) (hcls : Bundle.fit cls = true) (hnames : ∀ n ∈ names, Bundle.fit n = true)
    (hk : (Cond.classLink own ik cls).before args s = true) (hini : (Cond.initialized cls).before args s = true) (hat : ∀ w ∈ vx_at0 own ic cls names, w.before args s = true)
    (hgood : ∀ w ∈ Cond.classLink own ik cls :: Cond.initialized cls :: vx_at0 own ic cls names, vx_ot w = true)
    (hU : vx_Zq Bundle.tN "UNASSIGNED_STACK" Bundle.steD A s s.heap) (hN : vx_Zq Bundle.tN "SUPPRESSED_SENTINEL" Bundle.listD A s s.heap) (hS : va_S A s.heap H locs) (hsize : ls.size = c.maxLocals)
    (d0 : decode cc pc = .ok (.new ik, 3)) (d3 : decode cc (pc + 3) = .ok (.dup, 1)) (d4 : decode cc (pc + 4) = .ok (.invokespecial ic, 3)) (d7 : decode cc (pc + 7) = .ok (.athrow, 1))
    (hout : ∀ x ∈ c.exceptionTable.toList, covers x (pc + 7) = false)
    (hRframes : names.length + 3 < R.frames) (hRlocals : (rest.map fun v => v.category).sum + (13 * (names.length + 1) + 42) ≤ R.locals) (hRcells : cells + 1 ≤ R.cells) (hRslots : slots + 6 ≤ R.slots) (hlocks : meth.locks = false)
    (hx : ∀ t : State, s.vm.Alike t.vm → H.size ≤ t.heap.size → (∀ q : Nat, q < H.size → t.heap[q]? = H[q]?) → XC cls s t)
    (hf : ∀ z ∈ locs, free z.base) (hc : cells + 1 ≤ mc) (hs : slots + 6 ≤ ms) :
    W p l e R s m args below meth c H locs cells slots (vx_MQ below Qc XC args s mc ms free) (F0 m pc ls rest) := by
  intro T hT X
  have htr : e.platform.stackTraces = false := (show e.platform.stackTraces = l.stackTraces by rw [X.admits.platform]).trans hl
  have Y := vx_rebase X (R' := { frames := R.frames, locals := R.locals, cells := 1, slots := 6 }) (Nat.le_refl _) (Nat.le_refl _) hRcells hRslots
  obtain ⟨s', hA⟩ : ∃ z, z = (T.setVm s.vm).setFrames (.invoking m args :: below) := ⟨_, rfl⟩
  rw [← hA] at Y
  have hvm : s'.vm = s.vm := by rw [hA]; rfl
  have hhp : s'.heap = H := by rw [hA]; exact hT
  have hW0 : s.WarmedH s'.vm := by rw [hvm]; exact State.WarmedH.refl s
  have hat' : ∀ w ∈ vx_at0 own ic cls names, w.before args s' = true := fun w hw => vx_ot_at hW0 hvm.symm (hgood w (List.mem_cons_of_mem _ (List.mem_cons_of_mem _ hw))) (hat w hw)
  have hk' : (Cond.classLink own ik cls).before args s' = true := vx_ot_at hW0 hvm.symm (hgood _ List.mem_cons_self) hk
  have hini' : (Cond.initialized cls).before args s' = true := vx_ot_at hW0 hvm.symm (hgood _ (List.mem_cons_of_mem _ List.mem_cons_self)) hini
  have hU' : vx_Zq Bundle.tN "UNASSIGNED_STACK" Bundle.steD A s' s'.heap := by rw [hhp]; exact vx_Zq.moved hW0.alike (hU.kept hS.2.1)
  have hN' : vx_Zq Bundle.tN "SUPPRESSED_SENTINEL" Bundle.listD A s' s'.heap := by rw [hhp]; exact vx_Zq.moved hW0.alike (hN.kept hS.2.1)
  have h : ∀ w ∈ Bundle.ownAtoms0 own ic cls names, w.before args s' = true := vx_own hat' (vx_isRefq hU'.1) (vx_isRefq hN'.1) hU'.2.word hN'.2.word
  have hown' : s'.vm.findClass own = some m.cls := by rw [hvm]; exact hown
  have hins : (Cond.instantiable cls 6).before args s' = true := h _ (by simp [Bundle.ownAtoms0])
  obtain ⟨vm₁, cX, kX, hfX, hkX, -, -, X₁, st1⟩ := Y.newCold hexec (own := own) (C := cls) (index := ik) (n := 6) hown' hk' hins hini'
    (g := F0 m pc ls rest) rfl (by rw [hb]; exact d0) (Nat.le_refl _) (Nat.le_refl _)
  generalize hT1 : (T.setVm vm₁).pushCell { cls := cX, slots := kX.instanceTypes.map defaultValue, vm := .none } = T1 at X₁ st1
  have hcat : (Value.ref T.heap.size).category = 1 := rfl
  have hcellA : T1.heap[T.heap.size]? = some (freshCell cX kX) := by rw [← hT1]; exact State.heap_pushCell_size _ _
  have d3' : decode c.code (pc + 3) = .ok (.dup, 1) := by rw [hb]; exact d3
  obtain ⟨U, hsteps, hrun, hend, hW, hsame, ce, hce, hO⟩ := X₁.ctorThrow0 hexec htr (own := own) (cls := cls) (names := names) (ic := ic) hown' hcls hnames h (fun x hx => nomatch hx) hfX hkX hcellA (by rw [hhp, hT]; exact Nat.le_refl _)
    (g := { method := m, pc := pc + 4, locals := ls, stack := .ref T.heap.size :: .ref T.heap.size :: rest, locked := none }) rfl hsize rfl rfl (rest := rest) rfl
    (by rw [hb]; exact d4) (by rw [hb]; exact d7) hout hRframes (by simp only [List.map_cons, List.sum_cons, hcat]; omega) hlocks
  obtain ⟨f1, f2⟩ := vx_frame hsame
  rw [hhp] at f1 f2
  have hWs : s.WarmedH U.vm := State.WarmedH.trans hW0 hW
  have hcl : s.vm.findClass cls = some ce.cls := by
    have h9 := hO.cls
    rw [hvm] at h9
    exact h9
  have hall : s.sameButNew ({ U with vm := s.vm } : State) locs mc ms := by
    subst hA
    obtain ⟨e1, e2⟩ := hsame
    rw [State.setFrames_setFrames] at e1
    have h2 : (T.setVm s.vm).sameButNew ({ U with vm := s.vm } : State) [] (0 + 1) (0 + 6) := ⟨e1, e2⟩
    have h3 := X.same.trans h2
    rw [List.append_nil] at h3
    exact h3.mono hc hs
  refine ⟨U, ?_, .threw T.heap.size, hrun, hend, Or.inr ⟨T.heap.size, rfl, cls, ce, locs, hx U hWs.alike f1 (fun q hq => f2 q hq (fun z hz => nomatch hz)), hce, hO.vm, hcl, hWs, hall, hf⟩⟩
  refine st1 _ ?_
  show Steps p.tables e below (T1.setTop { method := m, pc := pc + 3, locals := ls, stack := .ref T.heap.size :: rest, locked := none }) _
  jvm_step X₁.here [X₁.here.top, hexec, d3', Value.category]
  exact hsteps
/-- 'throw new E("text")': new; dup; ldc; invokespecial; athrow -/
theorem vx_throwS {cc : ByteArray} {pc : Nat} (hexec : p.tables.exec = Jvm.exec) (hb : c.code = cc) (hl : l.stackTraces = false) {own cls text : String} {names : List String} {ik is ic mc ms sa : Nat} {A : Nat → Prop}
    (hown : s.vm.findClass own = some m.cls) (hcls : Bundle.fit cls = true) (hnames : ∀ n ∈ names, Bundle.fit n = true)
    (hk : (Cond.classLink own ik cls).before args s = true) (hini : (Cond.initialized cls).before args s = true) (hstr : vk_R own is text sa s) (hat : ∀ w ∈ vx_atS own ic cls names, w.before args s = true)
    (hgood : ∀ w ∈ Cond.classLink own ik cls :: Cond.initialized cls :: vx_atS own ic cls names, vx_ot w = true)
    (hU : vx_Zq Bundle.tN "UNASSIGNED_STACK" Bundle.steD A s s.heap) (hN : vx_Zq Bundle.tN "SUPPRESSED_SENTINEL" Bundle.listD A s s.heap) (hS : va_S A s.heap H locs) (hsize : ls.size = c.maxLocals)
    (d0 : decode cc pc = .ok (.new ik, 3)) (d3 : decode cc (pc + 3) = .ok (.dup, 1)) (d4 : decode cc (pc + 4) = .ok (.ldc is, 2)) (d6 : decode cc (pc + 6) = .ok (.invokespecial ic, 3)) (d9 : decode cc (pc + 9) = .ok (.athrow, 1))
    (hout : ∀ x ∈ c.exceptionTable.toList, covers x (pc + 9) = false)
    (hRframes : names.length + 3 < R.frames) (hRlocals : (rest.map fun v => v.category).sum + (13 * (names.length + 1) + 43) ≤ R.locals) (hRcells : cells + 1 ≤ R.cells) (hRslots : slots + 6 ≤ R.slots) (hlocks : meth.locks = false)
    (hx : ∀ t : State, s.vm.Alike t.vm → H.size ≤ t.heap.size → (∀ q : Nat, q < H.size → t.heap[q]? = H[q]?) → XC cls s t)
    (hf : ∀ z ∈ locs, free z.base) (hc : cells + 1 ≤ mc) (hs : slots + 6 ≤ ms) :
    W p l e R s m args below meth c H locs cells slots (vx_MQ below Qc XC args s mc ms free) (F0 m pc ls rest) := by
  intro T hT X
  have htr : e.platform.stackTraces = false := (show e.platform.stackTraces = l.stackTraces by rw [X.admits.platform]).trans hl
  have Y := vx_rebase X (R' := { frames := R.frames, locals := R.locals, cells := 1, slots := 6 }) (Nat.le_refl _) (Nat.le_refl _) hRcells hRslots
  obtain ⟨s', hA⟩ : ∃ z, z = (T.setVm s.vm).setFrames (.invoking m args :: below) := ⟨_, rfl⟩
  rw [← hA] at Y
  have hvm : s'.vm = s.vm := by rw [hA]; rfl
  have hhp : s'.heap = H := by rw [hA]; exact hT
  have hW0 : s.WarmedH s'.vm := by rw [hvm]; exact State.WarmedH.refl s
  have hat' : ∀ w ∈ vx_atS own ic cls names, w.before args s' = true := fun w hw => vx_ot_at hW0 hvm.symm (hgood w (List.mem_cons_of_mem _ (List.mem_cons_of_mem _ hw))) (hat w hw)
  have hk' : (Cond.classLink own ik cls).before args s' = true := vx_ot_at hW0 hvm.symm (hgood _ List.mem_cons_self) hk
  have hini' : (Cond.initialized cls).before args s' = true := vx_ot_at hW0 hvm.symm (hgood _ (List.mem_cons_of_mem _ List.mem_cons_self)) hini
  have hU' : vx_Zq Bundle.tN "UNASSIGNED_STACK" Bundle.steD A s' s'.heap := by rw [hhp]; exact vx_Zq.moved hW0.alike (hU.kept hS.2.1)
  have hN' : vx_Zq Bundle.tN "SUPPRESSED_SENTINEL" Bundle.listD A s' s'.heap := by rw [hhp]; exact vx_Zq.moved hW0.alike (hN.kept hS.2.1)
  have h : ∀ w ∈ Bundle.ownAtoms own ic cls names, w.before args s' = true := vx_own hat' (vx_isRefq hU'.1) (vx_isRefq hN'.1) hU'.2.word hN'.2.word
  have hown' : s'.vm.findClass own = some m.cls := by rw [hvm]; exact hown
  have hins : (Cond.instantiable cls 6).before args s' = true := h _ (by simp [Bundle.ownAtoms])
  obtain ⟨vm₁, cX, kX, hfX, hkX, -, -, X₁, st1⟩ := Y.newCold hexec (own := own) (C := cls) (index := ik) (n := 6) hown' hk' hins hini'
    (g := F0 m pc ls rest) rfl (by rw [hb]; exact d0) (Nat.le_refl _) (Nat.le_refl _)
  generalize hT1 : (T.setVm vm₁).pushCell { cls := cX, slots := kX.instanceTypes.map defaultValue, vm := .none } = T1 at X₁ st1
  have hcat : (Value.ref T.heap.size).category = 1 := rfl
  have hcellA : T1.heap[T.heap.size]? = some (freshCell cX kX) := by rw [← hT1]; exact State.heap_pushCell_size _ _
  have d3' : decode c.code (pc + 3) = .ok (.dup, 1) := by rw [hb]; exact d3
  have d4' : decode c.code (pc + 4) = .ok (.ldc is, 2) := by rw [hb]; exact d4
  have hstr' : vk_R own is text sa s' := vk_R.warm hW0 hstr
  obtain ⟨U, hsteps, hrun, hend, hW, hsame, ce, hce, hO⟩ := X₁.ctorThrowS hexec htr (own := own) (cls := cls) (names := names) (ic := ic) hown' hcls hnames h (fun x hx => nomatch hx) hfX hkX hcellA (by rw [hhp, hT]; exact Nat.le_refl _) (msg := .ref sa) rfl
    (g := { method := m, pc := pc + 6, locals := ls, stack := .ref sa :: .ref T.heap.size :: .ref T.heap.size :: rest, locked := none }) rfl hsize rfl rfl (rest := rest) rfl
    (by rw [hb]; exact d6) (by rw [hb]; exact d9) hout hRframes (by simp only [List.map_cons, List.sum_cons, hcat]; omega) hlocks
  obtain ⟨f1, f2⟩ := vx_frame hsame
  rw [hhp] at f1 f2
  have hWs : s.WarmedH U.vm := State.WarmedH.trans hW0 hW
  have hcl : s.vm.findClass cls = some ce.cls := by
    have h9 := hO.cls
    rw [hvm] at h9
    exact h9
  have hall : s.sameButNew ({ U with vm := s.vm } : State) locs mc ms := by
    subst hA
    obtain ⟨e1, e2⟩ := hsame
    rw [State.setFrames_setFrames] at e1
    have h2 : (T.setVm s.vm).sameButNew ({ U with vm := s.vm } : State) [] (0 + 1) (0 + 6) := ⟨e1, e2⟩
    have h3 := X.same.trans h2
    rw [List.append_nil] at h3
    exact h3.mono hc hs
  refine ⟨U, ?_, .threw T.heap.size, hrun, hend, Or.inr ⟨T.heap.size, rfl, cls, ce, locs, hx U hWs.alike f1 (fun q hq => f2 q hq (fun z hz => nomatch hz)), hce, hO.vm, hcl, hWs, hall, hf⟩⟩
  refine st1 _ ?_
  show Steps p.tables e below (T1.setTop { method := m, pc := pc + 3, locals := ls, stack := .ref T.heap.size :: rest, locked := none }) _
  jvm_step X₁.here [X₁.here.top, hexec, d3', Value.category]
  exact X₁.ldcString hexec (own := own) (text := text) (index := is) (a := sa) hown' hstr'.1 hstr'.2
    (g := { method := m, pc := pc + 4, locals := ls, stack := .ref T.heap.size :: .ref T.heap.size :: rest, locked := none }) rfl d4' _ hsteps
/-- 'throw new E("text")', the text by a wide index -/
theorem vx_throwSW {cc : ByteArray} {pc : Nat} (hexec : p.tables.exec = Jvm.exec) (hb : c.code = cc) (hl : l.stackTraces = false) {own cls text : String} {names : List String} {ik is ic mc ms sa : Nat} {A : Nat → Prop}
    (hown : s.vm.findClass own = some m.cls) (hcls : Bundle.fit cls = true) (hnames : ∀ n ∈ names, Bundle.fit n = true)
    (hk : (Cond.classLink own ik cls).before args s = true) (hini : (Cond.initialized cls).before args s = true) (hstr : vk_R own is text sa s) (hat : ∀ w ∈ vx_atS own ic cls names, w.before args s = true)
    (hgood : ∀ w ∈ Cond.classLink own ik cls :: Cond.initialized cls :: vx_atS own ic cls names, vx_ot w = true)
    (hU : vx_Zq Bundle.tN "UNASSIGNED_STACK" Bundle.steD A s s.heap) (hN : vx_Zq Bundle.tN "SUPPRESSED_SENTINEL" Bundle.listD A s s.heap) (hS : va_S A s.heap H locs) (hsize : ls.size = c.maxLocals)
    (d0 : decode cc pc = .ok (.new ik, 3)) (d3 : decode cc (pc + 3) = .ok (.dup, 1)) (d4 : decode cc (pc + 4) = .ok (.ldc_w is, 3)) (d7 : decode cc (pc + 7) = .ok (.invokespecial ic, 3)) (d10 : decode cc (pc + 10) = .ok (.athrow, 1))
    (hout : ∀ x ∈ c.exceptionTable.toList, covers x (pc + 10) = false)
    (hRframes : names.length + 3 < R.frames) (hRlocals : (rest.map fun v => v.category).sum + (13 * (names.length + 1) + 43) ≤ R.locals) (hRcells : cells + 1 ≤ R.cells) (hRslots : slots + 6 ≤ R.slots) (hlocks : meth.locks = false)
    (hx : ∀ t : State, s.vm.Alike t.vm → H.size ≤ t.heap.size → (∀ q : Nat, q < H.size → t.heap[q]? = H[q]?) → XC cls s t)
    (hf : ∀ z ∈ locs, free z.base) (hc : cells + 1 ≤ mc) (hs : slots + 6 ≤ ms) :
    W p l e R s m args below meth c H locs cells slots (vx_MQ below Qc XC args s mc ms free) (F0 m pc ls rest) := by
  intro T hT X
  have htr : e.platform.stackTraces = false := (show e.platform.stackTraces = l.stackTraces by rw [X.admits.platform]).trans hl
  have Y := vx_rebase X (R' := { frames := R.frames, locals := R.locals, cells := 1, slots := 6 }) (Nat.le_refl _) (Nat.le_refl _) hRcells hRslots
  obtain ⟨s', hA⟩ : ∃ z, z = (T.setVm s.vm).setFrames (.invoking m args :: below) := ⟨_, rfl⟩
  rw [← hA] at Y
  have hvm : s'.vm = s.vm := by rw [hA]; rfl
  have hhp : s'.heap = H := by rw [hA]; exact hT
  have hW0 : s.WarmedH s'.vm := by rw [hvm]; exact State.WarmedH.refl s
  have hat' : ∀ w ∈ vx_atS own ic cls names, w.before args s' = true := fun w hw => vx_ot_at hW0 hvm.symm (hgood w (List.mem_cons_of_mem _ (List.mem_cons_of_mem _ hw))) (hat w hw)
  have hk' : (Cond.classLink own ik cls).before args s' = true := vx_ot_at hW0 hvm.symm (hgood _ List.mem_cons_self) hk
  have hini' : (Cond.initialized cls).before args s' = true := vx_ot_at hW0 hvm.symm (hgood _ (List.mem_cons_of_mem _ List.mem_cons_self)) hini
  have hU' : vx_Zq Bundle.tN "UNASSIGNED_STACK" Bundle.steD A s' s'.heap := by rw [hhp]; exact vx_Zq.moved hW0.alike (hU.kept hS.2.1)
  have hN' : vx_Zq Bundle.tN "SUPPRESSED_SENTINEL" Bundle.listD A s' s'.heap := by rw [hhp]; exact vx_Zq.moved hW0.alike (hN.kept hS.2.1)
  have h : ∀ w ∈ Bundle.ownAtoms own ic cls names, w.before args s' = true := vx_own hat' (vx_isRefq hU'.1) (vx_isRefq hN'.1) hU'.2.word hN'.2.word
  have hown' : s'.vm.findClass own = some m.cls := by rw [hvm]; exact hown
  have hins : (Cond.instantiable cls 6).before args s' = true := h _ (by simp [Bundle.ownAtoms])
  obtain ⟨vm₁, cX, kX, hfX, hkX, -, -, X₁, st1⟩ := Y.newCold hexec (own := own) (C := cls) (index := ik) (n := 6) hown' hk' hins hini'
    (g := F0 m pc ls rest) rfl (by rw [hb]; exact d0) (Nat.le_refl _) (Nat.le_refl _)
  generalize hT1 : (T.setVm vm₁).pushCell { cls := cX, slots := kX.instanceTypes.map defaultValue, vm := .none } = T1 at X₁ st1
  have hcat : (Value.ref T.heap.size).category = 1 := rfl
  have hcellA : T1.heap[T.heap.size]? = some (freshCell cX kX) := by rw [← hT1]; exact State.heap_pushCell_size _ _
  have d3' : decode c.code (pc + 3) = .ok (.dup, 1) := by rw [hb]; exact d3
  have d4' : decode c.code (pc + 4) = .ok (.ldc_w is, 3) := by rw [hb]; exact d4
  have hstr' : vk_R own is text sa s' := vk_R.warm hW0 hstr
  obtain ⟨U, hsteps, hrun, hend, hW, hsame, ce, hce, hO⟩ := X₁.ctorThrowS hexec htr (own := own) (cls := cls) (names := names) (ic := ic) hown' hcls hnames h (fun x hx => nomatch hx) hfX hkX hcellA (by rw [hhp, hT]; exact Nat.le_refl _) (msg := .ref sa) rfl
    (g := { method := m, pc := pc + 7, locals := ls, stack := .ref sa :: .ref T.heap.size :: .ref T.heap.size :: rest, locked := none }) rfl hsize rfl rfl (rest := rest) rfl
    (by rw [hb]; exact d7) (by rw [hb]; exact d10) hout hRframes (by simp only [List.map_cons, List.sum_cons, hcat]; omega) hlocks
  obtain ⟨f1, f2⟩ := vx_frame hsame
  rw [hhp] at f1 f2
  have hWs : s.WarmedH U.vm := State.WarmedH.trans hW0 hW
  have hcl : s.vm.findClass cls = some ce.cls := by
    have h9 := hO.cls
    rw [hvm] at h9
    exact h9
  have hall : s.sameButNew ({ U with vm := s.vm } : State) locs mc ms := by
    subst hA
    obtain ⟨e1, e2⟩ := hsame
    rw [State.setFrames_setFrames] at e1
    have h2 : (T.setVm s.vm).sameButNew ({ U with vm := s.vm } : State) [] (0 + 1) (0 + 6) := ⟨e1, e2⟩
    have h3 := X.same.trans h2
    rw [List.append_nil] at h3
    exact h3.mono hc hs
  refine ⟨U, ?_, .threw T.heap.size, hrun, hend, Or.inr ⟨T.heap.size, rfl, cls, ce, locs, hx U hWs.alike f1 (fun q hq => f2 q hq (fun z hz => nomatch hz)), hce, hO.vm, hcl, hWs, hall, hf⟩⟩
  refine st1 _ ?_
  show Steps p.tables e below (T1.setTop { method := m, pc := pc + 3, locals := ls, stack := .ref T.heap.size :: rest, locked := none }) _
  jvm_step X₁.here [X₁.here.top, hexec, d3', Value.category]
  exact X₁.ldcStringW hexec (own := own) (text := text) (index := is) (a := sa) hown' hstr'.1 hstr'.2
    (g := { method := m, pc := pc + 4, locals := ls, stack := .ref T.heap.size :: .ref T.heap.size :: rest, locked := none }) rfl d4' _ hsteps
end Ends
section Bodies
variable {l : Launch}
theorem vx_ofW {y : MethodName} {ws ws' : List Cond} {rm : Room} {Pc : Array Value → State → Prop} {Qc : Array Value → State → Outcome → State → Prop} {XC : String → State → State → Prop} {mc ms : Nat} {free : Addr → Prop} {cc : ByteArray} {maxL : Nat} {ret : Option FieldType}
    (hy : plainName y.cls = true) (hw : ws = Cond.code y cc maxL ret :: ws')
    (body : ∀ p e s m args below meth c s₁, BodyLoose p l y (headSpec ws rm) cc maxL ret e s m args below meth c s₁ → c.maxLocals = maxL → (∀ x ∈ c.exceptionTable.toList, False) → Pc args s →
      W p l e (headSpec ws rm).room s m args below meth c s.heap [] 0 0 (vx_MQ below Qc XC args s mc ms free) (entryFrame m args maxL)) : vx_Met l y ws rm Pc Qc XC mc ms free := by
  refine MetFree.of_bodyS (code := cc) (maxLocals := maxL) (ret := ret) hy ?_ ?_
  · intro args s m h hn
    obtain ⟨meth, c, h1, h2, h3, h4, h5, h6, -, -⟩ := Cond.code_spec hn (atoms_spec (ws := ws) h _ (by rw [hw]; exact List.mem_cons_self))
    exact ⟨meth, c, h1, h2, h3, h4, h5, h6⟩
  · intro p e s m args below meth c s₁ B hml hP _
    have hh0 : s₁.heap = s.heap := by rw [B.state]; rfl
    have ht : ∀ x ∈ c.exceptionTable.toList, False := by
      obtain ⟨meth9, c9, h1, h2, -, -, -, -, h7, -⟩ := Cond.code_spec B.named (atoms_spec (ws := ws) B.pre _ (by rw [hw]; exact List.mem_cons_self))
      cases Option.some.inj (h1.symm.trans B.method)
      cases Option.some.inj (h2.symm.trans (Stand.of_body B).code)
      intro x hx
      rw [Array.isEmpty_iff.mp h7] at hx
      cases hx
    obtain ⟨t, a1, o, b1, b2, b3⟩ := body p e s m args below meth c s₁ B hml ht hP s₁ hh0 (Stand.of_body B)
    exact ⟨t, o, a1, b1, b2, b3⟩
/-- the table of a body with handlers -/
theorem vx_table {p : Program} {x y : MethodName} {S : Spec} {cc bytes : ByteArray} {maxL maxL' : Nat} {ret ret' : Option FieldType} {e : Env} {s s₁ : State} {m : MethodId} {args : Array Value} {below : List Frame} {meth : Method} {c : Code} {hh : List (Nat × Nat × Nat × Nat)}
    (B : BodyLoose p l y S cc maxL ret e s m args below meth c s₁) (h : (Cond.codeWith y bytes maxL' ret' hh).before args s = true) : c.exceptionTable.toList = tableOf hh := by
  obtain ⟨m9, meth9, c9, hn9, h1, h2, -, -, h6, -⟩ := Cond.codeWith_spec h
  cases Option.some.inj (hn9.symm.trans B.named)
  cases Option.some.inj (h1.symm.trans B.method)
  cases Option.some.inj (h2.symm.trans (Stand.of_body B).code)
  rw [← h6, table_eq]
end Bodies
end VXA
/-! ===== END ===== -/
/-! ===== BEGIN a static call of a method with an exception table ===== -/
section VXS
variable {p : Program} {l : Launch} {e : Env} {R : Room} {s : State} {m : MethodId} {args : Array Value} {below : List Frame} {meth : Method} {c : Code} {T : State} {H : Heap} {locs : List Loc} {cells slots : Nat}
abbrev vx_CSW (R : Room) (s : State) (args : Array Value) (own : String) (index : Nat) (y : MethodName) (bytes : ByteArray) (maxL : Nat) (ret : Option FieldType) (hh : List (Nat × Nat × Nat × Nat)) (ws : List Cond) (rm : Room) (mc ms n : Nat) : Prop :=
  (rm.cells = mc ∧ rm.slots = ms ∧ rm.frames + 1 ≤ R.frames ∧ 8 + (maxL + 11) + rm.locals ≤ R.locals ∧ (∀ w ∈ ws, ∀ (a' : Array Value) (U : State), s.WarmedH U.vm → w.before a' U = true) ∧ Cond.codeWith y bytes maxL ret hh ∈ ws) ∧
  (Cond.codeWith y bytes maxL ret hh).before args s = true ∧ (Cond.initialized y.cls).before args s = true ∧ (y.cls ≠ "java/lang/invoke/MethodHandle" ∧ y.cls ≠ "java/lang/invoke/VarHandle") ∧
  (∀ sig, parseMethodDescriptor y.desc = some sig → n = sig.parameters.length) ∧ (Cond.methodLink own index y).before args s = true ∧ (Cond.static y).before args s = true
theorem vx_cwSW {own : String} {index maxL mc ms : Nat} {y : MethodName} {bytes : ByteArray} {ret : Option FieldType} {hh : List (Nat × Nat × Nat × Nat)} {Ts ws ws' : List Cond} {rm : Room} (n : Nat) (ht : ∀ w ∈ Ts, w.before args s = true) (hT : GoodIn Ts (va_wsS own index y ws)) (hw : ws = Cond.codeWith y bytes maxL ret hh :: ws') (hrc : rm.cells = mc) (hrs : rm.slots = ms)
    (hd : y.cls ≠ "java/lang/invoke/MethodHandle" ∧ y.cls ≠ "java/lang/invoke/VarHandle" ∧ (parseMethodDescriptor y.desc).map (fun d => d.parameters.length) = some n) (hR : rm.frames + 1 ≤ R.frames ∧ 8 + (maxL + 11) + rm.locals ≤ R.locals) :
    vx_CSW R s args own index y bytes maxL ret hh ws rm mc ms n := by
  have ok : ∀ w ∈ va_wsS own index y ws, w.before args s = true := fun w h => ht w (hT w h).1
  have hG : GoodIn Ts ws := fun w h => hT w (by unfold va_wsS; exact List.mem_append_right _ h)
  have hc : Cond.codeWith y bytes maxL ret hh ∈ ws := by rw [hw]; exact List.mem_cons_self
  refine ⟨⟨hrc, hrs, hR.1, hR.2, pay_in ht hG, hc⟩, ht _ (hG _ hc).1, ok _ (by simp [va_wsS]), ⟨hd.1, hd.2.1⟩, fun sig h => ?_, ok _ (by simp [va_wsS]), ok _ (by simp [va_wsS])⟩
  have h2 := hd.2.2
  rw [h] at h2
  exact (Option.some.inj h2).symm
theorem vx_callSW (X : Stand p l e R s m args below meth c T locs cells slots) (hexec : p.tables.exec = Jvm.exec) {own : String} {index : Nat} {y : MethodName} {bytes : ByteArray} {maxL : Nat} {ret : Option FieldType} {hh : List (Nat × Nat × Nat × Nat)}
    (hown : s.vm.findClass own = some m.cls) (hlink : (Cond.methodLink own index y).before args s = true) (hstat : (Cond.static y).before args s = true) (hinit : (Cond.initialized y.cls).before args s = true)
    (hcode : (Cond.codeWith y bytes maxL ret hh).before args s = true) (hy : y.cls ≠ "java/lang/invoke/MethodHandle" ∧ y.cls ≠ "java/lang/invoke/VarHandle")
    {W9 : Nat} {Pre : Pt → Array Value → Prop} {Post : Pt → Array Value → Option Value → Pt → Prop} (hK : Back l R p e below s args y 3 W9 Pre Post)
    {g : JFrame} (hg : g.method = m) (hsize : g.locals.size = c.maxLocals) {argsL rest : List Value} (hlen : ∀ sig, parseMethodDescriptor y.desc = some sig → argsL.length = sig.parameters.length)
    (hstack : g.stack = argsL.reverse ++ rest) (hW : 2 * g.monitorRoom + (rest.map fun v => v.category).sum ≤ W9) (hdg : decode c.code g.pc = .ok (.invokestatic index, 3))
    (hpre : ∀ vm₁, s.WarmedH vm₁ → Pre ⟨T.setVm vm₁, locs, cells, slots⟩ argsL.toArray) :
    ∃ (v : Option Value) (vm₁ : Vm) (B : Pt), s.WarmedH vm₁ ∧ Stand p l e R s m args below meth c B.U B.locs B.cells B.slots ∧ Post ⟨T.setVm vm₁, locs, cells, slots⟩ argsL.toArray v B ∧
      ∀ target, Steps p.tables e below (B.U.setTop { g with pc := g.pc + 3, stack := v.toList ++ rest }) target → Steps p.tables e below (T.setTop g) target := by
  obtain ⟨mk, methM, cM, hnamed, hmethM, -, -, -, -, -, -, hsigM⟩ := Cond.codeWith_spec hcode
  have hstatic : methM.isStatic = true := Cond.static_spec hnamed hmethM hstat
  obtain ⟨kP, hkP, -⟩ := className_of_methodNamed hnamed
  have hinitP : kP.init = .initialized := Cond.initialized_spec (findClass_of_methodNamed hnamed) hkP hinit
  obtain ⟨vm₁, X₁, hstep₁⟩ := X.invokestatic hexec hown hlink hnamed hmethM hstatic hkP hinitP hy (g := g) hg (argsL := argsL) (rest := rest) (hlen _ hsigM) hstack hdg
  obtain ⟨v, B, X', hpost, hsteps⟩ := hK m meth c ⟨T.setVm vm₁, locs, cells, slots⟩ { g with stack := rest } (.invokestatic index) mk argsL.toArray X₁ hg hsize hdg hW (X₁.named hnamed) (hpre vm₁ X₁.warmed)
  exact ⟨v, vm₁, B, X₁.warmed, X', hpost, fun target h => hstep₁ _ fun acts => by rw [doInvoke_state]; exact hsteps.trans h⟩
theorem vx_runSW {y : MethodName} {bytes cc : ByteArray} {maxL nL mc ms n index : Nat} {ret : Option FieldType} {hh : List (Nat × Nat × Nat × Nat)} {ws : List Cond} {rm : Room} {Pc : Array Value → State → Prop} {Qc : Array Value → State → Outcome → State → Prop} {free : Addr → Prop} {Ts : List Cond} {own : String} {As rest : List Value} {g : JFrame}
    (S : CallFix p m c cc nL s args Ts own) (hM : Met l y ws rm Pc Qc mc ms free) (cw : vx_CSW R s args own index y bytes maxL ret hh ws rm mc ms n) (hp : PreS s H Pc As)
    (hg : g.method = m) (hn : As.length = n) (hsize : g.locals.size = nL) (hstack : g.stack = As.reverse ++ rest) (hW : 2 * g.monitorRoom + (rest.map fun v => v.category).sum ≤ 8) (hdg : decode cc g.pc = .ok (.invokestatic index, 3)) (hf : cells + mc ≤ R.cells ∧ slots + ms ≤ R.slots) :
    va_Run p l e R s m args below meth c H locs cells slots mc ms g rest (Qc As.toArray) (free) := by
  obtain ⟨⟨hrc, hrs, hfr, hlo, hws, hcw⟩, hcode, hini, hy, hlen, hl, hstt⟩ := cw
  have hK : Back l R p e below s args y 3 8 (PreOf R mc ms Pc) (PostOf Qc mc ms free) := va_backW (hh := hh) (bytes := bytes) (maxL := maxL) (ret := ret) hM hp.1 hrc hrs hfr hlo hws hcw (fun a' U hW => word_at hW (Or.inl (by first | rfl | simp [Cond.onTables, Cond.keeps, Cond.steady])) hini)
  obtain ⟨hx, hb, hml, ho, -⟩ := S
  intro T hT X
  obtain ⟨v, vm₁, ⟨U', l2, c2, s2⟩, hW₁, X', ⟨g', mk, t, L, e1, e2, hq, h1, hL, h2, h3⟩, st⟩ := vx_callSW X hx (hh := hh) (bytes := bytes) (maxL := maxL) (ret := ret) ho hl hstt hini hcode hy hK hg (hsize.trans hml.symm) (argsL := As) (rest := rest) (fun sig h => hn.trans (hlen sig h)) hstack hW (by rw [hb]; exact hdg)
    (fun vm₁ hW₁ => ⟨hf.1, hf.2, hp.2 (T.setVm vm₁) hT hW₁⟩)
  dsimp only [Pt.U, Pt.locs, Pt.cells, Pt.slots] at X' e1 e2 h1 h2 h3 st
  subst h1; subst h2; subst h3
  exact ⟨v, (T.setVm vm₁).calling g' mk As.toArray, t, U', L, hT, X', hL, e1, e2, hq, st⟩
/-- not caught here, past rows that name other classes: it goes on to the caller -/
theorem vx_outP {p : Program} {l : Launch} {e : Env} {R : Room} {s : State} {m : MethodId} {args : Array Value} {below : List Frame} {meth : Method} {c : Code} {H : Heap} {locs : List Loc} {cells slots : Nat} {free : Addr → Prop} {ls : Array Slot} {rest : List Value} {Qc : Array Value → State → Outcome → State → Prop} {XC : String → State → State → Prop}
    {pc : Nat} {own E : String} {ce : Cell} {q : Addr} {mc ms : Nat} (hown : s.vm.findClass own = some m.cls) (hlocks : meth.locks = false)
    (hpass : ∀ z ∈ c.exceptionTable.toList, covers z pc = false ∨ (z.catchType ≠ 0 ∧ ∃ nm : String, (Cond.classLink own z.catchType nm).before args s = true ∧ va_Nc E nm s)) (hcell : H[q]? = some ce) (hv : ce.vm = .none) (hcl : s.vm.findClass E = some ce.cls)
    (hx : ∀ t : State, t.heap = H → s.vm.Alike t.vm → XC E s t) (hf : ∀ z ∈ locs, free z.base) (hc : cells ≤ mc) (hs : slots ≤ ms) :
    vx_W p l e R s m args below meth c H locs cells slots (vx_MQ below Qc XC args s mc ms free) (F0 m pc ls rest) q := by
  intro T hT X
  have hpl : e.platform.magicAccessors = ({} : Platform).magicAccessors := by rw [X.admits.platform]
  obtain ⟨vm', hW', X', st⟩ := X.outThrough hlocks q (g := F0 m pc ls rest) rfl rfl rfl (cell := ce) (by rw [hT]; exact hcell) (by rw [hv]; rfl)
    (by obtain ⟨k9, h9, -⟩ := Vm.findClass_spec hcl; exact ⟨k9, h9⟩) (fun z hz => by
      rcases hpass z hz with h | ⟨hz0, nm, hl1, hn1⟩
      · exact Or.inl h
      · obtain ⟨c6, hc6, hcl6⟩ := Cond.classLink_spec hown hl1 e.platform hpl
        obtain ⟨a8, b8, h1, h2, h3⟩ := hn1
        cases Option.some.inj (h1.symm.trans hcl)
        cases Option.some.inj (h2.symm.trans hc6)
        exact Or.inr ⟨hz0, _, hcl6, h3⟩)
  obtain ⟨g₀, hfr⟩ := X'.frames_eq
  have hcell9 : ((T.setVm vm').setFrames (.throwing q :: below)).heap[q]? = some ce := by
    show T.heap[q]? = some ce
    rw [hT]; exact hcell
  have hend : Ended ((T.setVm vm').setFrames (.throwing q :: below)) below (.threw q) := State.frames_setFrames _ (State.cur_lt_of_frames hfr)
  refine ⟨(T.setVm vm').setFrames (.throwing q :: below), ?_, .threw q, X'.here.running, hend, Or.inr ⟨q, rfl, E, ce, locs, hx _ hT (X'.ends _).1.alike, hcell9, hv, hcl, (X'.ends _).1, (X'.ends _).2.mono hc hs, hf⟩⟩
  rw [X.pushThrowing_eq]
  exact st
/-- a thing of a world lies in the heap -/
theorem vx_lt {D : va_G} {cl : List vw_C} {ws : va_W} {H1 : Heap} (h : va_P D cl ws H1) {k : Nat} {q : Nat × va_E} (hk : ws[k]? = some q) : q.1 < H1.size := (h k q hk).lt
end VXS
/-! ===== END ===== -/
/-! ===== BEGIN methods with a table of their own: called by a name, returning or throwing ===== -/
section VXH
/-! vx_backW, vx_callVX, vx_callSX, vx_callVW, vx_runVW, vx_runVX, vx_runSX, vx_ofWH follow the same proofs as their sisters above (Free/Laws.lean, Shelf42/LK1.lean); vx_outP calls Shelf42/NT130.lean (outThrough). -/
section
variable {l : Launch} {R : Room} {p : Program} {e : Env} {below : List Frame} {s : State} {sargs : Array Value} {y : MethodName} {len W9 : Nat}
theorem vx_backW {ws : List Cond} {rm : Room} {Pc : Array Value → State → Prop} {Qc : Array Value → State → Outcome → State → Prop} {XC : String → State → State → Prop} {mc ms : Nat} {free : Addr → Prop} {bytes : ByteArray} {maxL : Nat} {ret : Option FieldType} {hh : List (Nat × Nat × Nat × Nat)}
    (hM : vx_Met l y ws rm Pc Qc XC mc ms free) (hblind : FrameBlind Pc) (hrc : rm.cells = mc) (hrs : rm.slots = ms)
    (hframes : rm.frames + 1 ≤ R.frames) (hlocals : W9 + (maxL + 11) + rm.locals ≤ R.locals)
    (hws : ∀ w ∈ ws, ∀ a' U, s.WarmedH U.vm → w.before a' U = true) (hcode : Cond.codeWith y bytes maxL ret hh ∈ ws) (hinit : ∀ a' U, s.WarmedH U.vm → (Cond.initialized y.cls).before a' U = true) :
    vx_Back l R p e below s sargs y len W9 (PreOf R mc ms Pc) (PostOf Qc mc ms free) (vx_Post XC mc ms free) := by
  intro m meth c A g ig mk a X hg hsize hdg hW hn hp
  have h1 : (headSpec ws rm).pre.before a A.U = true := atoms_intro fun w hw => hws w hw _ _ X.warmed
  have h2 : (Cond.codeWith y bytes maxL ret hh).before a A.U = true := hws _ hcode _ _ X.warmed
  have h3 : (Cond.initialized y.cls).before a A.U = true := hinit _ _ X.warmed
  have h4 : A.cells + (headSpec ws rm).room.cells ≤ R.cells := by rw [show (headSpec ws rm).room.cells = mc from hrc]; exact hp.1
  have h5 : A.slots + (headSpec ws rm).room.slots ≤ R.slots := by rw [show (headSpec ws rm).room.slots = ms from hrs]; exact hp.2.1
  have hPc : Pc a (A.U.calling g mk a) := hblind _ _ _ _ hp.2.2
  obtain ⟨U, Ls, c0, s0⟩ := A
  dsimp only [Pt.U, Pt.locs, Pt.cells, Pt.slots] at h1 h2 h3 h4 h5 X hn hPc ⊢
  obtain ⟨m9, methY, cY, hn9, hmY, hcY, -, hlY, -⟩ := Cond.codeWith_spec h2
  cases Option.some.inj (hn9.symm.trans hn)
  obtain ⟨kY, hkY, -⟩ := className_of_methodNamed hn
  have hinitY : kY.init = .initialized := Cond.initialized_spec (findClass_of_methodNamed hn) hkY h3
  have h : At U g.method c below := by rw [hg]; exact X.here
  have hlocals9 : W9 + (maxL + 11) + (headSpec ws rm).room.locals ≤ R.locals := hlocals
  have happ : (headSpec ws rm).appliesLoose y e.platform (U.calling g mk a) = true :=
    Spec.appliesLoose_calling (g := g) h hdg hn hkY hinitY
      (X.room_calling (g := g) (R' := (headSpec ws rm).room) hsize hmY hcY hframes (by rw [hlY]; omega) h4 h5) h1
  obtain ⟨mid, hmid⟩ := h.above
  have hfr : (U.setTop g).frames = (.java g :: mid) ++ below := by rw [State.frames_setTop' g h.top, hmid]; rfl
  obtain ⟨o, s₂, hsteps, -, hend, hq⟩ := Steps.callFree hM p X.admits X.cas X.clock (acts := []) hfr happ hPc trivial
  have hq' : vx_Q Qc XC mc ms free a (U.calling g mk a) o s₂ := hq
  rw [State.frames_setTop' g h.top] at hend
  obtain ⟨g₀, hg0⟩ := Option.isSome_iff_exists.mp h.top
  obtain ⟨r, hr⟩ := State.topJava?_eq_some.mp hg0
  have hr' : (({ U with heap := s₂.heap, slotsUsed := s₂.slotsUsed } : State).setVm s₂.vm).frames = .java g₀ :: r := hr
  rcases hq' with ⟨hqc, L, hfe, hL⟩ | ⟨q, rfl, E, ce, L, hx, hce, hcv, hcl, hW₂, hsm, hL⟩
  · obtain ⟨⟨v, rfl⟩, hW₂, e2, q2, q3, q4, q5, q6⟩ := id hfe
    have e3 : s₂ = ({ (U.calling g mk a).setFrames s₂.frames with heap := s₂.heap, slotsUsed := s₂.slotsUsed } : State).setVm s₂.vm := by
      have : s₂ = ({ s₂ with vm := (U.calling g mk a).vm } : State).setVm s₂.vm := rfl
      rw [e2] at this
      exact this
    obtain ⟨c₂, i₂, len₂, hc₂, hd₂, hf₂⟩ := hend
    have hW' : U.WarmedH s₂.vm := hW₂
    have hcc : c₂ = c := by
      have h1 : s₂.code? g.method = U.code? g.method := by
        rw [State.code?_eq, State.code?_eq, hW'.alike.method?]
      exact Option.some.inj (hc₂.symm.trans (h1.trans h.code))
    subst hcc
    have hlen : len₂ = len := by rw [hdg] at hd₂; cases hd₂; rfl
    subst hlen
    have hs₂ : s₂ = (({ U with heap := s₂.heap, slotsUsed := s₂.slotsUsed } : State).setVm s₂.vm).setTop { g with pc := g.pc + len₂, stack := v.toList ++ g.stack } := by
      refine e3.trans ?_
      rw [hf₂, State.calling_eq h.top, State.setFrames_setFrames, State.setTop_of_frames _ hr', hr]
      rfl
    have hsame : U.sameButNew ({ U with heap := s₂.heap, slotsUsed := s₂.slotsUsed } : State) L mc ms := by
      refine ⟨?_, q2, q3, q4, q5, q6⟩
      obtain ⟨t, ht, -⟩ := State.frames_cons hr
      show ({ U with heap := s₂.heap, slotsUsed := s₂.slotsUsed } : State) = { U.setFrames U.frames with heap := s₂.heap, slotsUsed := s₂.slotsUsed }
      rw [State.setFrames_self ht]
    subst hg
    refine Or.inl ⟨v, ⟨(({ U with heap := s₂.heap, slotsUsed := s₂.slotsUsed } : State).setVm s₂.vm), Ls ++ L, c0 + mc, s0 + ms⟩,
      ⟨X.admits, X.cas, X.clock, X.frames, X.room, X.hears, X.method, X.code, (X.here.setHeapUsed s₂.heap s₂.slotsUsed).setVm hW'.alike, X.tail, State.WarmedH.trans X.warmed hW', X.limits, X.bytes, X.same.trans (hsame.setVm s.vm)⟩,
      ⟨g, mk, s₂, L, rfl, rfl, hqc, rfl, hL, rfl, rfl⟩, ?_⟩
    show Steps p.tables e below _ ((({ U with heap := s₂.heap, slotsUsed := s₂.slotsUsed } : State).setVm s₂.vm).setTop { g with pc := g.pc + len₂, stack := v.toList ++ g.stack })
    rw [← hs₂]
    exact hsteps
  · obtain ⟨e2, q2, q3, q4, q5, q6⟩ := id hsm
    have e3 : s₂ = ({ (U.calling g mk a).setFrames s₂.frames with heap := s₂.heap, slotsUsed := s₂.slotsUsed } : State).setVm s₂.vm := by
      have : s₂ = ({ s₂ with vm := (U.calling g mk a).vm } : State).setVm s₂.vm := rfl
      rw [e2] at this
      exact this
    have hf₂ : s₂.frames = .throwing q :: .java g :: U.frames.tail := hend
    have hW' : U.WarmedH s₂.vm := hW₂
    have hs₂ : s₂ = ((({ U with heap := s₂.heap, slotsUsed := s₂.slotsUsed } : State).setVm s₂.vm).setTop g).pushFrame (.throwing q) := by
      refine e3.trans ?_
      rw [hf₂, State.calling_eq h.top, State.setFrames_setFrames, State.pushFrame, State.frames_setTop _ hr', State.setTop_of_frames _ hr', State.setFrames_setFrames, hr]
      rfl
    have hsame : U.sameButNew ({ U with heap := s₂.heap, slotsUsed := s₂.slotsUsed } : State) L mc ms := by
      refine ⟨?_, q2, q3, q4, q5, q6⟩
      obtain ⟨t, ht, -⟩ := State.frames_cons hr
      show ({ U with heap := s₂.heap, slotsUsed := s₂.slotsUsed } : State) = { U.setFrames U.frames with heap := s₂.heap, slotsUsed := s₂.slotsUsed }
      rw [State.setFrames_self ht]
    subst hg
    refine Or.inr ⟨q, ⟨(({ U with heap := s₂.heap, slotsUsed := s₂.slotsUsed } : State).setVm s₂.vm), Ls ++ L, c0 + mc, s0 + ms⟩,
      ⟨X.admits, X.cas, X.clock, X.frames, X.room, X.hears, X.method, X.code, (X.here.setHeapUsed s₂.heap s₂.slotsUsed).setVm hW'.alike, X.tail, State.WarmedH.trans X.warmed hW', X.limits, X.bytes, X.same.trans (hsame.setVm s.vm)⟩,
      ⟨g, mk, s₂, L, E, ce, rfl, rfl, hx, hce, hcv, hcl, rfl, hL, rfl, rfl⟩, ?_⟩
    show Steps p.tables e below _ (((({ U with heap := s₂.heap, slotsUsed := s₂.slotsUsed } : State).setVm s₂.vm).setTop g).pushFrame (.throwing q))
    rw [← hs₂]
    exact hsteps
end
variable {p : Program} {l : Launch} {e : Env} {R : Room} {s : State} {m : MethodId} {args : Array Value} {below : List Frame} {meth : Method} {c : Code} {T : State} {H : Heap} {locs : List Loc} {cells slots : Nat}
theorem vx_callVX (X : Stand p l e R s m args below meth c T locs cells slots) (hexec : p.tables.exec = Jvm.exec) {own C : String} {index : Nat} {y : MethodName} {bytes : ByteArray} {maxL : Nat} {ret : Option FieldType} {hh : List (Nat × Nat × Nat × Nat)}
    (hown : s.vm.findClass own = some m.cls) (hlink : (Cond.methodLink own index y).before args s = true) (hinst : (Cond.instanceMethod y).before args s = true) (hsel : (Cond.selects C y y).before args s = true)
    (hcode : (Cond.codeWith y bytes maxL ret hh).before args s = true) (hy : y.cls ≠ "java/lang/invoke/MethodHandle" ∧ y.cls ≠ "java/lang/invoke/VarHandle")
    {W9 : Nat} {Pre : Pt → Array Value → Prop} {Post : Pt → Array Value → Option Value → Pt → Prop} {PostX : Pt → Array Value → Addr → Pt → Prop} (hK : vx_Back l R p e below s args y 3 W9 Pre Post PostX)
    {b : Addr} {cellB : Cell} (hcell : T.heap[b]? = some cellB) (hobj : cellB.vm.isStatics = false) (hcls : s.vm.findClass C = some cellB.cls)
    {g : JFrame} (hg : g.method = m) (hsize : g.locals.size = c.maxLocals) {argsL rest : List Value} (hlen : ∀ sig, parseMethodDescriptor y.desc = some sig → argsL.length = sig.parameters.length)
    (hstack : g.stack = argsL.reverse ++ .ref b :: rest) (hW : 2 * g.monitorRoom + (rest.map fun v => v.category).sum ≤ W9) (hdg : decode c.code g.pc = .ok (.invokevirtual index, 3))
    (hpre : ∀ vm₁, s.WarmedH vm₁ → Pre ⟨T.setVm vm₁, locs, cells, slots⟩ (Value.ref b :: argsL).toArray) :
    (∃ (v : Option Value) (vm₁ : Vm) (B : Pt), s.WarmedH vm₁ ∧ Stand p l e R s m args below meth c B.U B.locs B.cells B.slots ∧ Post ⟨T.setVm vm₁, locs, cells, slots⟩ (Value.ref b :: argsL).toArray v B ∧
      ∀ target, Steps p.tables e below (B.U.setTop { g with pc := g.pc + 3, stack := v.toList ++ rest }) target → Steps p.tables e below (T.setTop g) target) ∨
    (∃ (q : Addr) (vm₁ : Vm) (B : Pt), s.WarmedH vm₁ ∧ Stand p l e R s m args below meth c B.U B.locs B.cells B.slots ∧ PostX ⟨T.setVm vm₁, locs, cells, slots⟩ (Value.ref b :: argsL).toArray q B ∧
      Steps p.tables e below (T.setTop g) ((B.U.setTop { g with stack := rest }).pushFrame (.throwing q))) := by
  obtain ⟨mk, methM, hnamed, hmethM, hstM, habM⟩ := Cond.instanceMethod_spec hinst
  obtain ⟨m8, methM', cM, hn8, hmethM', -, -, -, -, -, -, hsigM⟩ := Cond.codeWith_spec hcode
  cases Option.some.inj (hn8.symm.trans hnamed)
  cases hmethM.symm.trans hmethM'
  obtain ⟨c2, r2, m2, q1, q2, q3, q4, kP, hkP, hkPi⟩ := Cond.selects_spec hsel
  cases hcls.symm.trans q1
  cases (State.methodFound?_of_named hnamed hy).symm.trans q2
  cases hnamed.symm.trans q3
  have hselP : selectMethod e.platform s.vm cellB.cls mk = .method mk := by rw [Launch.admits_selectMethod X.admits]; exact q4
  obtain ⟨vm₁, X₁, hstep₁⟩ := X.invokevirtual hexec hown hlink hnamed hmethM hstM hkP hkPi hy (a := b) (cell := cellB) hcell
    (fun z h => by rw [h] at hobj; cases hobj) hselP hmethM habM hkP hkPi (g := g) hg (argsL := argsL) (rest := rest) (hlen _ hsigM) hstack hdg
  rcases hK m meth c ⟨T.setVm vm₁, locs, cells, slots⟩ { g with stack := rest } (.invokevirtual index) mk (Value.ref b :: argsL).toArray X₁ hg hsize hdg hW (X₁.named hnamed) (hpre vm₁ X₁.warmed) with ⟨v, B, X', hpost, hsteps⟩ | ⟨q, B, X', hpost, hsteps⟩
  · exact Or.inl ⟨v, vm₁, B, X₁.warmed, X', hpost, fun target h => hstep₁ _ fun acts => by rw [doInvoke_state]; exact hsteps.trans h⟩
  · exact Or.inr ⟨q, vm₁, B, X₁.warmed, X', hpost, hstep₁ _ fun acts => by rw [doInvoke_state]; exact hsteps⟩
theorem vx_callSX (X : Stand p l e R s m args below meth c T locs cells slots) (hexec : p.tables.exec = Jvm.exec) {own : String} {index : Nat} {y : MethodName} {bytes : ByteArray} {maxL : Nat} {ret : Option FieldType} {hh : List (Nat × Nat × Nat × Nat)}
    (hown : s.vm.findClass own = some m.cls) (hlink : (Cond.methodLink own index y).before args s = true) (hstat : (Cond.static y).before args s = true) (hinit : (Cond.initialized y.cls).before args s = true)
    (hcode : (Cond.codeWith y bytes maxL ret hh).before args s = true) (hy : y.cls ≠ "java/lang/invoke/MethodHandle" ∧ y.cls ≠ "java/lang/invoke/VarHandle")
    {W9 : Nat} {Pre : Pt → Array Value → Prop} {Post : Pt → Array Value → Option Value → Pt → Prop} {PostX : Pt → Array Value → Addr → Pt → Prop} (hK : vx_Back l R p e below s args y 3 W9 Pre Post PostX)
    {g : JFrame} (hg : g.method = m) (hsize : g.locals.size = c.maxLocals) {argsL rest : List Value} (hlen : ∀ sig, parseMethodDescriptor y.desc = some sig → argsL.length = sig.parameters.length)
    (hstack : g.stack = argsL.reverse ++ rest) (hW : 2 * g.monitorRoom + (rest.map fun v => v.category).sum ≤ W9) (hdg : decode c.code g.pc = .ok (.invokestatic index, 3))
    (hpre : ∀ vm₁, s.WarmedH vm₁ → Pre ⟨T.setVm vm₁, locs, cells, slots⟩ argsL.toArray) :
    (∃ (v : Option Value) (vm₁ : Vm) (B : Pt), s.WarmedH vm₁ ∧ Stand p l e R s m args below meth c B.U B.locs B.cells B.slots ∧ Post ⟨T.setVm vm₁, locs, cells, slots⟩ argsL.toArray v B ∧
      ∀ target, Steps p.tables e below (B.U.setTop { g with pc := g.pc + 3, stack := v.toList ++ rest }) target → Steps p.tables e below (T.setTop g) target) ∨
    (∃ (q : Addr) (vm₁ : Vm) (B : Pt), s.WarmedH vm₁ ∧ Stand p l e R s m args below meth c B.U B.locs B.cells B.slots ∧ PostX ⟨T.setVm vm₁, locs, cells, slots⟩ argsL.toArray q B ∧
      Steps p.tables e below (T.setTop g) ((B.U.setTop { g with stack := rest }).pushFrame (.throwing q))) := by
  obtain ⟨mk, methM, cM, hnamed, hmethM, -, -, -, -, -, -, hsigM⟩ := Cond.codeWith_spec hcode
  have hstatic : methM.isStatic = true := Cond.static_spec hnamed hmethM hstat
  obtain ⟨kP, hkP, -⟩ := className_of_methodNamed hnamed
  have hinitP : kP.init = .initialized := Cond.initialized_spec (findClass_of_methodNamed hnamed) hkP hinit
  obtain ⟨vm₁, X₁, hstep₁⟩ := X.invokestatic hexec hown hlink hnamed hmethM hstatic hkP hinitP hy (g := g) hg (argsL := argsL) (rest := rest) (hlen _ hsigM) hstack hdg
  rcases hK m meth c ⟨T.setVm vm₁, locs, cells, slots⟩ { g with stack := rest } (.invokestatic index) mk argsL.toArray X₁ hg hsize hdg hW (X₁.named hnamed) (hpre vm₁ X₁.warmed) with ⟨v, B, X', hpost, hsteps⟩ | ⟨q, B, X', hpost, hsteps⟩
  · exact Or.inl ⟨v, vm₁, B, X₁.warmed, X', hpost, fun target h => hstep₁ _ fun acts => by rw [doInvoke_state]; exact hsteps.trans h⟩
  · exact Or.inr ⟨q, vm₁, B, X₁.warmed, X', hpost, hstep₁ _ fun acts => by rw [doInvoke_state]; exact hsteps⟩
theorem vx_callVW (X : Stand p l e R s m args below meth c T locs cells slots) (hexec : p.tables.exec = Jvm.exec) {own C : String} {index : Nat} {y : MethodName} {bytes : ByteArray} {maxL : Nat} {ret : Option FieldType} {hh : List (Nat × Nat × Nat × Nat)}
    (hown : s.vm.findClass own = some m.cls) (hlink : (Cond.methodLink own index y).before args s = true) (hinst : (Cond.instanceMethod y).before args s = true) (hsel : (Cond.selects C y y).before args s = true)
    (hcode : (Cond.codeWith y bytes maxL ret hh).before args s = true) (hy : y.cls ≠ "java/lang/invoke/MethodHandle" ∧ y.cls ≠ "java/lang/invoke/VarHandle")
    {W9 : Nat} {Pre : Pt → Array Value → Prop} {Post : Pt → Array Value → Option Value → Pt → Prop} (hK : Back l R p e below s args y 3 W9 Pre Post)
    {b : Addr} {cellB : Cell} (hcell : T.heap[b]? = some cellB) (hobj : cellB.vm.isStatics = false) (hcls : s.vm.findClass C = some cellB.cls)
    {g : JFrame} (hg : g.method = m) (hsize : g.locals.size = c.maxLocals) {argsL rest : List Value} (hlen : ∀ sig, parseMethodDescriptor y.desc = some sig → argsL.length = sig.parameters.length)
    (hstack : g.stack = argsL.reverse ++ .ref b :: rest) (hW : 2 * g.monitorRoom + (rest.map fun v => v.category).sum ≤ W9) (hdg : decode c.code g.pc = .ok (.invokevirtual index, 3))
    (hpre : ∀ vm₁, s.WarmedH vm₁ → Pre ⟨T.setVm vm₁, locs, cells, slots⟩ (Value.ref b :: argsL).toArray) :
    ∃ (v : Option Value) (vm₁ : Vm) (B : Pt), s.WarmedH vm₁ ∧ Stand p l e R s m args below meth c B.U B.locs B.cells B.slots ∧ Post ⟨T.setVm vm₁, locs, cells, slots⟩ (Value.ref b :: argsL).toArray v B ∧
      ∀ target, Steps p.tables e below (B.U.setTop { g with pc := g.pc + 3, stack := v.toList ++ rest }) target → Steps p.tables e below (T.setTop g) target := by
  obtain ⟨mk, methM, hnamed, hmethM, hstM, habM⟩ := Cond.instanceMethod_spec hinst
  obtain ⟨m8, methM', cM, hn8, hmethM', -, -, -, -, -, -, hsigM⟩ := Cond.codeWith_spec hcode
  cases Option.some.inj (hn8.symm.trans hnamed)
  cases hmethM.symm.trans hmethM'
  obtain ⟨c2, r2, m2, q1, q2, q3, q4, kP, hkP, hkPi⟩ := Cond.selects_spec hsel
  cases hcls.symm.trans q1
  cases (State.methodFound?_of_named hnamed hy).symm.trans q2
  cases hnamed.symm.trans q3
  have hselP : selectMethod e.platform s.vm cellB.cls mk = .method mk := by rw [Launch.admits_selectMethod X.admits]; exact q4
  obtain ⟨vm₁, X₁, hstep₁⟩ := X.invokevirtual hexec hown hlink hnamed hmethM hstM hkP hkPi hy (a := b) (cell := cellB) hcell
    (fun z h => by rw [h] at hobj; cases hobj) hselP hmethM habM hkP hkPi (g := g) hg (argsL := argsL) (rest := rest) (hlen _ hsigM) hstack hdg
  obtain ⟨v, B, X', hpost, hsteps⟩ := hK m meth c ⟨T.setVm vm₁, locs, cells, slots⟩ { g with stack := rest } (.invokevirtual index) mk (Value.ref b :: argsL).toArray X₁ hg hsize hdg hW (X₁.named hnamed) (hpre vm₁ X₁.warmed)
  exact ⟨v, vm₁, B, X₁.warmed, X', hpost, fun target h => hstep₁ _ fun acts => by rw [doInvoke_state]; exact hsteps.trans h⟩
abbrev vx_CVW (R : Room) (s : State) (args : Array Value) (own C : String) (index : Nat) (y : MethodName) (bytes : ByteArray) (maxL : Nat) (ret : Option FieldType) (hh : List (Nat × Nat × Nat × Nat)) (ws : List Cond) (rm : Room) (mc ms n : Nat) : Prop :=
  (rm.cells = mc ∧ rm.slots = ms ∧ rm.frames + 1 ≤ R.frames ∧ 8 + (maxL + 11) + rm.locals ≤ R.locals ∧ (∀ w ∈ ws, ∀ (a' : Array Value) (U : State), s.WarmedH U.vm → w.before a' U = true) ∧ Cond.codeWith y bytes maxL ret hh ∈ ws) ∧
  (Cond.codeWith y bytes maxL ret hh).before args s = true ∧ (Cond.initialized y.cls).before args s = true ∧ (y.cls ≠ "java/lang/invoke/MethodHandle" ∧ y.cls ≠ "java/lang/invoke/VarHandle") ∧
  (∀ sig, parseMethodDescriptor y.desc = some sig → n = sig.parameters.length) ∧ (Cond.methodLink own index y).before args s = true ∧ (Cond.instanceMethod y).before args s = true ∧ (Cond.selects C y y).before args s = true
theorem vx_cwVW {own C : String} {index maxL mc ms : Nat} {y : MethodName} {bytes : ByteArray} {ret : Option FieldType} {hh : List (Nat × Nat × Nat × Nat)} {Ts ws ws' : List Cond} {rm : Room} (n : Nat) (ht : ∀ w ∈ Ts, w.before args s = true) (hT : GoodIn Ts (wsV own index C y ws)) (hw : ws = Cond.codeWith y bytes maxL ret hh :: ws') (hrc : rm.cells = mc) (hrs : rm.slots = ms)
    (hd : y.cls = C ∧ y.cls ≠ "java/lang/invoke/MethodHandle" ∧ y.cls ≠ "java/lang/invoke/VarHandle" ∧ (parseMethodDescriptor y.desc).map (fun d => d.parameters.length) = some n) (hR : rm.frames + 1 ≤ R.frames ∧ 8 + (maxL + 11) + rm.locals ≤ R.locals) :
    vx_CVW R s args own C index y bytes maxL ret hh ws rm mc ms n := by
  obtain ⟨hC, hd⟩ := hd
  subst hC
  have ok : ∀ w ∈ wsV own index y.cls y ws, w.before args s = true := fun w h => ht w (hT w h).1
  have hG : GoodIn Ts ws := fun w h => hT w (by unfold wsV; exact List.mem_append_right _ h)
  have hc : Cond.codeWith y bytes maxL ret hh ∈ ws := by rw [hw]; exact List.mem_cons_self
  refine ⟨⟨hrc, hrs, hR.1, hR.2, pay_in ht hG, hc⟩, ht _ (hG _ hc).1, ok _ (by simp [wsV]), ⟨hd.1, hd.2.1⟩, fun sig h => ?_, ok _ (by simp [wsV]), ok _ (by simp [wsV]), ok _ (by simp [wsV])⟩
  have h2 := hd.2.2
  rw [h] at h2
  exact (Option.some.inj h2).symm
theorem vx_runVW {y : MethodName} {bytes cc : ByteArray} {maxL nL mc ms n index : Nat} {ret : Option FieldType} {hh : List (Nat × Nat × Nat × Nat)} {ws : List Cond} {rm : Room} {Pc : Array Value → State → Prop} {Qc : Array Value → State → Outcome → State → Prop} {free : Addr → Prop} {Ts : List Cond} {own C : String} {b : Addr} {As rest : List Value} {g : JFrame}
    (S : CallFix p m c cc nL s args Ts own) (hM : Met l y ws rm Pc Qc mc ms free) (cw : vx_CVW R s args own C index y bytes maxL ret hh ws rm mc ms n) (hp : PreV s H C b Pc As)
    (hg : g.method = m) (hn : As.length = n) (hsize : g.locals.size = nL) (hstack : g.stack = As.reverse ++ .ref b :: rest) (hW : 2 * g.monitorRoom + (rest.map fun v => v.category).sum ≤ 8) (hdg : decode cc g.pc = .ok (.invokevirtual index, 3)) (hf : cells + mc ≤ R.cells ∧ slots + ms ≤ R.slots) :
    va_Run p l e R s m args below meth c H locs cells slots mc ms g rest (Qc (Value.ref b :: As).toArray) free := by
  obtain ⟨⟨hrc, hrs, hfr, hlo, hws, hcw⟩, hcode, hini, hy, hlen, hl, hin, hse⟩ := cw
  have hK : Back l R p e below s args y 3 8 (PreOf R mc ms Pc) (PostOf Qc mc ms free) := va_backW (hh := hh) (bytes := bytes) (maxL := maxL) (ret := ret) hM hp.1 hrc hrs hfr hlo hws hcw (fun a' U hW => word_at hW (Or.inl (by first | rfl | simp [Cond.onTables, Cond.keeps, Cond.steady])) hini)
  obtain ⟨hx, hb, hml, ho, -⟩ := S
  obtain ⟨-, ⟨cellB, hcB, hoB, hclB⟩, hPc⟩ := hp
  intro T hT X
  obtain ⟨v, vm₁, ⟨U', l2, c2, s2⟩, hW₁, X', ⟨g', mk, t, L, e1, e2, hq, h1, hL, h2, h3⟩, st⟩ := vx_callVW X hx (C := C) (hh := hh) (bytes := bytes) (maxL := maxL) (ret := ret) ho hl hin hse hcode hy hK (by rw [hT]; exact hcB) hoB hclB hg (hsize.trans hml.symm) (argsL := As) (rest := rest) (fun sig h => hn.trans (hlen sig h)) hstack hW (by rw [hb]; exact hdg)
    (fun vm₁ hW₁ => ⟨hf.1, hf.2, hPc (T.setVm vm₁) hT hW₁⟩)
  dsimp only [Pt.U, Pt.locs, Pt.cells, Pt.slots] at X' e1 e2 h1 h2 h3 st
  subst h1; subst h2; subst h3
  exact ⟨v, (T.setVm vm₁).calling g' mk (Value.ref b :: As).toArray, t, U', L, hT, X', hL, e1, e2, hq, st⟩
section
variable {y : MethodName} {bytes cc : ByteArray} {maxL nL mc ms n index : Nat} {ret : Option FieldType} {ws : List Cond} {rm : Room} {Pc : Array Value → State → Prop} {Qc : Array Value → State → Outcome → State → Prop} {XC : String → State → State → Prop} {free : Addr → Prop} {Ts : List Cond} {own C : String} {b : Addr} {As rest : List Value} {g : JFrame}
theorem vx_runVX {hh : List (Nat × Nat × Nat × Nat)} (S : CallFix p m c cc nL s args Ts own) (hM : vx_Met l y ws rm Pc Qc XC mc ms free) (cw : vx_CVW R s args own C index y bytes maxL ret hh ws rm mc ms n) (hp : PreV s H C b Pc As)
    (hg : g.method = m) (hn : As.length = n) (hsize : g.locals.size = nL) (hstack : g.stack = As.reverse ++ .ref b :: rest) (hW : 2 * g.monitorRoom + (rest.map fun v => v.category).sum ≤ 8) (hdg : decode cc g.pc = .ok (.invokevirtual index, 3)) (hf : cells + mc ≤ R.cells ∧ slots + ms ≤ R.slots) :
    vx_Run p l e R s m args below meth c H locs cells slots mc ms g rest (Qc (Value.ref b :: As).toArray) XC free := by
  obtain ⟨⟨hrc, hrs, hfr, hlo, hws, hcw⟩, hcode, hini, hy, hlen, hl, hin, hse⟩ := cw
  have hK : vx_Back l R p e below s args y 3 8 (PreOf R mc ms Pc) (PostOf Qc mc ms free) (vx_Post XC mc ms free) := vx_backW (hh := hh) (bytes := bytes) (maxL := maxL) (ret := ret) hM hp.1 hrc hrs hfr hlo hws hcw (fun a' U hW => word_at hW (Or.inl (by first | rfl | simp [Cond.onTables, Cond.keeps, Cond.steady])) hini)
  obtain ⟨hx, hb, hml, ho, -⟩ := S
  obtain ⟨-, ⟨cellB, hcB, hoB, hclB⟩, hPc⟩ := hp
  intro T hT X
  rcases vx_callVX X hx (C := C) (hh := hh) (bytes := bytes) (maxL := maxL) (ret := ret) ho hl hin hse hcode hy hK (by rw [hT]; exact hcB) hoB hclB hg (hsize.trans hml.symm) (argsL := As) (rest := rest) (fun sig h => hn.trans (hlen sig h)) hstack hW (by rw [hb]; exact hdg)
    (fun vm₁ hW₁ => ⟨hf.1, hf.2, hPc (T.setVm vm₁) hT hW₁⟩) with ⟨v, vm₁, ⟨U', l2, c2, s2⟩, hW₁, X', ⟨g', mk, t, L, e1, e2, hq, h1, hL, h2, h3⟩, st⟩ | ⟨q, vm₁, ⟨U', l2, c2, s2⟩, hW₁, X', ⟨g', mk, t, L, E, ce, e1, e2, hq, hce, hcv, hcl, h1, hL, h2, h3⟩, st⟩
  · dsimp only [Pt.U, Pt.locs, Pt.cells, Pt.slots] at X' e1 e2 h1 h2 h3 st
    subst h1; subst h2; subst h3
    exact Or.inl ⟨v, (T.setVm vm₁).calling g' mk (Value.ref b :: As).toArray, t, U', L, hT, X', hL, e1, e2, hq, st⟩
  · dsimp only [Pt.U, Pt.locs, Pt.cells, Pt.slots] at X' e1 e2 h1 h2 h3 st hcl
    subst h1; subst h2; subst h3
    exact Or.inr ⟨q, (T.setVm vm₁).calling g' mk (Value.ref b :: As).toArray, t, U', L, E, ce, hT, X', hL, e1, e2, hq, hce, hcv, vx_cls hW₁ hcl, st⟩
theorem vx_runSX {hh : List (Nat × Nat × Nat × Nat)} (S : CallFix p m c cc nL s args Ts own) (hM : vx_Met l y ws rm Pc Qc XC mc ms free) (cw : vx_CSW R s args own index y bytes maxL ret hh ws rm mc ms n) (hp : PreS s H Pc As)
    (hg : g.method = m) (hn : As.length = n) (hsize : g.locals.size = nL) (hstack : g.stack = As.reverse ++ rest) (hW : 2 * g.monitorRoom + (rest.map fun v => v.category).sum ≤ 8) (hdg : decode cc g.pc = .ok (.invokestatic index, 3)) (hf : cells + mc ≤ R.cells ∧ slots + ms ≤ R.slots) :
    vx_Run p l e R s m args below meth c H locs cells slots mc ms g rest (Qc As.toArray) XC free := by
  obtain ⟨⟨hrc, hrs, hfr, hlo, hws, hcw⟩, hcode, hini, hy, hlen, hl, hstt⟩ := cw
  have hK : vx_Back l R p e below s args y 3 8 (PreOf R mc ms Pc) (PostOf Qc mc ms free) (vx_Post XC mc ms free) := vx_backW (hh := hh) (bytes := bytes) (maxL := maxL) (ret := ret) hM hp.1 hrc hrs hfr hlo hws hcw (fun a' U hW => word_at hW (Or.inl (by first | rfl | simp [Cond.onTables, Cond.keeps, Cond.steady])) hini)
  obtain ⟨hx, hb, hml, ho, -⟩ := S
  intro T hT X
  rcases vx_callSX X hx (hh := hh) (bytes := bytes) (maxL := maxL) (ret := ret) ho hl hstt hini hcode hy hK hg (hsize.trans hml.symm) (argsL := As) (rest := rest) (fun sig h => hn.trans (hlen sig h)) hstack hW (by rw [hb]; exact hdg)
    (fun vm₁ hW₁ => ⟨hf.1, hf.2, hp.2 (T.setVm vm₁) hT hW₁⟩) with ⟨v, vm₁, ⟨U', l2, c2, s2⟩, hW₁, X', ⟨g', mk, t, L, e1, e2, hq, h1, hL, h2, h3⟩, st⟩ | ⟨q, vm₁, ⟨U', l2, c2, s2⟩, hW₁, X', ⟨g', mk, t, L, E, ce, e1, e2, hq, hce, hcv, hcl, h1, hL, h2, h3⟩, st⟩
  · dsimp only [Pt.U, Pt.locs, Pt.cells, Pt.slots] at X' e1 e2 h1 h2 h3 st
    subst h1; subst h2; subst h3
    exact Or.inl ⟨v, (T.setVm vm₁).calling g' mk As.toArray, t, U', L, hT, X', hL, e1, e2, hq, st⟩
  · dsimp only [Pt.U, Pt.locs, Pt.cells, Pt.slots] at X' e1 e2 h1 h2 h3 st hcl
    subst h1; subst h2; subst h3
    exact Or.inr ⟨q, (T.setVm vm₁).calling g' mk As.toArray, t, U', L, E, ce, hT, X', hL, e1, e2, hq, hce, hcv, vx_cls hW₁ hcl, st⟩
end
end VXH
theorem vx_ofWH {l : Launch} {y : MethodName} {ws ws' : List Cond} {rm : Room} {Pc : Array Value → State → Prop} {Qc : Array Value → State → Outcome → State → Prop} {XC : String → State → State → Prop} {mc ms : Nat} {free : Addr → Prop} {cc : ByteArray} {maxL : Nat} {ret : Option FieldType} {hh : List (Nat × Nat × Nat × Nat)}
    (hy : plainName y.cls = true) (hw : ws = Cond.codeWith y cc maxL ret hh :: ws')
    (body : ∀ p e s m args below meth c s₁, BodyLoose p l y (headSpec ws rm) cc maxL ret e s m args below meth c s₁ → c.maxLocals = maxL → Pc args s →
      W p l e (headSpec ws rm).room s m args below meth c s.heap [] 0 0 (vx_MQ below Qc XC args s mc ms free) (entryFrame m args maxL)) : vx_Met l y ws rm Pc Qc XC mc ms free := by
  refine MetFree.of_bodyS (code := cc) (maxLocals := maxL) (ret := ret) hy ?_ ?_
  · intro args s m h hn
    obtain ⟨m9, meth, c, hn9, h1, h2, h3, h4, -, h5, h6, -⟩ := Cond.codeWith_spec (atoms_spec (ws := ws) h _ (by rw [hw]; exact List.mem_cons_self))
    cases hn.symm.trans hn9
    exact ⟨meth, c, h1, h2, h3, h4, h5, h6⟩
  · intro p e s m args below meth c s₁ B hml hP _
    have hh0 : s₁.heap = s.heap := by rw [B.state]; rfl
    obtain ⟨t, a1, o, b1, b2, b3⟩ := body p e s m args below meth c s₁ B hml hP s₁ hh0 (Stand.of_body B)
    exact ⟨t, o, a1, b1, b2, b3⟩
/-! ===== END ===== -/
end
section
def RX0 : String := "ClaimedTasks$Commands"
def TX0 : u_T := fun k => match k with
  | _ => ("ClaimedTasks$Commands", "stepper", "LClaimedTasks$Stepper;", true)
def tyX0 : Nat → FieldType := fun k => match k with
  | _ => .object "ClaimedTasks$Stepper"
theorem nmX0 : ∀ a, a < 1 → ∀ b, b < 1 → a ≠ b → (TX0 a).2.1 ≠ (TX0 b).2.1 := by decide +kernel
theorem tyX0_ok : ∀ k, k < 1 → parseFieldDescriptor (TX0 k).2.2.1 = some (tyX0 k) := by decide +kernel
abbrev cX0_init : ByteArray := prog_2_method_1_code
def yX0_init : MethodName := ⟨RX0, "<init>", "(LClaimedTasks$Stepper;)V"⟩
abbrev cX0_succeeds : ByteArray := prog_2_method_2_code
def yX0_succeeds : MethodName := ⟨RX0, "succeeds", "(LClaimedTasks$World;I)Z"⟩
abbrev cX0_changes : ByteArray := prog_2_method_3_code
def yX0_changes : MethodName := ⟨RX0, "changes", "(LClaimedTasks$World;II)Z"⟩
def RX1 : String := "ClaimedTasks$History"
def TX1 : u_T := fun k => match k with
  | 0 => ("ClaimedTasks$History", "kept", "[LClaimedTasks$World;", true)
  | 1 => ("ClaimedTasks$History", "next", "I", false)
  | _ => ("ClaimedTasks$History", "count", "I", false)
def tyX1 : Nat → FieldType := fun k => match k with
  | 0 => .array (.object "ClaimedTasks$World")
  | 1 => .int
  | _ => .int
theorem nmX1 : ∀ a, a < 3 → ∀ b, b < 3 → a ≠ b → (TX1 a).2.1 ≠ (TX1 b).2.1 := by decide +kernel
theorem tyX1_ok : ∀ k, k < 3 → parseFieldDescriptor (TX1 k).2.2.1 = some (tyX1 k) := by decide +kernel
abbrev cX1_init : ByteArray := prog_3_method_1_code
def yX1_init : MethodName := ⟨RX1, "<init>", "()V"⟩
abbrev cX1_remember : ByteArray := prog_3_method_2_code
def yX1_remember : MethodName := ⟨RX1, "remember", "(LClaimedTasks$World;)V"⟩
abbrev cX1_takeBack : ByteArray := prog_3_method_3_code
def yX1_takeBack : MethodName := ⟨RX1, "takeBack", "(LClaimedTasks$World;)V"⟩
abbrev cX1_forget : ByteArray := prog_3_method_4_code
def yX1_forget : MethodName := ⟨RX1, "forget", "()V"⟩
def RX2 : String := "ClaimedTasks$Notes"
def TX2 : u_T := fun k => match k with
  | 0 => ("ClaimedTasks$Notes", "kind", "[I", true)
  | 1 => ("ClaimedTasks$Notes", "owner", "[I", true)
  | 2 => ("ClaimedTasks$Notes", "distance", "[I", true)
  | _ => ("ClaimedTasks$Notes", "expiry", "[I", true)
def tyX2 : Nat → FieldType := fun k => match k with
  | 0 => .array .int
  | 1 => .array .int
  | 2 => .array .int
  | _ => .array .int
theorem nmX2 : ∀ a, a < 4 → ∀ b, b < 4 → a ≠ b → (TX2 a).2.1 ≠ (TX2 b).2.1 := by decide +kernel
theorem tyX2_ok : ∀ k, k < 4 → parseFieldDescriptor (TX2 k).2.2.1 = some (tyX2 k) := by decide +kernel
abbrev cX2_init : ByteArray := prog_4_method_1_code
def yX2_init : MethodName := ⟨RX2, "<init>", "()V"⟩
abbrev cX2_makeAllEmpty : ByteArray := prog_4_method_2_code
def yX2_makeAllEmpty : MethodName := ⟨RX2, "makeAllEmpty", "()V"⟩
abbrev cX2_copyFrom : ByteArray := prog_4_method_3_code
def yX2_copyFrom : MethodName := ⟨RX2, "copyFrom", "(LClaimedTasks$Notes;)V"⟩
abbrev cX2_copyOne : ByteArray := prog_4_method_4_code
def yX2_copyOne : MethodName := ⟨RX2, "copyOne", "(ILClaimedTasks$Notes;I)V"⟩
abbrev cX2_makeClaim : ByteArray := prog_4_method_5_code
def yX2_makeClaim : MethodName := ⟨RX2, "makeClaim", "(IIII)V"⟩
abbrev cX2_isClaimOf : ByteArray := prog_4_method_6_code
def yX2_isClaimOf : MethodName := ⟨RX2, "isClaimOf", "(II)Z"⟩
abbrev cX2_isExpiredClaim : ByteArray := prog_4_method_7_code
def yX2_isExpiredClaim : MethodName := ⟨RX2, "isExpiredClaim", "(II)Z"⟩
abbrev cX2_isLiveClaim : ByteArray := prog_4_method_8_code
def yX2_isLiveClaim : MethodName := ⟨RX2, "isLiveClaim", "(II)Z"⟩
abbrev cX2_isBetter : ByteArray := prog_4_method_9_code
def yX2_isBetter : MethodName := ⟨RX2, "isBetter", "(III)Z"⟩
def RX3 : String := "ClaimedTasks$Sharing"
def TX3 : u_T := fun k => match k with
  | 0 => ("ClaimedTasks$Sharing", "taskOf", "[I", true)
  | 1 => ("ClaimedTasks$Sharing", "distanceSum", "I", false)
  | _ => ("ClaimedTasks$Sharing", "worth", "[I", true)
def tyX3 : Nat → FieldType := fun k => match k with
  | 0 => .array .int
  | 1 => .int
  | _ => .array .int
theorem nmX3 : ∀ a, a < 3 → ∀ b, b < 3 → a ≠ b → (TX3 a).2.1 ≠ (TX3 b).2.1 := by decide +kernel
theorem tyX3_ok : ∀ k, k < 3 → parseFieldDescriptor (TX3 k).2.2.1 = some (tyX3 k) := by decide +kernel
abbrev cX3_init : ByteArray := prog_5_method_1_code
def yX3_init : MethodName := ⟨RX3, "<init>", "()V"⟩
abbrev cX3_findBest : ByteArray := prog_5_method_2_code
def yX3_findBest : MethodName := ⟨RX3, "findBest", "(LClaimedTasks$World;)V"⟩
abbrev cX3_mostFor : ByteArray := prog_5_method_3_code
def yX3_mostFor : MethodName := ⟨RX3, "mostFor", "(LClaimedTasks$World;II)I"⟩
abbrev cX3_mayTake : ByteArray := prog_5_method_4_code
def yX3_mayTake : MethodName := ⟨RX3, "mayTake", "(LClaimedTasks$World;III)Z"⟩
abbrev cX3_worthOf : ByteArray := prog_5_method_5_code
def yX3_worthOf : MethodName := ⟨RX3, "worthOf", "(LClaimedTasks$World;III)I"⟩
abbrev cX3_followBest : ByteArray := prog_5_method_6_code
def yX3_followBest : MethodName := ⟨RX3, "followBest", "(LClaimedTasks$World;)V"⟩
abbrev cX3_smallestBest : ByteArray := prog_5_method_7_code
def yX3_smallestBest : MethodName := ⟨RX3, "smallestBest", "(LClaimedTasks$World;II)I"⟩
def RX4 : String := "ClaimedTasks$Stepper"
def TX4 : u_T := fun k => match k with
  | _ => ("ClaimedTasks$Stepper", "before", "LClaimedTasks$Notes;", true)
def tyX4 : Nat → FieldType := fun k => match k with
  | _ => .object "ClaimedTasks$Notes"
theorem nmX4 : ∀ a, a < 1 → ∀ b, b < 1 → a ≠ b → (TX4 a).2.1 ≠ (TX4 b).2.1 := by decide +kernel
theorem tyX4_ok : ∀ k, k < 1 → parseFieldDescriptor (TX4 k).2.2.1 = some (tyX4 k) := by decide +kernel
abbrev cX4_init : ByteArray := prog_6_method_1_code
def yX4_init : MethodName := ⟨RX4, "<init>", "()V"⟩
abbrev cX4_makeSteps : ByteArray := prog_6_method_2_code
def yX4_makeSteps : MethodName := ⟨RX4, "makeSteps", "(LClaimedTasks$World;I)V"⟩
abbrev cX4_compareNotes : ByteArray := prog_6_method_3_code
def yX4_compareNotes : MethodName := ⟨RX4, "compareNotes", "(LClaimedTasks$World;I)V"⟩
abbrev cX4_bestNote : ByteArray := prog_6_method_4_code
def yX4_bestNote : MethodName := ⟨RX4, "bestNote", "(LClaimedTasks$World;III)I"⟩
abbrev cX4_chooseClaim : ByteArray := prog_6_method_5_code
def yX4_chooseClaim : MethodName := ⟨RX4, "chooseClaim", "(LClaimedTasks$World;I)V"⟩
abbrev cX4_nearest : ByteArray := prog_6_method_6_code
def yX4_nearest : MethodName := ⟨RX4, "nearest", "(LClaimedTasks$World;IZ)I"⟩
abbrev cX4_workOrMove : ByteArray := prog_6_method_7_code
def yX4_workOrMove : MethodName := ⟨RX4, "workOrMove", "(LClaimedTasks$World;I)V"⟩
abbrev cX4_moveTowards : ByteArray := prog_6_method_8_code
def yX4_moveTowards : MethodName := ⟨RX4, "moveTowards", "(LClaimedTasks$World;III)V"⟩
def RX5 : String := "ClaimedTasks$Text"
def TX5 : u_T := fun k => match k with
  | 0 => ("ClaimedTasks$Text", "codes", "[I", true)
  | _ => ("ClaimedTasks$Text", "length", "I", false)
def tyX5 : Nat → FieldType := fun k => match k with
  | 0 => .array .int
  | _ => .int
theorem nmX5 : ∀ a, a < 2 → ∀ b, b < 2 → a ≠ b → (TX5 a).2.1 ≠ (TX5 b).2.1 := by decide +kernel
theorem tyX5_ok : ∀ k, k < 2 → parseFieldDescriptor (TX5 k).2.2.1 = some (tyX5 k) := by decide +kernel
abbrev cX5_init : ByteArray := prog_7_method_1_code
def yX5_init : MethodName := ⟨RX5, "<init>", "()V"⟩
abbrev cX5_hasRoom : ByteArray := prog_7_method_2_code
def yX5_hasRoom : MethodName := ⟨RX5, "hasRoom", "()Z"⟩
abbrev cX5_add : ByteArray := prog_7_method_3_code
def yX5_add : MethodName := ⟨RX5, "add", "(I)V"⟩
abbrev cX5_readInto : ByteArray := prog_7_method_4_code
def yX5_readInto : MethodName := ⟨RX5, "readInto", "(LClaimedTasks$World;)I"⟩
abbrev cX5_readAgent : ByteArray := prog_7_method_5_code
def yX5_readAgent : MethodName := ⟨RX5, "readAgent", "(ILClaimedTasks$World;)I"⟩
abbrev cX5_readTask : ByteArray := prog_7_method_6_code
def yX5_readTask : MethodName := ⟨RX5, "readTask", "(ILClaimedTasks$World;)I"⟩
abbrev cX5_badInPlace : ByteArray := prog_7_method_7_code
def yX5_badInPlace : MethodName := ⟨RX5, "badInPlace", "(I)I"⟩
abbrev cX5_badInNumber : ByteArray := prog_7_method_8_code
def yX5_badInNumber : MethodName := ⟨RX5, "badInNumber", "(III)I"⟩
abbrev cX5_numberAt : ByteArray := prog_7_method_9_code
def yX5_numberAt : MethodName := ⟨RX5, "numberAt", "(I)I"⟩
abbrev cX5_digitAt : ByteArray := prog_7_method_10_code
def yX5_digitAt : MethodName := ⟨RX5, "digitAt", "(I)I"⟩
abbrev cX5_codeAt : ByteArray := prog_7_method_11_code
def yX5_codeAt : MethodName := ⟨RX5, "codeAt", "(I)I"⟩
def RX6 : String := "ClaimedTasks$World"
def TX6 : u_T := fun k => match k with
  | 0 => ("ClaimedTasks$World", "agents", "I", false)
  | 1 => ("ClaimedTasks$World", "tasks", "I", false)
  | 2 => ("ClaimedTasks$World", "lifetime", "I", false)
  | 3 => ("ClaimedTasks$World", "clock", "I", false)
  | 4 => ("ClaimedTasks$World", "onSet", "I", false)
  | 5 => ("ClaimedTasks$World", "x", "[I", true)
  | 6 => ("ClaimedTasks$World", "y", "[I", true)
  | 7 => ("ClaimedTasks$World", "range", "[I", true)
  | 8 => ("ClaimedTasks$World", "moves", "[I", true)
  | 9 => ("ClaimedTasks$World", "wasted", "[I", true)
  | 10 => ("ClaimedTasks$World", "taskX", "[I", true)
  | 11 => ("ClaimedTasks$World", "taskY", "[I", true)
  | 12 => ("ClaimedTasks$World", "work", "[I", true)
  | 13 => ("ClaimedTasks$World", "progress", "[I", true)
  | _ => ("ClaimedTasks$World", "notes", "LClaimedTasks$Notes;", true)
def tyX6 : Nat → FieldType := fun k => match k with
  | 0 => .int
  | 1 => .int
  | 2 => .int
  | 3 => .int
  | 4 => .int
  | 5 => .array .int
  | 6 => .array .int
  | 7 => .array .int
  | 8 => .array .int
  | 9 => .array .int
  | 10 => .array .int
  | 11 => .array .int
  | 12 => .array .int
  | 13 => .array .int
  | _ => .object "ClaimedTasks$Notes"
theorem nmX6 : ∀ a, a < 15 → ∀ b, b < 15 → a ≠ b → (TX6 a).2.1 ≠ (TX6 b).2.1 := by decide +kernel
theorem tyX6_ok : ∀ k, k < 15 → parseFieldDescriptor (TX6 k).2.2.1 = some (tyX6 k) := by decide +kernel
abbrev cX6_init : ByteArray := prog_8_method_1_code
def yX6_init : MethodName := ⟨RX6, "<init>", "()V"⟩
abbrev cX6_copyFrom : ByteArray := prog_8_method_2_code
def yX6_copyFrom : MethodName := ⟨RX6, "copyFrom", "(LClaimedTasks$World;)V"⟩
abbrev cX6_makeBare : ByteArray := prog_8_method_3_code
def yX6_makeBare : MethodName := ⟨RX6, "makeBare", "(I)V"⟩
abbrev cX6_addAgent : ByteArray := prog_8_method_4_code
def yX6_addAgent : MethodName := ⟨RX6, "addAgent", "(III)V"⟩
abbrev cX6_addTask : ByteArray := prog_8_method_5_code
def yX6_addTask : MethodName := ⟨RX6, "addTask", "(III)V"⟩
abbrev cX6_hasAgent : ByteArray := prog_8_method_6_code
def yX6_hasAgent : MethodName := ⟨RX6, "hasAgent", "(I)Z"⟩
abbrev cX6_hasTask : ByteArray := prog_8_method_7_code
def yX6_hasTask : MethodName := ⟨RX6, "hasTask", "(I)Z"⟩
abbrev cX6_isOn : ByteArray := prog_8_method_8_code
def yX6_isOn : MethodName := ⟨RX6, "isOn", "(I)Z"⟩
abbrev cX6_isFinished : ByteArray := prog_8_method_9_code
def yX6_isFinished : MethodName := ⟨RX6, "isFinished", "(I)Z"⟩
abbrev cX6_wayToTask : ByteArray := prog_8_method_10_code
def yX6_wayToTask : MethodName := ⟨RX6, "wayToTask", "(II)I"⟩
abbrev cX6_ownsLiveClaim : ByteArray := prog_8_method_11_code
def yX6_ownsLiveClaim : MethodName := ⟨RX6, "ownsLiveClaim", "(II)Z"⟩
abbrev cX6_ownTask : ByteArray := prog_8_method_12_code
def yX6_ownTask : MethodName := ⟨RX6, "ownTask", "(I)I"⟩
abbrev cX6_areInTouch : ByteArray := prog_8_method_13_code
def yX6_areInTouch : MethodName := ⟨RX6, "areInTouch", "(II)Z"⟩
abbrev cX6_heardBy : ByteArray := prog_8_method_14_code
def yX6_heardBy : MethodName := ⟨RX6, "heardBy", "(I)I"⟩
abbrev cX6_passedOn : ByteArray := prog_8_method_15_code
def yX6_passedOn : MethodName := ⟨RX6, "passedOn", "(I)I"⟩
abbrev cX6_groupCount : ByteArray := prog_8_method_16_code
def yX6_groupCount : MethodName := ⟨RX6, "groupCount", "()I"⟩
abbrev cX6_groupOf : ByteArray := prog_8_method_17_code
def yX6_groupOf : MethodName := ⟨RX6, "groupOf", "(I)I"⟩
abbrev cX6_placeAgent : ByteArray := prog_8_method_18_code
def yX6_placeAgent : MethodName := ⟨RX6, "placeAgent", "(III)V"⟩
abbrev cX6_switchAgent : ByteArray := prog_8_method_19_code
def yX6_switchAgent : MethodName := ⟨RX6, "switchAgent", "(I)V"⟩
abbrev cX6_setAllRanges : ByteArray := prog_8_method_20_code
def yX6_setAllRanges : MethodName := ⟨RX6, "setAllRanges", "(I)V"⟩
abbrev cX6_canPassClaim : ByteArray := prog_8_method_21_code
def yX6_canPassClaim : MethodName := ⟨RX6, "canPassClaim", "(II)Z"⟩
abbrev cX6_passClaim : ByteArray := prog_8_method_22_code
def yX6_passClaim : MethodName := ⟨RX6, "passClaim", "(II)V"⟩
abbrev cX6_dropClaims : ByteArray := prog_8_method_23_code
def yX6_dropClaims : MethodName := ⟨RX6, "dropClaims", "(I)I"⟩
abbrev cX6_finishedTasks : ByteArray := prog_8_method_24_code
def yX6_finishedTasks : MethodName := ⟨RX6, "finishedTasks", "()I"⟩
abbrev cX6_allProgress : ByteArray := prog_8_method_25_code
def yX6_allProgress : MethodName := ⟨RX6, "allProgress", "()I"⟩
abbrev cX6_allMoves : ByteArray := prog_8_method_26_code
def yX6_allMoves : MethodName := ⟨RX6, "allMoves", "()I"⟩
abbrev cX6_allWasted : ByteArray := prog_8_method_27_code
def yX6_allWasted : MethodName := ⟨RX6, "allWasted", "()I"⟩
abbrev cX6_sumOf : ByteArray := prog_8_method_28_code
def yX6_sumOf : MethodName := ⟨RX6, "sumOf", "([II)I"⟩
abbrev cX6_knowers : ByteArray := prog_8_method_29_code
def yX6_knowers : MethodName := ⟨RX6, "knowers", "(I)I"⟩
abbrev cX6_isKnownToAll : ByteArray := prog_8_method_30_code
def yX6_isKnownToAll : MethodName := ⟨RX6, "isKnownToAll", "(I)Z"⟩
abbrev cX6_claimants : ByteArray := prog_8_method_31_code
def yX6_claimants : MethodName := ⟨RX6, "claimants", "(I)I"⟩
abbrev cX6_doublyClaimed : ByteArray := prog_8_method_32_code
def yX6_doublyClaimed : MethodName := ⟨RX6, "doublyClaimed", "()I"⟩
abbrev cX6_unknownFinishes : ByteArray := prog_8_method_33_code
def yX6_unknownFinishes : MethodName := ⟨RX6, "unknownFinishes", "()I"⟩
abbrev cX6_claimsOfLostAgents : ByteArray := prog_8_method_34_code
def yX6_claimsOfLostAgents : MethodName := ⟨RX6, "claimsOfLostAgents", "()I"⟩
def RX7 : String := "ClaimedTasks"
def TX7 : u_T := fun k => match k with
  | 0 => ("ClaimedTasks", "text", "LClaimedTasks$Text;", true)
  | 1 => ("ClaimedTasks", "state", "LClaimedTasks$World;", true)
  | 2 => ("ClaimedTasks", "trial", "LClaimedTasks$World;", true)
  | 3 => ("ClaimedTasks", "history", "LClaimedTasks$History;", true)
  | 4 => ("ClaimedTasks", "slots", "[LClaimedTasks$World;", true)
  | 5 => ("ClaimedTasks", "filledSlots", "I", false)
  | 6 => ("ClaimedTasks", "stepper", "LClaimedTasks$Stepper;", true)
  | 7 => ("ClaimedTasks", "commands", "LClaimedTasks$Commands;", true)
  | _ => ("ClaimedTasks", "sharing", "LClaimedTasks$Sharing;", true)
def tyX7 : Nat → FieldType := fun k => match k with
  | 0 => .object "ClaimedTasks$Text"
  | 1 => .object "ClaimedTasks$World"
  | 2 => .object "ClaimedTasks$World"
  | 3 => .object "ClaimedTasks$History"
  | 4 => .array (.object "ClaimedTasks$World")
  | 5 => .int
  | 6 => .object "ClaimedTasks$Stepper"
  | 7 => .object "ClaimedTasks$Commands"
  | _ => .object "ClaimedTasks$Sharing"
theorem nmX7 : ∀ a, a < 9 → ∀ b, b < 9 → a ≠ b → (TX7 a).2.1 ≠ (TX7 b).2.1 := by decide +kernel
theorem tyX7_ok : ∀ k, k < 9 → parseFieldDescriptor (TX7 k).2.2.1 = some (tyX7 k) := by decide +kernel
abbrev cX7_init : ByteArray := prog_1_method_1_code
def yX7_init : MethodName := ⟨RX7, "<init>", "()V"⟩
abbrev cX7_append : ByteArray := prog_1_method_2_code
def yX7_append : MethodName := ⟨RX7, "append", "(I)I"⟩
abbrev cX7_clearText : ByteArray := prog_1_method_3_code
def yX7_clearText : MethodName := ⟨RX7, "clearText", "()I"⟩
abbrev cX7_errorPosition : ByteArray := prog_1_method_4_code
def yX7_errorPosition : MethodName := ⟨RX7, "errorPosition", "()I"⟩
abbrev cX7_load : ByteArray := prog_1_method_5_code
def yX7_load : MethodName := ⟨RX7, "load", "()I"⟩
abbrev cX7_about : ByteArray := prog_1_method_6_code
def yX7_about : MethodName := ⟨RX7, "about", "(I)I"⟩
abbrev cX7_agent : ByteArray := prog_1_method_7_code
def yX7_agent : MethodName := ⟨RX7, "agent", "(II)I"⟩
abbrev cX7_task : ByteArray := prog_1_method_8_code
def yX7_task : MethodName := ⟨RX7, "task", "(II)I"⟩
abbrev cX7_note : ByteArray := prog_1_method_9_code
def yX7_note : MethodName := ⟨RX7, "note", "(III)I"⟩
abbrev cX7_step : ByteArray := prog_1_method_10_code
def yX7_step : MethodName := ⟨RX7, "step", "(I)I"⟩
abbrev cX7_setRange : ByteArray := prog_1_method_11_code
def yX7_setRange : MethodName := ⟨RX7, "setRange", "(II)I"⟩
abbrev cX7_put : ByteArray := prog_1_method_12_code
def yX7_put : MethodName := ⟨RX7, "put", "(III)I"⟩
abbrev cX7_toggle : ByteArray := prog_1_method_13_code
def yX7_toggle : MethodName := ⟨RX7, "toggle", "(I)I"⟩
abbrev cX7_handOver : ByteArray := prog_1_method_14_code
def yX7_handOver : MethodName := ⟨RX7, "handOver", "(II)I"⟩
abbrev cX7_drop : ByteArray := prog_1_method_15_code
def yX7_drop : MethodName := ⟨RX7, "drop", "(I)I"⟩
abbrev cX7_setLifetime : ByteArray := prog_1_method_16_code
def yX7_setLifetime : MethodName := ⟨RX7, "setLifetime", "(I)I"⟩
abbrev cX7_undo : ByteArray := prog_1_method_17_code
def yX7_undo : MethodName := ⟨RX7, "undo", "()I"⟩
abbrev cX7_hops : ByteArray := prog_1_method_18_code
def yX7_hops : MethodName := ⟨RX7, "hops", "(II)I"⟩
abbrev cX7_groups : ByteArray := prog_1_method_19_code
def yX7_groups : MethodName := ⟨RX7, "groups", "()I"⟩
abbrev cX7_rangeNeeded : ByteArray := prog_1_method_20_code
def yX7_rangeNeeded : MethodName := ⟨RX7, "rangeNeeded", "()I"⟩
abbrev cX7_conflicts : ByteArray := prog_1_method_21_code
def yX7_conflicts : MethodName := ⟨RX7, "conflicts", "(I)I"⟩
abbrev cX7_finishedAfter : ByteArray := prog_1_method_22_code
def yX7_finishedAfter : MethodName := ⟨RX7, "finishedAfter", "(I)I"⟩
abbrev cX7_knownAfter : ByteArray := prog_1_method_23_code
def yX7_knownAfter : MethodName := ⟨RX7, "knownAfter", "(I)I"⟩
abbrev cX7_wastedIf : ByteArray := prog_1_method_24_code
def yX7_wastedIf : MethodName := ⟨RX7, "wastedIf", "(II)I"⟩
abbrev cX7_worstLoss : ByteArray := prog_1_method_25_code
def yX7_worstLoss : MethodName := ⟨RX7, "worstLoss", "(I)I"⟩
abbrev cX7_progressWithout : ByteArray := prog_1_method_26_code
def yX7_progressWithout : MethodName := ⟨RX7, "progressWithout", "(II)I"⟩
abbrev cX7_bestShare : ByteArray := prog_1_method_27_code
def yX7_bestShare : MethodName := ⟨RX7, "bestShare", "(I)I"⟩
abbrev cX7_runScript : ByteArray := prog_1_method_28_code
def yX7_runScript : MethodName := ⟨RX7, "runScript", "(IJ)I"⟩
abbrev cX7_simulate : ByteArray := prog_1_method_29_code
def yX7_simulate : MethodName := ⟨RX7, "simulate", "(JI)I"⟩
abbrev cX7_disturb : ByteArray := prog_1_method_30_code
def yX7_disturb : MethodName := ⟨RX7, "disturb", "(LClaimedTasks$World;I)V"⟩
abbrev cX7_save : ByteArray := prog_1_method_31_code
def yX7_save : MethodName := ⟨RX7, "save", "(I)I"⟩
abbrev cX7_restore : ByteArray := prog_1_method_32_code
def yX7_restore : MethodName := ⟨RX7, "restore", "(I)I"⟩
abbrev cX7_requireIndex : ByteArray := prog_1_method_33_code
def yX7_requireIndex : MethodName := ⟨RX7, "requireIndex", "(Z)V"⟩
abbrev cX7_requireBetween : ByteArray := prog_1_method_34_code
def yX7_requireBetween : MethodName := ⟨RX7, "requireBetween", "(III)V"⟩
abbrev cX7_requireArgument : ByteArray := prog_1_method_35_code
def yX7_requireArgument : MethodName := ⟨RX7, "requireArgument", "(Z)V"⟩
abbrev cX7_requireState : ByteArray := prog_1_method_36_code
def yX7_requireState : MethodName := ⟨RX7, "requireState", "(Z)V"⟩
abbrev cX7_distanceOf : ByteArray := prog_1_method_37_code
def yX7_distanceOf : MethodName := ⟨RX7, "distanceOf", "(IIII)I"⟩
abbrev cX7_isIn : ByteArray := prog_1_method_38_code
def yX7_isIn : MethodName := ⟨RX7, "isIn", "(II)Z"⟩
abbrev cX7_noteIndex : ByteArray := prog_1_method_39_code
def yX7_noteIndex : MethodName := ⟨RX7, "noteIndex", "(II)I"⟩
def RX8 : String := "ClaimedTasksModel"
def TX8 : u_T := fun k => match k with
  | 0 => ("ClaimedTasksModel", "refusal", "I", false)
  | 1 => ("ClaimedTasksModel", "script", "[I", true)
  | 2 => ("ClaimedTasksModel", "scriptSize", "I", false)
  | 3 => ("ClaimedTasksModel", "spot", "I", false)
  | 4 => ("ClaimedTasksModel", "readRow", "[I", true)
  | 5 => ("ClaimedTasksModel", "now", "[I", true)
  | 6 => ("ClaimedTasksModel", "trial", "[I", true)
  | 7 => ("ClaimedTasksModel", "before", "[I", true)
  | 8 => ("ClaimedTasksModel", "diary", "[I", true)
  | 9 => ("ClaimedTasksModel", "acts", "I", false)
  | 10 => ("ClaimedTasksModel", "kept", "[I", true)
  | 11 => ("ClaimedTasksModel", "isKept", "[Z", true)
  | 12 => ("ClaimedTasksModel", "ways", "[I", true)
  | 13 => ("ClaimedTasksModel", "shares", "[I", true)
  | _ => ("ClaimedTasksModel", "bestOf", "[I", true)
def tyX8 : Nat → FieldType := fun k => match k with
  | 0 => .int
  | 1 => .array .int
  | 2 => .int
  | 3 => .int
  | 4 => .array .int
  | 5 => .array .int
  | 6 => .array .int
  | 7 => .array .int
  | 8 => .array .int
  | 9 => .int
  | 10 => .array .int
  | 11 => .array .boolean
  | 12 => .array .int
  | 13 => .array .int
  | _ => .array .int
theorem nmX8 : ∀ a, a < 15 → ∀ b, b < 15 → a ≠ b → (TX8 a).2.1 ≠ (TX8 b).2.1 := by decide +kernel
theorem tyX8_ok : ∀ k, k < 15 → parseFieldDescriptor (TX8 k).2.2.1 = some (tyX8 k) := by decide +kernel
abbrev cX8_init : ByteArray := prog_10_method_1_code
def yX8_init : MethodName := ⟨RX8, "<init>", "()V"⟩
abbrev cX8_thrown : ByteArray := prog_10_method_2_code
def yX8_thrown : MethodName := ⟨RX8, "thrown", "()I"⟩
abbrev cX8_refused : ByteArray := prog_10_method_3_code
def yX8_refused : MethodName := ⟨RX8, "refused", "(I)Z"⟩
abbrev cX8_in : ByteArray := prog_10_method_4_code
def yX8_in : MethodName := ⟨RX8, "in", "(JJJ)Z"⟩
abbrev cX8_copy : ByteArray := prog_10_method_5_code
def yX8_copy : MethodName := ⟨RX8, "copy", "([II[III)V"⟩
abbrev cX8_tenTo : ByteArray := prog_10_method_6_code
def yX8_tenTo : MethodName := ⟨RX8, "tenTo", "(I)J"⟩
abbrev cX8_note : ByteArray := prog_10_method_7_code
def yX8_note : MethodName := ⟨RX8, "note", "()V"⟩
abbrev cX8_size : ByteArray := prog_10_method_8_code
def yX8_size : MethodName := ⟨RX8, "size", "(I)I"⟩
abbrev cX8_agentAt : ByteArray := prog_10_method_9_code
def yX8_agentAt : MethodName := ⟨RX8, "agentAt", "(I)I"⟩
abbrev cX8_taskAt : ByteArray := prog_10_method_10_code
def yX8_taskAt : MethodName := ⟨RX8, "taskAt", "(I)I"⟩
abbrev cX8_noteAt : ByteArray := prog_10_method_11_code
def yX8_noteAt : MethodName := ⟨RX8, "noteAt", "(II)I"⟩
abbrev cX8_isAgent : ByteArray := prog_10_method_12_code
def yX8_isAgent : MethodName := ⟨RX8, "isAgent", "(I)Z"⟩
abbrev cX8_isTask : ByteArray := prog_10_method_13_code
def yX8_isTask : MethodName := ⟨RX8, "isTask", "(I)Z"⟩
abbrev cX8_isOn : ByteArray := prog_10_method_14_code
def yX8_isOn : MethodName := ⟨RX8, "isOn", "([II)Z"⟩
abbrev cX8_isDone : ByteArray := prog_10_method_15_code
def yX8_isDone : MethodName := ⟨RX8, "isDone", "([II)Z"⟩
abbrev cX8_apart : ByteArray := prog_10_method_16_code
def yX8_apart : MethodName := ⟨RX8, "apart", "([III)I"⟩
abbrev cX8_far : ByteArray := prog_10_method_17_code
def yX8_far : MethodName := ⟨RX8, "far", "([III)I"⟩
abbrev cX8_hears : ByteArray := prog_10_method_18_code
def yX8_hears : MethodName := ⟨RX8, "hears", "([III)Z"⟩
abbrev cX8_isLive : ByteArray := prog_10_method_19_code
def yX8_isLive : MethodName := ⟨RX8, "isLive", "([III)Z"⟩
abbrev cX8_better : ByteArray := prog_10_method_20_code
def yX8_better : MethodName := ⟨RX8, "better", "([III)Z"⟩
abbrev cX8_lay : ByteArray := prog_10_method_21_code
def yX8_lay : MethodName := ⟨RX8, "lay", "([IIIIII)V"⟩
abbrev cX8_isOwn : ByteArray := prog_10_method_22_code
def yX8_isOwn : MethodName := ⟨RX8, "isOwn", "([III)Z"⟩
abbrev cX8_ownTask : ByteArray := prog_10_method_23_code
def yX8_ownTask : MethodName := ⟨RX8, "ownTask", "([II)I"⟩
abbrev cX8_listen : ByteArray := prog_10_method_24_code
def yX8_listen : MethodName := ⟨RX8, "listen", "([I)V"⟩
abbrev cX8_claim : ByteArray := prog_10_method_25_code
def yX8_claim : MethodName := ⟨RX8, "claim", "([II)V"⟩
abbrev cX8_work : ByteArray := prog_10_method_26_code
def yX8_work : MethodName := ⟨RX8, "work", "([II)V"⟩
abbrev cX8_stepOn : ByteArray := prog_10_method_27_code
def yX8_stepOn : MethodName := ⟨RX8, "stepOn", "([I)V"⟩
abbrev cX8_finished : ByteArray := prog_10_method_28_code
def yX8_finished : MethodName := ⟨RX8, "finished", "([I)I"⟩
abbrev cX8_sumOf : ByteArray := prog_10_method_29_code
def yX8_sumOf : MethodName := ⟨RX8, "sumOf", "([II)I"⟩
abbrev cX8_progress : ByteArray := prog_10_method_30_code
def yX8_progress : MethodName := ⟨RX8, "progress", "([I)I"⟩
abbrev cX8_append : ByteArray := prog_10_method_31_code
def yX8_append : MethodName := ⟨RX8, "append", "(I)I"⟩
abbrev cX8_clearText : ByteArray := prog_10_method_32_code
def yX8_clearText : MethodName := ⟨RX8, "clearText", "()I"⟩
abbrev cX8_digit : ByteArray := prog_10_method_33_code
def yX8_digit : MethodName := ⟨RX8, "digit", "(II)I"⟩
abbrev cX8_two : ByteArray := prog_10_method_34_code
def yX8_two : MethodName := ⟨RX8, "two", "(II)I"⟩
abbrev cX8_readAgent : ByteArray := prog_10_method_35_code
def yX8_readAgent : MethodName := ⟨RX8, "readAgent", "()Z"⟩
abbrev cX8_readTask : ByteArray := prog_10_method_36_code
def yX8_readTask : MethodName := ⟨RX8, "readTask", "()Z"⟩
abbrev cX8_readText : ByteArray := prog_10_method_37_code
def yX8_readText : MethodName := ⟨RX8, "readText", "()I"⟩
abbrev cX8_errorPosition : ByteArray := prog_10_method_38_code
def yX8_errorPosition : MethodName := ⟨RX8, "errorPosition", "()I"⟩
abbrev cX8_load : ByteArray := prog_10_method_39_code
def yX8_load : MethodName := ⟨RX8, "load", "()I"⟩
abbrev cX8_about : ByteArray := prog_10_method_40_code
def yX8_about : MethodName := ⟨RX8, "about", "(I)I"⟩
abbrev cX8_agent : ByteArray := prog_10_method_41_code
def yX8_agent : MethodName := ⟨RX8, "agent", "(II)I"⟩
abbrev cX8_claimers : ByteArray := prog_10_method_42_code
def yX8_claimers : MethodName := ⟨RX8, "claimers", "([II)I"⟩
abbrev cX8_task : ByteArray := prog_10_method_43_code
def yX8_task : MethodName := ⟨RX8, "task", "(II)I"⟩
abbrev cX8_note_ : ByteArray := prog_10_method_44_code
def yX8_note_ : MethodName := ⟨RX8, "note", "(III)I"⟩
abbrev cX8_step : ByteArray := prog_10_method_45_code
def yX8_step : MethodName := ⟨RX8, "step", "(I)I"⟩
abbrev cX8_setRange : ByteArray := prog_10_method_46_code
def yX8_setRange : MethodName := ⟨RX8, "setRange", "(II)I"⟩
abbrev cX8_isPlace : ByteArray := prog_10_method_47_code
def yX8_isPlace : MethodName := ⟨RX8, "isPlace", "(II)Z"⟩
abbrev cX8_put : ByteArray := prog_10_method_48_code
def yX8_put : MethodName := ⟨RX8, "put", "(III)I"⟩
abbrev cX8_countOn : ByteArray := prog_10_method_49_code
def yX8_countOn : MethodName := ⟨RX8, "countOn", "([I)I"⟩
abbrev cX8_toggle : ByteArray := prog_10_method_50_code
def yX8_toggle : MethodName := ⟨RX8, "toggle", "(I)I"⟩
abbrev cX8_canHandOver : ByteArray := prog_10_method_51_code
def yX8_canHandOver : MethodName := ⟨RX8, "canHandOver", "([III)Z"⟩
abbrev cX8_handOn : ByteArray := prog_10_method_52_code
def yX8_handOn : MethodName := ⟨RX8, "handOn", "([III)I"⟩
abbrev cX8_handOver : ByteArray := prog_10_method_53_code
def yX8_handOver : MethodName := ⟨RX8, "handOver", "(II)I"⟩
abbrev cX8_dropOn : ByteArray := prog_10_method_54_code
def yX8_dropOn : MethodName := ⟨RX8, "dropOn", "([II)I"⟩
abbrev cX8_drop : ByteArray := prog_10_method_55_code
def yX8_drop : MethodName := ⟨RX8, "drop", "(I)I"⟩
abbrev cX8_setLifetime : ByteArray := prog_10_method_56_code
def yX8_setLifetime : MethodName := ⟨RX8, "setLifetime", "(I)I"⟩
abbrev cX8_undo : ByteArray := prog_10_method_57_code
def yX8_undo : MethodName := ⟨RX8, "undo", "()I"⟩
abbrev cX8_layWays : ByteArray := prog_10_method_58_code
def yX8_layWays : MethodName := ⟨RX8, "layWays", "([II)V"⟩
abbrev cX8_hops : ByteArray := prog_10_method_59_code
def yX8_hops : MethodName := ⟨RX8, "hops", "(II)I"⟩
abbrev cX8_groupsOf : ByteArray := prog_10_method_60_code
def yX8_groupsOf : MethodName := ⟨RX8, "groupsOf", "([I)I"⟩
abbrev cX8_groups : ByteArray := prog_10_method_61_code
def yX8_groups : MethodName := ⟨RX8, "groups", "()I"⟩
abbrev cX8_setRanges : ByteArray := prog_10_method_62_code
def yX8_setRanges : MethodName := ⟨RX8, "setRanges", "([II)V"⟩
abbrev cX8_rangeNeeded : ByteArray := prog_10_method_63_code
def yX8_rangeNeeded : MethodName := ⟨RX8, "rangeNeeded", "()I"⟩
abbrev cX8_doubles : ByteArray := prog_10_method_64_code
def yX8_doubles : MethodName := ⟨RX8, "doubles", "([I)I"⟩
abbrev cX8_conflicts : ByteArray := prog_10_method_65_code
def yX8_conflicts : MethodName := ⟨RX8, "conflicts", "(I)I"⟩
abbrev cX8_finishedAfter : ByteArray := prog_10_method_66_code
def yX8_finishedAfter : MethodName := ⟨RX8, "finishedAfter", "(I)I"⟩
abbrev cX8_isKnown : ByteArray := prog_10_method_67_code
def yX8_isKnown : MethodName := ⟨RX8, "isKnown", "([II)Z"⟩
abbrev cX8_knownAfter : ByteArray := prog_10_method_68_code
def yX8_knownAfter : MethodName := ⟨RX8, "knownAfter", "(I)I"⟩
abbrev cX8_wastedIf : ByteArray := prog_10_method_69_code
def yX8_wastedIf : MethodName := ⟨RX8, "wastedIf", "(II)I"⟩
abbrev cX8_worstLoss : ByteArray := prog_10_method_70_code
def yX8_worstLoss : MethodName := ⟨RX8, "worstLoss", "(I)I"⟩
abbrev cX8_share : ByteArray := prog_10_method_71_code
def yX8_share : MethodName := ⟨RX8, "share", "()I"⟩
abbrev cX8_canGet : ByteArray := prog_10_method_72_code
def yX8_canGet : MethodName := ⟨RX8, "canGet", "(III)Z"⟩
abbrev cX8_bestShare : ByteArray := prog_10_method_73_code
def yX8_bestShare : MethodName := ⟨RX8, "bestShare", "(I)I"⟩
abbrev cX8_command : ByteArray := prog_10_method_74_code
def yX8_command : MethodName := ⟨RX8, "command", "(I)Z"⟩
abbrev cX8_runScript : ByteArray := prog_10_method_75_code
def yX8_runScript : MethodName := ⟨RX8, "runScript", "(IJ)I"⟩
abbrev cX8_simulate : ByteArray := prog_10_method_76_code
def yX8_simulate : MethodName := ⟨RX8, "simulate", "(JI)I"⟩
abbrev cX8_save : ByteArray := prog_10_method_77_code
def yX8_save : MethodName := ⟨RX8, "save", "(I)I"⟩
abbrev cX8_restore : ByteArray := prog_10_method_78_code
def yX8_restore : MethodName := ⟨RX8, "restore", "(I)I"⟩
def RJ6 : String := "java/lang/Integer"
abbrev cJ6_bitCount_0f7a4 : ByteArray := prog_15_method_49_code
def yJ6_bitCount_0f7a4 : MethodName := ⟨RJ6, "bitCount", "(I)I"⟩
def RJ9 : String := "java/lang/Math"
abbrev cJ9_max_7cf53 : ByteArray := prog_16_method_65_code
def yJ9_max_7cf53 : MethodName := ⟨RJ9, "max", "(II)I"⟩
abbrev cJ9_min_7cf53 : ByteArray := prog_16_method_69_code
def yJ9_min_7cf53 : MethodName := ⟨RJ9, "min", "(II)I"⟩
def RJ0 : String := "java/lang/String"
def RJ10 : String := "java/lang/System"
def RL : String := "ClaimedTasksLaw"
abbrev cL_append : ByteArray := method_3_code
def yL_append : MethodName := ⟨RL, "append", "(LClaimedTasks;I[J)I"⟩
abbrev cL_load : ByteArray := method_4_code
def yL_load : MethodName := ⟨RL, "load", "(LClaimedTasks;[J)I"⟩
abbrev cL_about : ByteArray := method_5_code
def yL_about : MethodName := ⟨RL, "about", "(LClaimedTasks;I[J)I"⟩
abbrev cL_agent : ByteArray := method_6_code
def yL_agent : MethodName := ⟨RL, "agent", "(LClaimedTasks;II[J)I"⟩
abbrev cL_task : ByteArray := method_7_code
def yL_task : MethodName := ⟨RL, "task", "(LClaimedTasks;II[J)I"⟩
abbrev cL_note : ByteArray := method_8_code
def yL_note : MethodName := ⟨RL, "note", "(LClaimedTasks;III[J)I"⟩
abbrev cL_step : ByteArray := method_9_code
def yL_step : MethodName := ⟨RL, "step", "(LClaimedTasks;I[J)I"⟩
abbrev cL_setRange : ByteArray := method_10_code
def yL_setRange : MethodName := ⟨RL, "setRange", "(LClaimedTasks;II[J)I"⟩
abbrev cL_put : ByteArray := method_11_code
def yL_put : MethodName := ⟨RL, "put", "(LClaimedTasks;III[J)I"⟩
abbrev cL_toggle : ByteArray := method_12_code
def yL_toggle : MethodName := ⟨RL, "toggle", "(LClaimedTasks;I[J)I"⟩
abbrev cL_handOver : ByteArray := method_13_code
def yL_handOver : MethodName := ⟨RL, "handOver", "(LClaimedTasks;II[J)I"⟩
abbrev cL_drop : ByteArray := method_14_code
def yL_drop : MethodName := ⟨RL, "drop", "(LClaimedTasks;I[J)I"⟩
abbrev cL_setLifetime : ByteArray := method_15_code
def yL_setLifetime : MethodName := ⟨RL, "setLifetime", "(LClaimedTasks;I[J)I"⟩
abbrev cL_undo : ByteArray := method_16_code
def yL_undo : MethodName := ⟨RL, "undo", "(LClaimedTasks;[J)I"⟩
abbrev cL_hops : ByteArray := method_17_code
def yL_hops : MethodName := ⟨RL, "hops", "(LClaimedTasks;II[J)I"⟩
abbrev cL_conflicts : ByteArray := method_18_code
def yL_conflicts : MethodName := ⟨RL, "conflicts", "(LClaimedTasks;I[J)I"⟩
abbrev cL_finishedAfter : ByteArray := method_19_code
def yL_finishedAfter : MethodName := ⟨RL, "finishedAfter", "(LClaimedTasks;I[J)I"⟩
abbrev cL_knownAfter : ByteArray := method_20_code
def yL_knownAfter : MethodName := ⟨RL, "knownAfter", "(LClaimedTasks;I[J)I"⟩
abbrev cL_wastedIf : ByteArray := method_21_code
def yL_wastedIf : MethodName := ⟨RL, "wastedIf", "(LClaimedTasks;II[J)I"⟩
abbrev cL_worstLoss : ByteArray := method_22_code
def yL_worstLoss : MethodName := ⟨RL, "worstLoss", "(LClaimedTasks;I[J)I"⟩
abbrev cL_bestShare : ByteArray := method_23_code
def yL_bestShare : MethodName := ⟨RL, "bestShare", "(LClaimedTasks;I[J)I"⟩
abbrev cL_runScript : ByteArray := method_24_code
def yL_runScript : MethodName := ⟨RL, "runScript", "(LClaimedTasks;IJ[J)I"⟩
abbrev cL_simulate : ByteArray := method_25_code
def yL_simulate : MethodName := ⟨RL, "simulate", "(LClaimedTasks;JI[J)I"⟩
abbrev cL_save : ByteArray := method_26_code
def yL_save : MethodName := ⟨RL, "save", "(LClaimedTasks;I[J)I"⟩
abbrev cL_restore : ByteArray := method_27_code
def yL_restore : MethodName := ⟨RL, "restore", "(LClaimedTasks;I[J)I"⟩
abbrev cL_law : ByteArray := code
def yL_law : MethodName := ⟨RL, "law", "([I)Z"⟩
abbrev vwCl : List vw_C := [(RX0, TX0, 1), (RX1, TX1, 3), (RX2, TX2, 4), (RX3, TX3, 3), (RX4, TX4, 1), (RX5, TX5, 2), (RX6, TX6, 15), (RX7, TX7, 9), (RX8, TX8, 15)]
end
section
theorem dX0_init_0 : decode cX0_init 0 = .ok (.aload_n 0, 1) := by decide +kernel
theorem dX0_init_1 : decode cX0_init 1 = .ok (.invokespecial 3, 3) := by decide +kernel
theorem dX0_init_4 : decode cX0_init 4 = .ok (.aload_n 0, 1) := by decide +kernel
theorem dX0_init_5 : decode cX0_init 5 = .ok (.aload_n 1, 1) := by decide +kernel
theorem dX0_init_6 : decode cX0_init 6 = .ok (.putfield 9, 3) := by decide +kernel
theorem dX0_init_9 : decode cX0_init 9 = .ok (.return_, 1) := by decide +kernel
theorem dX0_succeeds_0 : decode cX0_succeeds 0 = .ok (.iload_n 2, 1) := by decide +kernel
theorem dX0_succeeds_1 : decode cX0_succeeds 1 = .ok (.sipush 10000, 3) := by decide +kernel
theorem dX0_succeeds_4 : decode cX0_succeeds 4 = .ok (.idiv, 1) := by decide +kernel
theorem dX0_succeeds_5 : decode cX0_succeeds 5 = .ok (.istore_n 3, 1) := by decide +kernel
theorem dX0_succeeds_6 : decode cX0_succeeds 6 = .ok (.iload_n 3, 1) := by decide +kernel
theorem dX0_succeeds_7 : decode cX0_succeeds 7 = .ok (.iconst 2, 1) := by decide +kernel
theorem dX0_succeeds_8 : decode cX0_succeeds 8 = .ok (.if_icmp .lt 15, 3) := by decide +kernel
theorem dX0_succeeds_11 : decode cX0_succeeds 11 = .ok (.iload_n 3, 1) := by decide +kernel
theorem dX0_succeeds_12 : decode cX0_succeeds 12 = .ok (.iconst 5, 1) := by decide +kernel
theorem dX0_succeeds_13 : decode cX0_succeeds 13 = .ok (.if_icmp .gt 10, 3) := by decide +kernel
theorem dX0_succeeds_16 : decode cX0_succeeds 16 = .ok (.aload_n 1, 1) := by decide +kernel
theorem dX0_succeeds_17 : decode cX0_succeeds 17 = .ok (.iload_n 3, 1) := by decide +kernel
theorem dX0_succeeds_18 : decode cX0_succeeds 18 = .ok (.iload_n 2, 1) := by decide +kernel
theorem dX0_succeeds_19 : decode cX0_succeeds 19 = .ok (.invokestatic 15, 3) := by decide +kernel
theorem dX0_succeeds_22 : decode cX0_succeeds 22 = .ok (.ireturn, 1) := by decide +kernel
theorem dX0_succeeds_23 : decode cX0_succeeds 23 = .ok (.iload_n 3, 1) := by decide +kernel
theorem dX0_succeeds_24 : decode cX0_succeeds 24 = .ok (.bipush 7, 2) := by decide +kernel
theorem dX0_succeeds_26 : decode cX0_succeeds 26 = .ok (.if_icmp .ne 42, 3) := by decide +kernel
theorem dX0_succeeds_29 : decode cX0_succeeds 29 = .ok (.iload_n 2, 1) := by decide +kernel
theorem dX0_succeeds_30 : decode cX0_succeeds 30 = .ok (.sipush 1000, 3) := by decide +kernel
theorem dX0_succeeds_33 : decode cX0_succeeds 33 = .ok (.idiv, 1) := by decide +kernel
theorem dX0_succeeds_34 : decode cX0_succeeds 34 = .ok (.bipush 10, 2) := by decide +kernel
theorem dX0_succeeds_36 : decode cX0_succeeds 36 = .ok (.irem, 1) := by decide +kernel
theorem dX0_succeeds_37 : decode cX0_succeeds 37 = .ok (.istore 4, 2) := by decide +kernel
theorem dX0_succeeds_39 : decode cX0_succeeds 39 = .ok (.aload_n 1, 1) := by decide +kernel
theorem dX0_succeeds_40 : decode cX0_succeeds 40 = .ok (.iload 4, 2) := by decide +kernel
theorem dX0_succeeds_42 : decode cX0_succeeds 42 = .ok (.invokevirtual 19, 3) := by decide +kernel
theorem dX0_succeeds_45 : decode cX0_succeeds 45 = .ok (.ifCond .eq 21, 3) := by decide +kernel
theorem dX0_succeeds_48 : decode cX0_succeeds 48 = .ok (.aload_n 1, 1) := by decide +kernel
theorem dX0_succeeds_49 : decode cX0_succeeds 49 = .ok (.iload 4, 2) := by decide +kernel
theorem dX0_succeeds_51 : decode cX0_succeeds 51 = .ok (.invokevirtual 25, 3) := by decide +kernel
theorem dX0_succeeds_54 : decode cX0_succeeds 54 = .ok (.iload_n 2, 1) := by decide +kernel
theorem dX0_succeeds_55 : decode cX0_succeeds 55 = .ok (.sipush 1000, 3) := by decide +kernel
theorem dX0_succeeds_58 : decode cX0_succeeds 58 = .ok (.irem, 1) := by decide +kernel
theorem dX0_succeeds_59 : decode cX0_succeeds 59 = .ok (.if_icmp .ne 7, 3) := by decide +kernel
theorem dX0_succeeds_62 : decode cX0_succeeds 62 = .ok (.iconst 1, 1) := by decide +kernel
theorem dX0_succeeds_63 : decode cX0_succeeds 63 = .ok (.goto 4, 3) := by decide +kernel
theorem dX0_succeeds_66 : decode cX0_succeeds 66 = .ok (.iconst 0, 1) := by decide +kernel
theorem dX0_succeeds_67 : decode cX0_succeeds 67 = .ok (.ireturn, 1) := by decide +kernel
theorem dX0_succeeds_68 : decode cX0_succeeds 68 = .ok (.iload_n 2, 1) := by decide +kernel
theorem dX0_succeeds_69 : decode cX0_succeeds 69 = .ok (.sipush 10000, 3) := by decide +kernel
theorem dX0_succeeds_72 : decode cX0_succeeds 72 = .ok (.irem, 1) := by decide +kernel
theorem dX0_succeeds_73 : decode cX0_succeeds 73 = .ok (.istore 4, 2) := by decide +kernel
theorem dX0_succeeds_75 : decode cX0_succeeds 75 = .ok (.iload 4, 2) := by decide +kernel
theorem dX0_succeeds_77 : decode cX0_succeeds 77 = .ok (.bipush 99, 2) := by decide +kernel
theorem dX0_succeeds_79 : decode cX0_succeeds 79 = .ok (.if_icmp .le 5, 3) := by decide +kernel
theorem dX0_succeeds_82 : decode cX0_succeeds 82 = .ok (.iconst 0, 1) := by decide +kernel
theorem dX0_succeeds_83 : decode cX0_succeeds 83 = .ok (.ireturn, 1) := by decide +kernel
theorem dX0_succeeds_84 : decode cX0_succeeds 84 = .ok (.iload_n 3, 1) := by decide +kernel
theorem dX0_succeeds_85 : decode cX0_succeeds 85 = .ok (.tableswitch 117 1 9 #[51, 117, 117, 117, 117, 72, 117, 87, 102], 51) := by decide +kernel
theorem dX0_succeeds_136 : decode cX0_succeeds 136 = .ok (.aload_n 0, 1) := by decide +kernel
theorem dX0_succeeds_137 : decode cX0_succeeds 137 = .ok (.getfield 9, 3) := by decide +kernel
theorem dX0_succeeds_140 : decode cX0_succeeds 140 = .ok (.aload_n 1, 1) := by decide +kernel
theorem dX0_succeeds_141 : decode cX0_succeeds 141 = .ok (.iload 4, 2) := by decide +kernel
theorem dX0_succeeds_143 : decode cX0_succeeds 143 = .ok (.invokevirtual 29, 3) := by decide +kernel
theorem dX0_succeeds_146 : decode cX0_succeeds 146 = .ok (.iload 4, 2) := by decide +kernel
theorem dX0_succeeds_148 : decode cX0_succeeds 148 = .ok (.ifCond .le 7, 3) := by decide +kernel
theorem dX0_succeeds_151 : decode cX0_succeeds 151 = .ok (.iconst 1, 1) := by decide +kernel
theorem dX0_succeeds_152 : decode cX0_succeeds 152 = .ok (.goto 4, 3) := by decide +kernel
theorem dX0_succeeds_155 : decode cX0_succeeds 155 = .ok (.iconst 0, 1) := by decide +kernel
theorem dX0_succeeds_156 : decode cX0_succeeds 156 = .ok (.ireturn, 1) := by decide +kernel
theorem dX0_succeeds_157 : decode cX0_succeeds 157 = .ok (.aload_n 1, 1) := by decide +kernel
theorem dX0_succeeds_158 : decode cX0_succeeds 158 = .ok (.invokevirtual 35, 3) := by decide +kernel
theorem dX0_succeeds_161 : decode cX0_succeeds 161 = .ok (.iload 4, 2) := by decide +kernel
theorem dX0_succeeds_163 : decode cX0_succeeds 163 = .ok (.if_icmp .ne 7, 3) := by decide +kernel
theorem dX0_succeeds_166 : decode cX0_succeeds 166 = .ok (.iconst 1, 1) := by decide +kernel
theorem dX0_succeeds_167 : decode cX0_succeeds 167 = .ok (.goto 4, 3) := by decide +kernel
theorem dX0_succeeds_170 : decode cX0_succeeds 170 = .ok (.iconst 0, 1) := by decide +kernel
theorem dX0_succeeds_171 : decode cX0_succeeds 171 = .ok (.ireturn, 1) := by decide +kernel
theorem dX0_succeeds_172 : decode cX0_succeeds 172 = .ok (.aload_n 1, 1) := by decide +kernel
theorem dX0_succeeds_173 : decode cX0_succeeds 173 = .ok (.invokevirtual 39, 3) := by decide +kernel
theorem dX0_succeeds_176 : decode cX0_succeeds 176 = .ok (.iload 4, 2) := by decide +kernel
theorem dX0_succeeds_178 : decode cX0_succeeds 178 = .ok (.if_icmp .ne 7, 3) := by decide +kernel
theorem dX0_succeeds_181 : decode cX0_succeeds 181 = .ok (.iconst 1, 1) := by decide +kernel
theorem dX0_succeeds_182 : decode cX0_succeeds 182 = .ok (.goto 4, 3) := by decide +kernel
theorem dX0_succeeds_185 : decode cX0_succeeds 185 = .ok (.iconst 0, 1) := by decide +kernel
theorem dX0_succeeds_186 : decode cX0_succeeds 186 = .ok (.ireturn, 1) := by decide +kernel
theorem dX0_succeeds_187 : decode cX0_succeeds 187 = .ok (.aload_n 1, 1) := by decide +kernel
theorem dX0_succeeds_188 : decode cX0_succeeds 188 = .ok (.invokevirtual 42, 3) := by decide +kernel
theorem dX0_succeeds_191 : decode cX0_succeeds 191 = .ok (.iload 4, 2) := by decide +kernel
theorem dX0_succeeds_193 : decode cX0_succeeds 193 = .ok (.if_icmp .gt 7, 3) := by decide +kernel
theorem dX0_succeeds_196 : decode cX0_succeeds 196 = .ok (.iconst 1, 1) := by decide +kernel
theorem dX0_succeeds_197 : decode cX0_succeeds 197 = .ok (.goto 4, 3) := by decide +kernel
theorem dX0_succeeds_200 : decode cX0_succeeds 200 = .ok (.iconst 0, 1) := by decide +kernel
theorem dX0_succeeds_201 : decode cX0_succeeds 201 = .ok (.ireturn, 1) := by decide +kernel
theorem dX0_succeeds_202 : decode cX0_succeeds 202 = .ok (.iconst 0, 1) := by decide +kernel
theorem dX0_succeeds_203 : decode cX0_succeeds 203 = .ok (.ireturn, 1) := by decide +kernel
theorem dX0_changes_0 : decode cX0_changes 0 = .ok (.iload_n 2, 1) := by decide +kernel
theorem dX0_changes_1 : decode cX0_changes 1 = .ok (.sipush 1000, 3) := by decide +kernel
theorem dX0_changes_4 : decode cX0_changes 4 = .ok (.idiv, 1) := by decide +kernel
theorem dX0_changes_5 : decode cX0_changes 5 = .ok (.bipush 10, 2) := by decide +kernel
theorem dX0_changes_7 : decode cX0_changes 7 = .ok (.irem, 1) := by decide +kernel
theorem dX0_changes_8 : decode cX0_changes 8 = .ok (.istore_n 3, 1) := by decide +kernel
theorem dX0_changes_9 : decode cX0_changes 9 = .ok (.iload_n 2, 1) := by decide +kernel
theorem dX0_changes_10 : decode cX0_changes 10 = .ok (.sipush 1000, 3) := by decide +kernel
theorem dX0_changes_13 : decode cX0_changes 13 = .ok (.irem, 1) := by decide +kernel
theorem dX0_changes_14 : decode cX0_changes 14 = .ok (.istore 4, 2) := by decide +kernel
theorem dX0_changes_16 : decode cX0_changes 16 = .ok (.aload_n 0, 1) := by decide +kernel
theorem dX0_changes_17 : decode cX0_changes 17 = .ok (.iload_n 3, 1) := by decide +kernel
theorem dX0_changes_18 : decode cX0_changes 18 = .ok (.invokevirtual 19, 3) := by decide +kernel
theorem dX0_changes_21 : decode cX0_changes 21 = .ok (.ifCond .ne 5, 3) := by decide +kernel
theorem dX0_changes_24 : decode cX0_changes 24 = .ok (.iconst 0, 1) := by decide +kernel
theorem dX0_changes_25 : decode cX0_changes 25 = .ok (.ireturn, 1) := by decide +kernel
theorem dX0_changes_26 : decode cX0_changes 26 = .ok (.iload_n 1, 1) := by decide +kernel
theorem dX0_changes_27 : decode cX0_changes 27 = .ok (.tableswitch 103 2 4 #[25, 44, 58], 25) := by decide +kernel
theorem dX0_changes_52 : decode cX0_changes 52 = .ok (.iload 4, 2) := by decide +kernel
theorem dX0_changes_54 : decode cX0_changes 54 = .ok (.bipush 22, 2) := by decide +kernel
theorem dX0_changes_56 : decode cX0_changes 56 = .ok (.if_icmp .le 5, 3) := by decide +kernel
theorem dX0_changes_59 : decode cX0_changes 59 = .ok (.iconst 0, 1) := by decide +kernel
theorem dX0_changes_60 : decode cX0_changes 60 = .ok (.ireturn, 1) := by decide +kernel
theorem dX0_changes_61 : decode cX0_changes 61 = .ok (.aload_n 0, 1) := by decide +kernel
theorem dX0_changes_62 : decode cX0_changes 62 = .ok (.getfield 45, 3) := by decide +kernel
theorem dX0_changes_65 : decode cX0_changes 65 = .ok (.iload_n 3, 1) := by decide +kernel
theorem dX0_changes_66 : decode cX0_changes 66 = .ok (.iload 4, 2) := by decide +kernel
theorem dX0_changes_68 : decode cX0_changes 68 = .ok (.iastore, 1) := by decide +kernel
theorem dX0_changes_69 : decode cX0_changes 69 = .ok (.iconst 1, 1) := by decide +kernel
theorem dX0_changes_70 : decode cX0_changes 70 = .ok (.ireturn, 1) := by decide +kernel
theorem dX0_changes_71 : decode cX0_changes 71 = .ok (.iload 4, 2) := by decide +kernel
theorem dX0_changes_73 : decode cX0_changes 73 = .ok (.ifCond .eq 5, 3) := by decide +kernel
theorem dX0_changes_76 : decode cX0_changes 76 = .ok (.iconst 0, 1) := by decide +kernel
theorem dX0_changes_77 : decode cX0_changes 77 = .ok (.ireturn, 1) := by decide +kernel
theorem dX0_changes_78 : decode cX0_changes 78 = .ok (.aload_n 0, 1) := by decide +kernel
theorem dX0_changes_79 : decode cX0_changes 79 = .ok (.iload_n 3, 1) := by decide +kernel
theorem dX0_changes_80 : decode cX0_changes 80 = .ok (.invokevirtual 49, 3) := by decide +kernel
theorem dX0_changes_83 : decode cX0_changes 83 = .ok (.iconst 1, 1) := by decide +kernel
theorem dX0_changes_84 : decode cX0_changes 84 = .ok (.ireturn, 1) := by decide +kernel
theorem dX0_changes_85 : decode cX0_changes 85 = .ok (.iload 4, 2) := by decide +kernel
theorem dX0_changes_87 : decode cX0_changes 87 = .ok (.bipush 100, 2) := by decide +kernel
theorem dX0_changes_89 : decode cX0_changes 89 = .ok (.idiv, 1) := by decide +kernel
theorem dX0_changes_90 : decode cX0_changes 90 = .ok (.istore 5, 2) := by decide +kernel
theorem dX0_changes_92 : decode cX0_changes 92 = .ok (.iload 4, 2) := by decide +kernel
theorem dX0_changes_94 : decode cX0_changes 94 = .ok (.bipush 100, 2) := by decide +kernel
theorem dX0_changes_96 : decode cX0_changes 96 = .ok (.irem, 1) := by decide +kernel
theorem dX0_changes_97 : decode cX0_changes 97 = .ok (.ifCond .ne 22, 3) := by decide +kernel
theorem dX0_changes_100 : decode cX0_changes 100 = .ok (.aload_n 0, 1) := by decide +kernel
theorem dX0_changes_101 : decode cX0_changes 101 = .ok (.iload 5, 2) := by decide +kernel
theorem dX0_changes_103 : decode cX0_changes 103 = .ok (.invokevirtual 19, 3) := by decide +kernel
theorem dX0_changes_106 : decode cX0_changes 106 = .ok (.ifCond .eq 13, 3) := by decide +kernel
theorem dX0_changes_109 : decode cX0_changes 109 = .ok (.aload_n 0, 1) := by decide +kernel
theorem dX0_changes_110 : decode cX0_changes 110 = .ok (.iload_n 3, 1) := by decide +kernel
theorem dX0_changes_111 : decode cX0_changes 111 = .ok (.iload 5, 2) := by decide +kernel
theorem dX0_changes_113 : decode cX0_changes 113 = .ok (.invokevirtual 53, 3) := by decide +kernel
theorem dX0_changes_116 : decode cX0_changes 116 = .ok (.ifCond .ne 5, 3) := by decide +kernel
theorem dX0_changes_119 : decode cX0_changes 119 = .ok (.iconst 0, 1) := by decide +kernel
theorem dX0_changes_120 : decode cX0_changes 120 = .ok (.ireturn, 1) := by decide +kernel
theorem dX0_changes_121 : decode cX0_changes 121 = .ok (.aload_n 0, 1) := by decide +kernel
theorem dX0_changes_122 : decode cX0_changes 122 = .ok (.iload_n 3, 1) := by decide +kernel
theorem dX0_changes_123 : decode cX0_changes 123 = .ok (.iload 5, 2) := by decide +kernel
theorem dX0_changes_125 : decode cX0_changes 125 = .ok (.invokevirtual 57, 3) := by decide +kernel
theorem dX0_changes_128 : decode cX0_changes 128 = .ok (.iconst 1, 1) := by decide +kernel
theorem dX0_changes_129 : decode cX0_changes 129 = .ok (.ireturn, 1) := by decide +kernel
theorem dX0_changes_130 : decode cX0_changes 130 = .ok (.iload 4, 2) := by decide +kernel
theorem dX0_changes_132 : decode cX0_changes 132 = .ok (.ifCond .eq 5, 3) := by decide +kernel
theorem dX0_changes_135 : decode cX0_changes 135 = .ok (.iconst 0, 1) := by decide +kernel
theorem dX0_changes_136 : decode cX0_changes 136 = .ok (.ireturn, 1) := by decide +kernel
theorem dX0_changes_137 : decode cX0_changes 137 = .ok (.aload_n 0, 1) := by decide +kernel
theorem dX0_changes_138 : decode cX0_changes 138 = .ok (.iload_n 3, 1) := by decide +kernel
theorem dX0_changes_139 : decode cX0_changes 139 = .ok (.invokevirtual 61, 3) := by decide +kernel
theorem dX0_changes_142 : decode cX0_changes 142 = .ok (.pop, 1) := by decide +kernel
theorem dX0_changes_143 : decode cX0_changes 143 = .ok (.iconst 1, 1) := by decide +kernel
theorem dX0_changes_144 : decode cX0_changes 144 = .ok (.ireturn, 1) := by decide +kernel
theorem dX1_init_0 : decode cX1_init 0 = .ok (.aload_n 0, 1) := by decide +kernel
theorem dX1_init_1 : decode cX1_init 1 = .ok (.invokespecial 3, 3) := by decide +kernel
theorem dX1_init_4 : decode cX1_init 4 = .ok (.aload_n 0, 1) := by decide +kernel
theorem dX1_init_5 : decode cX1_init 5 = .ok (.bipush 14, 2) := by decide +kernel
theorem dX1_init_7 : decode cX1_init 7 = .ok (.anewarray 9, 3) := by decide +kernel
theorem dX1_init_10 : decode cX1_init 10 = .ok (.putfield 11, 3) := by decide +kernel
theorem dX1_init_13 : decode cX1_init 13 = .ok (.iconst 0, 1) := by decide +kernel
theorem dX1_init_14 : decode cX1_init 14 = .ok (.istore_n 1, 1) := by decide +kernel
theorem dX1_init_15 : decode cX1_init 15 = .ok (.iload_n 1, 1) := by decide +kernel
theorem dX1_init_16 : decode cX1_init 16 = .ok (.bipush 14, 2) := by decide +kernel
theorem dX1_init_18 : decode cX1_init 18 = .ok (.if_icmp .ge 22, 3) := by decide +kernel
theorem dX1_init_21 : decode cX1_init 21 = .ok (.aload_n 0, 1) := by decide +kernel
theorem dX1_init_22 : decode cX1_init 22 = .ok (.getfield 11, 3) := by decide +kernel
theorem dX1_init_25 : decode cX1_init 25 = .ok (.iload_n 1, 1) := by decide +kernel
theorem dX1_init_26 : decode cX1_init 26 = .ok (.new 9, 3) := by decide +kernel
theorem dX1_init_29 : decode cX1_init 29 = .ok (.dup, 1) := by decide +kernel
theorem dX1_init_30 : decode cX1_init 30 = .ok (.invokespecial 17, 3) := by decide +kernel
theorem dX1_init_33 : decode cX1_init 33 = .ok (.aastore, 1) := by decide +kernel
theorem dX1_init_34 : decode cX1_init 34 = .ok (.iinc 1 1, 3) := by decide +kernel
theorem dX1_init_37 : decode cX1_init 37 = .ok (.goto (-22), 3) := by decide +kernel
theorem dX1_init_40 : decode cX1_init 40 = .ok (.return_, 1) := by decide +kernel
theorem dX1_remember_0 : decode cX1_remember 0 = .ok (.aload_n 0, 1) := by decide +kernel
theorem dX1_remember_1 : decode cX1_remember 1 = .ok (.getfield 11, 3) := by decide +kernel
theorem dX1_remember_4 : decode cX1_remember 4 = .ok (.aload_n 0, 1) := by decide +kernel
theorem dX1_remember_5 : decode cX1_remember 5 = .ok (.getfield 18, 3) := by decide +kernel
theorem dX1_remember_8 : decode cX1_remember 8 = .ok (.aaload, 1) := by decide +kernel
theorem dX1_remember_9 : decode cX1_remember 9 = .ok (.aload_n 1, 1) := by decide +kernel
theorem dX1_remember_10 : decode cX1_remember 10 = .ok (.invokevirtual 22, 3) := by decide +kernel
theorem dX1_remember_13 : decode cX1_remember 13 = .ok (.aload_n 0, 1) := by decide +kernel
theorem dX1_remember_14 : decode cX1_remember 14 = .ok (.aload_n 0, 1) := by decide +kernel
theorem dX1_remember_15 : decode cX1_remember 15 = .ok (.getfield 18, 3) := by decide +kernel
theorem dX1_remember_18 : decode cX1_remember 18 = .ok (.iconst 1, 1) := by decide +kernel
theorem dX1_remember_19 : decode cX1_remember 19 = .ok (.iadd, 1) := by decide +kernel
theorem dX1_remember_20 : decode cX1_remember 20 = .ok (.bipush 14, 2) := by decide +kernel
theorem dX1_remember_22 : decode cX1_remember 22 = .ok (.irem, 1) := by decide +kernel
theorem dX1_remember_23 : decode cX1_remember 23 = .ok (.putfield 18, 3) := by decide +kernel
theorem dX1_remember_26 : decode cX1_remember 26 = .ok (.aload_n 0, 1) := by decide +kernel
theorem dX1_remember_27 : decode cX1_remember 27 = .ok (.aload_n 0, 1) := by decide +kernel
theorem dX1_remember_28 : decode cX1_remember 28 = .ok (.getfield 26, 3) := by decide +kernel
theorem dX1_remember_31 : decode cX1_remember 31 = .ok (.iconst 1, 1) := by decide +kernel
theorem dX1_remember_32 : decode cX1_remember 32 = .ok (.iadd, 1) := by decide +kernel
theorem dX1_remember_33 : decode cX1_remember 33 = .ok (.bipush 14, 2) := by decide +kernel
theorem dX1_remember_35 : decode cX1_remember 35 = .ok (.invokestatic 29, 3) := by decide +kernel
theorem dX1_remember_38 : decode cX1_remember 38 = .ok (.putfield 26, 3) := by decide +kernel
theorem dX1_remember_41 : decode cX1_remember 41 = .ok (.return_, 1) := by decide +kernel
theorem dX1_takeBack_0 : decode cX1_takeBack 0 = .ok (.aload_n 0, 1) := by decide +kernel
theorem dX1_takeBack_1 : decode cX1_takeBack 1 = .ok (.getfield 26, 3) := by decide +kernel
theorem dX1_takeBack_4 : decode cX1_takeBack 4 = .ok (.ifCond .gt 4, 3) := by decide +kernel
theorem dX1_takeBack_7 : decode cX1_takeBack 7 = .ok (.return_, 1) := by decide +kernel
theorem dX1_takeBack_8 : decode cX1_takeBack 8 = .ok (.aload_n 0, 1) := by decide +kernel
theorem dX1_takeBack_9 : decode cX1_takeBack 9 = .ok (.aload_n 0, 1) := by decide +kernel
theorem dX1_takeBack_10 : decode cX1_takeBack 10 = .ok (.getfield 18, 3) := by decide +kernel
theorem dX1_takeBack_13 : decode cX1_takeBack 13 = .ok (.bipush 14, 2) := by decide +kernel
theorem dX1_takeBack_15 : decode cX1_takeBack 15 = .ok (.iadd, 1) := by decide +kernel
theorem dX1_takeBack_16 : decode cX1_takeBack 16 = .ok (.iconst 1, 1) := by decide +kernel
theorem dX1_takeBack_17 : decode cX1_takeBack 17 = .ok (.isub, 1) := by decide +kernel
theorem dX1_takeBack_18 : decode cX1_takeBack 18 = .ok (.bipush 14, 2) := by decide +kernel
theorem dX1_takeBack_20 : decode cX1_takeBack 20 = .ok (.irem, 1) := by decide +kernel
theorem dX1_takeBack_21 : decode cX1_takeBack 21 = .ok (.putfield 18, 3) := by decide +kernel
theorem dX1_takeBack_24 : decode cX1_takeBack 24 = .ok (.aload_n 0, 1) := by decide +kernel
theorem dX1_takeBack_25 : decode cX1_takeBack 25 = .ok (.dup, 1) := by decide +kernel
theorem dX1_takeBack_26 : decode cX1_takeBack 26 = .ok (.getfield 26, 3) := by decide +kernel
theorem dX1_takeBack_29 : decode cX1_takeBack 29 = .ok (.iconst 1, 1) := by decide +kernel
theorem dX1_takeBack_30 : decode cX1_takeBack 30 = .ok (.isub, 1) := by decide +kernel
theorem dX1_takeBack_31 : decode cX1_takeBack 31 = .ok (.putfield 26, 3) := by decide +kernel
theorem dX1_takeBack_34 : decode cX1_takeBack 34 = .ok (.aload_n 1, 1) := by decide +kernel
theorem dX1_takeBack_35 : decode cX1_takeBack 35 = .ok (.aload_n 0, 1) := by decide +kernel
theorem dX1_takeBack_36 : decode cX1_takeBack 36 = .ok (.getfield 11, 3) := by decide +kernel
theorem dX1_takeBack_39 : decode cX1_takeBack 39 = .ok (.aload_n 0, 1) := by decide +kernel
theorem dX1_takeBack_40 : decode cX1_takeBack 40 = .ok (.getfield 18, 3) := by decide +kernel
theorem dX1_takeBack_43 : decode cX1_takeBack 43 = .ok (.aaload, 1) := by decide +kernel
theorem dX1_takeBack_44 : decode cX1_takeBack 44 = .ok (.invokevirtual 22, 3) := by decide +kernel
theorem dX1_takeBack_47 : decode cX1_takeBack 47 = .ok (.return_, 1) := by decide +kernel
theorem dX1_forget_0 : decode cX1_forget 0 = .ok (.aload_n 0, 1) := by decide +kernel
theorem dX1_forget_1 : decode cX1_forget 1 = .ok (.iconst 0, 1) := by decide +kernel
theorem dX1_forget_2 : decode cX1_forget 2 = .ok (.putfield 26, 3) := by decide +kernel
theorem dX1_forget_5 : decode cX1_forget 5 = .ok (.return_, 1) := by decide +kernel
theorem dX2_init_0 : decode cX2_init 0 = .ok (.aload_n 0, 1) := by decide +kernel
theorem dX2_init_1 : decode cX2_init 1 = .ok (.invokespecial 3, 3) := by decide +kernel
theorem dX2_init_4 : decode cX2_init 4 = .ok (.aload_n 0, 1) := by decide +kernel
theorem dX2_init_5 : decode cX2_init 5 = .ok (.bipush 48, 2) := by decide +kernel
theorem dX2_init_7 : decode cX2_init 7 = .ok (.newarray .int, 2) := by decide +kernel
theorem dX2_init_9 : decode cX2_init 9 = .ok (.putfield 9, 3) := by decide +kernel
theorem dX2_init_12 : decode cX2_init 12 = .ok (.aload_n 0, 1) := by decide +kernel
theorem dX2_init_13 : decode cX2_init 13 = .ok (.bipush 48, 2) := by decide +kernel
theorem dX2_init_15 : decode cX2_init 15 = .ok (.newarray .int, 2) := by decide +kernel
theorem dX2_init_17 : decode cX2_init 17 = .ok (.putfield 15, 3) := by decide +kernel
theorem dX2_init_20 : decode cX2_init 20 = .ok (.aload_n 0, 1) := by decide +kernel
theorem dX2_init_21 : decode cX2_init 21 = .ok (.bipush 48, 2) := by decide +kernel
theorem dX2_init_23 : decode cX2_init 23 = .ok (.newarray .int, 2) := by decide +kernel
theorem dX2_init_25 : decode cX2_init 25 = .ok (.putfield 18, 3) := by decide +kernel
theorem dX2_init_28 : decode cX2_init 28 = .ok (.aload_n 0, 1) := by decide +kernel
theorem dX2_init_29 : decode cX2_init 29 = .ok (.bipush 48, 2) := by decide +kernel
theorem dX2_init_31 : decode cX2_init 31 = .ok (.newarray .int, 2) := by decide +kernel
theorem dX2_init_33 : decode cX2_init 33 = .ok (.putfield 21, 3) := by decide +kernel
theorem dX2_init_36 : decode cX2_init 36 = .ok (.return_, 1) := by decide +kernel
theorem dX2_makeAllEmpty_0 : decode cX2_makeAllEmpty 0 = .ok (.iconst 0, 1) := by decide +kernel
theorem dX2_makeAllEmpty_1 : decode cX2_makeAllEmpty 1 = .ok (.istore_n 1, 1) := by decide +kernel
theorem dX2_makeAllEmpty_2 : decode cX2_makeAllEmpty 2 = .ok (.iload_n 1, 1) := by decide +kernel
theorem dX2_makeAllEmpty_3 : decode cX2_makeAllEmpty 3 = .ok (.aload_n 0, 1) := by decide +kernel
theorem dX2_makeAllEmpty_4 : decode cX2_makeAllEmpty 4 = .ok (.getfield 9, 3) := by decide +kernel
theorem dX2_makeAllEmpty_7 : decode cX2_makeAllEmpty 7 = .ok (.arraylength, 1) := by decide +kernel
theorem dX2_makeAllEmpty_8 : decode cX2_makeAllEmpty 8 = .ok (.if_icmp .ge 16, 3) := by decide +kernel
theorem dX2_makeAllEmpty_11 : decode cX2_makeAllEmpty 11 = .ok (.aload_n 0, 1) := by decide +kernel
theorem dX2_makeAllEmpty_12 : decode cX2_makeAllEmpty 12 = .ok (.getfield 9, 3) := by decide +kernel
theorem dX2_makeAllEmpty_15 : decode cX2_makeAllEmpty 15 = .ok (.iload_n 1, 1) := by decide +kernel
theorem dX2_makeAllEmpty_16 : decode cX2_makeAllEmpty 16 = .ok (.iconst 0, 1) := by decide +kernel
theorem dX2_makeAllEmpty_17 : decode cX2_makeAllEmpty 17 = .ok (.iastore, 1) := by decide +kernel
theorem dX2_makeAllEmpty_18 : decode cX2_makeAllEmpty 18 = .ok (.iinc 1 1, 3) := by decide +kernel
theorem dX2_makeAllEmpty_21 : decode cX2_makeAllEmpty 21 = .ok (.goto (-19), 3) := by decide +kernel
theorem dX2_makeAllEmpty_24 : decode cX2_makeAllEmpty 24 = .ok (.return_, 1) := by decide +kernel
theorem dX2_copyFrom_0 : decode cX2_copyFrom 0 = .ok (.aload_n 1, 1) := by decide +kernel
theorem dX2_copyFrom_1 : decode cX2_copyFrom 1 = .ok (.getfield 9, 3) := by decide +kernel
theorem dX2_copyFrom_4 : decode cX2_copyFrom 4 = .ok (.iconst 0, 1) := by decide +kernel
theorem dX2_copyFrom_5 : decode cX2_copyFrom 5 = .ok (.aload_n 0, 1) := by decide +kernel
theorem dX2_copyFrom_6 : decode cX2_copyFrom 6 = .ok (.getfield 9, 3) := by decide +kernel
theorem dX2_copyFrom_9 : decode cX2_copyFrom 9 = .ok (.iconst 0, 1) := by decide +kernel
theorem dX2_copyFrom_10 : decode cX2_copyFrom 10 = .ok (.aload_n 0, 1) := by decide +kernel
theorem dX2_copyFrom_11 : decode cX2_copyFrom 11 = .ok (.getfield 9, 3) := by decide +kernel
theorem dX2_copyFrom_14 : decode cX2_copyFrom 14 = .ok (.arraylength, 1) := by decide +kernel
theorem dX2_copyFrom_15 : decode cX2_copyFrom 15 = .ok (.invokestatic 24, 3) := by decide +kernel
theorem dX2_copyFrom_18 : decode cX2_copyFrom 18 = .ok (.aload_n 1, 1) := by decide +kernel
theorem dX2_copyFrom_19 : decode cX2_copyFrom 19 = .ok (.getfield 15, 3) := by decide +kernel
theorem dX2_copyFrom_22 : decode cX2_copyFrom 22 = .ok (.iconst 0, 1) := by decide +kernel
theorem dX2_copyFrom_23 : decode cX2_copyFrom 23 = .ok (.aload_n 0, 1) := by decide +kernel
theorem dX2_copyFrom_24 : decode cX2_copyFrom 24 = .ok (.getfield 15, 3) := by decide +kernel
theorem dX2_copyFrom_27 : decode cX2_copyFrom 27 = .ok (.iconst 0, 1) := by decide +kernel
theorem dX2_copyFrom_28 : decode cX2_copyFrom 28 = .ok (.aload_n 0, 1) := by decide +kernel
theorem dX2_copyFrom_29 : decode cX2_copyFrom 29 = .ok (.getfield 15, 3) := by decide +kernel
theorem dX2_copyFrom_32 : decode cX2_copyFrom 32 = .ok (.arraylength, 1) := by decide +kernel
theorem dX2_copyFrom_33 : decode cX2_copyFrom 33 = .ok (.invokestatic 24, 3) := by decide +kernel
theorem dX2_copyFrom_36 : decode cX2_copyFrom 36 = .ok (.aload_n 1, 1) := by decide +kernel
theorem dX2_copyFrom_37 : decode cX2_copyFrom 37 = .ok (.getfield 18, 3) := by decide +kernel
theorem dX2_copyFrom_40 : decode cX2_copyFrom 40 = .ok (.iconst 0, 1) := by decide +kernel
theorem dX2_copyFrom_41 : decode cX2_copyFrom 41 = .ok (.aload_n 0, 1) := by decide +kernel
theorem dX2_copyFrom_42 : decode cX2_copyFrom 42 = .ok (.getfield 18, 3) := by decide +kernel
theorem dX2_copyFrom_45 : decode cX2_copyFrom 45 = .ok (.iconst 0, 1) := by decide +kernel
theorem dX2_copyFrom_46 : decode cX2_copyFrom 46 = .ok (.aload_n 0, 1) := by decide +kernel
theorem dX2_copyFrom_47 : decode cX2_copyFrom 47 = .ok (.getfield 18, 3) := by decide +kernel
theorem dX2_copyFrom_50 : decode cX2_copyFrom 50 = .ok (.arraylength, 1) := by decide +kernel
theorem dX2_copyFrom_51 : decode cX2_copyFrom 51 = .ok (.invokestatic 24, 3) := by decide +kernel
theorem dX2_copyFrom_54 : decode cX2_copyFrom 54 = .ok (.aload_n 1, 1) := by decide +kernel
theorem dX2_copyFrom_55 : decode cX2_copyFrom 55 = .ok (.getfield 21, 3) := by decide +kernel
theorem dX2_copyFrom_58 : decode cX2_copyFrom 58 = .ok (.iconst 0, 1) := by decide +kernel
theorem dX2_copyFrom_59 : decode cX2_copyFrom 59 = .ok (.aload_n 0, 1) := by decide +kernel
theorem dX2_copyFrom_60 : decode cX2_copyFrom 60 = .ok (.getfield 21, 3) := by decide +kernel
theorem dX2_copyFrom_63 : decode cX2_copyFrom 63 = .ok (.iconst 0, 1) := by decide +kernel
theorem dX2_copyFrom_64 : decode cX2_copyFrom 64 = .ok (.aload_n 0, 1) := by decide +kernel
theorem dX2_copyFrom_65 : decode cX2_copyFrom 65 = .ok (.getfield 21, 3) := by decide +kernel
theorem dX2_copyFrom_68 : decode cX2_copyFrom 68 = .ok (.arraylength, 1) := by decide +kernel
theorem dX2_copyFrom_69 : decode cX2_copyFrom 69 = .ok (.invokestatic 24, 3) := by decide +kernel
theorem dX2_copyFrom_72 : decode cX2_copyFrom 72 = .ok (.return_, 1) := by decide +kernel
theorem dX2_copyOne_0 : decode cX2_copyOne 0 = .ok (.aload_n 0, 1) := by decide +kernel
theorem dX2_copyOne_1 : decode cX2_copyOne 1 = .ok (.getfield 9, 3) := by decide +kernel
theorem dX2_copyOne_4 : decode cX2_copyOne 4 = .ok (.iload_n 1, 1) := by decide +kernel
theorem dX2_copyOne_5 : decode cX2_copyOne 5 = .ok (.aload_n 2, 1) := by decide +kernel
theorem dX2_copyOne_6 : decode cX2_copyOne 6 = .ok (.getfield 9, 3) := by decide +kernel
theorem dX2_copyOne_9 : decode cX2_copyOne 9 = .ok (.iload_n 3, 1) := by decide +kernel
theorem dX2_copyOne_10 : decode cX2_copyOne 10 = .ok (.iaload, 1) := by decide +kernel
theorem dX2_copyOne_11 : decode cX2_copyOne 11 = .ok (.iastore, 1) := by decide +kernel
theorem dX2_copyOne_12 : decode cX2_copyOne 12 = .ok (.aload_n 0, 1) := by decide +kernel
theorem dX2_copyOne_13 : decode cX2_copyOne 13 = .ok (.getfield 15, 3) := by decide +kernel
theorem dX2_copyOne_16 : decode cX2_copyOne 16 = .ok (.iload_n 1, 1) := by decide +kernel
theorem dX2_copyOne_17 : decode cX2_copyOne 17 = .ok (.aload_n 2, 1) := by decide +kernel
theorem dX2_copyOne_18 : decode cX2_copyOne 18 = .ok (.getfield 15, 3) := by decide +kernel
theorem dX2_copyOne_21 : decode cX2_copyOne 21 = .ok (.iload_n 3, 1) := by decide +kernel
theorem dX2_copyOne_22 : decode cX2_copyOne 22 = .ok (.iaload, 1) := by decide +kernel
theorem dX2_copyOne_23 : decode cX2_copyOne 23 = .ok (.iastore, 1) := by decide +kernel
theorem dX2_copyOne_24 : decode cX2_copyOne 24 = .ok (.aload_n 0, 1) := by decide +kernel
theorem dX2_copyOne_25 : decode cX2_copyOne 25 = .ok (.getfield 18, 3) := by decide +kernel
theorem dX2_copyOne_28 : decode cX2_copyOne 28 = .ok (.iload_n 1, 1) := by decide +kernel
theorem dX2_copyOne_29 : decode cX2_copyOne 29 = .ok (.aload_n 2, 1) := by decide +kernel
theorem dX2_copyOne_30 : decode cX2_copyOne 30 = .ok (.getfield 18, 3) := by decide +kernel
theorem dX2_copyOne_33 : decode cX2_copyOne 33 = .ok (.iload_n 3, 1) := by decide +kernel
theorem dX2_copyOne_34 : decode cX2_copyOne 34 = .ok (.iaload, 1) := by decide +kernel
theorem dX2_copyOne_35 : decode cX2_copyOne 35 = .ok (.iastore, 1) := by decide +kernel
theorem dX2_copyOne_36 : decode cX2_copyOne 36 = .ok (.aload_n 0, 1) := by decide +kernel
theorem dX2_copyOne_37 : decode cX2_copyOne 37 = .ok (.getfield 21, 3) := by decide +kernel
theorem dX2_copyOne_40 : decode cX2_copyOne 40 = .ok (.iload_n 1, 1) := by decide +kernel
theorem dX2_copyOne_41 : decode cX2_copyOne 41 = .ok (.aload_n 2, 1) := by decide +kernel
theorem dX2_copyOne_42 : decode cX2_copyOne 42 = .ok (.getfield 21, 3) := by decide +kernel
theorem dX2_copyOne_45 : decode cX2_copyOne 45 = .ok (.iload_n 3, 1) := by decide +kernel
theorem dX2_copyOne_46 : decode cX2_copyOne 46 = .ok (.iaload, 1) := by decide +kernel
theorem dX2_copyOne_47 : decode cX2_copyOne 47 = .ok (.iastore, 1) := by decide +kernel
theorem dX2_copyOne_48 : decode cX2_copyOne 48 = .ok (.return_, 1) := by decide +kernel
theorem dX2_makeClaim_0 : decode cX2_makeClaim 0 = .ok (.aload_n 0, 1) := by decide +kernel
theorem dX2_makeClaim_1 : decode cX2_makeClaim 1 = .ok (.getfield 9, 3) := by decide +kernel
theorem dX2_makeClaim_4 : decode cX2_makeClaim 4 = .ok (.iload_n 1, 1) := by decide +kernel
theorem dX2_makeClaim_5 : decode cX2_makeClaim 5 = .ok (.iconst 1, 1) := by decide +kernel
theorem dX2_makeClaim_6 : decode cX2_makeClaim 6 = .ok (.iastore, 1) := by decide +kernel
theorem dX2_makeClaim_7 : decode cX2_makeClaim 7 = .ok (.aload_n 0, 1) := by decide +kernel
theorem dX2_makeClaim_8 : decode cX2_makeClaim 8 = .ok (.getfield 15, 3) := by decide +kernel
theorem dX2_makeClaim_11 : decode cX2_makeClaim 11 = .ok (.iload_n 1, 1) := by decide +kernel
theorem dX2_makeClaim_12 : decode cX2_makeClaim 12 = .ok (.iload_n 2, 1) := by decide +kernel
theorem dX2_makeClaim_13 : decode cX2_makeClaim 13 = .ok (.iastore, 1) := by decide +kernel
theorem dX2_makeClaim_14 : decode cX2_makeClaim 14 = .ok (.aload_n 0, 1) := by decide +kernel
theorem dX2_makeClaim_15 : decode cX2_makeClaim 15 = .ok (.getfield 18, 3) := by decide +kernel
theorem dX2_makeClaim_18 : decode cX2_makeClaim 18 = .ok (.iload_n 1, 1) := by decide +kernel
theorem dX2_makeClaim_19 : decode cX2_makeClaim 19 = .ok (.iload_n 3, 1) := by decide +kernel
theorem dX2_makeClaim_20 : decode cX2_makeClaim 20 = .ok (.iastore, 1) := by decide +kernel
theorem dX2_makeClaim_21 : decode cX2_makeClaim 21 = .ok (.aload_n 0, 1) := by decide +kernel
theorem dX2_makeClaim_22 : decode cX2_makeClaim 22 = .ok (.getfield 21, 3) := by decide +kernel
theorem dX2_makeClaim_25 : decode cX2_makeClaim 25 = .ok (.iload_n 1, 1) := by decide +kernel
theorem dX2_makeClaim_26 : decode cX2_makeClaim 26 = .ok (.iload 4, 2) := by decide +kernel
theorem dX2_makeClaim_28 : decode cX2_makeClaim 28 = .ok (.iastore, 1) := by decide +kernel
theorem dX2_makeClaim_29 : decode cX2_makeClaim 29 = .ok (.return_, 1) := by decide +kernel
theorem dX2_isClaimOf_0 : decode cX2_isClaimOf 0 = .ok (.aload_n 0, 1) := by decide +kernel
theorem dX2_isClaimOf_1 : decode cX2_isClaimOf 1 = .ok (.getfield 9, 3) := by decide +kernel
theorem dX2_isClaimOf_4 : decode cX2_isClaimOf 4 = .ok (.iload_n 1, 1) := by decide +kernel
theorem dX2_isClaimOf_5 : decode cX2_isClaimOf 5 = .ok (.iaload, 1) := by decide +kernel
theorem dX2_isClaimOf_6 : decode cX2_isClaimOf 6 = .ok (.iconst 1, 1) := by decide +kernel
theorem dX2_isClaimOf_7 : decode cX2_isClaimOf 7 = .ok (.if_icmp .ne 17, 3) := by decide +kernel
theorem dX2_isClaimOf_10 : decode cX2_isClaimOf 10 = .ok (.aload_n 0, 1) := by decide +kernel
theorem dX2_isClaimOf_11 : decode cX2_isClaimOf 11 = .ok (.getfield 15, 3) := by decide +kernel
theorem dX2_isClaimOf_14 : decode cX2_isClaimOf 14 = .ok (.iload_n 1, 1) := by decide +kernel
theorem dX2_isClaimOf_15 : decode cX2_isClaimOf 15 = .ok (.iaload, 1) := by decide +kernel
theorem dX2_isClaimOf_16 : decode cX2_isClaimOf 16 = .ok (.iload_n 2, 1) := by decide +kernel
theorem dX2_isClaimOf_17 : decode cX2_isClaimOf 17 = .ok (.if_icmp .ne 7, 3) := by decide +kernel
theorem dX2_isClaimOf_20 : decode cX2_isClaimOf 20 = .ok (.iconst 1, 1) := by decide +kernel
theorem dX2_isClaimOf_21 : decode cX2_isClaimOf 21 = .ok (.goto 4, 3) := by decide +kernel
theorem dX2_isClaimOf_24 : decode cX2_isClaimOf 24 = .ok (.iconst 0, 1) := by decide +kernel
theorem dX2_isClaimOf_25 : decode cX2_isClaimOf 25 = .ok (.ireturn, 1) := by decide +kernel
theorem dX2_isExpiredClaim_0 : decode cX2_isExpiredClaim 0 = .ok (.aload_n 0, 1) := by decide +kernel
theorem dX2_isExpiredClaim_1 : decode cX2_isExpiredClaim 1 = .ok (.getfield 9, 3) := by decide +kernel
theorem dX2_isExpiredClaim_4 : decode cX2_isExpiredClaim 4 = .ok (.iload_n 1, 1) := by decide +kernel
theorem dX2_isExpiredClaim_5 : decode cX2_isExpiredClaim 5 = .ok (.iaload, 1) := by decide +kernel
theorem dX2_isExpiredClaim_6 : decode cX2_isExpiredClaim 6 = .ok (.iconst 1, 1) := by decide +kernel
theorem dX2_isExpiredClaim_7 : decode cX2_isExpiredClaim 7 = .ok (.if_icmp .ne 17, 3) := by decide +kernel
theorem dX2_isExpiredClaim_10 : decode cX2_isExpiredClaim 10 = .ok (.aload_n 0, 1) := by decide +kernel
theorem dX2_isExpiredClaim_11 : decode cX2_isExpiredClaim 11 = .ok (.getfield 21, 3) := by decide +kernel
theorem dX2_isExpiredClaim_14 : decode cX2_isExpiredClaim 14 = .ok (.iload_n 1, 1) := by decide +kernel
theorem dX2_isExpiredClaim_15 : decode cX2_isExpiredClaim 15 = .ok (.iaload, 1) := by decide +kernel
theorem dX2_isExpiredClaim_16 : decode cX2_isExpiredClaim 16 = .ok (.iload_n 2, 1) := by decide +kernel
theorem dX2_isExpiredClaim_17 : decode cX2_isExpiredClaim 17 = .ok (.if_icmp .gt 7, 3) := by decide +kernel
theorem dX2_isExpiredClaim_20 : decode cX2_isExpiredClaim 20 = .ok (.iconst 1, 1) := by decide +kernel
theorem dX2_isExpiredClaim_21 : decode cX2_isExpiredClaim 21 = .ok (.goto 4, 3) := by decide +kernel
theorem dX2_isExpiredClaim_24 : decode cX2_isExpiredClaim 24 = .ok (.iconst 0, 1) := by decide +kernel
theorem dX2_isExpiredClaim_25 : decode cX2_isExpiredClaim 25 = .ok (.ireturn, 1) := by decide +kernel
theorem dX2_isLiveClaim_0 : decode cX2_isLiveClaim 0 = .ok (.aload_n 0, 1) := by decide +kernel
theorem dX2_isLiveClaim_1 : decode cX2_isLiveClaim 1 = .ok (.getfield 9, 3) := by decide +kernel
theorem dX2_isLiveClaim_4 : decode cX2_isLiveClaim 4 = .ok (.iload_n 1, 1) := by decide +kernel
theorem dX2_isLiveClaim_5 : decode cX2_isLiveClaim 5 = .ok (.iaload, 1) := by decide +kernel
theorem dX2_isLiveClaim_6 : decode cX2_isLiveClaim 6 = .ok (.iconst 1, 1) := by decide +kernel
theorem dX2_isLiveClaim_7 : decode cX2_isLiveClaim 7 = .ok (.if_icmp .ne 17, 3) := by decide +kernel
theorem dX2_isLiveClaim_10 : decode cX2_isLiveClaim 10 = .ok (.aload_n 0, 1) := by decide +kernel
theorem dX2_isLiveClaim_11 : decode cX2_isLiveClaim 11 = .ok (.getfield 21, 3) := by decide +kernel
theorem dX2_isLiveClaim_14 : decode cX2_isLiveClaim 14 = .ok (.iload_n 1, 1) := by decide +kernel
theorem dX2_isLiveClaim_15 : decode cX2_isLiveClaim 15 = .ok (.iaload, 1) := by decide +kernel
theorem dX2_isLiveClaim_16 : decode cX2_isLiveClaim 16 = .ok (.iload_n 2, 1) := by decide +kernel
theorem dX2_isLiveClaim_17 : decode cX2_isLiveClaim 17 = .ok (.if_icmp .le 7, 3) := by decide +kernel
theorem dX2_isLiveClaim_20 : decode cX2_isLiveClaim 20 = .ok (.iconst 1, 1) := by decide +kernel
theorem dX2_isLiveClaim_21 : decode cX2_isLiveClaim 21 = .ok (.goto 4, 3) := by decide +kernel
theorem dX2_isLiveClaim_24 : decode cX2_isLiveClaim 24 = .ok (.iconst 0, 1) := by decide +kernel
theorem dX2_isLiveClaim_25 : decode cX2_isLiveClaim 25 = .ok (.ireturn, 1) := by decide +kernel
theorem dX2_isBetter_0 : decode cX2_isBetter 0 = .ok (.aload_n 0, 1) := by decide +kernel
theorem dX2_isBetter_1 : decode cX2_isBetter 1 = .ok (.iload_n 1, 1) := by decide +kernel
theorem dX2_isBetter_2 : decode cX2_isBetter 2 = .ok (.iload_n 3, 1) := by decide +kernel
theorem dX2_isBetter_3 : decode cX2_isBetter 3 = .ok (.invokevirtual 30, 3) := by decide +kernel
theorem dX2_isBetter_6 : decode cX2_isBetter 6 = .ok (.ifCond .eq 7, 3) := by decide +kernel
theorem dX2_isBetter_9 : decode cX2_isBetter 9 = .ok (.iconst 0, 1) := by decide +kernel
theorem dX2_isBetter_10 : decode cX2_isBetter 10 = .ok (.goto 9, 3) := by decide +kernel
theorem dX2_isBetter_13 : decode cX2_isBetter 13 = .ok (.aload_n 0, 1) := by decide +kernel
theorem dX2_isBetter_14 : decode cX2_isBetter 14 = .ok (.getfield 9, 3) := by decide +kernel
theorem dX2_isBetter_17 : decode cX2_isBetter 17 = .ok (.iload_n 1, 1) := by decide +kernel
theorem dX2_isBetter_18 : decode cX2_isBetter 18 = .ok (.iaload, 1) := by decide +kernel
theorem dX2_isBetter_19 : decode cX2_isBetter 19 = .ok (.istore 4, 2) := by decide +kernel
theorem dX2_isBetter_21 : decode cX2_isBetter 21 = .ok (.aload_n 0, 1) := by decide +kernel
theorem dX2_isBetter_22 : decode cX2_isBetter 22 = .ok (.iload_n 2, 1) := by decide +kernel
theorem dX2_isBetter_23 : decode cX2_isBetter 23 = .ok (.iload_n 3, 1) := by decide +kernel
theorem dX2_isBetter_24 : decode cX2_isBetter 24 = .ok (.invokevirtual 30, 3) := by decide +kernel
theorem dX2_isBetter_27 : decode cX2_isBetter 27 = .ok (.ifCond .eq 7, 3) := by decide +kernel
theorem dX2_isBetter_30 : decode cX2_isBetter 30 = .ok (.iconst 0, 1) := by decide +kernel
theorem dX2_isBetter_31 : decode cX2_isBetter 31 = .ok (.goto 9, 3) := by decide +kernel
theorem dX2_isBetter_34 : decode cX2_isBetter 34 = .ok (.aload_n 0, 1) := by decide +kernel
theorem dX2_isBetter_35 : decode cX2_isBetter 35 = .ok (.getfield 9, 3) := by decide +kernel
theorem dX2_isBetter_38 : decode cX2_isBetter 38 = .ok (.iload_n 2, 1) := by decide +kernel
theorem dX2_isBetter_39 : decode cX2_isBetter 39 = .ok (.iaload, 1) := by decide +kernel
theorem dX2_isBetter_40 : decode cX2_isBetter 40 = .ok (.istore 5, 2) := by decide +kernel
theorem dX2_isBetter_42 : decode cX2_isBetter 42 = .ok (.iload 4, 2) := by decide +kernel
theorem dX2_isBetter_44 : decode cX2_isBetter 44 = .ok (.iload 5, 2) := by decide +kernel
theorem dX2_isBetter_46 : decode cX2_isBetter 46 = .ok (.if_icmp .eq 16, 3) := by decide +kernel
theorem dX2_isBetter_49 : decode cX2_isBetter 49 = .ok (.iload 4, 2) := by decide +kernel
theorem dX2_isBetter_51 : decode cX2_isBetter 51 = .ok (.iload 5, 2) := by decide +kernel
theorem dX2_isBetter_53 : decode cX2_isBetter 53 = .ok (.if_icmp .le 7, 3) := by decide +kernel
theorem dX2_isBetter_56 : decode cX2_isBetter 56 = .ok (.iconst 1, 1) := by decide +kernel
theorem dX2_isBetter_57 : decode cX2_isBetter 57 = .ok (.goto 4, 3) := by decide +kernel
theorem dX2_isBetter_60 : decode cX2_isBetter 60 = .ok (.iconst 0, 1) := by decide +kernel
theorem dX2_isBetter_61 : decode cX2_isBetter 61 = .ok (.ireturn, 1) := by decide +kernel
theorem dX2_isBetter_62 : decode cX2_isBetter 62 = .ok (.iload 4, 2) := by decide +kernel
theorem dX2_isBetter_64 : decode cX2_isBetter 64 = .ok (.iconst 1, 1) := by decide +kernel
theorem dX2_isBetter_65 : decode cX2_isBetter 65 = .ok (.if_icmp .eq 5, 3) := by decide +kernel
theorem dX2_isBetter_68 : decode cX2_isBetter 68 = .ok (.iconst 0, 1) := by decide +kernel
theorem dX2_isBetter_69 : decode cX2_isBetter 69 = .ok (.ireturn, 1) := by decide +kernel
theorem dX2_isBetter_70 : decode cX2_isBetter 70 = .ok (.aload_n 0, 1) := by decide +kernel
theorem dX2_isBetter_71 : decode cX2_isBetter 71 = .ok (.getfield 18, 3) := by decide +kernel
theorem dX2_isBetter_74 : decode cX2_isBetter 74 = .ok (.iload_n 1, 1) := by decide +kernel
theorem dX2_isBetter_75 : decode cX2_isBetter 75 = .ok (.iaload, 1) := by decide +kernel
theorem dX2_isBetter_76 : decode cX2_isBetter 76 = .ok (.aload_n 0, 1) := by decide +kernel
theorem dX2_isBetter_77 : decode cX2_isBetter 77 = .ok (.getfield 18, 3) := by decide +kernel
theorem dX2_isBetter_80 : decode cX2_isBetter 80 = .ok (.iload_n 2, 1) := by decide +kernel
theorem dX2_isBetter_81 : decode cX2_isBetter 81 = .ok (.iaload, 1) := by decide +kernel
theorem dX2_isBetter_82 : decode cX2_isBetter 82 = .ok (.if_icmp .eq 24, 3) := by decide +kernel
theorem dX2_isBetter_85 : decode cX2_isBetter 85 = .ok (.aload_n 0, 1) := by decide +kernel
theorem dX2_isBetter_86 : decode cX2_isBetter 86 = .ok (.getfield 18, 3) := by decide +kernel
theorem dX2_isBetter_89 : decode cX2_isBetter 89 = .ok (.iload_n 1, 1) := by decide +kernel
theorem dX2_isBetter_90 : decode cX2_isBetter 90 = .ok (.iaload, 1) := by decide +kernel
theorem dX2_isBetter_91 : decode cX2_isBetter 91 = .ok (.aload_n 0, 1) := by decide +kernel
theorem dX2_isBetter_92 : decode cX2_isBetter 92 = .ok (.getfield 18, 3) := by decide +kernel
theorem dX2_isBetter_95 : decode cX2_isBetter 95 = .ok (.iload_n 2, 1) := by decide +kernel
theorem dX2_isBetter_96 : decode cX2_isBetter 96 = .ok (.iaload, 1) := by decide +kernel
theorem dX2_isBetter_97 : decode cX2_isBetter 97 = .ok (.if_icmp .ge 7, 3) := by decide +kernel
theorem dX2_isBetter_100 : decode cX2_isBetter 100 = .ok (.iconst 1, 1) := by decide +kernel
theorem dX2_isBetter_101 : decode cX2_isBetter 101 = .ok (.goto 4, 3) := by decide +kernel
theorem dX2_isBetter_104 : decode cX2_isBetter 104 = .ok (.iconst 0, 1) := by decide +kernel
theorem dX2_isBetter_105 : decode cX2_isBetter 105 = .ok (.ireturn, 1) := by decide +kernel
theorem dX2_isBetter_106 : decode cX2_isBetter 106 = .ok (.aload_n 0, 1) := by decide +kernel
theorem dX2_isBetter_107 : decode cX2_isBetter 107 = .ok (.getfield 15, 3) := by decide +kernel
theorem dX2_isBetter_110 : decode cX2_isBetter 110 = .ok (.iload_n 1, 1) := by decide +kernel
theorem dX2_isBetter_111 : decode cX2_isBetter 111 = .ok (.iaload, 1) := by decide +kernel
theorem dX2_isBetter_112 : decode cX2_isBetter 112 = .ok (.aload_n 0, 1) := by decide +kernel
theorem dX2_isBetter_113 : decode cX2_isBetter 113 = .ok (.getfield 15, 3) := by decide +kernel
theorem dX2_isBetter_116 : decode cX2_isBetter 116 = .ok (.iload_n 2, 1) := by decide +kernel
theorem dX2_isBetter_117 : decode cX2_isBetter 117 = .ok (.iaload, 1) := by decide +kernel
theorem dX2_isBetter_118 : decode cX2_isBetter 118 = .ok (.if_icmp .eq 24, 3) := by decide +kernel
theorem dX2_isBetter_121 : decode cX2_isBetter 121 = .ok (.aload_n 0, 1) := by decide +kernel
theorem dX2_isBetter_122 : decode cX2_isBetter 122 = .ok (.getfield 15, 3) := by decide +kernel
theorem dX2_isBetter_125 : decode cX2_isBetter 125 = .ok (.iload_n 1, 1) := by decide +kernel
theorem dX2_isBetter_126 : decode cX2_isBetter 126 = .ok (.iaload, 1) := by decide +kernel
theorem dX2_isBetter_127 : decode cX2_isBetter 127 = .ok (.aload_n 0, 1) := by decide +kernel
theorem dX2_isBetter_128 : decode cX2_isBetter 128 = .ok (.getfield 15, 3) := by decide +kernel
theorem dX2_isBetter_131 : decode cX2_isBetter 131 = .ok (.iload_n 2, 1) := by decide +kernel
theorem dX2_isBetter_132 : decode cX2_isBetter 132 = .ok (.iaload, 1) := by decide +kernel
theorem dX2_isBetter_133 : decode cX2_isBetter 133 = .ok (.if_icmp .ge 7, 3) := by decide +kernel
theorem dX2_isBetter_136 : decode cX2_isBetter 136 = .ok (.iconst 1, 1) := by decide +kernel
theorem dX2_isBetter_137 : decode cX2_isBetter 137 = .ok (.goto 4, 3) := by decide +kernel
theorem dX2_isBetter_140 : decode cX2_isBetter 140 = .ok (.iconst 0, 1) := by decide +kernel
theorem dX2_isBetter_141 : decode cX2_isBetter 141 = .ok (.ireturn, 1) := by decide +kernel
theorem dX2_isBetter_142 : decode cX2_isBetter 142 = .ok (.aload_n 0, 1) := by decide +kernel
theorem dX2_isBetter_143 : decode cX2_isBetter 143 = .ok (.getfield 21, 3) := by decide +kernel
theorem dX2_isBetter_146 : decode cX2_isBetter 146 = .ok (.iload_n 1, 1) := by decide +kernel
theorem dX2_isBetter_147 : decode cX2_isBetter 147 = .ok (.iaload, 1) := by decide +kernel
theorem dX2_isBetter_148 : decode cX2_isBetter 148 = .ok (.aload_n 0, 1) := by decide +kernel
theorem dX2_isBetter_149 : decode cX2_isBetter 149 = .ok (.getfield 21, 3) := by decide +kernel
theorem dX2_isBetter_152 : decode cX2_isBetter 152 = .ok (.iload_n 2, 1) := by decide +kernel
theorem dX2_isBetter_153 : decode cX2_isBetter 153 = .ok (.iaload, 1) := by decide +kernel
theorem dX2_isBetter_154 : decode cX2_isBetter 154 = .ok (.if_icmp .le 7, 3) := by decide +kernel
theorem dX2_isBetter_157 : decode cX2_isBetter 157 = .ok (.iconst 1, 1) := by decide +kernel
theorem dX2_isBetter_158 : decode cX2_isBetter 158 = .ok (.goto 4, 3) := by decide +kernel
theorem dX2_isBetter_161 : decode cX2_isBetter 161 = .ok (.iconst 0, 1) := by decide +kernel
theorem dX2_isBetter_162 : decode cX2_isBetter 162 = .ok (.ireturn, 1) := by decide +kernel
theorem dX3_init_0 : decode cX3_init 0 = .ok (.aload_n 0, 1) := by decide +kernel
theorem dX3_init_1 : decode cX3_init 1 = .ok (.invokespecial 3, 3) := by decide +kernel
theorem dX3_init_4 : decode cX3_init 4 = .ok (.aload_n 0, 1) := by decide +kernel
theorem dX3_init_5 : decode cX3_init 5 = .ok (.bipush 6, 2) := by decide +kernel
theorem dX3_init_7 : decode cX3_init 7 = .ok (.newarray .int, 2) := by decide +kernel
theorem dX3_init_9 : decode cX3_init 9 = .ok (.putfield 9, 3) := by decide +kernel
theorem dX3_init_12 : decode cX3_init 12 = .ok (.aload_n 0, 1) := by decide +kernel
theorem dX3_init_13 : decode cX3_init 13 = .ok (.sipush 1792, 3) := by decide +kernel
theorem dX3_init_16 : decode cX3_init 16 = .ok (.newarray .int, 2) := by decide +kernel
theorem dX3_init_18 : decode cX3_init 18 = .ok (.putfield 15, 3) := by decide +kernel
theorem dX3_init_21 : decode cX3_init 21 = .ok (.return_, 1) := by decide +kernel
theorem dX3_findBest_0 : decode cX3_findBest 0 = .ok (.iconst 0, 1) := by decide +kernel
theorem dX3_findBest_1 : decode cX3_findBest 1 = .ok (.istore_n 2, 1) := by decide +kernel
theorem dX3_findBest_2 : decode cX3_findBest 2 = .ok (.iload_n 2, 1) := by decide +kernel
theorem dX3_findBest_3 : decode cX3_findBest 3 = .ok (.sipush 256, 3) := by decide +kernel
theorem dX3_findBest_6 : decode cX3_findBest 6 = .ok (.if_icmp .ge 25, 3) := by decide +kernel
theorem dX3_findBest_9 : decode cX3_findBest 9 = .ok (.aload_n 0, 1) := by decide +kernel
theorem dX3_findBest_10 : decode cX3_findBest 10 = .ok (.getfield 15, 3) := by decide +kernel
theorem dX3_findBest_13 : decode cX3_findBest 13 = .ok (.aload_n 1, 1) := by decide +kernel
theorem dX3_findBest_14 : decode cX3_findBest 14 = .ok (.getfield 18, 3) := by decide +kernel
theorem dX3_findBest_17 : decode cX3_findBest 17 = .ok (.sipush 256, 3) := by decide +kernel
theorem dX3_findBest_20 : decode cX3_findBest 20 = .ok (.imul, 1) := by decide +kernel
theorem dX3_findBest_21 : decode cX3_findBest 21 = .ok (.iload_n 2, 1) := by decide +kernel
theorem dX3_findBest_22 : decode cX3_findBest 22 = .ok (.iadd, 1) := by decide +kernel
theorem dX3_findBest_23 : decode cX3_findBest 23 = .ok (.iconst 0, 1) := by decide +kernel
theorem dX3_findBest_24 : decode cX3_findBest 24 = .ok (.iastore, 1) := by decide +kernel
theorem dX3_findBest_25 : decode cX3_findBest 25 = .ok (.iinc 2 1, 3) := by decide +kernel
theorem dX3_findBest_28 : decode cX3_findBest 28 = .ok (.goto (-26), 3) := by decide +kernel
theorem dX3_findBest_31 : decode cX3_findBest 31 = .ok (.aload_n 1, 1) := by decide +kernel
theorem dX3_findBest_32 : decode cX3_findBest 32 = .ok (.getfield 18, 3) := by decide +kernel
theorem dX3_findBest_35 : decode cX3_findBest 35 = .ok (.iconst 1, 1) := by decide +kernel
theorem dX3_findBest_36 : decode cX3_findBest 36 = .ok (.isub, 1) := by decide +kernel
theorem dX3_findBest_37 : decode cX3_findBest 37 = .ok (.istore_n 2, 1) := by decide +kernel
theorem dX3_findBest_38 : decode cX3_findBest 38 = .ok (.iload_n 2, 1) := by decide +kernel
theorem dX3_findBest_39 : decode cX3_findBest 39 = .ok (.ifCond .lt 46, 3) := by decide +kernel
theorem dX3_findBest_42 : decode cX3_findBest 42 = .ok (.iconst 0, 1) := by decide +kernel
theorem dX3_findBest_43 : decode cX3_findBest 43 = .ok (.istore_n 3, 1) := by decide +kernel
theorem dX3_findBest_44 : decode cX3_findBest 44 = .ok (.iload_n 3, 1) := by decide +kernel
theorem dX3_findBest_45 : decode cX3_findBest 45 = .ok (.iconst 1, 1) := by decide +kernel
theorem dX3_findBest_46 : decode cX3_findBest 46 = .ok (.aload_n 1, 1) := by decide +kernel
theorem dX3_findBest_47 : decode cX3_findBest 47 = .ok (.getfield 24, 3) := by decide +kernel
theorem dX3_findBest_50 : decode cX3_findBest 50 = .ok (.ishl, 1) := by decide +kernel
theorem dX3_findBest_51 : decode cX3_findBest 51 = .ok (.if_icmp .ge 28, 3) := by decide +kernel
theorem dX3_findBest_54 : decode cX3_findBest 54 = .ok (.aload_n 0, 1) := by decide +kernel
theorem dX3_findBest_55 : decode cX3_findBest 55 = .ok (.getfield 15, 3) := by decide +kernel
theorem dX3_findBest_58 : decode cX3_findBest 58 = .ok (.iload_n 2, 1) := by decide +kernel
theorem dX3_findBest_59 : decode cX3_findBest 59 = .ok (.sipush 256, 3) := by decide +kernel
theorem dX3_findBest_62 : decode cX3_findBest 62 = .ok (.imul, 1) := by decide +kernel
theorem dX3_findBest_63 : decode cX3_findBest 63 = .ok (.iload_n 3, 1) := by decide +kernel
theorem dX3_findBest_64 : decode cX3_findBest 64 = .ok (.iadd, 1) := by decide +kernel
theorem dX3_findBest_65 : decode cX3_findBest 65 = .ok (.aload_n 0, 1) := by decide +kernel
theorem dX3_findBest_66 : decode cX3_findBest 66 = .ok (.aload_n 1, 1) := by decide +kernel
theorem dX3_findBest_67 : decode cX3_findBest 67 = .ok (.iload_n 2, 1) := by decide +kernel
theorem dX3_findBest_68 : decode cX3_findBest 68 = .ok (.iload_n 3, 1) := by decide +kernel
theorem dX3_findBest_69 : decode cX3_findBest 69 = .ok (.invokevirtual 27, 3) := by decide +kernel
theorem dX3_findBest_72 : decode cX3_findBest 72 = .ok (.iastore, 1) := by decide +kernel
theorem dX3_findBest_73 : decode cX3_findBest 73 = .ok (.iinc 3 1, 3) := by decide +kernel
theorem dX3_findBest_76 : decode cX3_findBest 76 = .ok (.goto (-32), 3) := by decide +kernel
theorem dX3_findBest_79 : decode cX3_findBest 79 = .ok (.iinc 2 (-1), 3) := by decide +kernel
theorem dX3_findBest_82 : decode cX3_findBest 82 = .ok (.goto (-44), 3) := by decide +kernel
theorem dX3_findBest_85 : decode cX3_findBest 85 = .ok (.aload_n 0, 1) := by decide +kernel
theorem dX3_findBest_86 : decode cX3_findBest 86 = .ok (.aload_n 1, 1) := by decide +kernel
theorem dX3_findBest_87 : decode cX3_findBest 87 = .ok (.invokevirtual 31, 3) := by decide +kernel
theorem dX3_findBest_90 : decode cX3_findBest 90 = .ok (.return_, 1) := by decide +kernel
theorem dX3_mostFor_0 : decode cX3_mostFor 0 = .ok (.aload_n 0, 1) := by decide +kernel
theorem dX3_mostFor_1 : decode cX3_mostFor 1 = .ok (.getfield 15, 3) := by decide +kernel
theorem dX3_mostFor_4 : decode cX3_mostFor 4 = .ok (.iload_n 2, 1) := by decide +kernel
theorem dX3_mostFor_5 : decode cX3_mostFor 5 = .ok (.iconst 1, 1) := by decide +kernel
theorem dX3_mostFor_6 : decode cX3_mostFor 6 = .ok (.iadd, 1) := by decide +kernel
theorem dX3_mostFor_7 : decode cX3_mostFor 7 = .ok (.sipush 256, 3) := by decide +kernel
theorem dX3_mostFor_10 : decode cX3_mostFor 10 = .ok (.imul, 1) := by decide +kernel
theorem dX3_mostFor_11 : decode cX3_mostFor 11 = .ok (.iload_n 3, 1) := by decide +kernel
theorem dX3_mostFor_12 : decode cX3_mostFor 12 = .ok (.iadd, 1) := by decide +kernel
theorem dX3_mostFor_13 : decode cX3_mostFor 13 = .ok (.iaload, 1) := by decide +kernel
theorem dX3_mostFor_14 : decode cX3_mostFor 14 = .ok (.istore 4, 2) := by decide +kernel
theorem dX3_mostFor_16 : decode cX3_mostFor 16 = .ok (.iconst 0, 1) := by decide +kernel
theorem dX3_mostFor_17 : decode cX3_mostFor 17 = .ok (.istore 5, 2) := by decide +kernel
theorem dX3_mostFor_19 : decode cX3_mostFor 19 = .ok (.iload 5, 2) := by decide +kernel
theorem dX3_mostFor_21 : decode cX3_mostFor 21 = .ok (.aload_n 1, 1) := by decide +kernel
theorem dX3_mostFor_22 : decode cX3_mostFor 22 = .ok (.getfield 24, 3) := by decide +kernel
theorem dX3_mostFor_25 : decode cX3_mostFor 25 = .ok (.if_icmp .ge 36, 3) := by decide +kernel
theorem dX3_mostFor_28 : decode cX3_mostFor 28 = .ok (.aload_n 1, 1) := by decide +kernel
theorem dX3_mostFor_29 : decode cX3_mostFor 29 = .ok (.iload_n 2, 1) := by decide +kernel
theorem dX3_mostFor_30 : decode cX3_mostFor 30 = .ok (.iload 5, 2) := by decide +kernel
theorem dX3_mostFor_32 : decode cX3_mostFor 32 = .ok (.iload_n 3, 1) := by decide +kernel
theorem dX3_mostFor_33 : decode cX3_mostFor 33 = .ok (.invokestatic 35, 3) := by decide +kernel
theorem dX3_mostFor_36 : decode cX3_mostFor 36 = .ok (.ifCond .eq 19, 3) := by decide +kernel
theorem dX3_mostFor_39 : decode cX3_mostFor 39 = .ok (.iload 4, 2) := by decide +kernel
theorem dX3_mostFor_41 : decode cX3_mostFor 41 = .ok (.aload_n 0, 1) := by decide +kernel
theorem dX3_mostFor_42 : decode cX3_mostFor 42 = .ok (.aload_n 1, 1) := by decide +kernel
theorem dX3_mostFor_43 : decode cX3_mostFor 43 = .ok (.iload_n 2, 1) := by decide +kernel
theorem dX3_mostFor_44 : decode cX3_mostFor 44 = .ok (.iload 5, 2) := by decide +kernel
theorem dX3_mostFor_46 : decode cX3_mostFor 46 = .ok (.iload_n 3, 1) := by decide +kernel
theorem dX3_mostFor_47 : decode cX3_mostFor 47 = .ok (.invokevirtual 39, 3) := by decide +kernel
theorem dX3_mostFor_50 : decode cX3_mostFor 50 = .ok (.invokestatic 43, 3) := by decide +kernel
theorem dX3_mostFor_53 : decode cX3_mostFor 53 = .ok (.istore 4, 2) := by decide +kernel
theorem dX3_mostFor_55 : decode cX3_mostFor 55 = .ok (.iinc 5 1, 3) := by decide +kernel
theorem dX3_mostFor_58 : decode cX3_mostFor 58 = .ok (.goto (-39), 3) := by decide +kernel
theorem dX3_mostFor_61 : decode cX3_mostFor 61 = .ok (.iload 4, 2) := by decide +kernel
theorem dX3_mostFor_63 : decode cX3_mostFor 63 = .ok (.ireturn, 1) := by decide +kernel
theorem dX3_mayTake_0 : decode cX3_mayTake 0 = .ok (.aload_n 0, 1) := by decide +kernel
theorem dX3_mayTake_1 : decode cX3_mayTake 1 = .ok (.iload_n 1, 1) := by decide +kernel
theorem dX3_mayTake_2 : decode cX3_mayTake 2 = .ok (.invokevirtual 49, 3) := by decide +kernel
theorem dX3_mayTake_5 : decode cX3_mayTake 5 = .ok (.ifCond .eq 23, 3) := by decide +kernel
theorem dX3_mayTake_8 : decode cX3_mayTake 8 = .ok (.iload_n 3, 1) := by decide +kernel
theorem dX3_mayTake_9 : decode cX3_mayTake 9 = .ok (.iload_n 2, 1) := by decide +kernel
theorem dX3_mayTake_10 : decode cX3_mayTake 10 = .ok (.invokestatic 53, 3) := by decide +kernel
theorem dX3_mayTake_13 : decode cX3_mayTake 13 = .ok (.ifCond .ne 15, 3) := by decide +kernel
theorem dX3_mayTake_16 : decode cX3_mayTake 16 = .ok (.aload_n 0, 1) := by decide +kernel
theorem dX3_mayTake_17 : decode cX3_mayTake 17 = .ok (.iload_n 2, 1) := by decide +kernel
theorem dX3_mayTake_18 : decode cX3_mayTake 18 = .ok (.invokevirtual 57, 3) := by decide +kernel
theorem dX3_mayTake_21 : decode cX3_mayTake 21 = .ok (.ifCond .ne 7, 3) := by decide +kernel
theorem dX3_mayTake_24 : decode cX3_mayTake 24 = .ok (.iconst 1, 1) := by decide +kernel
theorem dX3_mayTake_25 : decode cX3_mayTake 25 = .ok (.goto 4, 3) := by decide +kernel
theorem dX3_mayTake_28 : decode cX3_mayTake 28 = .ok (.iconst 0, 1) := by decide +kernel
theorem dX3_mayTake_29 : decode cX3_mayTake 29 = .ok (.ireturn, 1) := by decide +kernel
theorem dX3_worthOf_0 : decode cX3_worthOf 0 = .ok (.sipush 1000, 3) := by decide +kernel
theorem dX3_worthOf_3 : decode cX3_worthOf 3 = .ok (.aload_n 1, 1) := by decide +kernel
theorem dX3_worthOf_4 : decode cX3_worthOf 4 = .ok (.iload_n 2, 1) := by decide +kernel
theorem dX3_worthOf_5 : decode cX3_worthOf 5 = .ok (.iload_n 3, 1) := by decide +kernel
theorem dX3_worthOf_6 : decode cX3_worthOf 6 = .ok (.invokevirtual 60, 3) := by decide +kernel
theorem dX3_worthOf_9 : decode cX3_worthOf 9 = .ok (.isub, 1) := by decide +kernel
theorem dX3_worthOf_10 : decode cX3_worthOf 10 = .ok (.aload_n 0, 1) := by decide +kernel
theorem dX3_worthOf_11 : decode cX3_worthOf 11 = .ok (.getfield 15, 3) := by decide +kernel
theorem dX3_worthOf_14 : decode cX3_worthOf 14 = .ok (.iload_n 2, 1) := by decide +kernel
theorem dX3_worthOf_15 : decode cX3_worthOf 15 = .ok (.iconst 1, 1) := by decide +kernel
theorem dX3_worthOf_16 : decode cX3_worthOf 16 = .ok (.iadd, 1) := by decide +kernel
theorem dX3_worthOf_17 : decode cX3_worthOf 17 = .ok (.sipush 256, 3) := by decide +kernel
theorem dX3_worthOf_20 : decode cX3_worthOf 20 = .ok (.imul, 1) := by decide +kernel
theorem dX3_worthOf_21 : decode cX3_worthOf 21 = .ok (.iload 4, 2) := by decide +kernel
theorem dX3_worthOf_23 : decode cX3_worthOf 23 = .ok (.iconst 1, 1) := by decide +kernel
theorem dX3_worthOf_24 : decode cX3_worthOf 24 = .ok (.iload_n 3, 1) := by decide +kernel
theorem dX3_worthOf_25 : decode cX3_worthOf 25 = .ok (.ishl, 1) := by decide +kernel
theorem dX3_worthOf_26 : decode cX3_worthOf 26 = .ok (.ior, 1) := by decide +kernel
theorem dX3_worthOf_27 : decode cX3_worthOf 27 = .ok (.iadd, 1) := by decide +kernel
theorem dX3_worthOf_28 : decode cX3_worthOf 28 = .ok (.iaload, 1) := by decide +kernel
theorem dX3_worthOf_29 : decode cX3_worthOf 29 = .ok (.iadd, 1) := by decide +kernel
theorem dX3_worthOf_30 : decode cX3_worthOf 30 = .ok (.ireturn, 1) := by decide +kernel
theorem dX3_followBest_0 : decode cX3_followBest 0 = .ok (.iconst 0, 1) := by decide +kernel
theorem dX3_followBest_1 : decode cX3_followBest 1 = .ok (.istore_n 2, 1) := by decide +kernel
theorem dX3_followBest_2 : decode cX3_followBest 2 = .ok (.aload_n 0, 1) := by decide +kernel
theorem dX3_followBest_3 : decode cX3_followBest 3 = .ok (.iconst 0, 1) := by decide +kernel
theorem dX3_followBest_4 : decode cX3_followBest 4 = .ok (.putfield 63, 3) := by decide +kernel
theorem dX3_followBest_7 : decode cX3_followBest 7 = .ok (.iconst 0, 1) := by decide +kernel
theorem dX3_followBest_8 : decode cX3_followBest 8 = .ok (.istore_n 3, 1) := by decide +kernel
theorem dX3_followBest_9 : decode cX3_followBest 9 = .ok (.iload_n 3, 1) := by decide +kernel
theorem dX3_followBest_10 : decode cX3_followBest 10 = .ok (.aload_n 1, 1) := by decide +kernel
theorem dX3_followBest_11 : decode cX3_followBest 11 = .ok (.getfield 18, 3) := by decide +kernel
theorem dX3_followBest_14 : decode cX3_followBest 14 = .ok (.if_icmp .ge 56, 3) := by decide +kernel
theorem dX3_followBest_17 : decode cX3_followBest 17 = .ok (.aload_n 0, 1) := by decide +kernel
theorem dX3_followBest_18 : decode cX3_followBest 18 = .ok (.aload_n 1, 1) := by decide +kernel
theorem dX3_followBest_19 : decode cX3_followBest 19 = .ok (.iload_n 3, 1) := by decide +kernel
theorem dX3_followBest_20 : decode cX3_followBest 20 = .ok (.iload_n 2, 1) := by decide +kernel
theorem dX3_followBest_21 : decode cX3_followBest 21 = .ok (.invokevirtual 66, 3) := by decide +kernel
theorem dX3_followBest_24 : decode cX3_followBest 24 = .ok (.istore 4, 2) := by decide +kernel
theorem dX3_followBest_26 : decode cX3_followBest 26 = .ok (.aload_n 0, 1) := by decide +kernel
theorem dX3_followBest_27 : decode cX3_followBest 27 = .ok (.getfield 9, 3) := by decide +kernel
theorem dX3_followBest_30 : decode cX3_followBest 30 = .ok (.iload_n 3, 1) := by decide +kernel
theorem dX3_followBest_31 : decode cX3_followBest 31 = .ok (.iload 4, 2) := by decide +kernel
theorem dX3_followBest_33 : decode cX3_followBest 33 = .ok (.iastore, 1) := by decide +kernel
theorem dX3_followBest_34 : decode cX3_followBest 34 = .ok (.iload 4, 2) := by decide +kernel
theorem dX3_followBest_36 : decode cX3_followBest 36 = .ok (.bipush (-9), 2) := by decide +kernel
theorem dX3_followBest_38 : decode cX3_followBest 38 = .ok (.if_icmp .eq 26, 3) := by decide +kernel
theorem dX3_followBest_41 : decode cX3_followBest 41 = .ok (.iload_n 2, 1) := by decide +kernel
theorem dX3_followBest_42 : decode cX3_followBest 42 = .ok (.iconst 1, 1) := by decide +kernel
theorem dX3_followBest_43 : decode cX3_followBest 43 = .ok (.iload 4, 2) := by decide +kernel
theorem dX3_followBest_45 : decode cX3_followBest 45 = .ok (.ishl, 1) := by decide +kernel
theorem dX3_followBest_46 : decode cX3_followBest 46 = .ok (.ior, 1) := by decide +kernel
theorem dX3_followBest_47 : decode cX3_followBest 47 = .ok (.istore_n 2, 1) := by decide +kernel
theorem dX3_followBest_48 : decode cX3_followBest 48 = .ok (.aload_n 0, 1) := by decide +kernel
theorem dX3_followBest_49 : decode cX3_followBest 49 = .ok (.dup, 1) := by decide +kernel
theorem dX3_followBest_50 : decode cX3_followBest 50 = .ok (.getfield 63, 3) := by decide +kernel
theorem dX3_followBest_53 : decode cX3_followBest 53 = .ok (.aload_n 1, 1) := by decide +kernel
theorem dX3_followBest_54 : decode cX3_followBest 54 = .ok (.iload_n 3, 1) := by decide +kernel
theorem dX3_followBest_55 : decode cX3_followBest 55 = .ok (.iload 4, 2) := by decide +kernel
theorem dX3_followBest_57 : decode cX3_followBest 57 = .ok (.invokevirtual 60, 3) := by decide +kernel
theorem dX3_followBest_60 : decode cX3_followBest 60 = .ok (.iadd, 1) := by decide +kernel
theorem dX3_followBest_61 : decode cX3_followBest 61 = .ok (.putfield 63, 3) := by decide +kernel
theorem dX3_followBest_64 : decode cX3_followBest 64 = .ok (.iinc 3 1, 3) := by decide +kernel
theorem dX3_followBest_67 : decode cX3_followBest 67 = .ok (.goto (-58), 3) := by decide +kernel
theorem dX3_followBest_70 : decode cX3_followBest 70 = .ok (.return_, 1) := by decide +kernel
theorem dX3_smallestBest_0 : decode cX3_smallestBest 0 = .ok (.iconst 0, 1) := by decide +kernel
theorem dX3_smallestBest_1 : decode cX3_smallestBest 1 = .ok (.istore 4, 2) := by decide +kernel
theorem dX3_smallestBest_3 : decode cX3_smallestBest 3 = .ok (.iload 4, 2) := by decide +kernel
theorem dX3_smallestBest_5 : decode cX3_smallestBest 5 = .ok (.aload_n 1, 1) := by decide +kernel
theorem dX3_smallestBest_6 : decode cX3_smallestBest 6 = .ok (.getfield 24, 3) := by decide +kernel
theorem dX3_smallestBest_9 : decode cX3_smallestBest 9 = .ok (.if_icmp .ge 47, 3) := by decide +kernel
theorem dX3_smallestBest_12 : decode cX3_smallestBest 12 = .ok (.aload_n 1, 1) := by decide +kernel
theorem dX3_smallestBest_13 : decode cX3_smallestBest 13 = .ok (.iload_n 2, 1) := by decide +kernel
theorem dX3_smallestBest_14 : decode cX3_smallestBest 14 = .ok (.iload 4, 2) := by decide +kernel
theorem dX3_smallestBest_16 : decode cX3_smallestBest 16 = .ok (.iload_n 3, 1) := by decide +kernel
theorem dX3_smallestBest_17 : decode cX3_smallestBest 17 = .ok (.invokestatic 35, 3) := by decide +kernel
theorem dX3_smallestBest_20 : decode cX3_smallestBest 20 = .ok (.ifCond .eq 30, 3) := by decide +kernel
theorem dX3_smallestBest_23 : decode cX3_smallestBest 23 = .ok (.aload_n 0, 1) := by decide +kernel
theorem dX3_smallestBest_24 : decode cX3_smallestBest 24 = .ok (.aload_n 1, 1) := by decide +kernel
theorem dX3_smallestBest_25 : decode cX3_smallestBest 25 = .ok (.iload_n 2, 1) := by decide +kernel
theorem dX3_smallestBest_26 : decode cX3_smallestBest 26 = .ok (.iload 4, 2) := by decide +kernel
theorem dX3_smallestBest_28 : decode cX3_smallestBest 28 = .ok (.iload_n 3, 1) := by decide +kernel
theorem dX3_smallestBest_29 : decode cX3_smallestBest 29 = .ok (.invokevirtual 39, 3) := by decide +kernel
theorem dX3_smallestBest_32 : decode cX3_smallestBest 32 = .ok (.aload_n 0, 1) := by decide +kernel
theorem dX3_smallestBest_33 : decode cX3_smallestBest 33 = .ok (.getfield 15, 3) := by decide +kernel
theorem dX3_smallestBest_36 : decode cX3_smallestBest 36 = .ok (.iload_n 2, 1) := by decide +kernel
theorem dX3_smallestBest_37 : decode cX3_smallestBest 37 = .ok (.sipush 256, 3) := by decide +kernel
theorem dX3_smallestBest_40 : decode cX3_smallestBest 40 = .ok (.imul, 1) := by decide +kernel
theorem dX3_smallestBest_41 : decode cX3_smallestBest 41 = .ok (.iload_n 3, 1) := by decide +kernel
theorem dX3_smallestBest_42 : decode cX3_smallestBest 42 = .ok (.iadd, 1) := by decide +kernel
theorem dX3_smallestBest_43 : decode cX3_smallestBest 43 = .ok (.iaload, 1) := by decide +kernel
theorem dX3_smallestBest_44 : decode cX3_smallestBest 44 = .ok (.if_icmp .ne 6, 3) := by decide +kernel
theorem dX3_smallestBest_47 : decode cX3_smallestBest 47 = .ok (.iload 4, 2) := by decide +kernel
theorem dX3_smallestBest_49 : decode cX3_smallestBest 49 = .ok (.ireturn, 1) := by decide +kernel
theorem dX3_smallestBest_50 : decode cX3_smallestBest 50 = .ok (.iinc 4 1, 3) := by decide +kernel
theorem dX3_smallestBest_53 : decode cX3_smallestBest 53 = .ok (.goto (-50), 3) := by decide +kernel
theorem dX3_smallestBest_56 : decode cX3_smallestBest 56 = .ok (.bipush (-9), 2) := by decide +kernel
theorem dX3_smallestBest_58 : decode cX3_smallestBest 58 = .ok (.ireturn, 1) := by decide +kernel
theorem dX4_init_0 : decode cX4_init 0 = .ok (.aload_n 0, 1) := by decide +kernel
theorem dX4_init_1 : decode cX4_init 1 = .ok (.invokespecial 3, 3) := by decide +kernel
theorem dX4_init_4 : decode cX4_init 4 = .ok (.aload_n 0, 1) := by decide +kernel
theorem dX4_init_5 : decode cX4_init 5 = .ok (.new 9, 3) := by decide +kernel
theorem dX4_init_8 : decode cX4_init 8 = .ok (.dup, 1) := by decide +kernel
theorem dX4_init_9 : decode cX4_init 9 = .ok (.invokespecial 11, 3) := by decide +kernel
theorem dX4_init_12 : decode cX4_init 12 = .ok (.putfield 12, 3) := by decide +kernel
theorem dX4_init_15 : decode cX4_init 15 = .ok (.return_, 1) := by decide +kernel
theorem dX4_makeSteps_0 : decode cX4_makeSteps 0 = .ok (.iconst 0, 1) := by decide +kernel
theorem dX4_makeSteps_1 : decode cX4_makeSteps 1 = .ok (.istore_n 3, 1) := by decide +kernel
theorem dX4_makeSteps_2 : decode cX4_makeSteps 2 = .ok (.iload_n 3, 1) := by decide +kernel
theorem dX4_makeSteps_3 : decode cX4_makeSteps 3 = .ok (.iload_n 2, 1) := by decide +kernel
theorem dX4_makeSteps_4 : decode cX4_makeSteps 4 = .ok (.if_icmp .ge 130, 3) := by decide +kernel
theorem dX4_makeSteps_7 : decode cX4_makeSteps 7 = .ok (.aload_n 0, 1) := by decide +kernel
theorem dX4_makeSteps_8 : decode cX4_makeSteps 8 = .ok (.getfield 12, 3) := by decide +kernel
theorem dX4_makeSteps_11 : decode cX4_makeSteps 11 = .ok (.aload_n 1, 1) := by decide +kernel
theorem dX4_makeSteps_12 : decode cX4_makeSteps 12 = .ok (.getfield 18, 3) := by decide +kernel
theorem dX4_makeSteps_15 : decode cX4_makeSteps 15 = .ok (.invokevirtual 23, 3) := by decide +kernel
theorem dX4_makeSteps_18 : decode cX4_makeSteps 18 = .ok (.iconst 0, 1) := by decide +kernel
theorem dX4_makeSteps_19 : decode cX4_makeSteps 19 = .ok (.istore 4, 2) := by decide +kernel
theorem dX4_makeSteps_21 : decode cX4_makeSteps 21 = .ok (.iload 4, 2) := by decide +kernel
theorem dX4_makeSteps_23 : decode cX4_makeSteps 23 = .ok (.aload_n 1, 1) := by decide +kernel
theorem dX4_makeSteps_24 : decode cX4_makeSteps 24 = .ok (.getfield 27, 3) := by decide +kernel
theorem dX4_makeSteps_27 : decode cX4_makeSteps 27 = .ok (.if_icmp .ge 25, 3) := by decide +kernel
theorem dX4_makeSteps_30 : decode cX4_makeSteps 30 = .ok (.aload_n 1, 1) := by decide +kernel
theorem dX4_makeSteps_31 : decode cX4_makeSteps 31 = .ok (.iload 4, 2) := by decide +kernel
theorem dX4_makeSteps_33 : decode cX4_makeSteps 33 = .ok (.invokevirtual 31, 3) := by decide +kernel
theorem dX4_makeSteps_36 : decode cX4_makeSteps 36 = .ok (.ifCond .eq 10, 3) := by decide +kernel
theorem dX4_makeSteps_39 : decode cX4_makeSteps 39 = .ok (.aload_n 0, 1) := by decide +kernel
theorem dX4_makeSteps_40 : decode cX4_makeSteps 40 = .ok (.aload_n 1, 1) := by decide +kernel
theorem dX4_makeSteps_41 : decode cX4_makeSteps 41 = .ok (.iload 4, 2) := by decide +kernel
theorem dX4_makeSteps_43 : decode cX4_makeSteps 43 = .ok (.invokevirtual 35, 3) := by decide +kernel
theorem dX4_makeSteps_46 : decode cX4_makeSteps 46 = .ok (.iinc 4 1, 3) := by decide +kernel
theorem dX4_makeSteps_49 : decode cX4_makeSteps 49 = .ok (.goto (-28), 3) := by decide +kernel
theorem dX4_makeSteps_52 : decode cX4_makeSteps 52 = .ok (.iconst 0, 1) := by decide +kernel
theorem dX4_makeSteps_53 : decode cX4_makeSteps 53 = .ok (.istore 4, 2) := by decide +kernel
theorem dX4_makeSteps_55 : decode cX4_makeSteps 55 = .ok (.iload 4, 2) := by decide +kernel
theorem dX4_makeSteps_57 : decode cX4_makeSteps 57 = .ok (.aload_n 1, 1) := by decide +kernel
theorem dX4_makeSteps_58 : decode cX4_makeSteps 58 = .ok (.getfield 27, 3) := by decide +kernel
theorem dX4_makeSteps_61 : decode cX4_makeSteps 61 = .ok (.if_icmp .ge 24, 3) := by decide +kernel
theorem dX4_makeSteps_64 : decode cX4_makeSteps 64 = .ok (.aload_n 1, 1) := by decide +kernel
theorem dX4_makeSteps_65 : decode cX4_makeSteps 65 = .ok (.iload 4, 2) := by decide +kernel
theorem dX4_makeSteps_67 : decode cX4_makeSteps 67 = .ok (.invokevirtual 31, 3) := by decide +kernel
theorem dX4_makeSteps_70 : decode cX4_makeSteps 70 = .ok (.ifCond .eq 9, 3) := by decide +kernel
theorem dX4_makeSteps_73 : decode cX4_makeSteps 73 = .ok (.aload_n 1, 1) := by decide +kernel
theorem dX4_makeSteps_74 : decode cX4_makeSteps 74 = .ok (.iload 4, 2) := by decide +kernel
theorem dX4_makeSteps_76 : decode cX4_makeSteps 76 = .ok (.invokestatic 39, 3) := by decide +kernel
theorem dX4_makeSteps_79 : decode cX4_makeSteps 79 = .ok (.iinc 4 1, 3) := by decide +kernel
theorem dX4_makeSteps_82 : decode cX4_makeSteps 82 = .ok (.goto (-27), 3) := by decide +kernel
theorem dX4_makeSteps_85 : decode cX4_makeSteps 85 = .ok (.iconst 0, 1) := by decide +kernel
theorem dX4_makeSteps_86 : decode cX4_makeSteps 86 = .ok (.istore 4, 2) := by decide +kernel
theorem dX4_makeSteps_88 : decode cX4_makeSteps 88 = .ok (.iload 4, 2) := by decide +kernel
theorem dX4_makeSteps_90 : decode cX4_makeSteps 90 = .ok (.aload_n 1, 1) := by decide +kernel
theorem dX4_makeSteps_91 : decode cX4_makeSteps 91 = .ok (.getfield 27, 3) := by decide +kernel
theorem dX4_makeSteps_94 : decode cX4_makeSteps 94 = .ok (.if_icmp .ge 24, 3) := by decide +kernel
theorem dX4_makeSteps_97 : decode cX4_makeSteps 97 = .ok (.aload_n 1, 1) := by decide +kernel
theorem dX4_makeSteps_98 : decode cX4_makeSteps 98 = .ok (.iload 4, 2) := by decide +kernel
theorem dX4_makeSteps_100 : decode cX4_makeSteps 100 = .ok (.invokevirtual 31, 3) := by decide +kernel
theorem dX4_makeSteps_103 : decode cX4_makeSteps 103 = .ok (.ifCond .eq 9, 3) := by decide +kernel
theorem dX4_makeSteps_106 : decode cX4_makeSteps 106 = .ok (.aload_n 1, 1) := by decide +kernel
theorem dX4_makeSteps_107 : decode cX4_makeSteps 107 = .ok (.iload 4, 2) := by decide +kernel
theorem dX4_makeSteps_109 : decode cX4_makeSteps 109 = .ok (.invokestatic 42, 3) := by decide +kernel
theorem dX4_makeSteps_112 : decode cX4_makeSteps 112 = .ok (.iinc 4 1, 3) := by decide +kernel
theorem dX4_makeSteps_115 : decode cX4_makeSteps 115 = .ok (.goto (-27), 3) := by decide +kernel
theorem dX4_makeSteps_118 : decode cX4_makeSteps 118 = .ok (.aload_n 1, 1) := by decide +kernel
theorem dX4_makeSteps_119 : decode cX4_makeSteps 119 = .ok (.dup, 1) := by decide +kernel
theorem dX4_makeSteps_120 : decode cX4_makeSteps 120 = .ok (.getfield 45, 3) := by decide +kernel
theorem dX4_makeSteps_123 : decode cX4_makeSteps 123 = .ok (.iconst 1, 1) := by decide +kernel
theorem dX4_makeSteps_124 : decode cX4_makeSteps 124 = .ok (.iadd, 1) := by decide +kernel
theorem dX4_makeSteps_125 : decode cX4_makeSteps 125 = .ok (.putfield 45, 3) := by decide +kernel
theorem dX4_makeSteps_128 : decode cX4_makeSteps 128 = .ok (.iinc 3 1, 3) := by decide +kernel
theorem dX4_makeSteps_131 : decode cX4_makeSteps 131 = .ok (.goto (-129), 3) := by decide +kernel
theorem dX4_makeSteps_134 : decode cX4_makeSteps 134 = .ok (.return_, 1) := by decide +kernel
theorem dX4_compareNotes_0 : decode cX4_compareNotes 0 = .ok (.aload_n 1, 1) := by decide +kernel
theorem dX4_compareNotes_1 : decode cX4_compareNotes 1 = .ok (.iload_n 2, 1) := by decide +kernel
theorem dX4_compareNotes_2 : decode cX4_compareNotes 2 = .ok (.invokevirtual 48, 3) := by decide +kernel
theorem dX4_compareNotes_5 : decode cX4_compareNotes 5 = .ok (.istore_n 3, 1) := by decide +kernel
theorem dX4_compareNotes_6 : decode cX4_compareNotes 6 = .ok (.iconst 0, 1) := by decide +kernel
theorem dX4_compareNotes_7 : decode cX4_compareNotes 7 = .ok (.istore 4, 2) := by decide +kernel
theorem dX4_compareNotes_9 : decode cX4_compareNotes 9 = .ok (.iload 4, 2) := by decide +kernel
theorem dX4_compareNotes_11 : decode cX4_compareNotes 11 = .ok (.aload_n 1, 1) := by decide +kernel
theorem dX4_compareNotes_12 : decode cX4_compareNotes 12 = .ok (.getfield 52, 3) := by decide +kernel
theorem dX4_compareNotes_15 : decode cX4_compareNotes 15 = .ok (.if_icmp .ge 74, 3) := by decide +kernel
theorem dX4_compareNotes_18 : decode cX4_compareNotes 18 = .ok (.iload_n 2, 1) := by decide +kernel
theorem dX4_compareNotes_19 : decode cX4_compareNotes 19 = .ok (.iload 4, 2) := by decide +kernel
theorem dX4_compareNotes_21 : decode cX4_compareNotes 21 = .ok (.invokestatic 55, 3) := by decide +kernel
theorem dX4_compareNotes_24 : decode cX4_compareNotes 24 = .ok (.istore 5, 2) := by decide +kernel
theorem dX4_compareNotes_26 : decode cX4_compareNotes 26 = .ok (.aload_n 0, 1) := by decide +kernel
theorem dX4_compareNotes_27 : decode cX4_compareNotes 27 = .ok (.aload_n 1, 1) := by decide +kernel
theorem dX4_compareNotes_28 : decode cX4_compareNotes 28 = .ok (.iload 5, 2) := by decide +kernel
theorem dX4_compareNotes_30 : decode cX4_compareNotes 30 = .ok (.iload_n 3, 1) := by decide +kernel
theorem dX4_compareNotes_31 : decode cX4_compareNotes 31 = .ok (.iload 4, 2) := by decide +kernel
theorem dX4_compareNotes_33 : decode cX4_compareNotes 33 = .ok (.invokevirtual 59, 3) := by decide +kernel
theorem dX4_compareNotes_36 : decode cX4_compareNotes 36 = .ok (.istore 6, 2) := by decide +kernel
theorem dX4_compareNotes_38 : decode cX4_compareNotes 38 = .ok (.aload_n 0, 1) := by decide +kernel
theorem dX4_compareNotes_39 : decode cX4_compareNotes 39 = .ok (.getfield 12, 3) := by decide +kernel
theorem dX4_compareNotes_42 : decode cX4_compareNotes 42 = .ok (.iload 6, 2) := by decide +kernel
theorem dX4_compareNotes_44 : decode cX4_compareNotes 44 = .ok (.aload_n 1, 1) := by decide +kernel
theorem dX4_compareNotes_45 : decode cX4_compareNotes 45 = .ok (.getfield 45, 3) := by decide +kernel
theorem dX4_compareNotes_48 : decode cX4_compareNotes 48 = .ok (.invokevirtual 63, 3) := by decide +kernel
theorem dX4_compareNotes_51 : decode cX4_compareNotes 51 = .ok (.ifCond .eq 17, 3) := by decide +kernel
theorem dX4_compareNotes_54 : decode cX4_compareNotes 54 = .ok (.aload_n 1, 1) := by decide +kernel
theorem dX4_compareNotes_55 : decode cX4_compareNotes 55 = .ok (.getfield 18, 3) := by decide +kernel
theorem dX4_compareNotes_58 : decode cX4_compareNotes 58 = .ok (.getfield 67, 3) := by decide +kernel
theorem dX4_compareNotes_61 : decode cX4_compareNotes 61 = .ok (.iload 5, 2) := by decide +kernel
theorem dX4_compareNotes_63 : decode cX4_compareNotes 63 = .ok (.iconst 0, 1) := by decide +kernel
theorem dX4_compareNotes_64 : decode cX4_compareNotes 64 = .ok (.iastore, 1) := by decide +kernel
theorem dX4_compareNotes_65 : decode cX4_compareNotes 65 = .ok (.goto 18, 3) := by decide +kernel
theorem dX4_compareNotes_68 : decode cX4_compareNotes 68 = .ok (.aload_n 1, 1) := by decide +kernel
theorem dX4_compareNotes_69 : decode cX4_compareNotes 69 = .ok (.getfield 18, 3) := by decide +kernel
theorem dX4_compareNotes_72 : decode cX4_compareNotes 72 = .ok (.iload 5, 2) := by decide +kernel
theorem dX4_compareNotes_74 : decode cX4_compareNotes 74 = .ok (.aload_n 0, 1) := by decide +kernel
theorem dX4_compareNotes_75 : decode cX4_compareNotes 75 = .ok (.getfield 12, 3) := by decide +kernel
theorem dX4_compareNotes_78 : decode cX4_compareNotes 78 = .ok (.iload 6, 2) := by decide +kernel
theorem dX4_compareNotes_80 : decode cX4_compareNotes 80 = .ok (.invokevirtual 71, 3) := by decide +kernel
theorem dX4_compareNotes_83 : decode cX4_compareNotes 83 = .ok (.iinc 4 1, 3) := by decide +kernel
theorem dX4_compareNotes_86 : decode cX4_compareNotes 86 = .ok (.goto (-77), 3) := by decide +kernel
theorem dX4_compareNotes_89 : decode cX4_compareNotes 89 = .ok (.return_, 1) := by decide +kernel
theorem dX4_bestNote_0 : decode cX4_bestNote 0 = .ok (.iload_n 2, 1) := by decide +kernel
theorem dX4_bestNote_1 : decode cX4_bestNote 1 = .ok (.istore 5, 2) := by decide +kernel
theorem dX4_bestNote_3 : decode cX4_bestNote 3 = .ok (.iconst 0, 1) := by decide +kernel
theorem dX4_bestNote_4 : decode cX4_bestNote 4 = .ok (.istore 6, 2) := by decide +kernel
theorem dX4_bestNote_6 : decode cX4_bestNote 6 = .ok (.iload 6, 2) := by decide +kernel
theorem dX4_bestNote_8 : decode cX4_bestNote 8 = .ok (.aload_n 1, 1) := by decide +kernel
theorem dX4_bestNote_9 : decode cX4_bestNote 9 = .ok (.getfield 27, 3) := by decide +kernel
theorem dX4_bestNote_12 : decode cX4_bestNote 12 = .ok (.if_icmp .ge 49, 3) := by decide +kernel
theorem dX4_bestNote_15 : decode cX4_bestNote 15 = .ok (.iload 6, 2) := by decide +kernel
theorem dX4_bestNote_17 : decode cX4_bestNote 17 = .ok (.iload 4, 2) := by decide +kernel
theorem dX4_bestNote_19 : decode cX4_bestNote 19 = .ok (.invokestatic 55, 3) := by decide +kernel
theorem dX4_bestNote_22 : decode cX4_bestNote 22 = .ok (.istore 7, 2) := by decide +kernel
theorem dX4_bestNote_24 : decode cX4_bestNote 24 = .ok (.iload_n 3, 1) := by decide +kernel
theorem dX4_bestNote_25 : decode cX4_bestNote 25 = .ok (.iload 6, 2) := by decide +kernel
theorem dX4_bestNote_27 : decode cX4_bestNote 27 = .ok (.invokestatic 75, 3) := by decide +kernel
theorem dX4_bestNote_30 : decode cX4_bestNote 30 = .ok (.ifCond .eq 25, 3) := by decide +kernel
theorem dX4_bestNote_33 : decode cX4_bestNote 33 = .ok (.aload_n 0, 1) := by decide +kernel
theorem dX4_bestNote_34 : decode cX4_bestNote 34 = .ok (.getfield 12, 3) := by decide +kernel
theorem dX4_bestNote_37 : decode cX4_bestNote 37 = .ok (.iload 7, 2) := by decide +kernel
theorem dX4_bestNote_39 : decode cX4_bestNote 39 = .ok (.iload 5, 2) := by decide +kernel
theorem dX4_bestNote_41 : decode cX4_bestNote 41 = .ok (.aload_n 1, 1) := by decide +kernel
theorem dX4_bestNote_42 : decode cX4_bestNote 42 = .ok (.getfield 45, 3) := by decide +kernel
theorem dX4_bestNote_45 : decode cX4_bestNote 45 = .ok (.invokevirtual 78, 3) := by decide +kernel
theorem dX4_bestNote_48 : decode cX4_bestNote 48 = .ok (.ifCond .eq 7, 3) := by decide +kernel
theorem dX4_bestNote_51 : decode cX4_bestNote 51 = .ok (.iload 7, 2) := by decide +kernel
theorem dX4_bestNote_53 : decode cX4_bestNote 53 = .ok (.istore 5, 2) := by decide +kernel
theorem dX4_bestNote_55 : decode cX4_bestNote 55 = .ok (.iinc 6 1, 3) := by decide +kernel
theorem dX4_bestNote_58 : decode cX4_bestNote 58 = .ok (.goto (-52), 3) := by decide +kernel
theorem dX4_bestNote_61 : decode cX4_bestNote 61 = .ok (.iload 5, 2) := by decide +kernel
theorem dX4_bestNote_63 : decode cX4_bestNote 63 = .ok (.ireturn, 1) := by decide +kernel
theorem dX4_chooseClaim_0 : decode cX4_chooseClaim 0 = .ok (.aload_n 0, 1) := by decide +kernel
theorem dX4_chooseClaim_1 : decode cX4_chooseClaim 1 = .ok (.iload_n 1, 1) := by decide +kernel
theorem dX4_chooseClaim_2 : decode cX4_chooseClaim 2 = .ok (.iconst 1, 1) := by decide +kernel
theorem dX4_chooseClaim_3 : decode cX4_chooseClaim 3 = .ok (.invokestatic 82, 3) := by decide +kernel
theorem dX4_chooseClaim_6 : decode cX4_chooseClaim 6 = .ok (.istore_n 2, 1) := by decide +kernel
theorem dX4_chooseClaim_7 : decode cX4_chooseClaim 7 = .ok (.iload_n 2, 1) := by decide +kernel
theorem dX4_chooseClaim_8 : decode cX4_chooseClaim 8 = .ok (.bipush (-9), 2) := by decide +kernel
theorem dX4_chooseClaim_10 : decode cX4_chooseClaim 10 = .ok (.if_icmp .ne 10, 3) := by decide +kernel
theorem dX4_chooseClaim_13 : decode cX4_chooseClaim 13 = .ok (.aload_n 0, 1) := by decide +kernel
theorem dX4_chooseClaim_14 : decode cX4_chooseClaim 14 = .ok (.iload_n 1, 1) := by decide +kernel
theorem dX4_chooseClaim_15 : decode cX4_chooseClaim 15 = .ok (.iconst 0, 1) := by decide +kernel
theorem dX4_chooseClaim_16 : decode cX4_chooseClaim 16 = .ok (.invokestatic 82, 3) := by decide +kernel
theorem dX4_chooseClaim_19 : decode cX4_chooseClaim 19 = .ok (.istore_n 2, 1) := by decide +kernel
theorem dX4_chooseClaim_20 : decode cX4_chooseClaim 20 = .ok (.iload_n 2, 1) := by decide +kernel
theorem dX4_chooseClaim_21 : decode cX4_chooseClaim 21 = .ok (.bipush (-9), 2) := by decide +kernel
theorem dX4_chooseClaim_23 : decode cX4_chooseClaim 23 = .ok (.if_icmp .ne 4, 3) := by decide +kernel
theorem dX4_chooseClaim_26 : decode cX4_chooseClaim 26 = .ok (.return_, 1) := by decide +kernel
theorem dX4_chooseClaim_27 : decode cX4_chooseClaim 27 = .ok (.aload_n 0, 1) := by decide +kernel
theorem dX4_chooseClaim_28 : decode cX4_chooseClaim 28 = .ok (.iload_n 1, 1) := by decide +kernel
theorem dX4_chooseClaim_29 : decode cX4_chooseClaim 29 = .ok (.invokevirtual 86, 3) := by decide +kernel
theorem dX4_chooseClaim_32 : decode cX4_chooseClaim 32 = .ok (.pop, 1) := by decide +kernel
theorem dX4_chooseClaim_33 : decode cX4_chooseClaim 33 = .ok (.aload_n 0, 1) := by decide +kernel
theorem dX4_chooseClaim_34 : decode cX4_chooseClaim 34 = .ok (.getfield 18, 3) := by decide +kernel
theorem dX4_chooseClaim_37 : decode cX4_chooseClaim 37 = .ok (.iload_n 1, 1) := by decide +kernel
theorem dX4_chooseClaim_38 : decode cX4_chooseClaim 38 = .ok (.iload_n 2, 1) := by decide +kernel
theorem dX4_chooseClaim_39 : decode cX4_chooseClaim 39 = .ok (.invokestatic 55, 3) := by decide +kernel
theorem dX4_chooseClaim_42 : decode cX4_chooseClaim 42 = .ok (.iload_n 1, 1) := by decide +kernel
theorem dX4_chooseClaim_43 : decode cX4_chooseClaim 43 = .ok (.aload_n 0, 1) := by decide +kernel
theorem dX4_chooseClaim_44 : decode cX4_chooseClaim 44 = .ok (.iload_n 1, 1) := by decide +kernel
theorem dX4_chooseClaim_45 : decode cX4_chooseClaim 45 = .ok (.iload_n 2, 1) := by decide +kernel
theorem dX4_chooseClaim_46 : decode cX4_chooseClaim 46 = .ok (.invokevirtual 89, 3) := by decide +kernel
theorem dX4_chooseClaim_49 : decode cX4_chooseClaim 49 = .ok (.aload_n 0, 1) := by decide +kernel
theorem dX4_chooseClaim_50 : decode cX4_chooseClaim 50 = .ok (.getfield 45, 3) := by decide +kernel
theorem dX4_chooseClaim_53 : decode cX4_chooseClaim 53 = .ok (.aload_n 0, 1) := by decide +kernel
theorem dX4_chooseClaim_54 : decode cX4_chooseClaim 54 = .ok (.getfield 92, 3) := by decide +kernel
theorem dX4_chooseClaim_57 : decode cX4_chooseClaim 57 = .ok (.iadd, 1) := by decide +kernel
theorem dX4_chooseClaim_58 : decode cX4_chooseClaim 58 = .ok (.invokevirtual 95, 3) := by decide +kernel
theorem dX4_chooseClaim_61 : decode cX4_chooseClaim 61 = .ok (.return_, 1) := by decide +kernel
theorem dX4_nearest_0 : decode cX4_nearest 0 = .ok (.bipush (-9), 2) := by decide +kernel
theorem dX4_nearest_2 : decode cX4_nearest 2 = .ok (.istore_n 3, 1) := by decide +kernel
theorem dX4_nearest_3 : decode cX4_nearest 3 = .ok (.iconst 0, 1) := by decide +kernel
theorem dX4_nearest_4 : decode cX4_nearest 4 = .ok (.istore 4, 2) := by decide +kernel
theorem dX4_nearest_6 : decode cX4_nearest 6 = .ok (.iconst 0, 1) := by decide +kernel
theorem dX4_nearest_7 : decode cX4_nearest 7 = .ok (.istore 5, 2) := by decide +kernel
theorem dX4_nearest_9 : decode cX4_nearest 9 = .ok (.iload 5, 2) := by decide +kernel
theorem dX4_nearest_11 : decode cX4_nearest 11 = .ok (.aload_n 0, 1) := by decide +kernel
theorem dX4_nearest_12 : decode cX4_nearest 12 = .ok (.getfield 52, 3) := by decide +kernel
theorem dX4_nearest_15 : decode cX4_nearest 15 = .ok (.if_icmp .ge 81, 3) := by decide +kernel
theorem dX4_nearest_18 : decode cX4_nearest 18 = .ok (.iload_n 2, 1) := by decide +kernel
theorem dX4_nearest_19 : decode cX4_nearest 19 = .ok (.ifCond .eq 13, 3) := by decide +kernel
theorem dX4_nearest_22 : decode cX4_nearest 22 = .ok (.aload_n 0, 1) := by decide +kernel
theorem dX4_nearest_23 : decode cX4_nearest 23 = .ok (.iload_n 1, 1) := by decide +kernel
theorem dX4_nearest_24 : decode cX4_nearest 24 = .ok (.iload 5, 2) := by decide +kernel
theorem dX4_nearest_26 : decode cX4_nearest 26 = .ok (.invokevirtual 99, 3) := by decide +kernel
theorem dX4_nearest_29 : decode cX4_nearest 29 = .ok (.goto 25, 3) := by decide +kernel
theorem dX4_nearest_32 : decode cX4_nearest 32 = .ok (.aload_n 0, 1) := by decide +kernel
theorem dX4_nearest_33 : decode cX4_nearest 33 = .ok (.getfield 18, 3) := by decide +kernel
theorem dX4_nearest_36 : decode cX4_nearest 36 = .ok (.getfield 67, 3) := by decide +kernel
theorem dX4_nearest_39 : decode cX4_nearest 39 = .ok (.iload_n 1, 1) := by decide +kernel
theorem dX4_nearest_40 : decode cX4_nearest 40 = .ok (.iload 5, 2) := by decide +kernel
theorem dX4_nearest_42 : decode cX4_nearest 42 = .ok (.invokestatic 55, 3) := by decide +kernel
theorem dX4_nearest_45 : decode cX4_nearest 45 = .ok (.iaload, 1) := by decide +kernel
theorem dX4_nearest_46 : decode cX4_nearest 46 = .ok (.ifCond .ne 7, 3) := by decide +kernel
theorem dX4_nearest_49 : decode cX4_nearest 49 = .ok (.iconst 1, 1) := by decide +kernel
theorem dX4_nearest_50 : decode cX4_nearest 50 = .ok (.goto 4, 3) := by decide +kernel
theorem dX4_nearest_53 : decode cX4_nearest 53 = .ok (.iconst 0, 1) := by decide +kernel
theorem dX4_nearest_54 : decode cX4_nearest 54 = .ok (.istore 6, 2) := by decide +kernel
theorem dX4_nearest_56 : decode cX4_nearest 56 = .ok (.aload_n 0, 1) := by decide +kernel
theorem dX4_nearest_57 : decode cX4_nearest 57 = .ok (.iload_n 1, 1) := by decide +kernel
theorem dX4_nearest_58 : decode cX4_nearest 58 = .ok (.iload 5, 2) := by decide +kernel
theorem dX4_nearest_60 : decode cX4_nearest 60 = .ok (.invokevirtual 89, 3) := by decide +kernel
theorem dX4_nearest_63 : decode cX4_nearest 63 = .ok (.istore 7, 2) := by decide +kernel
theorem dX4_nearest_65 : decode cX4_nearest 65 = .ok (.iload 6, 2) := by decide +kernel
theorem dX4_nearest_67 : decode cX4_nearest 67 = .ok (.ifCond .eq 23, 3) := by decide +kernel
theorem dX4_nearest_70 : decode cX4_nearest 70 = .ok (.iload_n 3, 1) := by decide +kernel
theorem dX4_nearest_71 : decode cX4_nearest 71 = .ok (.bipush (-9), 2) := by decide +kernel
theorem dX4_nearest_73 : decode cX4_nearest 73 = .ok (.if_icmp .eq 10, 3) := by decide +kernel
theorem dX4_nearest_76 : decode cX4_nearest 76 = .ok (.iload 7, 2) := by decide +kernel
theorem dX4_nearest_78 : decode cX4_nearest 78 = .ok (.iload 4, 2) := by decide +kernel
theorem dX4_nearest_80 : decode cX4_nearest 80 = .ok (.if_icmp .ge 10, 3) := by decide +kernel
theorem dX4_nearest_83 : decode cX4_nearest 83 = .ok (.iload 5, 2) := by decide +kernel
theorem dX4_nearest_85 : decode cX4_nearest 85 = .ok (.istore_n 3, 1) := by decide +kernel
theorem dX4_nearest_86 : decode cX4_nearest 86 = .ok (.iload 7, 2) := by decide +kernel
theorem dX4_nearest_88 : decode cX4_nearest 88 = .ok (.istore 4, 2) := by decide +kernel
theorem dX4_nearest_90 : decode cX4_nearest 90 = .ok (.iinc 5 1, 3) := by decide +kernel
theorem dX4_nearest_93 : decode cX4_nearest 93 = .ok (.goto (-84), 3) := by decide +kernel
theorem dX4_nearest_96 : decode cX4_nearest 96 = .ok (.iload_n 3, 1) := by decide +kernel
theorem dX4_nearest_97 : decode cX4_nearest 97 = .ok (.ireturn, 1) := by decide +kernel
theorem dX4_workOrMove_0 : decode cX4_workOrMove 0 = .ok (.aload_n 0, 1) := by decide +kernel
theorem dX4_workOrMove_1 : decode cX4_workOrMove 1 = .ok (.iload_n 1, 1) := by decide +kernel
theorem dX4_workOrMove_2 : decode cX4_workOrMove 2 = .ok (.invokevirtual 102, 3) := by decide +kernel
theorem dX4_workOrMove_5 : decode cX4_workOrMove 5 = .ok (.istore_n 2, 1) := by decide +kernel
theorem dX4_workOrMove_6 : decode cX4_workOrMove 6 = .ok (.iload_n 2, 1) := by decide +kernel
theorem dX4_workOrMove_7 : decode cX4_workOrMove 7 = .ok (.bipush (-9), 2) := by decide +kernel
theorem dX4_workOrMove_9 : decode cX4_workOrMove 9 = .ok (.if_icmp .ne 4, 3) := by decide +kernel
theorem dX4_workOrMove_12 : decode cX4_workOrMove 12 = .ok (.return_, 1) := by decide +kernel
theorem dX4_workOrMove_13 : decode cX4_workOrMove 13 = .ok (.aload_n 0, 1) := by decide +kernel
theorem dX4_workOrMove_14 : decode cX4_workOrMove 14 = .ok (.iload_n 1, 1) := by decide +kernel
theorem dX4_workOrMove_15 : decode cX4_workOrMove 15 = .ok (.iload_n 2, 1) := by decide +kernel
theorem dX4_workOrMove_16 : decode cX4_workOrMove 16 = .ok (.invokevirtual 89, 3) := by decide +kernel
theorem dX4_workOrMove_19 : decode cX4_workOrMove 19 = .ok (.ifCond .le 21, 3) := by decide +kernel
theorem dX4_workOrMove_22 : decode cX4_workOrMove 22 = .ok (.aload_n 0, 1) := by decide +kernel
theorem dX4_workOrMove_23 : decode cX4_workOrMove 23 = .ok (.iload_n 1, 1) := by decide +kernel
theorem dX4_workOrMove_24 : decode cX4_workOrMove 24 = .ok (.aload_n 0, 1) := by decide +kernel
theorem dX4_workOrMove_25 : decode cX4_workOrMove 25 = .ok (.getfield 105, 3) := by decide +kernel
theorem dX4_workOrMove_28 : decode cX4_workOrMove 28 = .ok (.iload_n 2, 1) := by decide +kernel
theorem dX4_workOrMove_29 : decode cX4_workOrMove 29 = .ok (.iaload, 1) := by decide +kernel
theorem dX4_workOrMove_30 : decode cX4_workOrMove 30 = .ok (.aload_n 0, 1) := by decide +kernel
theorem dX4_workOrMove_31 : decode cX4_workOrMove 31 = .ok (.getfield 108, 3) := by decide +kernel
theorem dX4_workOrMove_34 : decode cX4_workOrMove 34 = .ok (.iload_n 2, 1) := by decide +kernel
theorem dX4_workOrMove_35 : decode cX4_workOrMove 35 = .ok (.iaload, 1) := by decide +kernel
theorem dX4_workOrMove_36 : decode cX4_workOrMove 36 = .ok (.invokestatic 111, 3) := by decide +kernel
theorem dX4_workOrMove_39 : decode cX4_workOrMove 39 = .ok (.return_, 1) := by decide +kernel
theorem dX4_workOrMove_40 : decode cX4_workOrMove 40 = .ok (.aload_n 0, 1) := by decide +kernel
theorem dX4_workOrMove_41 : decode cX4_workOrMove 41 = .ok (.iload_n 2, 1) := by decide +kernel
theorem dX4_workOrMove_42 : decode cX4_workOrMove 42 = .ok (.invokevirtual 115, 3) := by decide +kernel
theorem dX4_workOrMove_45 : decode cX4_workOrMove 45 = .ok (.ifCond .eq 16, 3) := by decide +kernel
theorem dX4_workOrMove_48 : decode cX4_workOrMove 48 = .ok (.aload_n 0, 1) := by decide +kernel
theorem dX4_workOrMove_49 : decode cX4_workOrMove 49 = .ok (.getfield 118, 3) := by decide +kernel
theorem dX4_workOrMove_52 : decode cX4_workOrMove 52 = .ok (.iload_n 1, 1) := by decide +kernel
theorem dX4_workOrMove_53 : decode cX4_workOrMove 53 = .ok (.dup2, 1) := by decide +kernel
theorem dX4_workOrMove_54 : decode cX4_workOrMove 54 = .ok (.iaload, 1) := by decide +kernel
theorem dX4_workOrMove_55 : decode cX4_workOrMove 55 = .ok (.iconst 1, 1) := by decide +kernel
theorem dX4_workOrMove_56 : decode cX4_workOrMove 56 = .ok (.iadd, 1) := by decide +kernel
theorem dX4_workOrMove_57 : decode cX4_workOrMove 57 = .ok (.iastore, 1) := by decide +kernel
theorem dX4_workOrMove_58 : decode cX4_workOrMove 58 = .ok (.goto 13, 3) := by decide +kernel
theorem dX4_workOrMove_61 : decode cX4_workOrMove 61 = .ok (.aload_n 0, 1) := by decide +kernel
theorem dX4_workOrMove_62 : decode cX4_workOrMove 62 = .ok (.getfield 121, 3) := by decide +kernel
theorem dX4_workOrMove_65 : decode cX4_workOrMove 65 = .ok (.iload_n 2, 1) := by decide +kernel
theorem dX4_workOrMove_66 : decode cX4_workOrMove 66 = .ok (.dup2, 1) := by decide +kernel
theorem dX4_workOrMove_67 : decode cX4_workOrMove 67 = .ok (.iaload, 1) := by decide +kernel
theorem dX4_workOrMove_68 : decode cX4_workOrMove 68 = .ok (.iconst 1, 1) := by decide +kernel
theorem dX4_workOrMove_69 : decode cX4_workOrMove 69 = .ok (.iadd, 1) := by decide +kernel
theorem dX4_workOrMove_70 : decode cX4_workOrMove 70 = .ok (.iastore, 1) := by decide +kernel
theorem dX4_workOrMove_71 : decode cX4_workOrMove 71 = .ok (.aload_n 0, 1) := by decide +kernel
theorem dX4_workOrMove_72 : decode cX4_workOrMove 72 = .ok (.iload_n 2, 1) := by decide +kernel
theorem dX4_workOrMove_73 : decode cX4_workOrMove 73 = .ok (.invokevirtual 115, 3) := by decide +kernel
theorem dX4_workOrMove_76 : decode cX4_workOrMove 76 = .ok (.ifCond .eq 17, 3) := by decide +kernel
theorem dX4_workOrMove_79 : decode cX4_workOrMove 79 = .ok (.aload_n 0, 1) := by decide +kernel
theorem dX4_workOrMove_80 : decode cX4_workOrMove 80 = .ok (.getfield 18, 3) := by decide +kernel
theorem dX4_workOrMove_83 : decode cX4_workOrMove 83 = .ok (.getfield 67, 3) := by decide +kernel
theorem dX4_workOrMove_86 : decode cX4_workOrMove 86 = .ok (.iload_n 1, 1) := by decide +kernel
theorem dX4_workOrMove_87 : decode cX4_workOrMove 87 = .ok (.iload_n 2, 1) := by decide +kernel
theorem dX4_workOrMove_88 : decode cX4_workOrMove 88 = .ok (.invokestatic 55, 3) := by decide +kernel
theorem dX4_workOrMove_91 : decode cX4_workOrMove 91 = .ok (.iconst 2, 1) := by decide +kernel
theorem dX4_workOrMove_92 : decode cX4_workOrMove 92 = .ok (.iastore, 1) := by decide +kernel
theorem dX4_workOrMove_93 : decode cX4_workOrMove 93 = .ok (.return_, 1) := by decide +kernel
theorem dX4_moveTowards_0 : decode cX4_moveTowards 0 = .ok (.aload_n 0, 1) := by decide +kernel
theorem dX4_moveTowards_1 : decode cX4_moveTowards 1 = .ok (.getfield 124, 3) := by decide +kernel
theorem dX4_moveTowards_4 : decode cX4_moveTowards 4 = .ok (.iload_n 1, 1) := by decide +kernel
theorem dX4_moveTowards_5 : decode cX4_moveTowards 5 = .ok (.iaload, 1) := by decide +kernel
theorem dX4_moveTowards_6 : decode cX4_moveTowards 6 = .ok (.iload_n 2, 1) := by decide +kernel
theorem dX4_moveTowards_7 : decode cX4_moveTowards 7 = .ok (.if_icmp .eq 30, 3) := by decide +kernel
theorem dX4_moveTowards_10 : decode cX4_moveTowards 10 = .ok (.aload_n 0, 1) := by decide +kernel
theorem dX4_moveTowards_11 : decode cX4_moveTowards 11 = .ok (.getfield 124, 3) := by decide +kernel
theorem dX4_moveTowards_14 : decode cX4_moveTowards 14 = .ok (.iload_n 1, 1) := by decide +kernel
theorem dX4_moveTowards_15 : decode cX4_moveTowards 15 = .ok (.dup2, 1) := by decide +kernel
theorem dX4_moveTowards_16 : decode cX4_moveTowards 16 = .ok (.iaload, 1) := by decide +kernel
theorem dX4_moveTowards_17 : decode cX4_moveTowards 17 = .ok (.aload_n 0, 1) := by decide +kernel
theorem dX4_moveTowards_18 : decode cX4_moveTowards 18 = .ok (.getfield 124, 3) := by decide +kernel
theorem dX4_moveTowards_21 : decode cX4_moveTowards 21 = .ok (.iload_n 1, 1) := by decide +kernel
theorem dX4_moveTowards_22 : decode cX4_moveTowards 22 = .ok (.iaload, 1) := by decide +kernel
theorem dX4_moveTowards_23 : decode cX4_moveTowards 23 = .ok (.iload_n 2, 1) := by decide +kernel
theorem dX4_moveTowards_24 : decode cX4_moveTowards 24 = .ok (.if_icmp .ge 7, 3) := by decide +kernel
theorem dX4_moveTowards_27 : decode cX4_moveTowards 27 = .ok (.iconst 1, 1) := by decide +kernel
theorem dX4_moveTowards_28 : decode cX4_moveTowards 28 = .ok (.goto 4, 3) := by decide +kernel
theorem dX4_moveTowards_31 : decode cX4_moveTowards 31 = .ok (.iconst (-1), 1) := by decide +kernel
theorem dX4_moveTowards_32 : decode cX4_moveTowards 32 = .ok (.iadd, 1) := by decide +kernel
theorem dX4_moveTowards_33 : decode cX4_moveTowards 33 = .ok (.iastore, 1) := by decide +kernel
theorem dX4_moveTowards_34 : decode cX4_moveTowards 34 = .ok (.goto 27, 3) := by decide +kernel
theorem dX4_moveTowards_37 : decode cX4_moveTowards 37 = .ok (.aload_n 0, 1) := by decide +kernel
theorem dX4_moveTowards_38 : decode cX4_moveTowards 38 = .ok (.getfield 127, 3) := by decide +kernel
theorem dX4_moveTowards_41 : decode cX4_moveTowards 41 = .ok (.iload_n 1, 1) := by decide +kernel
theorem dX4_moveTowards_42 : decode cX4_moveTowards 42 = .ok (.dup2, 1) := by decide +kernel
theorem dX4_moveTowards_43 : decode cX4_moveTowards 43 = .ok (.iaload, 1) := by decide +kernel
theorem dX4_moveTowards_44 : decode cX4_moveTowards 44 = .ok (.aload_n 0, 1) := by decide +kernel
theorem dX4_moveTowards_45 : decode cX4_moveTowards 45 = .ok (.getfield 127, 3) := by decide +kernel
theorem dX4_moveTowards_48 : decode cX4_moveTowards 48 = .ok (.iload_n 1, 1) := by decide +kernel
theorem dX4_moveTowards_49 : decode cX4_moveTowards 49 = .ok (.iaload, 1) := by decide +kernel
theorem dX4_moveTowards_50 : decode cX4_moveTowards 50 = .ok (.iload_n 3, 1) := by decide +kernel
theorem dX4_moveTowards_51 : decode cX4_moveTowards 51 = .ok (.if_icmp .ge 7, 3) := by decide +kernel
theorem dX4_moveTowards_54 : decode cX4_moveTowards 54 = .ok (.iconst 1, 1) := by decide +kernel
theorem dX4_moveTowards_55 : decode cX4_moveTowards 55 = .ok (.goto 4, 3) := by decide +kernel
theorem dX4_moveTowards_58 : decode cX4_moveTowards 58 = .ok (.iconst (-1), 1) := by decide +kernel
theorem dX4_moveTowards_59 : decode cX4_moveTowards 59 = .ok (.iadd, 1) := by decide +kernel
theorem dX4_moveTowards_60 : decode cX4_moveTowards 60 = .ok (.iastore, 1) := by decide +kernel
theorem dX4_moveTowards_61 : decode cX4_moveTowards 61 = .ok (.aload_n 0, 1) := by decide +kernel
theorem dX4_moveTowards_62 : decode cX4_moveTowards 62 = .ok (.getfield 130, 3) := by decide +kernel
theorem dX4_moveTowards_65 : decode cX4_moveTowards 65 = .ok (.iload_n 1, 1) := by decide +kernel
theorem dX4_moveTowards_66 : decode cX4_moveTowards 66 = .ok (.dup2, 1) := by decide +kernel
theorem dX4_moveTowards_67 : decode cX4_moveTowards 67 = .ok (.iaload, 1) := by decide +kernel
theorem dX4_moveTowards_68 : decode cX4_moveTowards 68 = .ok (.iconst 1, 1) := by decide +kernel
theorem dX4_moveTowards_69 : decode cX4_moveTowards 69 = .ok (.iadd, 1) := by decide +kernel
theorem dX4_moveTowards_70 : decode cX4_moveTowards 70 = .ok (.iastore, 1) := by decide +kernel
theorem dX4_moveTowards_71 : decode cX4_moveTowards 71 = .ok (.return_, 1) := by decide +kernel
theorem dX5_init_0 : decode cX5_init 0 = .ok (.aload_n 0, 1) := by decide +kernel
theorem dX5_init_1 : decode cX5_init 1 = .ok (.invokespecial 3, 3) := by decide +kernel
theorem dX5_init_4 : decode cX5_init 4 = .ok (.aload_n 0, 1) := by decide +kernel
theorem dX5_init_5 : decode cX5_init 5 = .ok (.bipush 120, 2) := by decide +kernel
theorem dX5_init_7 : decode cX5_init 7 = .ok (.newarray .int, 2) := by decide +kernel
theorem dX5_init_9 : decode cX5_init 9 = .ok (.putfield 9, 3) := by decide +kernel
theorem dX5_init_12 : decode cX5_init 12 = .ok (.return_, 1) := by decide +kernel
theorem dX5_hasRoom_0 : decode cX5_hasRoom 0 = .ok (.aload_n 0, 1) := by decide +kernel
theorem dX5_hasRoom_1 : decode cX5_hasRoom 1 = .ok (.getfield 15, 3) := by decide +kernel
theorem dX5_hasRoom_4 : decode cX5_hasRoom 4 = .ok (.bipush 120, 2) := by decide +kernel
theorem dX5_hasRoom_6 : decode cX5_hasRoom 6 = .ok (.if_icmp .ge 7, 3) := by decide +kernel
theorem dX5_hasRoom_9 : decode cX5_hasRoom 9 = .ok (.iconst 1, 1) := by decide +kernel
theorem dX5_hasRoom_10 : decode cX5_hasRoom 10 = .ok (.goto 4, 3) := by decide +kernel
theorem dX5_hasRoom_13 : decode cX5_hasRoom 13 = .ok (.iconst 0, 1) := by decide +kernel
theorem dX5_hasRoom_14 : decode cX5_hasRoom 14 = .ok (.ireturn, 1) := by decide +kernel
theorem dX5_add_0 : decode cX5_add 0 = .ok (.aload_n 0, 1) := by decide +kernel
theorem dX5_add_1 : decode cX5_add 1 = .ok (.invokevirtual 19, 3) := by decide +kernel
theorem dX5_add_4 : decode cX5_add 4 = .ok (.ifCond .eq 23, 3) := by decide +kernel
theorem dX5_add_7 : decode cX5_add 7 = .ok (.aload_n 0, 1) := by decide +kernel
theorem dX5_add_8 : decode cX5_add 8 = .ok (.getfield 9, 3) := by decide +kernel
theorem dX5_add_11 : decode cX5_add 11 = .ok (.aload_n 0, 1) := by decide +kernel
theorem dX5_add_12 : decode cX5_add 12 = .ok (.getfield 15, 3) := by decide +kernel
theorem dX5_add_15 : decode cX5_add 15 = .ok (.iload_n 1, 1) := by decide +kernel
theorem dX5_add_16 : decode cX5_add 16 = .ok (.iastore, 1) := by decide +kernel
theorem dX5_add_17 : decode cX5_add 17 = .ok (.aload_n 0, 1) := by decide +kernel
theorem dX5_add_18 : decode cX5_add 18 = .ok (.dup, 1) := by decide +kernel
theorem dX5_add_19 : decode cX5_add 19 = .ok (.getfield 15, 3) := by decide +kernel
theorem dX5_add_22 : decode cX5_add 22 = .ok (.iconst 1, 1) := by decide +kernel
theorem dX5_add_23 : decode cX5_add 23 = .ok (.iadd, 1) := by decide +kernel
theorem dX5_add_24 : decode cX5_add 24 = .ok (.putfield 15, 3) := by decide +kernel
theorem dX5_add_27 : decode cX5_add 27 = .ok (.return_, 1) := by decide +kernel
theorem dX5_readInto_0 : decode cX5_readInto 0 = .ok (.aload_n 0, 1) := by decide +kernel
theorem dX5_readInto_1 : decode cX5_readInto 1 = .ok (.iconst 0, 1) := by decide +kernel
theorem dX5_readInto_2 : decode cX5_readInto 2 = .ok (.invokevirtual 23, 3) := by decide +kernel
theorem dX5_readInto_5 : decode cX5_readInto 5 = .ok (.bipush 67, 2) := by decide +kernel
theorem dX5_readInto_7 : decode cX5_readInto 7 = .ok (.if_icmp .eq 5, 3) := by decide +kernel
theorem dX5_readInto_10 : decode cX5_readInto 10 = .ok (.iconst 0, 1) := by decide +kernel
theorem dX5_readInto_11 : decode cX5_readInto 11 = .ok (.ireturn, 1) := by decide +kernel
theorem dX5_readInto_12 : decode cX5_readInto 12 = .ok (.aload_n 0, 1) := by decide +kernel
theorem dX5_readInto_13 : decode cX5_readInto 13 = .ok (.iconst 1, 1) := by decide +kernel
theorem dX5_readInto_14 : decode cX5_readInto 14 = .ok (.iconst 1, 1) := by decide +kernel
theorem dX5_readInto_15 : decode cX5_readInto 15 = .ok (.bipush 20, 2) := by decide +kernel
theorem dX5_readInto_17 : decode cX5_readInto 17 = .ok (.invokevirtual 27, 3) := by decide +kernel
theorem dX5_readInto_20 : decode cX5_readInto 20 = .ok (.istore_n 2, 1) := by decide +kernel
theorem dX5_readInto_21 : decode cX5_readInto 21 = .ok (.iload_n 2, 1) := by decide +kernel
theorem dX5_readInto_22 : decode cX5_readInto 22 = .ok (.bipush (-9), 2) := by decide +kernel
theorem dX5_readInto_24 : decode cX5_readInto 24 = .ok (.if_icmp .eq 5, 3) := by decide +kernel
theorem dX5_readInto_27 : decode cX5_readInto 27 = .ok (.iload_n 2, 1) := by decide +kernel
theorem dX5_readInto_28 : decode cX5_readInto 28 = .ok (.ireturn, 1) := by decide +kernel
theorem dX5_readInto_29 : decode cX5_readInto 29 = .ok (.aload_n 1, 1) := by decide +kernel
theorem dX5_readInto_30 : decode cX5_readInto 30 = .ok (.aload_n 0, 1) := by decide +kernel
theorem dX5_readInto_31 : decode cX5_readInto 31 = .ok (.iconst 1, 1) := by decide +kernel
theorem dX5_readInto_32 : decode cX5_readInto 32 = .ok (.invokevirtual 31, 3) := by decide +kernel
theorem dX5_readInto_35 : decode cX5_readInto 35 = .ok (.invokevirtual 34, 3) := by decide +kernel
theorem dX5_readInto_38 : decode cX5_readInto 38 = .ok (.iconst 3, 1) := by decide +kernel
theorem dX5_readInto_39 : decode cX5_readInto 39 = .ok (.istore_n 3, 1) := by decide +kernel
theorem dX5_readInto_40 : decode cX5_readInto 40 = .ok (.iload_n 3, 1) := by decide +kernel
theorem dX5_readInto_41 : decode cX5_readInto 41 = .ok (.aload_n 0, 1) := by decide +kernel
theorem dX5_readInto_42 : decode cX5_readInto 42 = .ok (.getfield 15, 3) := by decide +kernel
theorem dX5_readInto_45 : decode cX5_readInto 45 = .ok (.if_icmp .ge 68, 3) := by decide +kernel
theorem dX5_readInto_48 : decode cX5_readInto 48 = .ok (.aload_n 0, 1) := by decide +kernel
theorem dX5_readInto_49 : decode cX5_readInto 49 = .ok (.getfield 9, 3) := by decide +kernel
theorem dX5_readInto_52 : decode cX5_readInto 52 = .ok (.iload_n 3, 1) := by decide +kernel
theorem dX5_readInto_53 : decode cX5_readInto 53 = .ok (.iaload, 1) := by decide +kernel
theorem dX5_readInto_54 : decode cX5_readInto 54 = .ok (.bipush 97, 2) := by decide +kernel
theorem dX5_readInto_56 : decode cX5_readInto 56 = .ok (.if_icmp .ne 7, 3) := by decide +kernel
theorem dX5_readInto_59 : decode cX5_readInto 59 = .ok (.iconst 1, 1) := by decide +kernel
theorem dX5_readInto_60 : decode cX5_readInto 60 = .ok (.goto 4, 3) := by decide +kernel
theorem dX5_readInto_63 : decode cX5_readInto 63 = .ok (.iconst 0, 1) := by decide +kernel
theorem dX5_readInto_64 : decode cX5_readInto 64 = .ok (.istore 4, 2) := by decide +kernel
theorem dX5_readInto_66 : decode cX5_readInto 66 = .ok (.iload 4, 2) := by decide +kernel
theorem dX5_readInto_68 : decode cX5_readInto 68 = .ok (.ifCond .eq 12, 3) := by decide +kernel
theorem dX5_readInto_71 : decode cX5_readInto 71 = .ok (.aload_n 0, 1) := by decide +kernel
theorem dX5_readInto_72 : decode cX5_readInto 72 = .ok (.iload_n 3, 1) := by decide +kernel
theorem dX5_readInto_73 : decode cX5_readInto 73 = .ok (.aload_n 1, 1) := by decide +kernel
theorem dX5_readInto_74 : decode cX5_readInto 74 = .ok (.invokevirtual 40, 3) := by decide +kernel
theorem dX5_readInto_77 : decode cX5_readInto 77 = .ok (.goto 9, 3) := by decide +kernel
theorem dX5_readInto_80 : decode cX5_readInto 80 = .ok (.aload_n 0, 1) := by decide +kernel
theorem dX5_readInto_81 : decode cX5_readInto 81 = .ok (.iload_n 3, 1) := by decide +kernel
theorem dX5_readInto_82 : decode cX5_readInto 82 = .ok (.aload_n 1, 1) := by decide +kernel
theorem dX5_readInto_83 : decode cX5_readInto 83 = .ok (.invokevirtual 44, 3) := by decide +kernel
theorem dX5_readInto_86 : decode cX5_readInto 86 = .ok (.istore_n 2, 1) := by decide +kernel
theorem dX5_readInto_87 : decode cX5_readInto 87 = .ok (.iload_n 2, 1) := by decide +kernel
theorem dX5_readInto_88 : decode cX5_readInto 88 = .ok (.bipush (-9), 2) := by decide +kernel
theorem dX5_readInto_90 : decode cX5_readInto 90 = .ok (.if_icmp .eq 5, 3) := by decide +kernel
theorem dX5_readInto_93 : decode cX5_readInto 93 = .ok (.iload_n 2, 1) := by decide +kernel
theorem dX5_readInto_94 : decode cX5_readInto 94 = .ok (.ireturn, 1) := by decide +kernel
theorem dX5_readInto_95 : decode cX5_readInto 95 = .ok (.iload_n 3, 1) := by decide +kernel
theorem dX5_readInto_96 : decode cX5_readInto 96 = .ok (.iload 4, 2) := by decide +kernel
theorem dX5_readInto_98 : decode cX5_readInto 98 = .ok (.ifCond .eq 8, 3) := by decide +kernel
theorem dX5_readInto_101 : decode cX5_readInto 101 = .ok (.bipush 7, 2) := by decide +kernel
theorem dX5_readInto_103 : decode cX5_readInto 103 = .ok (.goto 5, 3) := by decide +kernel
theorem dX5_readInto_106 : decode cX5_readInto 106 = .ok (.bipush 6, 2) := by decide +kernel
theorem dX5_readInto_108 : decode cX5_readInto 108 = .ok (.iadd, 1) := by decide +kernel
theorem dX5_readInto_109 : decode cX5_readInto 109 = .ok (.istore_n 3, 1) := by decide +kernel
theorem dX5_readInto_110 : decode cX5_readInto 110 = .ok (.goto (-70), 3) := by decide +kernel
theorem dX5_readInto_113 : decode cX5_readInto 113 = .ok (.bipush (-9), 2) := by decide +kernel
theorem dX5_readInto_115 : decode cX5_readInto 115 = .ok (.ireturn, 1) := by decide +kernel
theorem dX5_readAgent_0 : decode cX5_readAgent 0 = .ok (.aload_n 2, 1) := by decide +kernel
theorem dX5_readAgent_1 : decode cX5_readAgent 1 = .ok (.getfield 47, 3) := by decide +kernel
theorem dX5_readAgent_4 : decode cX5_readAgent 4 = .ok (.bipush 6, 2) := by decide +kernel
theorem dX5_readAgent_6 : decode cX5_readAgent 6 = .ok (.if_icmp .lt 5, 3) := by decide +kernel
theorem dX5_readAgent_9 : decode cX5_readAgent 9 = .ok (.iload_n 1, 1) := by decide +kernel
theorem dX5_readAgent_10 : decode cX5_readAgent 10 = .ok (.ireturn, 1) := by decide +kernel
theorem dX5_readAgent_11 : decode cX5_readAgent 11 = .ok (.aload_n 0, 1) := by decide +kernel
theorem dX5_readAgent_12 : decode cX5_readAgent 12 = .ok (.iload_n 1, 1) := by decide +kernel
theorem dX5_readAgent_13 : decode cX5_readAgent 13 = .ok (.iconst 1, 1) := by decide +kernel
theorem dX5_readAgent_14 : decode cX5_readAgent 14 = .ok (.iadd, 1) := by decide +kernel
theorem dX5_readAgent_15 : decode cX5_readAgent 15 = .ok (.invokevirtual 50, 3) := by decide +kernel
theorem dX5_readAgent_18 : decode cX5_readAgent 18 = .ok (.istore_n 3, 1) := by decide +kernel
theorem dX5_readAgent_19 : decode cX5_readAgent 19 = .ok (.iload_n 3, 1) := by decide +kernel
theorem dX5_readAgent_20 : decode cX5_readAgent 20 = .ok (.bipush (-9), 2) := by decide +kernel
theorem dX5_readAgent_22 : decode cX5_readAgent 22 = .ok (.if_icmp .ne 14, 3) := by decide +kernel
theorem dX5_readAgent_25 : decode cX5_readAgent 25 = .ok (.aload_n 0, 1) := by decide +kernel
theorem dX5_readAgent_26 : decode cX5_readAgent 26 = .ok (.iload_n 1, 1) := by decide +kernel
theorem dX5_readAgent_27 : decode cX5_readAgent 27 = .ok (.iconst 5, 1) := by decide +kernel
theorem dX5_readAgent_28 : decode cX5_readAgent 28 = .ok (.iadd, 1) := by decide +kernel
theorem dX5_readAgent_29 : decode cX5_readAgent 29 = .ok (.iconst 0, 1) := by decide +kernel
theorem dX5_readAgent_30 : decode cX5_readAgent 30 = .ok (.bipush 22, 2) := by decide +kernel
theorem dX5_readAgent_32 : decode cX5_readAgent 32 = .ok (.invokevirtual 27, 3) := by decide +kernel
theorem dX5_readAgent_35 : decode cX5_readAgent 35 = .ok (.istore_n 3, 1) := by decide +kernel
theorem dX5_readAgent_36 : decode cX5_readAgent 36 = .ok (.iload_n 3, 1) := by decide +kernel
theorem dX5_readAgent_37 : decode cX5_readAgent 37 = .ok (.bipush (-9), 2) := by decide +kernel
theorem dX5_readAgent_39 : decode cX5_readAgent 39 = .ok (.if_icmp .ne 28, 3) := by decide +kernel
theorem dX5_readAgent_42 : decode cX5_readAgent 42 = .ok (.aload_n 2, 1) := by decide +kernel
theorem dX5_readAgent_43 : decode cX5_readAgent 43 = .ok (.aload_n 0, 1) := by decide +kernel
theorem dX5_readAgent_44 : decode cX5_readAgent 44 = .ok (.iload_n 1, 1) := by decide +kernel
theorem dX5_readAgent_45 : decode cX5_readAgent 45 = .ok (.iconst 1, 1) := by decide +kernel
theorem dX5_readAgent_46 : decode cX5_readAgent 46 = .ok (.iadd, 1) := by decide +kernel
theorem dX5_readAgent_47 : decode cX5_readAgent 47 = .ok (.invokevirtual 31, 3) := by decide +kernel
theorem dX5_readAgent_50 : decode cX5_readAgent 50 = .ok (.aload_n 0, 1) := by decide +kernel
theorem dX5_readAgent_51 : decode cX5_readAgent 51 = .ok (.iload_n 1, 1) := by decide +kernel
theorem dX5_readAgent_52 : decode cX5_readAgent 52 = .ok (.iconst 3, 1) := by decide +kernel
theorem dX5_readAgent_53 : decode cX5_readAgent 53 = .ok (.iadd, 1) := by decide +kernel
theorem dX5_readAgent_54 : decode cX5_readAgent 54 = .ok (.invokevirtual 31, 3) := by decide +kernel
theorem dX5_readAgent_57 : decode cX5_readAgent 57 = .ok (.aload_n 0, 1) := by decide +kernel
theorem dX5_readAgent_58 : decode cX5_readAgent 58 = .ok (.iload_n 1, 1) := by decide +kernel
theorem dX5_readAgent_59 : decode cX5_readAgent 59 = .ok (.iconst 5, 1) := by decide +kernel
theorem dX5_readAgent_60 : decode cX5_readAgent 60 = .ok (.iadd, 1) := by decide +kernel
theorem dX5_readAgent_61 : decode cX5_readAgent 61 = .ok (.invokevirtual 31, 3) := by decide +kernel
theorem dX5_readAgent_64 : decode cX5_readAgent 64 = .ok (.invokevirtual 53, 3) := by decide +kernel
theorem dX5_readAgent_67 : decode cX5_readAgent 67 = .ok (.iload_n 3, 1) := by decide +kernel
theorem dX5_readAgent_68 : decode cX5_readAgent 68 = .ok (.ireturn, 1) := by decide +kernel
theorem dX5_readTask_0 : decode cX5_readTask 0 = .ok (.aload_n 0, 1) := by decide +kernel
theorem dX5_readTask_1 : decode cX5_readTask 1 = .ok (.iload_n 1, 1) := by decide +kernel
theorem dX5_readTask_2 : decode cX5_readTask 2 = .ok (.invokevirtual 23, 3) := by decide +kernel
theorem dX5_readTask_5 : decode cX5_readTask 5 = .ok (.bipush 116, 2) := by decide +kernel
theorem dX5_readTask_7 : decode cX5_readTask 7 = .ok (.if_icmp .ne 12, 3) := by decide +kernel
theorem dX5_readTask_10 : decode cX5_readTask 10 = .ok (.aload_n 2, 1) := by decide +kernel
theorem dX5_readTask_11 : decode cX5_readTask 11 = .ok (.getfield 57, 3) := by decide +kernel
theorem dX5_readTask_14 : decode cX5_readTask 14 = .ok (.bipush 8, 2) := by decide +kernel
theorem dX5_readTask_16 : decode cX5_readTask 16 = .ok (.if_icmp .lt 5, 3) := by decide +kernel
theorem dX5_readTask_19 : decode cX5_readTask 19 = .ok (.iload_n 1, 1) := by decide +kernel
theorem dX5_readTask_20 : decode cX5_readTask 20 = .ok (.ireturn, 1) := by decide +kernel
theorem dX5_readTask_21 : decode cX5_readTask 21 = .ok (.aload_n 0, 1) := by decide +kernel
theorem dX5_readTask_22 : decode cX5_readTask 22 = .ok (.iload_n 1, 1) := by decide +kernel
theorem dX5_readTask_23 : decode cX5_readTask 23 = .ok (.iconst 1, 1) := by decide +kernel
theorem dX5_readTask_24 : decode cX5_readTask 24 = .ok (.iadd, 1) := by decide +kernel
theorem dX5_readTask_25 : decode cX5_readTask 25 = .ok (.invokevirtual 50, 3) := by decide +kernel
theorem dX5_readTask_28 : decode cX5_readTask 28 = .ok (.istore_n 3, 1) := by decide +kernel
theorem dX5_readTask_29 : decode cX5_readTask 29 = .ok (.iload_n 3, 1) := by decide +kernel
theorem dX5_readTask_30 : decode cX5_readTask 30 = .ok (.bipush (-9), 2) := by decide +kernel
theorem dX5_readTask_32 : decode cX5_readTask 32 = .ok (.if_icmp .eq 5, 3) := by decide +kernel
theorem dX5_readTask_35 : decode cX5_readTask 35 = .ok (.iload_n 3, 1) := by decide +kernel
theorem dX5_readTask_36 : decode cX5_readTask 36 = .ok (.ireturn, 1) := by decide +kernel
theorem dX5_readTask_37 : decode cX5_readTask 37 = .ok (.aload_n 0, 1) := by decide +kernel
theorem dX5_readTask_38 : decode cX5_readTask 38 = .ok (.iload_n 1, 1) := by decide +kernel
theorem dX5_readTask_39 : decode cX5_readTask 39 = .ok (.iconst 5, 1) := by decide +kernel
theorem dX5_readTask_40 : decode cX5_readTask 40 = .ok (.iadd, 1) := by decide +kernel
theorem dX5_readTask_41 : decode cX5_readTask 41 = .ok (.invokevirtual 60, 3) := by decide +kernel
theorem dX5_readTask_44 : decode cX5_readTask 44 = .ok (.istore 4, 2) := by decide +kernel
theorem dX5_readTask_46 : decode cX5_readTask 46 = .ok (.iload 4, 2) := by decide +kernel
theorem dX5_readTask_48 : decode cX5_readTask 48 = .ok (.iconst 1, 1) := by decide +kernel
theorem dX5_readTask_49 : decode cX5_readTask 49 = .ok (.if_icmp .ge 7, 3) := by decide +kernel
theorem dX5_readTask_52 : decode cX5_readTask 52 = .ok (.iload_n 1, 1) := by decide +kernel
theorem dX5_readTask_53 : decode cX5_readTask 53 = .ok (.iconst 5, 1) := by decide +kernel
theorem dX5_readTask_54 : decode cX5_readTask 54 = .ok (.iadd, 1) := by decide +kernel
theorem dX5_readTask_55 : decode cX5_readTask 55 = .ok (.ireturn, 1) := by decide +kernel
theorem dX5_readTask_56 : decode cX5_readTask 56 = .ok (.aload_n 2, 1) := by decide +kernel
theorem dX5_readTask_57 : decode cX5_readTask 57 = .ok (.aload_n 0, 1) := by decide +kernel
theorem dX5_readTask_58 : decode cX5_readTask 58 = .ok (.iload_n 1, 1) := by decide +kernel
theorem dX5_readTask_59 : decode cX5_readTask 59 = .ok (.iconst 1, 1) := by decide +kernel
theorem dX5_readTask_60 : decode cX5_readTask 60 = .ok (.iadd, 1) := by decide +kernel
theorem dX5_readTask_61 : decode cX5_readTask 61 = .ok (.invokevirtual 31, 3) := by decide +kernel
theorem dX5_readTask_64 : decode cX5_readTask 64 = .ok (.aload_n 0, 1) := by decide +kernel
theorem dX5_readTask_65 : decode cX5_readTask 65 = .ok (.iload_n 1, 1) := by decide +kernel
theorem dX5_readTask_66 : decode cX5_readTask 66 = .ok (.iconst 3, 1) := by decide +kernel
theorem dX5_readTask_67 : decode cX5_readTask 67 = .ok (.iadd, 1) := by decide +kernel
theorem dX5_readTask_68 : decode cX5_readTask 68 = .ok (.invokevirtual 31, 3) := by decide +kernel
theorem dX5_readTask_71 : decode cX5_readTask 71 = .ok (.iload 4, 2) := by decide +kernel
theorem dX5_readTask_73 : decode cX5_readTask 73 = .ok (.invokevirtual 63, 3) := by decide +kernel
theorem dX5_readTask_76 : decode cX5_readTask 76 = .ok (.bipush (-9), 2) := by decide +kernel
theorem dX5_readTask_78 : decode cX5_readTask 78 = .ok (.ireturn, 1) := by decide +kernel
theorem dX5_badInPlace_0 : decode cX5_badInPlace 0 = .ok (.aload_n 0, 1) := by decide +kernel
theorem dX5_badInPlace_1 : decode cX5_badInPlace 1 = .ok (.iload_n 1, 1) := by decide +kernel
theorem dX5_badInPlace_2 : decode cX5_badInPlace 2 = .ok (.iconst 0, 1) := by decide +kernel
theorem dX5_badInPlace_3 : decode cX5_badInPlace 3 = .ok (.bipush 11, 2) := by decide +kernel
theorem dX5_badInPlace_5 : decode cX5_badInPlace 5 = .ok (.invokevirtual 27, 3) := by decide +kernel
theorem dX5_badInPlace_8 : decode cX5_badInPlace 8 = .ok (.istore_n 2, 1) := by decide +kernel
theorem dX5_badInPlace_9 : decode cX5_badInPlace 9 = .ok (.iload_n 2, 1) := by decide +kernel
theorem dX5_badInPlace_10 : decode cX5_badInPlace 10 = .ok (.bipush (-9), 2) := by decide +kernel
theorem dX5_badInPlace_12 : decode cX5_badInPlace 12 = .ok (.if_icmp .eq 7, 3) := by decide +kernel
theorem dX5_badInPlace_15 : decode cX5_badInPlace 15 = .ok (.iload_n 2, 1) := by decide +kernel
theorem dX5_badInPlace_16 : decode cX5_badInPlace 16 = .ok (.goto 13, 3) := by decide +kernel
theorem dX5_badInPlace_19 : decode cX5_badInPlace 19 = .ok (.aload_n 0, 1) := by decide +kernel
theorem dX5_badInPlace_20 : decode cX5_badInPlace 20 = .ok (.iload_n 1, 1) := by decide +kernel
theorem dX5_badInPlace_21 : decode cX5_badInPlace 21 = .ok (.iconst 2, 1) := by decide +kernel
theorem dX5_badInPlace_22 : decode cX5_badInPlace 22 = .ok (.iadd, 1) := by decide +kernel
theorem dX5_badInPlace_23 : decode cX5_badInPlace 23 = .ok (.iconst 0, 1) := by decide +kernel
theorem dX5_badInPlace_24 : decode cX5_badInPlace 24 = .ok (.bipush 11, 2) := by decide +kernel
theorem dX5_badInPlace_26 : decode cX5_badInPlace 26 = .ok (.invokevirtual 27, 3) := by decide +kernel
theorem dX5_badInPlace_29 : decode cX5_badInPlace 29 = .ok (.ireturn, 1) := by decide +kernel
theorem dX5_badInNumber_0 : decode cX5_badInNumber 0 = .ok (.aload_n 0, 1) := by decide +kernel
theorem dX5_badInNumber_1 : decode cX5_badInNumber 1 = .ok (.iload_n 1, 1) := by decide +kernel
theorem dX5_badInNumber_2 : decode cX5_badInNumber 2 = .ok (.invokevirtual 60, 3) := by decide +kernel
theorem dX5_badInNumber_5 : decode cX5_badInNumber 5 = .ok (.istore 4, 2) := by decide +kernel
theorem dX5_badInNumber_7 : decode cX5_badInNumber 7 = .ok (.iload 4, 2) := by decide +kernel
theorem dX5_badInNumber_9 : decode cX5_badInNumber 9 = .ok (.iload_n 2, 1) := by decide +kernel
theorem dX5_badInNumber_10 : decode cX5_badInNumber 10 = .ok (.bipush 10, 2) := by decide +kernel
theorem dX5_badInNumber_12 : decode cX5_badInNumber 12 = .ok (.idiv, 1) := by decide +kernel
theorem dX5_badInNumber_13 : decode cX5_badInNumber 13 = .ok (.if_icmp .lt 12, 3) := by decide +kernel
theorem dX5_badInNumber_16 : decode cX5_badInNumber 16 = .ok (.iload 4, 2) := by decide +kernel
theorem dX5_badInNumber_18 : decode cX5_badInNumber 18 = .ok (.iload_n 3, 1) := by decide +kernel
theorem dX5_badInNumber_19 : decode cX5_badInNumber 19 = .ok (.bipush 10, 2) := by decide +kernel
theorem dX5_badInNumber_21 : decode cX5_badInNumber 21 = .ok (.idiv, 1) := by decide +kernel
theorem dX5_badInNumber_22 : decode cX5_badInNumber 22 = .ok (.if_icmp .le 5, 3) := by decide +kernel
theorem dX5_badInNumber_25 : decode cX5_badInNumber 25 = .ok (.iload_n 1, 1) := by decide +kernel
theorem dX5_badInNumber_26 : decode cX5_badInNumber 26 = .ok (.ireturn, 1) := by decide +kernel
theorem dX5_badInNumber_27 : decode cX5_badInNumber 27 = .ok (.aload_n 0, 1) := by decide +kernel
theorem dX5_badInNumber_28 : decode cX5_badInNumber 28 = .ok (.iload_n 1, 1) := by decide +kernel
theorem dX5_badInNumber_29 : decode cX5_badInNumber 29 = .ok (.iconst 1, 1) := by decide +kernel
theorem dX5_badInNumber_30 : decode cX5_badInNumber 30 = .ok (.iadd, 1) := by decide +kernel
theorem dX5_badInNumber_31 : decode cX5_badInNumber 31 = .ok (.invokevirtual 60, 3) := by decide +kernel
theorem dX5_badInNumber_34 : decode cX5_badInNumber 34 = .ok (.istore 5, 2) := by decide +kernel
theorem dX5_badInNumber_36 : decode cX5_badInNumber 36 = .ok (.bipush 10, 2) := by decide +kernel
theorem dX5_badInNumber_38 : decode cX5_badInNumber 38 = .ok (.iload 4, 2) := by decide +kernel
theorem dX5_badInNumber_40 : decode cX5_badInNumber 40 = .ok (.imul, 1) := by decide +kernel
theorem dX5_badInNumber_41 : decode cX5_badInNumber 41 = .ok (.iload 5, 2) := by decide +kernel
theorem dX5_badInNumber_43 : decode cX5_badInNumber 43 = .ok (.iadd, 1) := by decide +kernel
theorem dX5_badInNumber_44 : decode cX5_badInNumber 44 = .ok (.istore 6, 2) := by decide +kernel
theorem dX5_badInNumber_46 : decode cX5_badInNumber 46 = .ok (.iload 5, 2) := by decide +kernel
theorem dX5_badInNumber_48 : decode cX5_badInNumber 48 = .ok (.ifCond .lt 15, 3) := by decide +kernel
theorem dX5_badInNumber_51 : decode cX5_badInNumber 51 = .ok (.iload 6, 2) := by decide +kernel
theorem dX5_badInNumber_53 : decode cX5_badInNumber 53 = .ok (.iload_n 2, 1) := by decide +kernel
theorem dX5_badInNumber_54 : decode cX5_badInNumber 54 = .ok (.if_icmp .lt 9, 3) := by decide +kernel
theorem dX5_badInNumber_57 : decode cX5_badInNumber 57 = .ok (.iload 6, 2) := by decide +kernel
theorem dX5_badInNumber_59 : decode cX5_badInNumber 59 = .ok (.iload_n 3, 1) := by decide +kernel
theorem dX5_badInNumber_60 : decode cX5_badInNumber 60 = .ok (.if_icmp .le 9, 3) := by decide +kernel
theorem dX5_badInNumber_63 : decode cX5_badInNumber 63 = .ok (.iload_n 1, 1) := by decide +kernel
theorem dX5_badInNumber_64 : decode cX5_badInNumber 64 = .ok (.iconst 1, 1) := by decide +kernel
theorem dX5_badInNumber_65 : decode cX5_badInNumber 65 = .ok (.iadd, 1) := by decide +kernel
theorem dX5_badInNumber_66 : decode cX5_badInNumber 66 = .ok (.goto 5, 3) := by decide +kernel
theorem dX5_badInNumber_69 : decode cX5_badInNumber 69 = .ok (.bipush (-9), 2) := by decide +kernel
theorem dX5_badInNumber_71 : decode cX5_badInNumber 71 = .ok (.ireturn, 1) := by decide +kernel
theorem dX5_numberAt_0 : decode cX5_numberAt 0 = .ok (.bipush 10, 2) := by decide +kernel
theorem dX5_numberAt_2 : decode cX5_numberAt 2 = .ok (.aload_n 0, 1) := by decide +kernel
theorem dX5_numberAt_3 : decode cX5_numberAt 3 = .ok (.iload_n 1, 1) := by decide +kernel
theorem dX5_numberAt_4 : decode cX5_numberAt 4 = .ok (.invokevirtual 60, 3) := by decide +kernel
theorem dX5_numberAt_7 : decode cX5_numberAt 7 = .ok (.imul, 1) := by decide +kernel
theorem dX5_numberAt_8 : decode cX5_numberAt 8 = .ok (.aload_n 0, 1) := by decide +kernel
theorem dX5_numberAt_9 : decode cX5_numberAt 9 = .ok (.iload_n 1, 1) := by decide +kernel
theorem dX5_numberAt_10 : decode cX5_numberAt 10 = .ok (.iconst 1, 1) := by decide +kernel
theorem dX5_numberAt_11 : decode cX5_numberAt 11 = .ok (.iadd, 1) := by decide +kernel
theorem dX5_numberAt_12 : decode cX5_numberAt 12 = .ok (.invokevirtual 60, 3) := by decide +kernel
theorem dX5_numberAt_15 : decode cX5_numberAt 15 = .ok (.iadd, 1) := by decide +kernel
theorem dX5_numberAt_16 : decode cX5_numberAt 16 = .ok (.ireturn, 1) := by decide +kernel
theorem dX5_digitAt_0 : decode cX5_digitAt 0 = .ok (.aload_n 0, 1) := by decide +kernel
theorem dX5_digitAt_1 : decode cX5_digitAt 1 = .ok (.iload_n 1, 1) := by decide +kernel
theorem dX5_digitAt_2 : decode cX5_digitAt 2 = .ok (.invokevirtual 23, 3) := by decide +kernel
theorem dX5_digitAt_5 : decode cX5_digitAt 5 = .ok (.istore_n 2, 1) := by decide +kernel
theorem dX5_digitAt_6 : decode cX5_digitAt 6 = .ok (.iload_n 2, 1) := by decide +kernel
theorem dX5_digitAt_7 : decode cX5_digitAt 7 = .ok (.bipush 48, 2) := by decide +kernel
theorem dX5_digitAt_9 : decode cX5_digitAt 9 = .ok (.if_icmp .lt 16, 3) := by decide +kernel
theorem dX5_digitAt_12 : decode cX5_digitAt 12 = .ok (.iload_n 2, 1) := by decide +kernel
theorem dX5_digitAt_13 : decode cX5_digitAt 13 = .ok (.bipush 57, 2) := by decide +kernel
theorem dX5_digitAt_15 : decode cX5_digitAt 15 = .ok (.if_icmp .gt 10, 3) := by decide +kernel
theorem dX5_digitAt_18 : decode cX5_digitAt 18 = .ok (.iload_n 2, 1) := by decide +kernel
theorem dX5_digitAt_19 : decode cX5_digitAt 19 = .ok (.bipush 48, 2) := by decide +kernel
theorem dX5_digitAt_21 : decode cX5_digitAt 21 = .ok (.isub, 1) := by decide +kernel
theorem dX5_digitAt_22 : decode cX5_digitAt 22 = .ok (.goto 4, 3) := by decide +kernel
theorem dX5_digitAt_25 : decode cX5_digitAt 25 = .ok (.iconst (-1), 1) := by decide +kernel
theorem dX5_digitAt_26 : decode cX5_digitAt 26 = .ok (.ireturn, 1) := by decide +kernel
theorem dX5_codeAt_0 : decode cX5_codeAt 0 = .ok (.iload_n 1, 1) := by decide +kernel
theorem dX5_codeAt_1 : decode cX5_codeAt 1 = .ok (.ifCond .lt 20, 3) := by decide +kernel
theorem dX5_codeAt_4 : decode cX5_codeAt 4 = .ok (.iload_n 1, 1) := by decide +kernel
theorem dX5_codeAt_5 : decode cX5_codeAt 5 = .ok (.aload_n 0, 1) := by decide +kernel
theorem dX5_codeAt_6 : decode cX5_codeAt 6 = .ok (.getfield 15, 3) := by decide +kernel
theorem dX5_codeAt_9 : decode cX5_codeAt 9 = .ok (.if_icmp .ge 12, 3) := by decide +kernel
theorem dX5_codeAt_12 : decode cX5_codeAt 12 = .ok (.aload_n 0, 1) := by decide +kernel
theorem dX5_codeAt_13 : decode cX5_codeAt 13 = .ok (.getfield 9, 3) := by decide +kernel
theorem dX5_codeAt_16 : decode cX5_codeAt 16 = .ok (.iload_n 1, 1) := by decide +kernel
theorem dX5_codeAt_17 : decode cX5_codeAt 17 = .ok (.iaload, 1) := by decide +kernel
theorem dX5_codeAt_18 : decode cX5_codeAt 18 = .ok (.goto 4, 3) := by decide +kernel
theorem dX5_codeAt_21 : decode cX5_codeAt 21 = .ok (.iconst (-1), 1) := by decide +kernel
theorem dX5_codeAt_22 : decode cX5_codeAt 22 = .ok (.ireturn, 1) := by decide +kernel
theorem dJ6_bitCount_0f7a4_0 : decode cJ6_bitCount_0f7a4 0 = .ok (.iload_n 0, 1) := by decide +kernel
theorem dJ6_bitCount_0f7a4_1 : decode cJ6_bitCount_0f7a4 1 = .ok (.iload_n 0, 1) := by decide +kernel
theorem dJ6_bitCount_0f7a4_2 : decode cJ6_bitCount_0f7a4 2 = .ok (.iconst 1, 1) := by decide +kernel
theorem dJ6_bitCount_0f7a4_3 : decode cJ6_bitCount_0f7a4 3 = .ok (.iushr, 1) := by decide +kernel
theorem dJ6_bitCount_0f7a4_4 : decode cJ6_bitCount_0f7a4 4 = .ok (.ldc_w 265, 3) := by decide +kernel
theorem dJ6_bitCount_0f7a4_7 : decode cJ6_bitCount_0f7a4 7 = .ok (.iand, 1) := by decide +kernel
theorem dJ6_bitCount_0f7a4_8 : decode cJ6_bitCount_0f7a4 8 = .ok (.isub, 1) := by decide +kernel
theorem dJ6_bitCount_0f7a4_9 : decode cJ6_bitCount_0f7a4 9 = .ok (.istore_n 0, 1) := by decide +kernel
theorem dJ6_bitCount_0f7a4_10 : decode cJ6_bitCount_0f7a4 10 = .ok (.iload_n 0, 1) := by decide +kernel
theorem dJ6_bitCount_0f7a4_11 : decode cJ6_bitCount_0f7a4 11 = .ok (.ldc_w 266, 3) := by decide +kernel
theorem dJ6_bitCount_0f7a4_14 : decode cJ6_bitCount_0f7a4 14 = .ok (.iand, 1) := by decide +kernel
theorem dJ6_bitCount_0f7a4_15 : decode cJ6_bitCount_0f7a4 15 = .ok (.iload_n 0, 1) := by decide +kernel
theorem dJ6_bitCount_0f7a4_16 : decode cJ6_bitCount_0f7a4 16 = .ok (.iconst 2, 1) := by decide +kernel
theorem dJ6_bitCount_0f7a4_17 : decode cJ6_bitCount_0f7a4 17 = .ok (.iushr, 1) := by decide +kernel
theorem dJ6_bitCount_0f7a4_18 : decode cJ6_bitCount_0f7a4 18 = .ok (.ldc_w 266, 3) := by decide +kernel
theorem dJ6_bitCount_0f7a4_21 : decode cJ6_bitCount_0f7a4 21 = .ok (.iand, 1) := by decide +kernel
theorem dJ6_bitCount_0f7a4_22 : decode cJ6_bitCount_0f7a4 22 = .ok (.iadd, 1) := by decide +kernel
theorem dJ6_bitCount_0f7a4_23 : decode cJ6_bitCount_0f7a4 23 = .ok (.istore_n 0, 1) := by decide +kernel
theorem dJ6_bitCount_0f7a4_24 : decode cJ6_bitCount_0f7a4 24 = .ok (.iload_n 0, 1) := by decide +kernel
theorem dJ6_bitCount_0f7a4_25 : decode cJ6_bitCount_0f7a4 25 = .ok (.iload_n 0, 1) := by decide +kernel
theorem dJ6_bitCount_0f7a4_26 : decode cJ6_bitCount_0f7a4 26 = .ok (.iconst 4, 1) := by decide +kernel
theorem dJ6_bitCount_0f7a4_27 : decode cJ6_bitCount_0f7a4 27 = .ok (.iushr, 1) := by decide +kernel
theorem dJ6_bitCount_0f7a4_28 : decode cJ6_bitCount_0f7a4 28 = .ok (.iadd, 1) := by decide +kernel
theorem dJ6_bitCount_0f7a4_29 : decode cJ6_bitCount_0f7a4 29 = .ok (.ldc_w 267, 3) := by decide +kernel
theorem dJ6_bitCount_0f7a4_32 : decode cJ6_bitCount_0f7a4 32 = .ok (.iand, 1) := by decide +kernel
theorem dJ6_bitCount_0f7a4_33 : decode cJ6_bitCount_0f7a4 33 = .ok (.istore_n 0, 1) := by decide +kernel
theorem dJ6_bitCount_0f7a4_34 : decode cJ6_bitCount_0f7a4 34 = .ok (.iload_n 0, 1) := by decide +kernel
theorem dJ6_bitCount_0f7a4_35 : decode cJ6_bitCount_0f7a4 35 = .ok (.iload_n 0, 1) := by decide +kernel
theorem dJ6_bitCount_0f7a4_36 : decode cJ6_bitCount_0f7a4 36 = .ok (.bipush 8, 2) := by decide +kernel
theorem dJ6_bitCount_0f7a4_38 : decode cJ6_bitCount_0f7a4 38 = .ok (.iushr, 1) := by decide +kernel
theorem dJ6_bitCount_0f7a4_39 : decode cJ6_bitCount_0f7a4 39 = .ok (.iadd, 1) := by decide +kernel
theorem dJ6_bitCount_0f7a4_40 : decode cJ6_bitCount_0f7a4 40 = .ok (.istore_n 0, 1) := by decide +kernel
theorem dJ6_bitCount_0f7a4_41 : decode cJ6_bitCount_0f7a4 41 = .ok (.iload_n 0, 1) := by decide +kernel
theorem dJ6_bitCount_0f7a4_42 : decode cJ6_bitCount_0f7a4 42 = .ok (.iload_n 0, 1) := by decide +kernel
theorem dJ6_bitCount_0f7a4_43 : decode cJ6_bitCount_0f7a4 43 = .ok (.bipush 16, 2) := by decide +kernel
theorem dJ6_bitCount_0f7a4_45 : decode cJ6_bitCount_0f7a4 45 = .ok (.iushr, 1) := by decide +kernel
theorem dJ6_bitCount_0f7a4_46 : decode cJ6_bitCount_0f7a4 46 = .ok (.iadd, 1) := by decide +kernel
theorem dJ6_bitCount_0f7a4_47 : decode cJ6_bitCount_0f7a4 47 = .ok (.istore_n 0, 1) := by decide +kernel
theorem dJ6_bitCount_0f7a4_48 : decode cJ6_bitCount_0f7a4 48 = .ok (.iload_n 0, 1) := by decide +kernel
theorem dJ6_bitCount_0f7a4_49 : decode cJ6_bitCount_0f7a4 49 = .ok (.bipush 63, 2) := by decide +kernel
theorem dJ6_bitCount_0f7a4_51 : decode cJ6_bitCount_0f7a4 51 = .ok (.iand, 1) := by decide +kernel
theorem dJ6_bitCount_0f7a4_52 : decode cJ6_bitCount_0f7a4 52 = .ok (.ireturn, 1) := by decide +kernel
theorem dJ9_max_7cf53_0 : decode cJ9_max_7cf53 0 = .ok (.iload_n 0, 1) := by decide +kernel
theorem dJ9_max_7cf53_1 : decode cJ9_max_7cf53 1 = .ok (.iload_n 1, 1) := by decide +kernel
theorem dJ9_max_7cf53_2 : decode cJ9_max_7cf53 2 = .ok (.if_icmp .lt 7, 3) := by decide +kernel
theorem dJ9_max_7cf53_5 : decode cJ9_max_7cf53 5 = .ok (.iload_n 0, 1) := by decide +kernel
theorem dJ9_max_7cf53_6 : decode cJ9_max_7cf53 6 = .ok (.goto 4, 3) := by decide +kernel
theorem dJ9_max_7cf53_9 : decode cJ9_max_7cf53 9 = .ok (.iload_n 1, 1) := by decide +kernel
theorem dJ9_max_7cf53_10 : decode cJ9_max_7cf53 10 = .ok (.ireturn, 1) := by decide +kernel
theorem dJ9_min_7cf53_0 : decode cJ9_min_7cf53 0 = .ok (.iload_n 0, 1) := by decide +kernel
theorem dJ9_min_7cf53_1 : decode cJ9_min_7cf53 1 = .ok (.iload_n 1, 1) := by decide +kernel
theorem dJ9_min_7cf53_2 : decode cJ9_min_7cf53 2 = .ok (.if_icmp .gt 7, 3) := by decide +kernel
theorem dJ9_min_7cf53_5 : decode cJ9_min_7cf53 5 = .ok (.iload_n 0, 1) := by decide +kernel
theorem dJ9_min_7cf53_6 : decode cJ9_min_7cf53 6 = .ok (.goto 4, 3) := by decide +kernel
theorem dJ9_min_7cf53_9 : decode cJ9_min_7cf53 9 = .ok (.iload_n 1, 1) := by decide +kernel
theorem dJ9_min_7cf53_10 : decode cJ9_min_7cf53 10 = .ok (.ireturn, 1) := by decide +kernel
end
section
theorem dX6_init_0 : decode cX6_init 0 = .ok (.aload_n 0, 1) := by decide +kernel
theorem dX6_init_1 : decode cX6_init 1 = .ok (.invokespecial 3, 3) := by decide +kernel
theorem dX6_init_4 : decode cX6_init 4 = .ok (.aload_n 0, 1) := by decide +kernel
theorem dX6_init_5 : decode cX6_init 5 = .ok (.iconst 5, 1) := by decide +kernel
theorem dX6_init_6 : decode cX6_init 6 = .ok (.putfield 9, 3) := by decide +kernel
theorem dX6_init_9 : decode cX6_init 9 = .ok (.aload_n 0, 1) := by decide +kernel
theorem dX6_init_10 : decode cX6_init 10 = .ok (.bipush 6, 2) := by decide +kernel
theorem dX6_init_12 : decode cX6_init 12 = .ok (.newarray .int, 2) := by decide +kernel
theorem dX6_init_14 : decode cX6_init 14 = .ok (.putfield 15, 3) := by decide +kernel
theorem dX6_init_17 : decode cX6_init 17 = .ok (.aload_n 0, 1) := by decide +kernel
theorem dX6_init_18 : decode cX6_init 18 = .ok (.bipush 6, 2) := by decide +kernel
theorem dX6_init_20 : decode cX6_init 20 = .ok (.newarray .int, 2) := by decide +kernel
theorem dX6_init_22 : decode cX6_init 22 = .ok (.putfield 19, 3) := by decide +kernel
theorem dX6_init_25 : decode cX6_init 25 = .ok (.aload_n 0, 1) := by decide +kernel
theorem dX6_init_26 : decode cX6_init 26 = .ok (.bipush 6, 2) := by decide +kernel
theorem dX6_init_28 : decode cX6_init 28 = .ok (.newarray .int, 2) := by decide +kernel
theorem dX6_init_30 : decode cX6_init 30 = .ok (.putfield 22, 3) := by decide +kernel
theorem dX6_init_33 : decode cX6_init 33 = .ok (.aload_n 0, 1) := by decide +kernel
theorem dX6_init_34 : decode cX6_init 34 = .ok (.bipush 6, 2) := by decide +kernel
theorem dX6_init_36 : decode cX6_init 36 = .ok (.newarray .int, 2) := by decide +kernel
theorem dX6_init_38 : decode cX6_init 38 = .ok (.putfield 25, 3) := by decide +kernel
theorem dX6_init_41 : decode cX6_init 41 = .ok (.aload_n 0, 1) := by decide +kernel
theorem dX6_init_42 : decode cX6_init 42 = .ok (.bipush 6, 2) := by decide +kernel
theorem dX6_init_44 : decode cX6_init 44 = .ok (.newarray .int, 2) := by decide +kernel
theorem dX6_init_46 : decode cX6_init 46 = .ok (.putfield 28, 3) := by decide +kernel
theorem dX6_init_49 : decode cX6_init 49 = .ok (.aload_n 0, 1) := by decide +kernel
theorem dX6_init_50 : decode cX6_init 50 = .ok (.bipush 8, 2) := by decide +kernel
theorem dX6_init_52 : decode cX6_init 52 = .ok (.newarray .int, 2) := by decide +kernel
theorem dX6_init_54 : decode cX6_init 54 = .ok (.putfield 31, 3) := by decide +kernel
theorem dX6_init_57 : decode cX6_init 57 = .ok (.aload_n 0, 1) := by decide +kernel
theorem dX6_init_58 : decode cX6_init 58 = .ok (.bipush 8, 2) := by decide +kernel
theorem dX6_init_60 : decode cX6_init 60 = .ok (.newarray .int, 2) := by decide +kernel
theorem dX6_init_62 : decode cX6_init 62 = .ok (.putfield 34, 3) := by decide +kernel
theorem dX6_init_65 : decode cX6_init 65 = .ok (.aload_n 0, 1) := by decide +kernel
theorem dX6_init_66 : decode cX6_init 66 = .ok (.bipush 8, 2) := by decide +kernel
theorem dX6_init_68 : decode cX6_init 68 = .ok (.newarray .int, 2) := by decide +kernel
theorem dX6_init_70 : decode cX6_init 70 = .ok (.putfield 37, 3) := by decide +kernel
theorem dX6_init_73 : decode cX6_init 73 = .ok (.aload_n 0, 1) := by decide +kernel
theorem dX6_init_74 : decode cX6_init 74 = .ok (.bipush 8, 2) := by decide +kernel
theorem dX6_init_76 : decode cX6_init 76 = .ok (.newarray .int, 2) := by decide +kernel
theorem dX6_init_78 : decode cX6_init 78 = .ok (.putfield 40, 3) := by decide +kernel
theorem dX6_init_81 : decode cX6_init 81 = .ok (.aload_n 0, 1) := by decide +kernel
theorem dX6_init_82 : decode cX6_init 82 = .ok (.new 43, 3) := by decide +kernel
theorem dX6_init_85 : decode cX6_init 85 = .ok (.dup, 1) := by decide +kernel
theorem dX6_init_86 : decode cX6_init 86 = .ok (.invokespecial 45, 3) := by decide +kernel
theorem dX6_init_89 : decode cX6_init 89 = .ok (.putfield 46, 3) := by decide +kernel
theorem dX6_init_92 : decode cX6_init 92 = .ok (.return_, 1) := by decide +kernel
theorem dX6_copyFrom_0 : decode cX6_copyFrom 0 = .ok (.aload_n 0, 1) := by decide +kernel
theorem dX6_copyFrom_1 : decode cX6_copyFrom 1 = .ok (.aload_n 1, 1) := by decide +kernel
theorem dX6_copyFrom_2 : decode cX6_copyFrom 2 = .ok (.getfield 50, 3) := by decide +kernel
theorem dX6_copyFrom_5 : decode cX6_copyFrom 5 = .ok (.putfield 50, 3) := by decide +kernel
theorem dX6_copyFrom_8 : decode cX6_copyFrom 8 = .ok (.aload_n 0, 1) := by decide +kernel
theorem dX6_copyFrom_9 : decode cX6_copyFrom 9 = .ok (.aload_n 1, 1) := by decide +kernel
theorem dX6_copyFrom_10 : decode cX6_copyFrom 10 = .ok (.getfield 53, 3) := by decide +kernel
theorem dX6_copyFrom_13 : decode cX6_copyFrom 13 = .ok (.putfield 53, 3) := by decide +kernel
theorem dX6_copyFrom_16 : decode cX6_copyFrom 16 = .ok (.aload_n 0, 1) := by decide +kernel
theorem dX6_copyFrom_17 : decode cX6_copyFrom 17 = .ok (.aload_n 1, 1) := by decide +kernel
theorem dX6_copyFrom_18 : decode cX6_copyFrom 18 = .ok (.getfield 9, 3) := by decide +kernel
theorem dX6_copyFrom_21 : decode cX6_copyFrom 21 = .ok (.putfield 9, 3) := by decide +kernel
theorem dX6_copyFrom_24 : decode cX6_copyFrom 24 = .ok (.aload_n 0, 1) := by decide +kernel
theorem dX6_copyFrom_25 : decode cX6_copyFrom 25 = .ok (.aload_n 1, 1) := by decide +kernel
theorem dX6_copyFrom_26 : decode cX6_copyFrom 26 = .ok (.getfield 56, 3) := by decide +kernel
theorem dX6_copyFrom_29 : decode cX6_copyFrom 29 = .ok (.putfield 56, 3) := by decide +kernel
theorem dX6_copyFrom_32 : decode cX6_copyFrom 32 = .ok (.aload_n 0, 1) := by decide +kernel
theorem dX6_copyFrom_33 : decode cX6_copyFrom 33 = .ok (.aload_n 1, 1) := by decide +kernel
theorem dX6_copyFrom_34 : decode cX6_copyFrom 34 = .ok (.getfield 59, 3) := by decide +kernel
theorem dX6_copyFrom_37 : decode cX6_copyFrom 37 = .ok (.putfield 59, 3) := by decide +kernel
theorem dX6_copyFrom_40 : decode cX6_copyFrom 40 = .ok (.aload_n 1, 1) := by decide +kernel
theorem dX6_copyFrom_41 : decode cX6_copyFrom 41 = .ok (.getfield 15, 3) := by decide +kernel
theorem dX6_copyFrom_44 : decode cX6_copyFrom 44 = .ok (.iconst 0, 1) := by decide +kernel
theorem dX6_copyFrom_45 : decode cX6_copyFrom 45 = .ok (.aload_n 0, 1) := by decide +kernel
theorem dX6_copyFrom_46 : decode cX6_copyFrom 46 = .ok (.getfield 15, 3) := by decide +kernel
theorem dX6_copyFrom_49 : decode cX6_copyFrom 49 = .ok (.iconst 0, 1) := by decide +kernel
theorem dX6_copyFrom_50 : decode cX6_copyFrom 50 = .ok (.bipush 6, 2) := by decide +kernel
theorem dX6_copyFrom_52 : decode cX6_copyFrom 52 = .ok (.invokestatic 62, 3) := by decide +kernel
theorem dX6_copyFrom_55 : decode cX6_copyFrom 55 = .ok (.aload_n 1, 1) := by decide +kernel
theorem dX6_copyFrom_56 : decode cX6_copyFrom 56 = .ok (.getfield 19, 3) := by decide +kernel
theorem dX6_copyFrom_59 : decode cX6_copyFrom 59 = .ok (.iconst 0, 1) := by decide +kernel
theorem dX6_copyFrom_60 : decode cX6_copyFrom 60 = .ok (.aload_n 0, 1) := by decide +kernel
theorem dX6_copyFrom_61 : decode cX6_copyFrom 61 = .ok (.getfield 19, 3) := by decide +kernel
theorem dX6_copyFrom_64 : decode cX6_copyFrom 64 = .ok (.iconst 0, 1) := by decide +kernel
theorem dX6_copyFrom_65 : decode cX6_copyFrom 65 = .ok (.bipush 6, 2) := by decide +kernel
theorem dX6_copyFrom_67 : decode cX6_copyFrom 67 = .ok (.invokestatic 62, 3) := by decide +kernel
theorem dX6_copyFrom_70 : decode cX6_copyFrom 70 = .ok (.aload_n 1, 1) := by decide +kernel
theorem dX6_copyFrom_71 : decode cX6_copyFrom 71 = .ok (.getfield 22, 3) := by decide +kernel
theorem dX6_copyFrom_74 : decode cX6_copyFrom 74 = .ok (.iconst 0, 1) := by decide +kernel
theorem dX6_copyFrom_75 : decode cX6_copyFrom 75 = .ok (.aload_n 0, 1) := by decide +kernel
theorem dX6_copyFrom_76 : decode cX6_copyFrom 76 = .ok (.getfield 22, 3) := by decide +kernel
theorem dX6_copyFrom_79 : decode cX6_copyFrom 79 = .ok (.iconst 0, 1) := by decide +kernel
theorem dX6_copyFrom_80 : decode cX6_copyFrom 80 = .ok (.bipush 6, 2) := by decide +kernel
theorem dX6_copyFrom_82 : decode cX6_copyFrom 82 = .ok (.invokestatic 62, 3) := by decide +kernel
theorem dX6_copyFrom_85 : decode cX6_copyFrom 85 = .ok (.aload_n 1, 1) := by decide +kernel
theorem dX6_copyFrom_86 : decode cX6_copyFrom 86 = .ok (.getfield 25, 3) := by decide +kernel
theorem dX6_copyFrom_89 : decode cX6_copyFrom 89 = .ok (.iconst 0, 1) := by decide +kernel
theorem dX6_copyFrom_90 : decode cX6_copyFrom 90 = .ok (.aload_n 0, 1) := by decide +kernel
theorem dX6_copyFrom_91 : decode cX6_copyFrom 91 = .ok (.getfield 25, 3) := by decide +kernel
theorem dX6_copyFrom_94 : decode cX6_copyFrom 94 = .ok (.iconst 0, 1) := by decide +kernel
theorem dX6_copyFrom_95 : decode cX6_copyFrom 95 = .ok (.bipush 6, 2) := by decide +kernel
theorem dX6_copyFrom_97 : decode cX6_copyFrom 97 = .ok (.invokestatic 62, 3) := by decide +kernel
theorem dX6_copyFrom_100 : decode cX6_copyFrom 100 = .ok (.aload_n 1, 1) := by decide +kernel
theorem dX6_copyFrom_101 : decode cX6_copyFrom 101 = .ok (.getfield 28, 3) := by decide +kernel
theorem dX6_copyFrom_104 : decode cX6_copyFrom 104 = .ok (.iconst 0, 1) := by decide +kernel
theorem dX6_copyFrom_105 : decode cX6_copyFrom 105 = .ok (.aload_n 0, 1) := by decide +kernel
theorem dX6_copyFrom_106 : decode cX6_copyFrom 106 = .ok (.getfield 28, 3) := by decide +kernel
theorem dX6_copyFrom_109 : decode cX6_copyFrom 109 = .ok (.iconst 0, 1) := by decide +kernel
theorem dX6_copyFrom_110 : decode cX6_copyFrom 110 = .ok (.bipush 6, 2) := by decide +kernel
theorem dX6_copyFrom_112 : decode cX6_copyFrom 112 = .ok (.invokestatic 62, 3) := by decide +kernel
theorem dX6_copyFrom_115 : decode cX6_copyFrom 115 = .ok (.aload_n 1, 1) := by decide +kernel
theorem dX6_copyFrom_116 : decode cX6_copyFrom 116 = .ok (.getfield 31, 3) := by decide +kernel
theorem dX6_copyFrom_119 : decode cX6_copyFrom 119 = .ok (.iconst 0, 1) := by decide +kernel
theorem dX6_copyFrom_120 : decode cX6_copyFrom 120 = .ok (.aload_n 0, 1) := by decide +kernel
theorem dX6_copyFrom_121 : decode cX6_copyFrom 121 = .ok (.getfield 31, 3) := by decide +kernel
theorem dX6_copyFrom_124 : decode cX6_copyFrom 124 = .ok (.iconst 0, 1) := by decide +kernel
theorem dX6_copyFrom_125 : decode cX6_copyFrom 125 = .ok (.bipush 8, 2) := by decide +kernel
theorem dX6_copyFrom_127 : decode cX6_copyFrom 127 = .ok (.invokestatic 62, 3) := by decide +kernel
theorem dX6_copyFrom_130 : decode cX6_copyFrom 130 = .ok (.aload_n 1, 1) := by decide +kernel
theorem dX6_copyFrom_131 : decode cX6_copyFrom 131 = .ok (.getfield 34, 3) := by decide +kernel
theorem dX6_copyFrom_134 : decode cX6_copyFrom 134 = .ok (.iconst 0, 1) := by decide +kernel
theorem dX6_copyFrom_135 : decode cX6_copyFrom 135 = .ok (.aload_n 0, 1) := by decide +kernel
theorem dX6_copyFrom_136 : decode cX6_copyFrom 136 = .ok (.getfield 34, 3) := by decide +kernel
theorem dX6_copyFrom_139 : decode cX6_copyFrom 139 = .ok (.iconst 0, 1) := by decide +kernel
theorem dX6_copyFrom_140 : decode cX6_copyFrom 140 = .ok (.bipush 8, 2) := by decide +kernel
theorem dX6_copyFrom_142 : decode cX6_copyFrom 142 = .ok (.invokestatic 62, 3) := by decide +kernel
theorem dX6_copyFrom_145 : decode cX6_copyFrom 145 = .ok (.aload_n 1, 1) := by decide +kernel
theorem dX6_copyFrom_146 : decode cX6_copyFrom 146 = .ok (.getfield 37, 3) := by decide +kernel
theorem dX6_copyFrom_149 : decode cX6_copyFrom 149 = .ok (.iconst 0, 1) := by decide +kernel
theorem dX6_copyFrom_150 : decode cX6_copyFrom 150 = .ok (.aload_n 0, 1) := by decide +kernel
theorem dX6_copyFrom_151 : decode cX6_copyFrom 151 = .ok (.getfield 37, 3) := by decide +kernel
theorem dX6_copyFrom_154 : decode cX6_copyFrom 154 = .ok (.iconst 0, 1) := by decide +kernel
theorem dX6_copyFrom_155 : decode cX6_copyFrom 155 = .ok (.bipush 8, 2) := by decide +kernel
theorem dX6_copyFrom_157 : decode cX6_copyFrom 157 = .ok (.invokestatic 62, 3) := by decide +kernel
theorem dX6_copyFrom_160 : decode cX6_copyFrom 160 = .ok (.aload_n 1, 1) := by decide +kernel
theorem dX6_copyFrom_161 : decode cX6_copyFrom 161 = .ok (.getfield 40, 3) := by decide +kernel
theorem dX6_copyFrom_164 : decode cX6_copyFrom 164 = .ok (.iconst 0, 1) := by decide +kernel
theorem dX6_copyFrom_165 : decode cX6_copyFrom 165 = .ok (.aload_n 0, 1) := by decide +kernel
theorem dX6_copyFrom_166 : decode cX6_copyFrom 166 = .ok (.getfield 40, 3) := by decide +kernel
theorem dX6_copyFrom_169 : decode cX6_copyFrom 169 = .ok (.iconst 0, 1) := by decide +kernel
theorem dX6_copyFrom_170 : decode cX6_copyFrom 170 = .ok (.bipush 8, 2) := by decide +kernel
theorem dX6_copyFrom_172 : decode cX6_copyFrom 172 = .ok (.invokestatic 62, 3) := by decide +kernel
theorem dX6_copyFrom_175 : decode cX6_copyFrom 175 = .ok (.aload_n 0, 1) := by decide +kernel
theorem dX6_copyFrom_176 : decode cX6_copyFrom 176 = .ok (.getfield 46, 3) := by decide +kernel
theorem dX6_copyFrom_179 : decode cX6_copyFrom 179 = .ok (.aload_n 1, 1) := by decide +kernel
theorem dX6_copyFrom_180 : decode cX6_copyFrom 180 = .ok (.getfield 46, 3) := by decide +kernel
theorem dX6_copyFrom_183 : decode cX6_copyFrom 183 = .ok (.invokevirtual 68, 3) := by decide +kernel
theorem dX6_copyFrom_186 : decode cX6_copyFrom 186 = .ok (.return_, 1) := by decide +kernel
theorem dX6_makeBare_0 : decode cX6_makeBare 0 = .ok (.aload_n 0, 1) := by decide +kernel
theorem dX6_makeBare_1 : decode cX6_makeBare 1 = .ok (.iconst 0, 1) := by decide +kernel
theorem dX6_makeBare_2 : decode cX6_makeBare 2 = .ok (.putfield 50, 3) := by decide +kernel
theorem dX6_makeBare_5 : decode cX6_makeBare 5 = .ok (.aload_n 0, 1) := by decide +kernel
theorem dX6_makeBare_6 : decode cX6_makeBare 6 = .ok (.iconst 0, 1) := by decide +kernel
theorem dX6_makeBare_7 : decode cX6_makeBare 7 = .ok (.putfield 53, 3) := by decide +kernel
theorem dX6_makeBare_10 : decode cX6_makeBare 10 = .ok (.aload_n 0, 1) := by decide +kernel
theorem dX6_makeBare_11 : decode cX6_makeBare 11 = .ok (.iload_n 1, 1) := by decide +kernel
theorem dX6_makeBare_12 : decode cX6_makeBare 12 = .ok (.putfield 9, 3) := by decide +kernel
theorem dX6_makeBare_15 : decode cX6_makeBare 15 = .ok (.aload_n 0, 1) := by decide +kernel
theorem dX6_makeBare_16 : decode cX6_makeBare 16 = .ok (.iconst 0, 1) := by decide +kernel
theorem dX6_makeBare_17 : decode cX6_makeBare 17 = .ok (.putfield 56, 3) := by decide +kernel
theorem dX6_makeBare_20 : decode cX6_makeBare 20 = .ok (.aload_n 0, 1) := by decide +kernel
theorem dX6_makeBare_21 : decode cX6_makeBare 21 = .ok (.iconst 0, 1) := by decide +kernel
theorem dX6_makeBare_22 : decode cX6_makeBare 22 = .ok (.putfield 59, 3) := by decide +kernel
theorem dX6_makeBare_25 : decode cX6_makeBare 25 = .ok (.aload_n 0, 1) := by decide +kernel
theorem dX6_makeBare_26 : decode cX6_makeBare 26 = .ok (.getfield 46, 3) := by decide +kernel
theorem dX6_makeBare_29 : decode cX6_makeBare 29 = .ok (.invokevirtual 72, 3) := by decide +kernel
theorem dX6_makeBare_32 : decode cX6_makeBare 32 = .ok (.return_, 1) := by decide +kernel
theorem dX6_addAgent_0 : decode cX6_addAgent 0 = .ok (.aload_n 0, 1) := by decide +kernel
theorem dX6_addAgent_1 : decode cX6_addAgent 1 = .ok (.getfield 50, 3) := by decide +kernel
theorem dX6_addAgent_4 : decode cX6_addAgent 4 = .ok (.istore 4, 2) := by decide +kernel
theorem dX6_addAgent_6 : decode cX6_addAgent 6 = .ok (.iload 4, 2) := by decide +kernel
theorem dX6_addAgent_8 : decode cX6_addAgent 8 = .ok (.bipush 6, 2) := by decide +kernel
theorem dX6_addAgent_10 : decode cX6_addAgent 10 = .ok (.if_icmp .lt 4, 3) := by decide +kernel
theorem dX6_addAgent_13 : decode cX6_addAgent 13 = .ok (.return_, 1) := by decide +kernel
theorem dX6_addAgent_14 : decode cX6_addAgent 14 = .ok (.aload_n 0, 1) := by decide +kernel
theorem dX6_addAgent_15 : decode cX6_addAgent 15 = .ok (.getfield 15, 3) := by decide +kernel
theorem dX6_addAgent_18 : decode cX6_addAgent 18 = .ok (.iload 4, 2) := by decide +kernel
theorem dX6_addAgent_20 : decode cX6_addAgent 20 = .ok (.iload_n 1, 1) := by decide +kernel
theorem dX6_addAgent_21 : decode cX6_addAgent 21 = .ok (.iastore, 1) := by decide +kernel
theorem dX6_addAgent_22 : decode cX6_addAgent 22 = .ok (.aload_n 0, 1) := by decide +kernel
theorem dX6_addAgent_23 : decode cX6_addAgent 23 = .ok (.getfield 19, 3) := by decide +kernel
theorem dX6_addAgent_26 : decode cX6_addAgent 26 = .ok (.iload 4, 2) := by decide +kernel
theorem dX6_addAgent_28 : decode cX6_addAgent 28 = .ok (.iload_n 2, 1) := by decide +kernel
theorem dX6_addAgent_29 : decode cX6_addAgent 29 = .ok (.iastore, 1) := by decide +kernel
theorem dX6_addAgent_30 : decode cX6_addAgent 30 = .ok (.aload_n 0, 1) := by decide +kernel
theorem dX6_addAgent_31 : decode cX6_addAgent 31 = .ok (.getfield 22, 3) := by decide +kernel
theorem dX6_addAgent_34 : decode cX6_addAgent 34 = .ok (.iload 4, 2) := by decide +kernel
theorem dX6_addAgent_36 : decode cX6_addAgent 36 = .ok (.iload_n 3, 1) := by decide +kernel
theorem dX6_addAgent_37 : decode cX6_addAgent 37 = .ok (.iastore, 1) := by decide +kernel
theorem dX6_addAgent_38 : decode cX6_addAgent 38 = .ok (.aload_n 0, 1) := by decide +kernel
theorem dX6_addAgent_39 : decode cX6_addAgent 39 = .ok (.getfield 25, 3) := by decide +kernel
theorem dX6_addAgent_42 : decode cX6_addAgent 42 = .ok (.iload 4, 2) := by decide +kernel
theorem dX6_addAgent_44 : decode cX6_addAgent 44 = .ok (.iconst 0, 1) := by decide +kernel
theorem dX6_addAgent_45 : decode cX6_addAgent 45 = .ok (.iastore, 1) := by decide +kernel
theorem dX6_addAgent_46 : decode cX6_addAgent 46 = .ok (.aload_n 0, 1) := by decide +kernel
theorem dX6_addAgent_47 : decode cX6_addAgent 47 = .ok (.getfield 28, 3) := by decide +kernel
theorem dX6_addAgent_50 : decode cX6_addAgent 50 = .ok (.iload 4, 2) := by decide +kernel
theorem dX6_addAgent_52 : decode cX6_addAgent 52 = .ok (.iconst 0, 1) := by decide +kernel
theorem dX6_addAgent_53 : decode cX6_addAgent 53 = .ok (.iastore, 1) := by decide +kernel
theorem dX6_addAgent_54 : decode cX6_addAgent 54 = .ok (.aload_n 0, 1) := by decide +kernel
theorem dX6_addAgent_55 : decode cX6_addAgent 55 = .ok (.dup, 1) := by decide +kernel
theorem dX6_addAgent_56 : decode cX6_addAgent 56 = .ok (.getfield 59, 3) := by decide +kernel
theorem dX6_addAgent_59 : decode cX6_addAgent 59 = .ok (.iconst 1, 1) := by decide +kernel
theorem dX6_addAgent_60 : decode cX6_addAgent 60 = .ok (.iload 4, 2) := by decide +kernel
theorem dX6_addAgent_62 : decode cX6_addAgent 62 = .ok (.ishl, 1) := by decide +kernel
theorem dX6_addAgent_63 : decode cX6_addAgent 63 = .ok (.ior, 1) := by decide +kernel
theorem dX6_addAgent_64 : decode cX6_addAgent 64 = .ok (.putfield 59, 3) := by decide +kernel
theorem dX6_addAgent_67 : decode cX6_addAgent 67 = .ok (.aload_n 0, 1) := by decide +kernel
theorem dX6_addAgent_68 : decode cX6_addAgent 68 = .ok (.iload 4, 2) := by decide +kernel
theorem dX6_addAgent_70 : decode cX6_addAgent 70 = .ok (.iconst 1, 1) := by decide +kernel
theorem dX6_addAgent_71 : decode cX6_addAgent 71 = .ok (.iadd, 1) := by decide +kernel
theorem dX6_addAgent_72 : decode cX6_addAgent 72 = .ok (.putfield 50, 3) := by decide +kernel
theorem dX6_addAgent_75 : decode cX6_addAgent 75 = .ok (.return_, 1) := by decide +kernel
theorem dX6_addTask_0 : decode cX6_addTask 0 = .ok (.aload_n 0, 1) := by decide +kernel
theorem dX6_addTask_1 : decode cX6_addTask 1 = .ok (.getfield 53, 3) := by decide +kernel
theorem dX6_addTask_4 : decode cX6_addTask 4 = .ok (.istore 4, 2) := by decide +kernel
theorem dX6_addTask_6 : decode cX6_addTask 6 = .ok (.iload 4, 2) := by decide +kernel
theorem dX6_addTask_8 : decode cX6_addTask 8 = .ok (.bipush 8, 2) := by decide +kernel
theorem dX6_addTask_10 : decode cX6_addTask 10 = .ok (.if_icmp .lt 4, 3) := by decide +kernel
theorem dX6_addTask_13 : decode cX6_addTask 13 = .ok (.return_, 1) := by decide +kernel
theorem dX6_addTask_14 : decode cX6_addTask 14 = .ok (.aload_n 0, 1) := by decide +kernel
theorem dX6_addTask_15 : decode cX6_addTask 15 = .ok (.getfield 31, 3) := by decide +kernel
theorem dX6_addTask_18 : decode cX6_addTask 18 = .ok (.iload 4, 2) := by decide +kernel
theorem dX6_addTask_20 : decode cX6_addTask 20 = .ok (.iload_n 1, 1) := by decide +kernel
theorem dX6_addTask_21 : decode cX6_addTask 21 = .ok (.iastore, 1) := by decide +kernel
theorem dX6_addTask_22 : decode cX6_addTask 22 = .ok (.aload_n 0, 1) := by decide +kernel
theorem dX6_addTask_23 : decode cX6_addTask 23 = .ok (.getfield 34, 3) := by decide +kernel
theorem dX6_addTask_26 : decode cX6_addTask 26 = .ok (.iload 4, 2) := by decide +kernel
theorem dX6_addTask_28 : decode cX6_addTask 28 = .ok (.iload_n 2, 1) := by decide +kernel
theorem dX6_addTask_29 : decode cX6_addTask 29 = .ok (.iastore, 1) := by decide +kernel
theorem dX6_addTask_30 : decode cX6_addTask 30 = .ok (.aload_n 0, 1) := by decide +kernel
theorem dX6_addTask_31 : decode cX6_addTask 31 = .ok (.getfield 37, 3) := by decide +kernel
theorem dX6_addTask_34 : decode cX6_addTask 34 = .ok (.iload 4, 2) := by decide +kernel
theorem dX6_addTask_36 : decode cX6_addTask 36 = .ok (.iload_n 3, 1) := by decide +kernel
theorem dX6_addTask_37 : decode cX6_addTask 37 = .ok (.iastore, 1) := by decide +kernel
theorem dX6_addTask_38 : decode cX6_addTask 38 = .ok (.aload_n 0, 1) := by decide +kernel
theorem dX6_addTask_39 : decode cX6_addTask 39 = .ok (.getfield 40, 3) := by decide +kernel
theorem dX6_addTask_42 : decode cX6_addTask 42 = .ok (.iload 4, 2) := by decide +kernel
theorem dX6_addTask_44 : decode cX6_addTask 44 = .ok (.iconst 0, 1) := by decide +kernel
theorem dX6_addTask_45 : decode cX6_addTask 45 = .ok (.iastore, 1) := by decide +kernel
theorem dX6_addTask_46 : decode cX6_addTask 46 = .ok (.aload_n 0, 1) := by decide +kernel
theorem dX6_addTask_47 : decode cX6_addTask 47 = .ok (.iload 4, 2) := by decide +kernel
theorem dX6_addTask_49 : decode cX6_addTask 49 = .ok (.iconst 1, 1) := by decide +kernel
theorem dX6_addTask_50 : decode cX6_addTask 50 = .ok (.iadd, 1) := by decide +kernel
theorem dX6_addTask_51 : decode cX6_addTask 51 = .ok (.putfield 53, 3) := by decide +kernel
theorem dX6_addTask_54 : decode cX6_addTask 54 = .ok (.return_, 1) := by decide +kernel
theorem dX6_hasAgent_0 : decode cX6_hasAgent 0 = .ok (.iload_n 1, 1) := by decide +kernel
theorem dX6_hasAgent_1 : decode cX6_hasAgent 1 = .ok (.ifCond .lt 15, 3) := by decide +kernel
theorem dX6_hasAgent_4 : decode cX6_hasAgent 4 = .ok (.iload_n 1, 1) := by decide +kernel
theorem dX6_hasAgent_5 : decode cX6_hasAgent 5 = .ok (.aload_n 0, 1) := by decide +kernel
theorem dX6_hasAgent_6 : decode cX6_hasAgent 6 = .ok (.getfield 50, 3) := by decide +kernel
theorem dX6_hasAgent_9 : decode cX6_hasAgent 9 = .ok (.if_icmp .ge 7, 3) := by decide +kernel
theorem dX6_hasAgent_12 : decode cX6_hasAgent 12 = .ok (.iconst 1, 1) := by decide +kernel
theorem dX6_hasAgent_13 : decode cX6_hasAgent 13 = .ok (.goto 4, 3) := by decide +kernel
theorem dX6_hasAgent_16 : decode cX6_hasAgent 16 = .ok (.iconst 0, 1) := by decide +kernel
theorem dX6_hasAgent_17 : decode cX6_hasAgent 17 = .ok (.ireturn, 1) := by decide +kernel
theorem dX6_hasTask_0 : decode cX6_hasTask 0 = .ok (.iload_n 1, 1) := by decide +kernel
theorem dX6_hasTask_1 : decode cX6_hasTask 1 = .ok (.ifCond .lt 15, 3) := by decide +kernel
theorem dX6_hasTask_4 : decode cX6_hasTask 4 = .ok (.iload_n 1, 1) := by decide +kernel
theorem dX6_hasTask_5 : decode cX6_hasTask 5 = .ok (.aload_n 0, 1) := by decide +kernel
theorem dX6_hasTask_6 : decode cX6_hasTask 6 = .ok (.getfield 53, 3) := by decide +kernel
theorem dX6_hasTask_9 : decode cX6_hasTask 9 = .ok (.if_icmp .ge 7, 3) := by decide +kernel
theorem dX6_hasTask_12 : decode cX6_hasTask 12 = .ok (.iconst 1, 1) := by decide +kernel
theorem dX6_hasTask_13 : decode cX6_hasTask 13 = .ok (.goto 4, 3) := by decide +kernel
theorem dX6_hasTask_16 : decode cX6_hasTask 16 = .ok (.iconst 0, 1) := by decide +kernel
theorem dX6_hasTask_17 : decode cX6_hasTask 17 = .ok (.ireturn, 1) := by decide +kernel
theorem dX6_isOn_0 : decode cX6_isOn 0 = .ok (.aload_n 0, 1) := by decide +kernel
theorem dX6_isOn_1 : decode cX6_isOn 1 = .ok (.getfield 59, 3) := by decide +kernel
theorem dX6_isOn_4 : decode cX6_isOn 4 = .ok (.iload_n 1, 1) := by decide +kernel
theorem dX6_isOn_5 : decode cX6_isOn 5 = .ok (.ishr, 1) := by decide +kernel
theorem dX6_isOn_6 : decode cX6_isOn 6 = .ok (.iconst 1, 1) := by decide +kernel
theorem dX6_isOn_7 : decode cX6_isOn 7 = .ok (.iand, 1) := by decide +kernel
theorem dX6_isOn_8 : decode cX6_isOn 8 = .ok (.iconst 1, 1) := by decide +kernel
theorem dX6_isOn_9 : decode cX6_isOn 9 = .ok (.if_icmp .ne 7, 3) := by decide +kernel
theorem dX6_isOn_12 : decode cX6_isOn 12 = .ok (.iconst 1, 1) := by decide +kernel
theorem dX6_isOn_13 : decode cX6_isOn 13 = .ok (.goto 4, 3) := by decide +kernel
theorem dX6_isOn_16 : decode cX6_isOn 16 = .ok (.iconst 0, 1) := by decide +kernel
theorem dX6_isOn_17 : decode cX6_isOn 17 = .ok (.ireturn, 1) := by decide +kernel
theorem dX6_isFinished_0 : decode cX6_isFinished 0 = .ok (.aload_n 0, 1) := by decide +kernel
theorem dX6_isFinished_1 : decode cX6_isFinished 1 = .ok (.getfield 40, 3) := by decide +kernel
theorem dX6_isFinished_4 : decode cX6_isFinished 4 = .ok (.iload_n 1, 1) := by decide +kernel
theorem dX6_isFinished_5 : decode cX6_isFinished 5 = .ok (.iaload, 1) := by decide +kernel
theorem dX6_isFinished_6 : decode cX6_isFinished 6 = .ok (.aload_n 0, 1) := by decide +kernel
theorem dX6_isFinished_7 : decode cX6_isFinished 7 = .ok (.getfield 37, 3) := by decide +kernel
theorem dX6_isFinished_10 : decode cX6_isFinished 10 = .ok (.iload_n 1, 1) := by decide +kernel
theorem dX6_isFinished_11 : decode cX6_isFinished 11 = .ok (.iaload, 1) := by decide +kernel
theorem dX6_isFinished_12 : decode cX6_isFinished 12 = .ok (.if_icmp .ne 7, 3) := by decide +kernel
theorem dX6_isFinished_15 : decode cX6_isFinished 15 = .ok (.iconst 1, 1) := by decide +kernel
theorem dX6_isFinished_16 : decode cX6_isFinished 16 = .ok (.goto 4, 3) := by decide +kernel
theorem dX6_isFinished_19 : decode cX6_isFinished 19 = .ok (.iconst 0, 1) := by decide +kernel
theorem dX6_isFinished_20 : decode cX6_isFinished 20 = .ok (.ireturn, 1) := by decide +kernel
theorem dX6_wayToTask_0 : decode cX6_wayToTask 0 = .ok (.aload_n 0, 1) := by decide +kernel
theorem dX6_wayToTask_1 : decode cX6_wayToTask 1 = .ok (.getfield 15, 3) := by decide +kernel
theorem dX6_wayToTask_4 : decode cX6_wayToTask 4 = .ok (.iload_n 1, 1) := by decide +kernel
theorem dX6_wayToTask_5 : decode cX6_wayToTask 5 = .ok (.iaload, 1) := by decide +kernel
theorem dX6_wayToTask_6 : decode cX6_wayToTask 6 = .ok (.aload_n 0, 1) := by decide +kernel
theorem dX6_wayToTask_7 : decode cX6_wayToTask 7 = .ok (.getfield 19, 3) := by decide +kernel
theorem dX6_wayToTask_10 : decode cX6_wayToTask 10 = .ok (.iload_n 1, 1) := by decide +kernel
theorem dX6_wayToTask_11 : decode cX6_wayToTask 11 = .ok (.iaload, 1) := by decide +kernel
theorem dX6_wayToTask_12 : decode cX6_wayToTask 12 = .ok (.aload_n 0, 1) := by decide +kernel
theorem dX6_wayToTask_13 : decode cX6_wayToTask 13 = .ok (.getfield 31, 3) := by decide +kernel
theorem dX6_wayToTask_16 : decode cX6_wayToTask 16 = .ok (.iload_n 2, 1) := by decide +kernel
theorem dX6_wayToTask_17 : decode cX6_wayToTask 17 = .ok (.iaload, 1) := by decide +kernel
theorem dX6_wayToTask_18 : decode cX6_wayToTask 18 = .ok (.aload_n 0, 1) := by decide +kernel
theorem dX6_wayToTask_19 : decode cX6_wayToTask 19 = .ok (.getfield 34, 3) := by decide +kernel
theorem dX6_wayToTask_22 : decode cX6_wayToTask 22 = .ok (.iload_n 2, 1) := by decide +kernel
theorem dX6_wayToTask_23 : decode cX6_wayToTask 23 = .ok (.iaload, 1) := by decide +kernel
theorem dX6_wayToTask_24 : decode cX6_wayToTask 24 = .ok (.invokestatic 75, 3) := by decide +kernel
theorem dX6_wayToTask_27 : decode cX6_wayToTask 27 = .ok (.ireturn, 1) := by decide +kernel
theorem dX6_ownsLiveClaim_0 : decode cX6_ownsLiveClaim 0 = .ok (.iload_n 1, 1) := by decide +kernel
theorem dX6_ownsLiveClaim_1 : decode cX6_ownsLiveClaim 1 = .ok (.iload_n 2, 1) := by decide +kernel
theorem dX6_ownsLiveClaim_2 : decode cX6_ownsLiveClaim 2 = .ok (.invokestatic 79, 3) := by decide +kernel
theorem dX6_ownsLiveClaim_5 : decode cX6_ownsLiveClaim 5 = .ok (.istore_n 3, 1) := by decide +kernel
theorem dX6_ownsLiveClaim_6 : decode cX6_ownsLiveClaim 6 = .ok (.aload_n 0, 1) := by decide +kernel
theorem dX6_ownsLiveClaim_7 : decode cX6_ownsLiveClaim 7 = .ok (.getfield 46, 3) := by decide +kernel
theorem dX6_ownsLiveClaim_10 : decode cX6_ownsLiveClaim 10 = .ok (.iload_n 3, 1) := by decide +kernel
theorem dX6_ownsLiveClaim_11 : decode cX6_ownsLiveClaim 11 = .ok (.iload_n 1, 1) := by decide +kernel
theorem dX6_ownsLiveClaim_12 : decode cX6_ownsLiveClaim 12 = .ok (.invokevirtual 83, 3) := by decide +kernel
theorem dX6_ownsLiveClaim_15 : decode cX6_ownsLiveClaim 15 = .ok (.ifCond .eq 22, 3) := by decide +kernel
theorem dX6_ownsLiveClaim_18 : decode cX6_ownsLiveClaim 18 = .ok (.aload_n 0, 1) := by decide +kernel
theorem dX6_ownsLiveClaim_19 : decode cX6_ownsLiveClaim 19 = .ok (.getfield 46, 3) := by decide +kernel
theorem dX6_ownsLiveClaim_22 : decode cX6_ownsLiveClaim 22 = .ok (.iload_n 3, 1) := by decide +kernel
theorem dX6_ownsLiveClaim_23 : decode cX6_ownsLiveClaim 23 = .ok (.aload_n 0, 1) := by decide +kernel
theorem dX6_ownsLiveClaim_24 : decode cX6_ownsLiveClaim 24 = .ok (.getfield 56, 3) := by decide +kernel
theorem dX6_ownsLiveClaim_27 : decode cX6_ownsLiveClaim 27 = .ok (.invokevirtual 87, 3) := by decide +kernel
theorem dX6_ownsLiveClaim_30 : decode cX6_ownsLiveClaim 30 = .ok (.ifCond .eq 7, 3) := by decide +kernel
theorem dX6_ownsLiveClaim_33 : decode cX6_ownsLiveClaim 33 = .ok (.iconst 1, 1) := by decide +kernel
theorem dX6_ownsLiveClaim_34 : decode cX6_ownsLiveClaim 34 = .ok (.goto 4, 3) := by decide +kernel
theorem dX6_ownsLiveClaim_37 : decode cX6_ownsLiveClaim 37 = .ok (.iconst 0, 1) := by decide +kernel
theorem dX6_ownsLiveClaim_38 : decode cX6_ownsLiveClaim 38 = .ok (.ireturn, 1) := by decide +kernel
theorem dX6_ownTask_0 : decode cX6_ownTask 0 = .ok (.iconst 0, 1) := by decide +kernel
theorem dX6_ownTask_1 : decode cX6_ownTask 1 = .ok (.istore_n 2, 1) := by decide +kernel
theorem dX6_ownTask_2 : decode cX6_ownTask 2 = .ok (.iload_n 2, 1) := by decide +kernel
theorem dX6_ownTask_3 : decode cX6_ownTask 3 = .ok (.aload_n 0, 1) := by decide +kernel
theorem dX6_ownTask_4 : decode cX6_ownTask 4 = .ok (.getfield 53, 3) := by decide +kernel
theorem dX6_ownTask_7 : decode cX6_ownTask 7 = .ok (.if_icmp .ge 20, 3) := by decide +kernel
theorem dX6_ownTask_10 : decode cX6_ownTask 10 = .ok (.aload_n 0, 1) := by decide +kernel
theorem dX6_ownTask_11 : decode cX6_ownTask 11 = .ok (.iload_n 1, 1) := by decide +kernel
theorem dX6_ownTask_12 : decode cX6_ownTask 12 = .ok (.iload_n 2, 1) := by decide +kernel
theorem dX6_ownTask_13 : decode cX6_ownTask 13 = .ok (.invokevirtual 90, 3) := by decide +kernel
theorem dX6_ownTask_16 : decode cX6_ownTask 16 = .ok (.ifCond .eq 5, 3) := by decide +kernel
theorem dX6_ownTask_19 : decode cX6_ownTask 19 = .ok (.iload_n 2, 1) := by decide +kernel
theorem dX6_ownTask_20 : decode cX6_ownTask 20 = .ok (.ireturn, 1) := by decide +kernel
theorem dX6_ownTask_21 : decode cX6_ownTask 21 = .ok (.iinc 2 1, 3) := by decide +kernel
theorem dX6_ownTask_24 : decode cX6_ownTask 24 = .ok (.goto (-22), 3) := by decide +kernel
theorem dX6_ownTask_27 : decode cX6_ownTask 27 = .ok (.bipush (-9), 2) := by decide +kernel
theorem dX6_ownTask_29 : decode cX6_ownTask 29 = .ok (.ireturn, 1) := by decide +kernel
theorem dX6_areInTouch_0 : decode cX6_areInTouch 0 = .ok (.iload_n 1, 1) := by decide +kernel
theorem dX6_areInTouch_1 : decode cX6_areInTouch 1 = .ok (.iload_n 2, 1) := by decide +kernel
theorem dX6_areInTouch_2 : decode cX6_areInTouch 2 = .ok (.if_icmp .eq 68, 3) := by decide +kernel
theorem dX6_areInTouch_5 : decode cX6_areInTouch 5 = .ok (.aload_n 0, 1) := by decide +kernel
theorem dX6_areInTouch_6 : decode cX6_areInTouch 6 = .ok (.iload_n 1, 1) := by decide +kernel
theorem dX6_areInTouch_7 : decode cX6_areInTouch 7 = .ok (.invokevirtual 93, 3) := by decide +kernel
theorem dX6_areInTouch_10 : decode cX6_areInTouch 10 = .ok (.ifCond .eq 60, 3) := by decide +kernel
theorem dX6_areInTouch_13 : decode cX6_areInTouch 13 = .ok (.aload_n 0, 1) := by decide +kernel
theorem dX6_areInTouch_14 : decode cX6_areInTouch 14 = .ok (.iload_n 2, 1) := by decide +kernel
theorem dX6_areInTouch_15 : decode cX6_areInTouch 15 = .ok (.invokevirtual 93, 3) := by decide +kernel
theorem dX6_areInTouch_18 : decode cX6_areInTouch 18 = .ok (.ifCond .eq 52, 3) := by decide +kernel
theorem dX6_areInTouch_21 : decode cX6_areInTouch 21 = .ok (.aload_n 0, 1) := by decide +kernel
theorem dX6_areInTouch_22 : decode cX6_areInTouch 22 = .ok (.getfield 15, 3) := by decide +kernel
theorem dX6_areInTouch_25 : decode cX6_areInTouch 25 = .ok (.iload_n 1, 1) := by decide +kernel
theorem dX6_areInTouch_26 : decode cX6_areInTouch 26 = .ok (.iaload, 1) := by decide +kernel
theorem dX6_areInTouch_27 : decode cX6_areInTouch 27 = .ok (.aload_n 0, 1) := by decide +kernel
theorem dX6_areInTouch_28 : decode cX6_areInTouch 28 = .ok (.getfield 19, 3) := by decide +kernel
theorem dX6_areInTouch_31 : decode cX6_areInTouch 31 = .ok (.iload_n 1, 1) := by decide +kernel
theorem dX6_areInTouch_32 : decode cX6_areInTouch 32 = .ok (.iaload, 1) := by decide +kernel
theorem dX6_areInTouch_33 : decode cX6_areInTouch 33 = .ok (.aload_n 0, 1) := by decide +kernel
theorem dX6_areInTouch_34 : decode cX6_areInTouch 34 = .ok (.getfield 15, 3) := by decide +kernel
theorem dX6_areInTouch_37 : decode cX6_areInTouch 37 = .ok (.iload_n 2, 1) := by decide +kernel
theorem dX6_areInTouch_38 : decode cX6_areInTouch 38 = .ok (.iaload, 1) := by decide +kernel
theorem dX6_areInTouch_39 : decode cX6_areInTouch 39 = .ok (.aload_n 0, 1) := by decide +kernel
theorem dX6_areInTouch_40 : decode cX6_areInTouch 40 = .ok (.getfield 19, 3) := by decide +kernel
theorem dX6_areInTouch_43 : decode cX6_areInTouch 43 = .ok (.iload_n 2, 1) := by decide +kernel
theorem dX6_areInTouch_44 : decode cX6_areInTouch 44 = .ok (.iaload, 1) := by decide +kernel
theorem dX6_areInTouch_45 : decode cX6_areInTouch 45 = .ok (.invokestatic 75, 3) := by decide +kernel
theorem dX6_areInTouch_48 : decode cX6_areInTouch 48 = .ok (.aload_n 0, 1) := by decide +kernel
theorem dX6_areInTouch_49 : decode cX6_areInTouch 49 = .ok (.getfield 22, 3) := by decide +kernel
theorem dX6_areInTouch_52 : decode cX6_areInTouch 52 = .ok (.iload_n 1, 1) := by decide +kernel
theorem dX6_areInTouch_53 : decode cX6_areInTouch 53 = .ok (.iaload, 1) := by decide +kernel
theorem dX6_areInTouch_54 : decode cX6_areInTouch 54 = .ok (.aload_n 0, 1) := by decide +kernel
theorem dX6_areInTouch_55 : decode cX6_areInTouch 55 = .ok (.getfield 22, 3) := by decide +kernel
theorem dX6_areInTouch_58 : decode cX6_areInTouch 58 = .ok (.iload_n 2, 1) := by decide +kernel
theorem dX6_areInTouch_59 : decode cX6_areInTouch 59 = .ok (.iaload, 1) := by decide +kernel
theorem dX6_areInTouch_60 : decode cX6_areInTouch 60 = .ok (.invokestatic 97, 3) := by decide +kernel
theorem dX6_areInTouch_63 : decode cX6_areInTouch 63 = .ok (.if_icmp .gt 7, 3) := by decide +kernel
theorem dX6_areInTouch_66 : decode cX6_areInTouch 66 = .ok (.iconst 1, 1) := by decide +kernel
theorem dX6_areInTouch_67 : decode cX6_areInTouch 67 = .ok (.goto 4, 3) := by decide +kernel
theorem dX6_areInTouch_70 : decode cX6_areInTouch 70 = .ok (.iconst 0, 1) := by decide +kernel
theorem dX6_areInTouch_71 : decode cX6_areInTouch 71 = .ok (.ireturn, 1) := by decide +kernel
theorem dX6_heardBy_0 : decode cX6_heardBy 0 = .ok (.iconst 0, 1) := by decide +kernel
theorem dX6_heardBy_1 : decode cX6_heardBy 1 = .ok (.istore_n 2, 1) := by decide +kernel
theorem dX6_heardBy_2 : decode cX6_heardBy 2 = .ok (.iconst 0, 1) := by decide +kernel
theorem dX6_heardBy_3 : decode cX6_heardBy 3 = .ok (.istore_n 3, 1) := by decide +kernel
theorem dX6_heardBy_4 : decode cX6_heardBy 4 = .ok (.iload_n 3, 1) := by decide +kernel
theorem dX6_heardBy_5 : decode cX6_heardBy 5 = .ok (.aload_n 0, 1) := by decide +kernel
theorem dX6_heardBy_6 : decode cX6_heardBy 6 = .ok (.getfield 50, 3) := by decide +kernel
theorem dX6_heardBy_9 : decode cX6_heardBy 9 = .ok (.if_icmp .ge 24, 3) := by decide +kernel
theorem dX6_heardBy_12 : decode cX6_heardBy 12 = .ok (.aload_n 0, 1) := by decide +kernel
theorem dX6_heardBy_13 : decode cX6_heardBy 13 = .ok (.iload_n 1, 1) := by decide +kernel
theorem dX6_heardBy_14 : decode cX6_heardBy 14 = .ok (.iload_n 3, 1) := by decide +kernel
theorem dX6_heardBy_15 : decode cX6_heardBy 15 = .ok (.invokevirtual 102, 3) := by decide +kernel
theorem dX6_heardBy_18 : decode cX6_heardBy 18 = .ok (.ifCond .eq 9, 3) := by decide +kernel
theorem dX6_heardBy_21 : decode cX6_heardBy 21 = .ok (.iload_n 2, 1) := by decide +kernel
theorem dX6_heardBy_22 : decode cX6_heardBy 22 = .ok (.iconst 1, 1) := by decide +kernel
theorem dX6_heardBy_23 : decode cX6_heardBy 23 = .ok (.iload_n 3, 1) := by decide +kernel
theorem dX6_heardBy_24 : decode cX6_heardBy 24 = .ok (.ishl, 1) := by decide +kernel
theorem dX6_heardBy_25 : decode cX6_heardBy 25 = .ok (.ior, 1) := by decide +kernel
theorem dX6_heardBy_26 : decode cX6_heardBy 26 = .ok (.istore_n 2, 1) := by decide +kernel
theorem dX6_heardBy_27 : decode cX6_heardBy 27 = .ok (.iinc 3 1, 3) := by decide +kernel
theorem dX6_heardBy_30 : decode cX6_heardBy 30 = .ok (.goto (-26), 3) := by decide +kernel
theorem dX6_heardBy_33 : decode cX6_heardBy 33 = .ok (.iload_n 2, 1) := by decide +kernel
theorem dX6_heardBy_34 : decode cX6_heardBy 34 = .ok (.ireturn, 1) := by decide +kernel
theorem dX6_passedOn_0 : decode cX6_passedOn 0 = .ok (.iload_n 1, 1) := by decide +kernel
theorem dX6_passedOn_1 : decode cX6_passedOn 1 = .ok (.istore_n 2, 1) := by decide +kernel
theorem dX6_passedOn_2 : decode cX6_passedOn 2 = .ok (.iconst 0, 1) := by decide +kernel
theorem dX6_passedOn_3 : decode cX6_passedOn 3 = .ok (.istore_n 3, 1) := by decide +kernel
theorem dX6_passedOn_4 : decode cX6_passedOn 4 = .ok (.iload_n 3, 1) := by decide +kernel
theorem dX6_passedOn_5 : decode cX6_passedOn 5 = .ok (.aload_n 0, 1) := by decide +kernel
theorem dX6_passedOn_6 : decode cX6_passedOn 6 = .ok (.getfield 50, 3) := by decide +kernel
theorem dX6_passedOn_9 : decode cX6_passedOn 9 = .ok (.if_icmp .ge 25, 3) := by decide +kernel
theorem dX6_passedOn_12 : decode cX6_passedOn 12 = .ok (.iload_n 1, 1) := by decide +kernel
theorem dX6_passedOn_13 : decode cX6_passedOn 13 = .ok (.iload_n 3, 1) := by decide +kernel
theorem dX6_passedOn_14 : decode cX6_passedOn 14 = .ok (.invokestatic 105, 3) := by decide +kernel
theorem dX6_passedOn_17 : decode cX6_passedOn 17 = .ok (.ifCond .eq 11, 3) := by decide +kernel
theorem dX6_passedOn_20 : decode cX6_passedOn 20 = .ok (.iload_n 2, 1) := by decide +kernel
theorem dX6_passedOn_21 : decode cX6_passedOn 21 = .ok (.aload_n 0, 1) := by decide +kernel
theorem dX6_passedOn_22 : decode cX6_passedOn 22 = .ok (.iload_n 3, 1) := by decide +kernel
theorem dX6_passedOn_23 : decode cX6_passedOn 23 = .ok (.invokevirtual 108, 3) := by decide +kernel
theorem dX6_passedOn_26 : decode cX6_passedOn 26 = .ok (.ior, 1) := by decide +kernel
theorem dX6_passedOn_27 : decode cX6_passedOn 27 = .ok (.istore_n 2, 1) := by decide +kernel
theorem dX6_passedOn_28 : decode cX6_passedOn 28 = .ok (.iinc 3 1, 3) := by decide +kernel
theorem dX6_passedOn_31 : decode cX6_passedOn 31 = .ok (.goto (-27), 3) := by decide +kernel
theorem dX6_passedOn_34 : decode cX6_passedOn 34 = .ok (.iload_n 2, 1) := by decide +kernel
theorem dX6_passedOn_35 : decode cX6_passedOn 35 = .ok (.ireturn, 1) := by decide +kernel
theorem dX6_groupCount_0 : decode cX6_groupCount 0 = .ok (.aload_n 0, 1) := by decide +kernel
theorem dX6_groupCount_1 : decode cX6_groupCount 1 = .ok (.getfield 59, 3) := by decide +kernel
theorem dX6_groupCount_4 : decode cX6_groupCount 4 = .ok (.istore_n 1, 1) := by decide +kernel
theorem dX6_groupCount_5 : decode cX6_groupCount 5 = .ok (.iconst 0, 1) := by decide +kernel
theorem dX6_groupCount_6 : decode cX6_groupCount 6 = .ok (.istore_n 2, 1) := by decide +kernel
theorem dX6_groupCount_7 : decode cX6_groupCount 7 = .ok (.iconst 0, 1) := by decide +kernel
theorem dX6_groupCount_8 : decode cX6_groupCount 8 = .ok (.istore_n 3, 1) := by decide +kernel
theorem dX6_groupCount_9 : decode cX6_groupCount 9 = .ok (.iload_n 3, 1) := by decide +kernel
theorem dX6_groupCount_10 : decode cX6_groupCount 10 = .ok (.aload_n 0, 1) := by decide +kernel
theorem dX6_groupCount_11 : decode cX6_groupCount 11 = .ok (.getfield 50, 3) := by decide +kernel
theorem dX6_groupCount_14 : decode cX6_groupCount 14 = .ok (.if_icmp .ge 30, 3) := by decide +kernel
theorem dX6_groupCount_17 : decode cX6_groupCount 17 = .ok (.iload_n 1, 1) := by decide +kernel
theorem dX6_groupCount_18 : decode cX6_groupCount 18 = .ok (.iload_n 3, 1) := by decide +kernel
theorem dX6_groupCount_19 : decode cX6_groupCount 19 = .ok (.invokestatic 105, 3) := by decide +kernel
theorem dX6_groupCount_22 : decode cX6_groupCount 22 = .ok (.ifCond .eq 16, 3) := by decide +kernel
theorem dX6_groupCount_25 : decode cX6_groupCount 25 = .ok (.iload_n 1, 1) := by decide +kernel
theorem dX6_groupCount_26 : decode cX6_groupCount 26 = .ok (.aload_n 0, 1) := by decide +kernel
theorem dX6_groupCount_27 : decode cX6_groupCount 27 = .ok (.iload_n 3, 1) := by decide +kernel
theorem dX6_groupCount_28 : decode cX6_groupCount 28 = .ok (.invokevirtual 112, 3) := by decide +kernel
theorem dX6_groupCount_31 : decode cX6_groupCount 31 = .ok (.iconst (-1), 1) := by decide +kernel
theorem dX6_groupCount_32 : decode cX6_groupCount 32 = .ok (.ixor, 1) := by decide +kernel
theorem dX6_groupCount_33 : decode cX6_groupCount 33 = .ok (.iand, 1) := by decide +kernel
theorem dX6_groupCount_34 : decode cX6_groupCount 34 = .ok (.istore_n 1, 1) := by decide +kernel
theorem dX6_groupCount_35 : decode cX6_groupCount 35 = .ok (.iinc 2 1, 3) := by decide +kernel
theorem dX6_groupCount_38 : decode cX6_groupCount 38 = .ok (.iinc 3 1, 3) := by decide +kernel
theorem dX6_groupCount_41 : decode cX6_groupCount 41 = .ok (.goto (-32), 3) := by decide +kernel
theorem dX6_groupCount_44 : decode cX6_groupCount 44 = .ok (.iload_n 2, 1) := by decide +kernel
theorem dX6_groupCount_45 : decode cX6_groupCount 45 = .ok (.ireturn, 1) := by decide +kernel
theorem dX6_groupOf_0 : decode cX6_groupOf 0 = .ok (.iconst 1, 1) := by decide +kernel
theorem dX6_groupOf_1 : decode cX6_groupOf 1 = .ok (.iload_n 1, 1) := by decide +kernel
theorem dX6_groupOf_2 : decode cX6_groupOf 2 = .ok (.ishl, 1) := by decide +kernel
theorem dX6_groupOf_3 : decode cX6_groupOf 3 = .ok (.istore_n 2, 1) := by decide +kernel
theorem dX6_groupOf_4 : decode cX6_groupOf 4 = .ok (.iconst 1, 1) := by decide +kernel
theorem dX6_groupOf_5 : decode cX6_groupOf 5 = .ok (.istore_n 3, 1) := by decide +kernel
theorem dX6_groupOf_6 : decode cX6_groupOf 6 = .ok (.iload_n 3, 1) := by decide +kernel
theorem dX6_groupOf_7 : decode cX6_groupOf 7 = .ok (.bipush 6, 2) := by decide +kernel
theorem dX6_groupOf_9 : decode cX6_groupOf 9 = .ok (.if_icmp .ge 15, 3) := by decide +kernel
theorem dX6_groupOf_12 : decode cX6_groupOf 12 = .ok (.aload_n 0, 1) := by decide +kernel
theorem dX6_groupOf_13 : decode cX6_groupOf 13 = .ok (.iload_n 2, 1) := by decide +kernel
theorem dX6_groupOf_14 : decode cX6_groupOf 14 = .ok (.invokevirtual 115, 3) := by decide +kernel
theorem dX6_groupOf_17 : decode cX6_groupOf 17 = .ok (.istore_n 2, 1) := by decide +kernel
theorem dX6_groupOf_18 : decode cX6_groupOf 18 = .ok (.iinc 3 1, 3) := by decide +kernel
theorem dX6_groupOf_21 : decode cX6_groupOf 21 = .ok (.goto (-15), 3) := by decide +kernel
theorem dX6_groupOf_24 : decode cX6_groupOf 24 = .ok (.iload_n 2, 1) := by decide +kernel
theorem dX6_groupOf_25 : decode cX6_groupOf 25 = .ok (.ireturn, 1) := by decide +kernel
theorem dX6_placeAgent_0 : decode cX6_placeAgent 0 = .ok (.aload_n 0, 1) := by decide +kernel
theorem dX6_placeAgent_1 : decode cX6_placeAgent 1 = .ok (.getfield 15, 3) := by decide +kernel
theorem dX6_placeAgent_4 : decode cX6_placeAgent 4 = .ok (.iload_n 1, 1) := by decide +kernel
theorem dX6_placeAgent_5 : decode cX6_placeAgent 5 = .ok (.iload_n 2, 1) := by decide +kernel
theorem dX6_placeAgent_6 : decode cX6_placeAgent 6 = .ok (.iastore, 1) := by decide +kernel
theorem dX6_placeAgent_7 : decode cX6_placeAgent 7 = .ok (.aload_n 0, 1) := by decide +kernel
theorem dX6_placeAgent_8 : decode cX6_placeAgent 8 = .ok (.getfield 19, 3) := by decide +kernel
theorem dX6_placeAgent_11 : decode cX6_placeAgent 11 = .ok (.iload_n 1, 1) := by decide +kernel
theorem dX6_placeAgent_12 : decode cX6_placeAgent 12 = .ok (.iload_n 3, 1) := by decide +kernel
theorem dX6_placeAgent_13 : decode cX6_placeAgent 13 = .ok (.iastore, 1) := by decide +kernel
theorem dX6_placeAgent_14 : decode cX6_placeAgent 14 = .ok (.return_, 1) := by decide +kernel
theorem dX6_switchAgent_0 : decode cX6_switchAgent 0 = .ok (.aload_n 0, 1) := by decide +kernel
theorem dX6_switchAgent_1 : decode cX6_switchAgent 1 = .ok (.dup, 1) := by decide +kernel
theorem dX6_switchAgent_2 : decode cX6_switchAgent 2 = .ok (.getfield 59, 3) := by decide +kernel
theorem dX6_switchAgent_5 : decode cX6_switchAgent 5 = .ok (.iconst 1, 1) := by decide +kernel
theorem dX6_switchAgent_6 : decode cX6_switchAgent 6 = .ok (.iload_n 1, 1) := by decide +kernel
theorem dX6_switchAgent_7 : decode cX6_switchAgent 7 = .ok (.ishl, 1) := by decide +kernel
theorem dX6_switchAgent_8 : decode cX6_switchAgent 8 = .ok (.ixor, 1) := by decide +kernel
theorem dX6_switchAgent_9 : decode cX6_switchAgent 9 = .ok (.putfield 59, 3) := by decide +kernel
theorem dX6_switchAgent_12 : decode cX6_switchAgent 12 = .ok (.return_, 1) := by decide +kernel
theorem dX6_setAllRanges_0 : decode cX6_setAllRanges 0 = .ok (.iconst 0, 1) := by decide +kernel
theorem dX6_setAllRanges_1 : decode cX6_setAllRanges 1 = .ok (.istore_n 2, 1) := by decide +kernel
theorem dX6_setAllRanges_2 : decode cX6_setAllRanges 2 = .ok (.iload_n 2, 1) := by decide +kernel
theorem dX6_setAllRanges_3 : decode cX6_setAllRanges 3 = .ok (.aload_n 0, 1) := by decide +kernel
theorem dX6_setAllRanges_4 : decode cX6_setAllRanges 4 = .ok (.getfield 50, 3) := by decide +kernel
theorem dX6_setAllRanges_7 : decode cX6_setAllRanges 7 = .ok (.if_icmp .ge 16, 3) := by decide +kernel
theorem dX6_setAllRanges_10 : decode cX6_setAllRanges 10 = .ok (.aload_n 0, 1) := by decide +kernel
theorem dX6_setAllRanges_11 : decode cX6_setAllRanges 11 = .ok (.getfield 22, 3) := by decide +kernel
theorem dX6_setAllRanges_14 : decode cX6_setAllRanges 14 = .ok (.iload_n 2, 1) := by decide +kernel
theorem dX6_setAllRanges_15 : decode cX6_setAllRanges 15 = .ok (.iload_n 1, 1) := by decide +kernel
theorem dX6_setAllRanges_16 : decode cX6_setAllRanges 16 = .ok (.iastore, 1) := by decide +kernel
theorem dX6_setAllRanges_17 : decode cX6_setAllRanges 17 = .ok (.iinc 2 1, 3) := by decide +kernel
theorem dX6_setAllRanges_20 : decode cX6_setAllRanges 20 = .ok (.goto (-18), 3) := by decide +kernel
theorem dX6_setAllRanges_23 : decode cX6_setAllRanges 23 = .ok (.return_, 1) := by decide +kernel
theorem dX6_canPassClaim_0 : decode cX6_canPassClaim 0 = .ok (.aload_n 0, 1) := by decide +kernel
theorem dX6_canPassClaim_1 : decode cX6_canPassClaim 1 = .ok (.iload_n 1, 1) := by decide +kernel
theorem dX6_canPassClaim_2 : decode cX6_canPassClaim 2 = .ok (.iload_n 2, 1) := by decide +kernel
theorem dX6_canPassClaim_3 : decode cX6_canPassClaim 3 = .ok (.invokevirtual 102, 3) := by decide +kernel
theorem dX6_canPassClaim_6 : decode cX6_canPassClaim 6 = .ok (.ifCond .eq 27, 3) := by decide +kernel
theorem dX6_canPassClaim_9 : decode cX6_canPassClaim 9 = .ok (.aload_n 0, 1) := by decide +kernel
theorem dX6_canPassClaim_10 : decode cX6_canPassClaim 10 = .ok (.iload_n 1, 1) := by decide +kernel
theorem dX6_canPassClaim_11 : decode cX6_canPassClaim 11 = .ok (.invokevirtual 118, 3) := by decide +kernel
theorem dX6_canPassClaim_14 : decode cX6_canPassClaim 14 = .ok (.bipush (-9), 2) := by decide +kernel
theorem dX6_canPassClaim_16 : decode cX6_canPassClaim 16 = .ok (.if_icmp .eq 17, 3) := by decide +kernel
theorem dX6_canPassClaim_19 : decode cX6_canPassClaim 19 = .ok (.aload_n 0, 1) := by decide +kernel
theorem dX6_canPassClaim_20 : decode cX6_canPassClaim 20 = .ok (.iload_n 2, 1) := by decide +kernel
theorem dX6_canPassClaim_21 : decode cX6_canPassClaim 21 = .ok (.invokevirtual 118, 3) := by decide +kernel
theorem dX6_canPassClaim_24 : decode cX6_canPassClaim 24 = .ok (.bipush (-9), 2) := by decide +kernel
theorem dX6_canPassClaim_26 : decode cX6_canPassClaim 26 = .ok (.if_icmp .ne 7, 3) := by decide +kernel
theorem dX6_canPassClaim_29 : decode cX6_canPassClaim 29 = .ok (.iconst 1, 1) := by decide +kernel
theorem dX6_canPassClaim_30 : decode cX6_canPassClaim 30 = .ok (.goto 4, 3) := by decide +kernel
theorem dX6_canPassClaim_33 : decode cX6_canPassClaim 33 = .ok (.iconst 0, 1) := by decide +kernel
theorem dX6_canPassClaim_34 : decode cX6_canPassClaim 34 = .ok (.ireturn, 1) := by decide +kernel
theorem dX6_passClaim_0 : decode cX6_passClaim 0 = .ok (.aload_n 0, 1) := by decide +kernel
theorem dX6_passClaim_1 : decode cX6_passClaim 1 = .ok (.iload_n 1, 1) := by decide +kernel
theorem dX6_passClaim_2 : decode cX6_passClaim 2 = .ok (.invokevirtual 118, 3) := by decide +kernel
theorem dX6_passClaim_5 : decode cX6_passClaim 5 = .ok (.istore_n 3, 1) := by decide +kernel
theorem dX6_passClaim_6 : decode cX6_passClaim 6 = .ok (.iload_n 3, 1) := by decide +kernel
theorem dX6_passClaim_7 : decode cX6_passClaim 7 = .ok (.bipush (-9), 2) := by decide +kernel
theorem dX6_passClaim_9 : decode cX6_passClaim 9 = .ok (.if_icmp .ne 4, 3) := by decide +kernel
theorem dX6_passClaim_12 : decode cX6_passClaim 12 = .ok (.return_, 1) := by decide +kernel
theorem dX6_passClaim_13 : decode cX6_passClaim 13 = .ok (.aload_n 0, 1) := by decide +kernel
theorem dX6_passClaim_14 : decode cX6_passClaim 14 = .ok (.iload_n 2, 1) := by decide +kernel
theorem dX6_passClaim_15 : decode cX6_passClaim 15 = .ok (.iload_n 3, 1) := by decide +kernel
theorem dX6_passClaim_16 : decode cX6_passClaim 16 = .ok (.invokevirtual 121, 3) := by decide +kernel
theorem dX6_passClaim_19 : decode cX6_passClaim 19 = .ok (.istore 4, 2) := by decide +kernel
theorem dX6_passClaim_21 : decode cX6_passClaim 21 = .ok (.aload_n 0, 1) := by decide +kernel
theorem dX6_passClaim_22 : decode cX6_passClaim 22 = .ok (.getfield 46, 3) := by decide +kernel
theorem dX6_passClaim_25 : decode cX6_passClaim 25 = .ok (.iload_n 1, 1) := by decide +kernel
theorem dX6_passClaim_26 : decode cX6_passClaim 26 = .ok (.iload_n 3, 1) := by decide +kernel
theorem dX6_passClaim_27 : decode cX6_passClaim 27 = .ok (.invokestatic 79, 3) := by decide +kernel
theorem dX6_passClaim_30 : decode cX6_passClaim 30 = .ok (.iload_n 2, 1) := by decide +kernel
theorem dX6_passClaim_31 : decode cX6_passClaim 31 = .ok (.iload 4, 2) := by decide +kernel
theorem dX6_passClaim_33 : decode cX6_passClaim 33 = .ok (.aload_n 0, 1) := by decide +kernel
theorem dX6_passClaim_34 : decode cX6_passClaim 34 = .ok (.getfield 56, 3) := by decide +kernel
theorem dX6_passClaim_37 : decode cX6_passClaim 37 = .ok (.aload_n 0, 1) := by decide +kernel
theorem dX6_passClaim_38 : decode cX6_passClaim 38 = .ok (.getfield 9, 3) := by decide +kernel
theorem dX6_passClaim_41 : decode cX6_passClaim 41 = .ok (.iadd, 1) := by decide +kernel
theorem dX6_passClaim_42 : decode cX6_passClaim 42 = .ok (.invokevirtual 124, 3) := by decide +kernel
theorem dX6_passClaim_45 : decode cX6_passClaim 45 = .ok (.aload_n 0, 1) := by decide +kernel
theorem dX6_passClaim_46 : decode cX6_passClaim 46 = .ok (.getfield 46, 3) := by decide +kernel
theorem dX6_passClaim_49 : decode cX6_passClaim 49 = .ok (.iload_n 2, 1) := by decide +kernel
theorem dX6_passClaim_50 : decode cX6_passClaim 50 = .ok (.iload_n 3, 1) := by decide +kernel
theorem dX6_passClaim_51 : decode cX6_passClaim 51 = .ok (.invokestatic 79, 3) := by decide +kernel
theorem dX6_passClaim_54 : decode cX6_passClaim 54 = .ok (.iload_n 2, 1) := by decide +kernel
theorem dX6_passClaim_55 : decode cX6_passClaim 55 = .ok (.iload 4, 2) := by decide +kernel
theorem dX6_passClaim_57 : decode cX6_passClaim 57 = .ok (.aload_n 0, 1) := by decide +kernel
theorem dX6_passClaim_58 : decode cX6_passClaim 58 = .ok (.getfield 56, 3) := by decide +kernel
theorem dX6_passClaim_61 : decode cX6_passClaim 61 = .ok (.aload_n 0, 1) := by decide +kernel
theorem dX6_passClaim_62 : decode cX6_passClaim 62 = .ok (.getfield 9, 3) := by decide +kernel
theorem dX6_passClaim_65 : decode cX6_passClaim 65 = .ok (.iadd, 1) := by decide +kernel
theorem dX6_passClaim_66 : decode cX6_passClaim 66 = .ok (.invokevirtual 124, 3) := by decide +kernel
theorem dX6_passClaim_69 : decode cX6_passClaim 69 = .ok (.return_, 1) := by decide +kernel
theorem dX6_dropClaims_0 : decode cX6_dropClaims 0 = .ok (.iconst 0, 1) := by decide +kernel
theorem dX6_dropClaims_1 : decode cX6_dropClaims 1 = .ok (.istore_n 2, 1) := by decide +kernel
theorem dX6_dropClaims_2 : decode cX6_dropClaims 2 = .ok (.iconst 0, 1) := by decide +kernel
theorem dX6_dropClaims_3 : decode cX6_dropClaims 3 = .ok (.istore_n 3, 1) := by decide +kernel
theorem dX6_dropClaims_4 : decode cX6_dropClaims 4 = .ok (.iload_n 3, 1) := by decide +kernel
theorem dX6_dropClaims_5 : decode cX6_dropClaims 5 = .ok (.aload_n 0, 1) := by decide +kernel
theorem dX6_dropClaims_6 : decode cX6_dropClaims 6 = .ok (.getfield 53, 3) := by decide +kernel
theorem dX6_dropClaims_9 : decode cX6_dropClaims 9 = .ok (.if_icmp .ge 43, 3) := by decide +kernel
theorem dX6_dropClaims_12 : decode cX6_dropClaims 12 = .ok (.iload_n 1, 1) := by decide +kernel
theorem dX6_dropClaims_13 : decode cX6_dropClaims 13 = .ok (.iload_n 3, 1) := by decide +kernel
theorem dX6_dropClaims_14 : decode cX6_dropClaims 14 = .ok (.invokestatic 79, 3) := by decide +kernel
theorem dX6_dropClaims_17 : decode cX6_dropClaims 17 = .ok (.istore 4, 2) := by decide +kernel
theorem dX6_dropClaims_19 : decode cX6_dropClaims 19 = .ok (.aload_n 0, 1) := by decide +kernel
theorem dX6_dropClaims_20 : decode cX6_dropClaims 20 = .ok (.getfield 46, 3) := by decide +kernel
theorem dX6_dropClaims_23 : decode cX6_dropClaims 23 = .ok (.iload 4, 2) := by decide +kernel
theorem dX6_dropClaims_25 : decode cX6_dropClaims 25 = .ok (.iload_n 1, 1) := by decide +kernel
theorem dX6_dropClaims_26 : decode cX6_dropClaims 26 = .ok (.invokevirtual 83, 3) := by decide +kernel
theorem dX6_dropClaims_29 : decode cX6_dropClaims 29 = .ok (.ifCond .eq 17, 3) := by decide +kernel
theorem dX6_dropClaims_32 : decode cX6_dropClaims 32 = .ok (.aload_n 0, 1) := by decide +kernel
theorem dX6_dropClaims_33 : decode cX6_dropClaims 33 = .ok (.getfield 46, 3) := by decide +kernel
theorem dX6_dropClaims_36 : decode cX6_dropClaims 36 = .ok (.getfield 128, 3) := by decide +kernel
theorem dX6_dropClaims_39 : decode cX6_dropClaims 39 = .ok (.iload 4, 2) := by decide +kernel
theorem dX6_dropClaims_41 : decode cX6_dropClaims 41 = .ok (.iconst 0, 1) := by decide +kernel
theorem dX6_dropClaims_42 : decode cX6_dropClaims 42 = .ok (.iastore, 1) := by decide +kernel
theorem dX6_dropClaims_43 : decode cX6_dropClaims 43 = .ok (.iinc 2 1, 3) := by decide +kernel
theorem dX6_dropClaims_46 : decode cX6_dropClaims 46 = .ok (.iinc 3 1, 3) := by decide +kernel
theorem dX6_dropClaims_49 : decode cX6_dropClaims 49 = .ok (.goto (-45), 3) := by decide +kernel
theorem dX6_dropClaims_52 : decode cX6_dropClaims 52 = .ok (.iload_n 2, 1) := by decide +kernel
theorem dX6_dropClaims_53 : decode cX6_dropClaims 53 = .ok (.ireturn, 1) := by decide +kernel
theorem dX6_finishedTasks_0 : decode cX6_finishedTasks 0 = .ok (.iconst 0, 1) := by decide +kernel
theorem dX6_finishedTasks_1 : decode cX6_finishedTasks 1 = .ok (.istore_n 1, 1) := by decide +kernel
theorem dX6_finishedTasks_2 : decode cX6_finishedTasks 2 = .ok (.iconst 0, 1) := by decide +kernel
theorem dX6_finishedTasks_3 : decode cX6_finishedTasks 3 = .ok (.istore_n 2, 1) := by decide +kernel
theorem dX6_finishedTasks_4 : decode cX6_finishedTasks 4 = .ok (.iload_n 2, 1) := by decide +kernel
theorem dX6_finishedTasks_5 : decode cX6_finishedTasks 5 = .ok (.aload_n 0, 1) := by decide +kernel
theorem dX6_finishedTasks_6 : decode cX6_finishedTasks 6 = .ok (.getfield 53, 3) := by decide +kernel
theorem dX6_finishedTasks_9 : decode cX6_finishedTasks 9 = .ok (.if_icmp .ge 20, 3) := by decide +kernel
theorem dX6_finishedTasks_12 : decode cX6_finishedTasks 12 = .ok (.aload_n 0, 1) := by decide +kernel
theorem dX6_finishedTasks_13 : decode cX6_finishedTasks 13 = .ok (.iload_n 2, 1) := by decide +kernel
theorem dX6_finishedTasks_14 : decode cX6_finishedTasks 14 = .ok (.invokevirtual 131, 3) := by decide +kernel
theorem dX6_finishedTasks_17 : decode cX6_finishedTasks 17 = .ok (.ifCond .eq 6, 3) := by decide +kernel
theorem dX6_finishedTasks_20 : decode cX6_finishedTasks 20 = .ok (.iinc 1 1, 3) := by decide +kernel
theorem dX6_finishedTasks_23 : decode cX6_finishedTasks 23 = .ok (.iinc 2 1, 3) := by decide +kernel
theorem dX6_finishedTasks_26 : decode cX6_finishedTasks 26 = .ok (.goto (-22), 3) := by decide +kernel
theorem dX6_finishedTasks_29 : decode cX6_finishedTasks 29 = .ok (.iload_n 1, 1) := by decide +kernel
theorem dX6_finishedTasks_30 : decode cX6_finishedTasks 30 = .ok (.ireturn, 1) := by decide +kernel
theorem dX6_allProgress_0 : decode cX6_allProgress 0 = .ok (.aload_n 0, 1) := by decide +kernel
theorem dX6_allProgress_1 : decode cX6_allProgress 1 = .ok (.getfield 40, 3) := by decide +kernel
theorem dX6_allProgress_4 : decode cX6_allProgress 4 = .ok (.aload_n 0, 1) := by decide +kernel
theorem dX6_allProgress_5 : decode cX6_allProgress 5 = .ok (.getfield 53, 3) := by decide +kernel
theorem dX6_allProgress_8 : decode cX6_allProgress 8 = .ok (.invokestatic 134, 3) := by decide +kernel
theorem dX6_allProgress_11 : decode cX6_allProgress 11 = .ok (.ireturn, 1) := by decide +kernel
theorem dX6_allMoves_0 : decode cX6_allMoves 0 = .ok (.aload_n 0, 1) := by decide +kernel
theorem dX6_allMoves_1 : decode cX6_allMoves 1 = .ok (.getfield 25, 3) := by decide +kernel
theorem dX6_allMoves_4 : decode cX6_allMoves 4 = .ok (.aload_n 0, 1) := by decide +kernel
theorem dX6_allMoves_5 : decode cX6_allMoves 5 = .ok (.getfield 50, 3) := by decide +kernel
theorem dX6_allMoves_8 : decode cX6_allMoves 8 = .ok (.invokestatic 134, 3) := by decide +kernel
theorem dX6_allMoves_11 : decode cX6_allMoves 11 = .ok (.ireturn, 1) := by decide +kernel
theorem dX6_allWasted_0 : decode cX6_allWasted 0 = .ok (.aload_n 0, 1) := by decide +kernel
theorem dX6_allWasted_1 : decode cX6_allWasted 1 = .ok (.getfield 28, 3) := by decide +kernel
theorem dX6_allWasted_4 : decode cX6_allWasted 4 = .ok (.aload_n 0, 1) := by decide +kernel
theorem dX6_allWasted_5 : decode cX6_allWasted 5 = .ok (.getfield 50, 3) := by decide +kernel
theorem dX6_allWasted_8 : decode cX6_allWasted 8 = .ok (.invokestatic 134, 3) := by decide +kernel
theorem dX6_allWasted_11 : decode cX6_allWasted 11 = .ok (.ireturn, 1) := by decide +kernel
theorem dX6_sumOf_0 : decode cX6_sumOf 0 = .ok (.iconst 0, 1) := by decide +kernel
theorem dX6_sumOf_1 : decode cX6_sumOf 1 = .ok (.istore_n 2, 1) := by decide +kernel
theorem dX6_sumOf_2 : decode cX6_sumOf 2 = .ok (.iconst 0, 1) := by decide +kernel
theorem dX6_sumOf_3 : decode cX6_sumOf 3 = .ok (.istore_n 3, 1) := by decide +kernel
theorem dX6_sumOf_4 : decode cX6_sumOf 4 = .ok (.iload_n 3, 1) := by decide +kernel
theorem dX6_sumOf_5 : decode cX6_sumOf 5 = .ok (.iload_n 1, 1) := by decide +kernel
theorem dX6_sumOf_6 : decode cX6_sumOf 6 = .ok (.if_icmp .ge 15, 3) := by decide +kernel
theorem dX6_sumOf_9 : decode cX6_sumOf 9 = .ok (.iload_n 2, 1) := by decide +kernel
theorem dX6_sumOf_10 : decode cX6_sumOf 10 = .ok (.aload_n 0, 1) := by decide +kernel
theorem dX6_sumOf_11 : decode cX6_sumOf 11 = .ok (.iload_n 3, 1) := by decide +kernel
theorem dX6_sumOf_12 : decode cX6_sumOf 12 = .ok (.iaload, 1) := by decide +kernel
theorem dX6_sumOf_13 : decode cX6_sumOf 13 = .ok (.iadd, 1) := by decide +kernel
theorem dX6_sumOf_14 : decode cX6_sumOf 14 = .ok (.istore_n 2, 1) := by decide +kernel
theorem dX6_sumOf_15 : decode cX6_sumOf 15 = .ok (.iinc 3 1, 3) := by decide +kernel
theorem dX6_sumOf_18 : decode cX6_sumOf 18 = .ok (.goto (-14), 3) := by decide +kernel
theorem dX6_sumOf_21 : decode cX6_sumOf 21 = .ok (.iload_n 2, 1) := by decide +kernel
theorem dX6_sumOf_22 : decode cX6_sumOf 22 = .ok (.ireturn, 1) := by decide +kernel
theorem dX6_knowers_0 : decode cX6_knowers 0 = .ok (.iconst 0, 1) := by decide +kernel
theorem dX6_knowers_1 : decode cX6_knowers 1 = .ok (.istore_n 2, 1) := by decide +kernel
theorem dX6_knowers_2 : decode cX6_knowers 2 = .ok (.iconst 0, 1) := by decide +kernel
theorem dX6_knowers_3 : decode cX6_knowers 3 = .ok (.istore_n 3, 1) := by decide +kernel
theorem dX6_knowers_4 : decode cX6_knowers 4 = .ok (.iload_n 3, 1) := by decide +kernel
theorem dX6_knowers_5 : decode cX6_knowers 5 = .ok (.aload_n 0, 1) := by decide +kernel
theorem dX6_knowers_6 : decode cX6_knowers 6 = .ok (.getfield 50, 3) := by decide +kernel
theorem dX6_knowers_9 : decode cX6_knowers 9 = .ok (.if_icmp .ge 32, 3) := by decide +kernel
theorem dX6_knowers_12 : decode cX6_knowers 12 = .ok (.aload_n 0, 1) := by decide +kernel
theorem dX6_knowers_13 : decode cX6_knowers 13 = .ok (.getfield 46, 3) := by decide +kernel
theorem dX6_knowers_16 : decode cX6_knowers 16 = .ok (.getfield 128, 3) := by decide +kernel
theorem dX6_knowers_19 : decode cX6_knowers 19 = .ok (.iload_n 3, 1) := by decide +kernel
theorem dX6_knowers_20 : decode cX6_knowers 20 = .ok (.iload_n 1, 1) := by decide +kernel
theorem dX6_knowers_21 : decode cX6_knowers 21 = .ok (.invokestatic 79, 3) := by decide +kernel
theorem dX6_knowers_24 : decode cX6_knowers 24 = .ok (.iaload, 1) := by decide +kernel
theorem dX6_knowers_25 : decode cX6_knowers 25 = .ok (.iconst 2, 1) := by decide +kernel
theorem dX6_knowers_26 : decode cX6_knowers 26 = .ok (.if_icmp .ne 9, 3) := by decide +kernel
theorem dX6_knowers_29 : decode cX6_knowers 29 = .ok (.iload_n 2, 1) := by decide +kernel
theorem dX6_knowers_30 : decode cX6_knowers 30 = .ok (.iconst 1, 1) := by decide +kernel
theorem dX6_knowers_31 : decode cX6_knowers 31 = .ok (.iload_n 3, 1) := by decide +kernel
theorem dX6_knowers_32 : decode cX6_knowers 32 = .ok (.ishl, 1) := by decide +kernel
theorem dX6_knowers_33 : decode cX6_knowers 33 = .ok (.ior, 1) := by decide +kernel
theorem dX6_knowers_34 : decode cX6_knowers 34 = .ok (.istore_n 2, 1) := by decide +kernel
theorem dX6_knowers_35 : decode cX6_knowers 35 = .ok (.iinc 3 1, 3) := by decide +kernel
theorem dX6_knowers_38 : decode cX6_knowers 38 = .ok (.goto (-34), 3) := by decide +kernel
theorem dX6_knowers_41 : decode cX6_knowers 41 = .ok (.iload_n 2, 1) := by decide +kernel
theorem dX6_knowers_42 : decode cX6_knowers 42 = .ok (.ireturn, 1) := by decide +kernel
theorem dX6_isKnownToAll_0 : decode cX6_isKnownToAll 0 = .ok (.aload_n 0, 1) := by decide +kernel
theorem dX6_isKnownToAll_1 : decode cX6_isKnownToAll 1 = .ok (.getfield 59, 3) := by decide +kernel
theorem dX6_isKnownToAll_4 : decode cX6_isKnownToAll 4 = .ok (.aload_n 0, 1) := by decide +kernel
theorem dX6_isKnownToAll_5 : decode cX6_isKnownToAll 5 = .ok (.iload_n 1, 1) := by decide +kernel
theorem dX6_isKnownToAll_6 : decode cX6_isKnownToAll 6 = .ok (.invokevirtual 138, 3) := by decide +kernel
theorem dX6_isKnownToAll_9 : decode cX6_isKnownToAll 9 = .ok (.iconst (-1), 1) := by decide +kernel
theorem dX6_isKnownToAll_10 : decode cX6_isKnownToAll 10 = .ok (.ixor, 1) := by decide +kernel
theorem dX6_isKnownToAll_11 : decode cX6_isKnownToAll 11 = .ok (.iand, 1) := by decide +kernel
theorem dX6_isKnownToAll_12 : decode cX6_isKnownToAll 12 = .ok (.ifCond .ne 7, 3) := by decide +kernel
theorem dX6_isKnownToAll_15 : decode cX6_isKnownToAll 15 = .ok (.iconst 1, 1) := by decide +kernel
theorem dX6_isKnownToAll_16 : decode cX6_isKnownToAll 16 = .ok (.goto 4, 3) := by decide +kernel
theorem dX6_isKnownToAll_19 : decode cX6_isKnownToAll 19 = .ok (.iconst 0, 1) := by decide +kernel
theorem dX6_isKnownToAll_20 : decode cX6_isKnownToAll 20 = .ok (.ireturn, 1) := by decide +kernel
theorem dX6_claimants_0 : decode cX6_claimants 0 = .ok (.iconst 0, 1) := by decide +kernel
theorem dX6_claimants_1 : decode cX6_claimants 1 = .ok (.istore_n 2, 1) := by decide +kernel
theorem dX6_claimants_2 : decode cX6_claimants 2 = .ok (.iconst 0, 1) := by decide +kernel
theorem dX6_claimants_3 : decode cX6_claimants 3 = .ok (.istore_n 3, 1) := by decide +kernel
theorem dX6_claimants_4 : decode cX6_claimants 4 = .ok (.iload_n 3, 1) := by decide +kernel
theorem dX6_claimants_5 : decode cX6_claimants 5 = .ok (.aload_n 0, 1) := by decide +kernel
theorem dX6_claimants_6 : decode cX6_claimants 6 = .ok (.getfield 50, 3) := by decide +kernel
theorem dX6_claimants_9 : decode cX6_claimants 9 = .ok (.if_icmp .ge 32, 3) := by decide +kernel
theorem dX6_claimants_12 : decode cX6_claimants 12 = .ok (.aload_n 0, 1) := by decide +kernel
theorem dX6_claimants_13 : decode cX6_claimants 13 = .ok (.iload_n 3, 1) := by decide +kernel
theorem dX6_claimants_14 : decode cX6_claimants 14 = .ok (.invokevirtual 93, 3) := by decide +kernel
theorem dX6_claimants_17 : decode cX6_claimants 17 = .ok (.ifCond .eq 18, 3) := by decide +kernel
theorem dX6_claimants_20 : decode cX6_claimants 20 = .ok (.aload_n 0, 1) := by decide +kernel
theorem dX6_claimants_21 : decode cX6_claimants 21 = .ok (.iload_n 3, 1) := by decide +kernel
theorem dX6_claimants_22 : decode cX6_claimants 22 = .ok (.iload_n 1, 1) := by decide +kernel
theorem dX6_claimants_23 : decode cX6_claimants 23 = .ok (.invokevirtual 90, 3) := by decide +kernel
theorem dX6_claimants_26 : decode cX6_claimants 26 = .ok (.ifCond .eq 9, 3) := by decide +kernel
theorem dX6_claimants_29 : decode cX6_claimants 29 = .ok (.iload_n 2, 1) := by decide +kernel
theorem dX6_claimants_30 : decode cX6_claimants 30 = .ok (.iconst 1, 1) := by decide +kernel
theorem dX6_claimants_31 : decode cX6_claimants 31 = .ok (.iload_n 3, 1) := by decide +kernel
theorem dX6_claimants_32 : decode cX6_claimants 32 = .ok (.ishl, 1) := by decide +kernel
theorem dX6_claimants_33 : decode cX6_claimants 33 = .ok (.ior, 1) := by decide +kernel
theorem dX6_claimants_34 : decode cX6_claimants 34 = .ok (.istore_n 2, 1) := by decide +kernel
theorem dX6_claimants_35 : decode cX6_claimants 35 = .ok (.iinc 3 1, 3) := by decide +kernel
theorem dX6_claimants_38 : decode cX6_claimants 38 = .ok (.goto (-34), 3) := by decide +kernel
theorem dX6_claimants_41 : decode cX6_claimants 41 = .ok (.iload_n 2, 1) := by decide +kernel
theorem dX6_claimants_42 : decode cX6_claimants 42 = .ok (.ireturn, 1) := by decide +kernel
theorem dX6_doublyClaimed_0 : decode cX6_doublyClaimed 0 = .ok (.iconst 0, 1) := by decide +kernel
theorem dX6_doublyClaimed_1 : decode cX6_doublyClaimed 1 = .ok (.istore_n 1, 1) := by decide +kernel
theorem dX6_doublyClaimed_2 : decode cX6_doublyClaimed 2 = .ok (.iconst 0, 1) := by decide +kernel
theorem dX6_doublyClaimed_3 : decode cX6_doublyClaimed 3 = .ok (.istore_n 2, 1) := by decide +kernel
theorem dX6_doublyClaimed_4 : decode cX6_doublyClaimed 4 = .ok (.iload_n 2, 1) := by decide +kernel
theorem dX6_doublyClaimed_5 : decode cX6_doublyClaimed 5 = .ok (.aload_n 0, 1) := by decide +kernel
theorem dX6_doublyClaimed_6 : decode cX6_doublyClaimed 6 = .ok (.getfield 53, 3) := by decide +kernel
theorem dX6_doublyClaimed_9 : decode cX6_doublyClaimed 9 = .ok (.if_icmp .ge 24, 3) := by decide +kernel
theorem dX6_doublyClaimed_12 : decode cX6_doublyClaimed 12 = .ok (.aload_n 0, 1) := by decide +kernel
theorem dX6_doublyClaimed_13 : decode cX6_doublyClaimed 13 = .ok (.iload_n 2, 1) := by decide +kernel
theorem dX6_doublyClaimed_14 : decode cX6_doublyClaimed 14 = .ok (.invokevirtual 141, 3) := by decide +kernel
theorem dX6_doublyClaimed_17 : decode cX6_doublyClaimed 17 = .ok (.invokestatic 144, 3) := by decide +kernel
theorem dX6_doublyClaimed_20 : decode cX6_doublyClaimed 20 = .ok (.iconst 2, 1) := by decide +kernel
theorem dX6_doublyClaimed_21 : decode cX6_doublyClaimed 21 = .ok (.if_icmp .lt 6, 3) := by decide +kernel
theorem dX6_doublyClaimed_24 : decode cX6_doublyClaimed 24 = .ok (.iinc 1 1, 3) := by decide +kernel
theorem dX6_doublyClaimed_27 : decode cX6_doublyClaimed 27 = .ok (.iinc 2 1, 3) := by decide +kernel
theorem dX6_doublyClaimed_30 : decode cX6_doublyClaimed 30 = .ok (.goto (-26), 3) := by decide +kernel
theorem dX6_doublyClaimed_33 : decode cX6_doublyClaimed 33 = .ok (.iload_n 1, 1) := by decide +kernel
theorem dX6_doublyClaimed_34 : decode cX6_doublyClaimed 34 = .ok (.ireturn, 1) := by decide +kernel
theorem dX6_unknownFinishes_0 : decode cX6_unknownFinishes 0 = .ok (.iconst 0, 1) := by decide +kernel
theorem dX6_unknownFinishes_1 : decode cX6_unknownFinishes 1 = .ok (.istore_n 1, 1) := by decide +kernel
theorem dX6_unknownFinishes_2 : decode cX6_unknownFinishes 2 = .ok (.iconst 0, 1) := by decide +kernel
theorem dX6_unknownFinishes_3 : decode cX6_unknownFinishes 3 = .ok (.istore_n 2, 1) := by decide +kernel
theorem dX6_unknownFinishes_4 : decode cX6_unknownFinishes 4 = .ok (.iload_n 2, 1) := by decide +kernel
theorem dX6_unknownFinishes_5 : decode cX6_unknownFinishes 5 = .ok (.aload_n 0, 1) := by decide +kernel
theorem dX6_unknownFinishes_6 : decode cX6_unknownFinishes 6 = .ok (.getfield 53, 3) := by decide +kernel
theorem dX6_unknownFinishes_9 : decode cX6_unknownFinishes 9 = .ok (.if_icmp .ge 35, 3) := by decide +kernel
theorem dX6_unknownFinishes_12 : decode cX6_unknownFinishes 12 = .ok (.aload_n 0, 1) := by decide +kernel
theorem dX6_unknownFinishes_13 : decode cX6_unknownFinishes 13 = .ok (.iload_n 2, 1) := by decide +kernel
theorem dX6_unknownFinishes_14 : decode cX6_unknownFinishes 14 = .ok (.invokevirtual 131, 3) := by decide +kernel
theorem dX6_unknownFinishes_17 : decode cX6_unknownFinishes 17 = .ok (.ifCond .eq 21, 3) := by decide +kernel
theorem dX6_unknownFinishes_20 : decode cX6_unknownFinishes 20 = .ok (.iload_n 1, 1) := by decide +kernel
theorem dX6_unknownFinishes_21 : decode cX6_unknownFinishes 21 = .ok (.aload_n 0, 1) := by decide +kernel
theorem dX6_unknownFinishes_22 : decode cX6_unknownFinishes 22 = .ok (.getfield 59, 3) := by decide +kernel
theorem dX6_unknownFinishes_25 : decode cX6_unknownFinishes 25 = .ok (.aload_n 0, 1) := by decide +kernel
theorem dX6_unknownFinishes_26 : decode cX6_unknownFinishes 26 = .ok (.iload_n 2, 1) := by decide +kernel
theorem dX6_unknownFinishes_27 : decode cX6_unknownFinishes 27 = .ok (.invokevirtual 138, 3) := by decide +kernel
theorem dX6_unknownFinishes_30 : decode cX6_unknownFinishes 30 = .ok (.iconst (-1), 1) := by decide +kernel
theorem dX6_unknownFinishes_31 : decode cX6_unknownFinishes 31 = .ok (.ixor, 1) := by decide +kernel
theorem dX6_unknownFinishes_32 : decode cX6_unknownFinishes 32 = .ok (.iand, 1) := by decide +kernel
theorem dX6_unknownFinishes_33 : decode cX6_unknownFinishes 33 = .ok (.invokestatic 144, 3) := by decide +kernel
theorem dX6_unknownFinishes_36 : decode cX6_unknownFinishes 36 = .ok (.iadd, 1) := by decide +kernel
theorem dX6_unknownFinishes_37 : decode cX6_unknownFinishes 37 = .ok (.istore_n 1, 1) := by decide +kernel
theorem dX6_unknownFinishes_38 : decode cX6_unknownFinishes 38 = .ok (.iinc 2 1, 3) := by decide +kernel
theorem dX6_unknownFinishes_41 : decode cX6_unknownFinishes 41 = .ok (.goto (-37), 3) := by decide +kernel
theorem dX6_unknownFinishes_44 : decode cX6_unknownFinishes 44 = .ok (.iload_n 1, 1) := by decide +kernel
theorem dX6_unknownFinishes_45 : decode cX6_unknownFinishes 45 = .ok (.ireturn, 1) := by decide +kernel
theorem dX6_claimsOfLostAgents_0 : decode cX6_claimsOfLostAgents 0 = .ok (.iconst 0, 1) := by decide +kernel
theorem dX6_claimsOfLostAgents_1 : decode cX6_claimsOfLostAgents 1 = .ok (.istore_n 1, 1) := by decide +kernel
theorem dX6_claimsOfLostAgents_2 : decode cX6_claimsOfLostAgents 2 = .ok (.iconst 0, 1) := by decide +kernel
theorem dX6_claimsOfLostAgents_3 : decode cX6_claimsOfLostAgents 3 = .ok (.istore_n 2, 1) := by decide +kernel
theorem dX6_claimsOfLostAgents_4 : decode cX6_claimsOfLostAgents 4 = .ok (.iload_n 2, 1) := by decide +kernel
theorem dX6_claimsOfLostAgents_5 : decode cX6_claimsOfLostAgents 5 = .ok (.aload_n 0, 1) := by decide +kernel
theorem dX6_claimsOfLostAgents_6 : decode cX6_claimsOfLostAgents 6 = .ok (.getfield 50, 3) := by decide +kernel
theorem dX6_claimsOfLostAgents_9 : decode cX6_claimsOfLostAgents 9 = .ok (.if_icmp .ge 76, 3) := by decide +kernel
theorem dX6_claimsOfLostAgents_12 : decode cX6_claimsOfLostAgents 12 = .ok (.iconst 0, 1) := by decide +kernel
theorem dX6_claimsOfLostAgents_13 : decode cX6_claimsOfLostAgents 13 = .ok (.istore_n 3, 1) := by decide +kernel
theorem dX6_claimsOfLostAgents_14 : decode cX6_claimsOfLostAgents 14 = .ok (.iload_n 3, 1) := by decide +kernel
theorem dX6_claimsOfLostAgents_15 : decode cX6_claimsOfLostAgents 15 = .ok (.aload_n 0, 1) := by decide +kernel
theorem dX6_claimsOfLostAgents_16 : decode cX6_claimsOfLostAgents 16 = .ok (.getfield 53, 3) := by decide +kernel
theorem dX6_claimsOfLostAgents_19 : decode cX6_claimsOfLostAgents 19 = .ok (.if_icmp .ge 60, 3) := by decide +kernel
theorem dX6_claimsOfLostAgents_22 : decode cX6_claimsOfLostAgents 22 = .ok (.iload_n 2, 1) := by decide +kernel
theorem dX6_claimsOfLostAgents_23 : decode cX6_claimsOfLostAgents 23 = .ok (.iload_n 3, 1) := by decide +kernel
theorem dX6_claimsOfLostAgents_24 : decode cX6_claimsOfLostAgents 24 = .ok (.invokestatic 79, 3) := by decide +kernel
theorem dX6_claimsOfLostAgents_27 : decode cX6_claimsOfLostAgents 27 = .ok (.istore 4, 2) := by decide +kernel
theorem dX6_claimsOfLostAgents_29 : decode cX6_claimsOfLostAgents 29 = .ok (.aload_n 0, 1) := by decide +kernel
theorem dX6_claimsOfLostAgents_30 : decode cX6_claimsOfLostAgents 30 = .ok (.iload_n 2, 1) := by decide +kernel
theorem dX6_claimsOfLostAgents_31 : decode cX6_claimsOfLostAgents 31 = .ok (.invokevirtual 93, 3) := by decide +kernel
theorem dX6_claimsOfLostAgents_34 : decode cX6_claimsOfLostAgents 34 = .ok (.ifCond .eq 39, 3) := by decide +kernel
theorem dX6_claimsOfLostAgents_37 : decode cX6_claimsOfLostAgents 37 = .ok (.aload_n 0, 1) := by decide +kernel
theorem dX6_claimsOfLostAgents_38 : decode cX6_claimsOfLostAgents 38 = .ok (.getfield 46, 3) := by decide +kernel
theorem dX6_claimsOfLostAgents_41 : decode cX6_claimsOfLostAgents 41 = .ok (.iload 4, 2) := by decide +kernel
theorem dX6_claimsOfLostAgents_43 : decode cX6_claimsOfLostAgents 43 = .ok (.aload_n 0, 1) := by decide +kernel
theorem dX6_claimsOfLostAgents_44 : decode cX6_claimsOfLostAgents 44 = .ok (.getfield 56, 3) := by decide +kernel
theorem dX6_claimsOfLostAgents_47 : decode cX6_claimsOfLostAgents 47 = .ok (.invokevirtual 87, 3) := by decide +kernel
theorem dX6_claimsOfLostAgents_50 : decode cX6_claimsOfLostAgents 50 = .ok (.ifCond .eq 23, 3) := by decide +kernel
theorem dX6_claimsOfLostAgents_53 : decode cX6_claimsOfLostAgents 53 = .ok (.aload_n 0, 1) := by decide +kernel
theorem dX6_claimsOfLostAgents_54 : decode cX6_claimsOfLostAgents 54 = .ok (.aload_n 0, 1) := by decide +kernel
theorem dX6_claimsOfLostAgents_55 : decode cX6_claimsOfLostAgents 55 = .ok (.getfield 46, 3) := by decide +kernel
theorem dX6_claimsOfLostAgents_58 : decode cX6_claimsOfLostAgents 58 = .ok (.getfield 149, 3) := by decide +kernel
theorem dX6_claimsOfLostAgents_61 : decode cX6_claimsOfLostAgents 61 = .ok (.iload 4, 2) := by decide +kernel
theorem dX6_claimsOfLostAgents_63 : decode cX6_claimsOfLostAgents 63 = .ok (.iaload, 1) := by decide +kernel
theorem dX6_claimsOfLostAgents_64 : decode cX6_claimsOfLostAgents 64 = .ok (.invokevirtual 93, 3) := by decide +kernel
theorem dX6_claimsOfLostAgents_67 : decode cX6_claimsOfLostAgents 67 = .ok (.ifCond .ne 6, 3) := by decide +kernel
theorem dX6_claimsOfLostAgents_70 : decode cX6_claimsOfLostAgents 70 = .ok (.iinc 1 1, 3) := by decide +kernel
theorem dX6_claimsOfLostAgents_73 : decode cX6_claimsOfLostAgents 73 = .ok (.iinc 3 1, 3) := by decide +kernel
theorem dX6_claimsOfLostAgents_76 : decode cX6_claimsOfLostAgents 76 = .ok (.goto (-62), 3) := by decide +kernel
theorem dX6_claimsOfLostAgents_79 : decode cX6_claimsOfLostAgents 79 = .ok (.iinc 2 1, 3) := by decide +kernel
theorem dX6_claimsOfLostAgents_82 : decode cX6_claimsOfLostAgents 82 = .ok (.goto (-78), 3) := by decide +kernel
theorem dX6_claimsOfLostAgents_85 : decode cX6_claimsOfLostAgents 85 = .ok (.iload_n 1, 1) := by decide +kernel
theorem dX6_claimsOfLostAgents_86 : decode cX6_claimsOfLostAgents 86 = .ok (.ireturn, 1) := by decide +kernel
theorem dX7_init_0 : decode cX7_init 0 = .ok (.aload_n 0, 1) := by decide +kernel
theorem dX7_init_1 : decode cX7_init 1 = .ok (.invokespecial 1, 3) := by decide +kernel
theorem dX7_init_4 : decode cX7_init 4 = .ok (.aload_n 0, 1) := by decide +kernel
theorem dX7_init_5 : decode cX7_init 5 = .ok (.new 7, 3) := by decide +kernel
theorem dX7_init_8 : decode cX7_init 8 = .ok (.dup, 1) := by decide +kernel
theorem dX7_init_9 : decode cX7_init 9 = .ok (.invokespecial 9, 3) := by decide +kernel
theorem dX7_init_12 : decode cX7_init 12 = .ok (.putfield 10, 3) := by decide +kernel
theorem dX7_init_15 : decode cX7_init 15 = .ok (.aload_n 0, 1) := by decide +kernel
theorem dX7_init_16 : decode cX7_init 16 = .ok (.new 16, 3) := by decide +kernel
theorem dX7_init_19 : decode cX7_init 19 = .ok (.dup, 1) := by decide +kernel
theorem dX7_init_20 : decode cX7_init 20 = .ok (.invokespecial 18, 3) := by decide +kernel
theorem dX7_init_23 : decode cX7_init 23 = .ok (.putfield 19, 3) := by decide +kernel
theorem dX7_init_26 : decode cX7_init 26 = .ok (.aload_n 0, 1) := by decide +kernel
theorem dX7_init_27 : decode cX7_init 27 = .ok (.new 16, 3) := by decide +kernel
theorem dX7_init_30 : decode cX7_init 30 = .ok (.dup, 1) := by decide +kernel
theorem dX7_init_31 : decode cX7_init 31 = .ok (.invokespecial 18, 3) := by decide +kernel
theorem dX7_init_34 : decode cX7_init 34 = .ok (.putfield 23, 3) := by decide +kernel
theorem dX7_init_37 : decode cX7_init 37 = .ok (.aload_n 0, 1) := by decide +kernel
theorem dX7_init_38 : decode cX7_init 38 = .ok (.new 26, 3) := by decide +kernel
theorem dX7_init_41 : decode cX7_init 41 = .ok (.dup, 1) := by decide +kernel
theorem dX7_init_42 : decode cX7_init 42 = .ok (.invokespecial 28, 3) := by decide +kernel
theorem dX7_init_45 : decode cX7_init 45 = .ok (.putfield 29, 3) := by decide +kernel
theorem dX7_init_48 : decode cX7_init 48 = .ok (.aload_n 0, 1) := by decide +kernel
theorem dX7_init_49 : decode cX7_init 49 = .ok (.iconst 2, 1) := by decide +kernel
theorem dX7_init_50 : decode cX7_init 50 = .ok (.anewarray 16, 3) := by decide +kernel
theorem dX7_init_53 : decode cX7_init 53 = .ok (.putfield 33, 3) := by decide +kernel
theorem dX7_init_56 : decode cX7_init 56 = .ok (.iconst 0, 1) := by decide +kernel
theorem dX7_init_57 : decode cX7_init 57 = .ok (.istore_n 1, 1) := by decide +kernel
theorem dX7_init_58 : decode cX7_init 58 = .ok (.iload_n 1, 1) := by decide +kernel
theorem dX7_init_59 : decode cX7_init 59 = .ok (.iconst 2, 1) := by decide +kernel
theorem dX7_init_60 : decode cX7_init 60 = .ok (.if_icmp .ge 22, 3) := by decide +kernel
theorem dX7_init_63 : decode cX7_init 63 = .ok (.aload_n 0, 1) := by decide +kernel
theorem dX7_init_64 : decode cX7_init 64 = .ok (.getfield 33, 3) := by decide +kernel
theorem dX7_init_67 : decode cX7_init 67 = .ok (.iload_n 1, 1) := by decide +kernel
theorem dX7_init_68 : decode cX7_init 68 = .ok (.new 16, 3) := by decide +kernel
theorem dX7_init_71 : decode cX7_init 71 = .ok (.dup, 1) := by decide +kernel
theorem dX7_init_72 : decode cX7_init 72 = .ok (.invokespecial 18, 3) := by decide +kernel
theorem dX7_init_75 : decode cX7_init 75 = .ok (.aastore, 1) := by decide +kernel
theorem dX7_init_76 : decode cX7_init 76 = .ok (.iinc 1 1, 3) := by decide +kernel
theorem dX7_init_79 : decode cX7_init 79 = .ok (.goto (-21), 3) := by decide +kernel
theorem dX7_init_82 : decode cX7_init 82 = .ok (.aload_n 0, 1) := by decide +kernel
theorem dX7_init_83 : decode cX7_init 83 = .ok (.iconst 0, 1) := by decide +kernel
theorem dX7_init_84 : decode cX7_init 84 = .ok (.putfield 37, 3) := by decide +kernel
theorem dX7_init_87 : decode cX7_init 87 = .ok (.aload_n 0, 1) := by decide +kernel
theorem dX7_init_88 : decode cX7_init 88 = .ok (.new 41, 3) := by decide +kernel
theorem dX7_init_91 : decode cX7_init 91 = .ok (.dup, 1) := by decide +kernel
theorem dX7_init_92 : decode cX7_init 92 = .ok (.invokespecial 43, 3) := by decide +kernel
theorem dX7_init_95 : decode cX7_init 95 = .ok (.putfield 44, 3) := by decide +kernel
theorem dX7_init_98 : decode cX7_init 98 = .ok (.aload_n 0, 1) := by decide +kernel
theorem dX7_init_99 : decode cX7_init 99 = .ok (.new 48, 3) := by decide +kernel
theorem dX7_init_102 : decode cX7_init 102 = .ok (.dup, 1) := by decide +kernel
theorem dX7_init_103 : decode cX7_init 103 = .ok (.aload_n 0, 1) := by decide +kernel
theorem dX7_init_104 : decode cX7_init 104 = .ok (.getfield 44, 3) := by decide +kernel
theorem dX7_init_107 : decode cX7_init 107 = .ok (.invokespecial 50, 3) := by decide +kernel
theorem dX7_init_110 : decode cX7_init 110 = .ok (.putfield 53, 3) := by decide +kernel
theorem dX7_init_113 : decode cX7_init 113 = .ok (.aload_n 0, 1) := by decide +kernel
theorem dX7_init_114 : decode cX7_init 114 = .ok (.new 57, 3) := by decide +kernel
theorem dX7_init_117 : decode cX7_init 117 = .ok (.dup, 1) := by decide +kernel
theorem dX7_init_118 : decode cX7_init 118 = .ok (.invokespecial 59, 3) := by decide +kernel
theorem dX7_init_121 : decode cX7_init 121 = .ok (.putfield 60, 3) := by decide +kernel
theorem dX7_init_124 : decode cX7_init 124 = .ok (.return_, 1) := by decide +kernel
theorem dX7_append_0 : decode cX7_append 0 = .ok (.iload_n 1, 1) := by decide +kernel
theorem dX7_append_1 : decode cX7_append 1 = .ok (.iconst 0, 1) := by decide +kernel
theorem dX7_append_2 : decode cX7_append 2 = .ok (.sipush 255, 3) := by decide +kernel
theorem dX7_append_5 : decode cX7_append 5 = .ok (.invokestatic 64, 3) := by decide +kernel
theorem dX7_append_8 : decode cX7_append 8 = .ok (.aload_n 0, 1) := by decide +kernel
theorem dX7_append_9 : decode cX7_append 9 = .ok (.getfield 10, 3) := by decide +kernel
theorem dX7_append_12 : decode cX7_append 12 = .ok (.invokevirtual 68, 3) := by decide +kernel
theorem dX7_append_15 : decode cX7_append 15 = .ok (.invokestatic 72, 3) := by decide +kernel
theorem dX7_append_18 : decode cX7_append 18 = .ok (.aload_n 0, 1) := by decide +kernel
theorem dX7_append_19 : decode cX7_append 19 = .ok (.getfield 10, 3) := by decide +kernel
theorem dX7_append_22 : decode cX7_append 22 = .ok (.iload_n 1, 1) := by decide +kernel
theorem dX7_append_23 : decode cX7_append 23 = .ok (.invokevirtual 76, 3) := by decide +kernel
theorem dX7_append_26 : decode cX7_append 26 = .ok (.aload_n 0, 1) := by decide +kernel
theorem dX7_append_27 : decode cX7_append 27 = .ok (.getfield 10, 3) := by decide +kernel
theorem dX7_append_30 : decode cX7_append 30 = .ok (.getfield 80, 3) := by decide +kernel
theorem dX7_append_33 : decode cX7_append 33 = .ok (.ireturn, 1) := by decide +kernel
theorem dX7_clearText_0 : decode cX7_clearText 0 = .ok (.aload_n 0, 1) := by decide +kernel
theorem dX7_clearText_1 : decode cX7_clearText 1 = .ok (.getfield 10, 3) := by decide +kernel
theorem dX7_clearText_4 : decode cX7_clearText 4 = .ok (.getfield 80, 3) := by decide +kernel
theorem dX7_clearText_7 : decode cX7_clearText 7 = .ok (.istore_n 1, 1) := by decide +kernel
theorem dX7_clearText_8 : decode cX7_clearText 8 = .ok (.aload_n 0, 1) := by decide +kernel
theorem dX7_clearText_9 : decode cX7_clearText 9 = .ok (.getfield 10, 3) := by decide +kernel
theorem dX7_clearText_12 : decode cX7_clearText 12 = .ok (.iconst 0, 1) := by decide +kernel
theorem dX7_clearText_13 : decode cX7_clearText 13 = .ok (.putfield 80, 3) := by decide +kernel
theorem dX7_clearText_16 : decode cX7_clearText 16 = .ok (.iload_n 1, 1) := by decide +kernel
theorem dX7_clearText_17 : decode cX7_clearText 17 = .ok (.ireturn, 1) := by decide +kernel
theorem dX7_errorPosition_0 : decode cX7_errorPosition 0 = .ok (.aload_n 0, 1) := by decide +kernel
theorem dX7_errorPosition_1 : decode cX7_errorPosition 1 = .ok (.getfield 10, 3) := by decide +kernel
theorem dX7_errorPosition_4 : decode cX7_errorPosition 4 = .ok (.aload_n 0, 1) := by decide +kernel
theorem dX7_errorPosition_5 : decode cX7_errorPosition 5 = .ok (.getfield 23, 3) := by decide +kernel
theorem dX7_errorPosition_8 : decode cX7_errorPosition 8 = .ok (.invokevirtual 83, 3) := by decide +kernel
theorem dX7_errorPosition_11 : decode cX7_errorPosition 11 = .ok (.ireturn, 1) := by decide +kernel
theorem dX7_load_0 : decode cX7_load 0 = .ok (.aload_n 0, 1) := by decide +kernel
theorem dX7_load_1 : decode cX7_load 1 = .ok (.getfield 10, 3) := by decide +kernel
theorem dX7_load_4 : decode cX7_load 4 = .ok (.aload_n 0, 1) := by decide +kernel
theorem dX7_load_5 : decode cX7_load 5 = .ok (.getfield 23, 3) := by decide +kernel
theorem dX7_load_8 : decode cX7_load 8 = .ok (.invokevirtual 83, 3) := by decide +kernel
theorem dX7_load_11 : decode cX7_load 11 = .ok (.bipush (-9), 2) := by decide +kernel
theorem dX7_load_13 : decode cX7_load 13 = .ok (.if_icmp .ne 7, 3) := by decide +kernel
theorem dX7_load_16 : decode cX7_load 16 = .ok (.iconst 1, 1) := by decide +kernel
theorem dX7_load_17 : decode cX7_load 17 = .ok (.goto 4, 3) := by decide +kernel
theorem dX7_load_20 : decode cX7_load 20 = .ok (.iconst 0, 1) := by decide +kernel
theorem dX7_load_21 : decode cX7_load 21 = .ok (.invokestatic 72, 3) := by decide +kernel
theorem dX7_load_24 : decode cX7_load 24 = .ok (.aload_n 0, 1) := by decide +kernel
theorem dX7_load_25 : decode cX7_load 25 = .ok (.getfield 19, 3) := by decide +kernel
theorem dX7_load_28 : decode cX7_load 28 = .ok (.aload_n 0, 1) := by decide +kernel
theorem dX7_load_29 : decode cX7_load 29 = .ok (.getfield 23, 3) := by decide +kernel
theorem dX7_load_32 : decode cX7_load 32 = .ok (.invokevirtual 87, 3) := by decide +kernel
theorem dX7_load_35 : decode cX7_load 35 = .ok (.aload_n 0, 1) := by decide +kernel
theorem dX7_load_36 : decode cX7_load 36 = .ok (.getfield 29, 3) := by decide +kernel
theorem dX7_load_39 : decode cX7_load 39 = .ok (.invokevirtual 91, 3) := by decide +kernel
theorem dX7_load_42 : decode cX7_load 42 = .ok (.aload_n 0, 1) := by decide +kernel
theorem dX7_load_43 : decode cX7_load 43 = .ok (.iconst 0, 1) := by decide +kernel
theorem dX7_load_44 : decode cX7_load 44 = .ok (.putfield 37, 3) := by decide +kernel
theorem dX7_load_47 : decode cX7_load 47 = .ok (.aload_n 0, 1) := by decide +kernel
theorem dX7_load_48 : decode cX7_load 48 = .ok (.getfield 19, 3) := by decide +kernel
theorem dX7_load_51 : decode cX7_load 51 = .ok (.getfield 94, 3) := by decide +kernel
theorem dX7_load_54 : decode cX7_load 54 = .ok (.ireturn, 1) := by decide +kernel
theorem dX7_about_0 : decode cX7_about 0 = .ok (.iload_n 1, 1) := by decide +kernel
theorem dX7_about_1 : decode cX7_about 1 = .ok (.iconst 0, 1) := by decide +kernel
theorem dX7_about_2 : decode cX7_about 2 = .ok (.bipush 7, 2) := by decide +kernel
theorem dX7_about_4 : decode cX7_about 4 = .ok (.invokestatic 64, 3) := by decide +kernel
theorem dX7_about_7 : decode cX7_about 7 = .ok (.iload_n 1, 1) := by decide +kernel
theorem dX7_about_8 : decode cX7_about 8 = .ok (.tableswitch 100 0 6 #[44, 52, 60, 68, 76, 84, 92], 44) := by decide +kernel
theorem dX7_about_52 : decode cX7_about 52 = .ok (.aload_n 0, 1) := by decide +kernel
theorem dX7_about_53 : decode cX7_about 53 = .ok (.getfield 19, 3) := by decide +kernel
theorem dX7_about_56 : decode cX7_about 56 = .ok (.getfield 94, 3) := by decide +kernel
theorem dX7_about_59 : decode cX7_about 59 = .ok (.ireturn, 1) := by decide +kernel
theorem dX7_about_60 : decode cX7_about 60 = .ok (.aload_n 0, 1) := by decide +kernel
theorem dX7_about_61 : decode cX7_about 61 = .ok (.getfield 19, 3) := by decide +kernel
theorem dX7_about_64 : decode cX7_about 64 = .ok (.getfield 97, 3) := by decide +kernel
theorem dX7_about_67 : decode cX7_about 67 = .ok (.ireturn, 1) := by decide +kernel
theorem dX7_about_68 : decode cX7_about 68 = .ok (.aload_n 0, 1) := by decide +kernel
theorem dX7_about_69 : decode cX7_about 69 = .ok (.getfield 19, 3) := by decide +kernel
theorem dX7_about_72 : decode cX7_about 72 = .ok (.getfield 100, 3) := by decide +kernel
theorem dX7_about_75 : decode cX7_about 75 = .ok (.ireturn, 1) := by decide +kernel
theorem dX7_about_76 : decode cX7_about 76 = .ok (.aload_n 0, 1) := by decide +kernel
theorem dX7_about_77 : decode cX7_about 77 = .ok (.getfield 19, 3) := by decide +kernel
theorem dX7_about_80 : decode cX7_about 80 = .ok (.getfield 103, 3) := by decide +kernel
theorem dX7_about_83 : decode cX7_about 83 = .ok (.ireturn, 1) := by decide +kernel
theorem dX7_about_84 : decode cX7_about 84 = .ok (.aload_n 0, 1) := by decide +kernel
theorem dX7_about_85 : decode cX7_about 85 = .ok (.getfield 19, 3) := by decide +kernel
theorem dX7_about_88 : decode cX7_about 88 = .ok (.invokevirtual 106, 3) := by decide +kernel
theorem dX7_about_91 : decode cX7_about 91 = .ok (.ireturn, 1) := by decide +kernel
theorem dX7_about_92 : decode cX7_about 92 = .ok (.aload_n 0, 1) := by decide +kernel
theorem dX7_about_93 : decode cX7_about 93 = .ok (.getfield 19, 3) := by decide +kernel
theorem dX7_about_96 : decode cX7_about 96 = .ok (.invokevirtual 110, 3) := by decide +kernel
theorem dX7_about_99 : decode cX7_about 99 = .ok (.ireturn, 1) := by decide +kernel
theorem dX7_about_100 : decode cX7_about 100 = .ok (.aload_n 0, 1) := by decide +kernel
theorem dX7_about_101 : decode cX7_about 101 = .ok (.getfield 19, 3) := by decide +kernel
theorem dX7_about_104 : decode cX7_about 104 = .ok (.invokevirtual 113, 3) := by decide +kernel
theorem dX7_about_107 : decode cX7_about 107 = .ok (.ireturn, 1) := by decide +kernel
theorem dX7_about_108 : decode cX7_about 108 = .ok (.aload_n 0, 1) := by decide +kernel
theorem dX7_about_109 : decode cX7_about 109 = .ok (.getfield 19, 3) := by decide +kernel
theorem dX7_about_112 : decode cX7_about 112 = .ok (.getfield 116, 3) := by decide +kernel
theorem dX7_about_115 : decode cX7_about 115 = .ok (.ireturn, 1) := by decide +kernel
theorem dX7_agent_0 : decode cX7_agent 0 = .ok (.aload_n 0, 1) := by decide +kernel
theorem dX7_agent_1 : decode cX7_agent 1 = .ok (.getfield 19, 3) := by decide +kernel
theorem dX7_agent_4 : decode cX7_agent 4 = .ok (.iload_n 1, 1) := by decide +kernel
theorem dX7_agent_5 : decode cX7_agent 5 = .ok (.invokevirtual 119, 3) := by decide +kernel
theorem dX7_agent_8 : decode cX7_agent 8 = .ok (.invokestatic 123, 3) := by decide +kernel
theorem dX7_agent_11 : decode cX7_agent 11 = .ok (.iload_n 2, 1) := by decide +kernel
theorem dX7_agent_12 : decode cX7_agent 12 = .ok (.iconst 0, 1) := by decide +kernel
theorem dX7_agent_13 : decode cX7_agent 13 = .ok (.bipush 7, 2) := by decide +kernel
theorem dX7_agent_15 : decode cX7_agent 15 = .ok (.invokestatic 64, 3) := by decide +kernel
theorem dX7_agent_18 : decode cX7_agent 18 = .ok (.iload_n 2, 1) := by decide +kernel
theorem dX7_agent_19 : decode cX7_agent 19 = .ok (.tableswitch 117 0 6 #[41, 51, 61, 71, 88, 97, 107], 41) := by decide +kernel
theorem dX7_agent_60 : decode cX7_agent 60 = .ok (.aload_n 0, 1) := by decide +kernel
theorem dX7_agent_61 : decode cX7_agent 61 = .ok (.getfield 19, 3) := by decide +kernel
theorem dX7_agent_64 : decode cX7_agent 64 = .ok (.getfield 126, 3) := by decide +kernel
theorem dX7_agent_67 : decode cX7_agent 67 = .ok (.iload_n 1, 1) := by decide +kernel
theorem dX7_agent_68 : decode cX7_agent 68 = .ok (.iaload, 1) := by decide +kernel
theorem dX7_agent_69 : decode cX7_agent 69 = .ok (.ireturn, 1) := by decide +kernel
theorem dX7_agent_70 : decode cX7_agent 70 = .ok (.aload_n 0, 1) := by decide +kernel
theorem dX7_agent_71 : decode cX7_agent 71 = .ok (.getfield 19, 3) := by decide +kernel
theorem dX7_agent_74 : decode cX7_agent 74 = .ok (.getfield 130, 3) := by decide +kernel
theorem dX7_agent_77 : decode cX7_agent 77 = .ok (.iload_n 1, 1) := by decide +kernel
theorem dX7_agent_78 : decode cX7_agent 78 = .ok (.iaload, 1) := by decide +kernel
theorem dX7_agent_79 : decode cX7_agent 79 = .ok (.ireturn, 1) := by decide +kernel
theorem dX7_agent_80 : decode cX7_agent 80 = .ok (.aload_n 0, 1) := by decide +kernel
theorem dX7_agent_81 : decode cX7_agent 81 = .ok (.getfield 19, 3) := by decide +kernel
theorem dX7_agent_84 : decode cX7_agent 84 = .ok (.getfield 133, 3) := by decide +kernel
theorem dX7_agent_87 : decode cX7_agent 87 = .ok (.iload_n 1, 1) := by decide +kernel
theorem dX7_agent_88 : decode cX7_agent 88 = .ok (.iaload, 1) := by decide +kernel
theorem dX7_agent_89 : decode cX7_agent 89 = .ok (.ireturn, 1) := by decide +kernel
theorem dX7_agent_90 : decode cX7_agent 90 = .ok (.aload_n 0, 1) := by decide +kernel
theorem dX7_agent_91 : decode cX7_agent 91 = .ok (.getfield 19, 3) := by decide +kernel
theorem dX7_agent_94 : decode cX7_agent 94 = .ok (.iload_n 1, 1) := by decide +kernel
theorem dX7_agent_95 : decode cX7_agent 95 = .ok (.invokevirtual 136, 3) := by decide +kernel
theorem dX7_agent_98 : decode cX7_agent 98 = .ok (.ifCond .eq 7, 3) := by decide +kernel
theorem dX7_agent_101 : decode cX7_agent 101 = .ok (.iconst 1, 1) := by decide +kernel
theorem dX7_agent_102 : decode cX7_agent 102 = .ok (.goto 4, 3) := by decide +kernel
theorem dX7_agent_105 : decode cX7_agent 105 = .ok (.iconst 0, 1) := by decide +kernel
theorem dX7_agent_106 : decode cX7_agent 106 = .ok (.ireturn, 1) := by decide +kernel
theorem dX7_agent_107 : decode cX7_agent 107 = .ok (.aload_n 0, 1) := by decide +kernel
theorem dX7_agent_108 : decode cX7_agent 108 = .ok (.getfield 19, 3) := by decide +kernel
theorem dX7_agent_111 : decode cX7_agent 111 = .ok (.iload_n 1, 1) := by decide +kernel
theorem dX7_agent_112 : decode cX7_agent 112 = .ok (.invokevirtual 139, 3) := by decide +kernel
theorem dX7_agent_115 : decode cX7_agent 115 = .ok (.ireturn, 1) := by decide +kernel
theorem dX7_agent_116 : decode cX7_agent 116 = .ok (.aload_n 0, 1) := by decide +kernel
theorem dX7_agent_117 : decode cX7_agent 117 = .ok (.getfield 19, 3) := by decide +kernel
theorem dX7_agent_120 : decode cX7_agent 120 = .ok (.getfield 143, 3) := by decide +kernel
theorem dX7_agent_123 : decode cX7_agent 123 = .ok (.iload_n 1, 1) := by decide +kernel
theorem dX7_agent_124 : decode cX7_agent 124 = .ok (.iaload, 1) := by decide +kernel
theorem dX7_agent_125 : decode cX7_agent 125 = .ok (.ireturn, 1) := by decide +kernel
theorem dX7_agent_126 : decode cX7_agent 126 = .ok (.aload_n 0, 1) := by decide +kernel
theorem dX7_agent_127 : decode cX7_agent 127 = .ok (.getfield 19, 3) := by decide +kernel
theorem dX7_agent_130 : decode cX7_agent 130 = .ok (.getfield 146, 3) := by decide +kernel
theorem dX7_agent_133 : decode cX7_agent 133 = .ok (.iload_n 1, 1) := by decide +kernel
theorem dX7_agent_134 : decode cX7_agent 134 = .ok (.iaload, 1) := by decide +kernel
theorem dX7_agent_135 : decode cX7_agent 135 = .ok (.ireturn, 1) := by decide +kernel
theorem dX7_agent_136 : decode cX7_agent 136 = .ok (.aload_n 0, 1) := by decide +kernel
theorem dX7_agent_137 : decode cX7_agent 137 = .ok (.getfield 19, 3) := by decide +kernel
theorem dX7_agent_140 : decode cX7_agent 140 = .ok (.iload_n 1, 1) := by decide +kernel
theorem dX7_agent_141 : decode cX7_agent 141 = .ok (.invokevirtual 149, 3) := by decide +kernel
theorem dX7_agent_144 : decode cX7_agent 144 = .ok (.ireturn, 1) := by decide +kernel
theorem dX7_task_0 : decode cX7_task 0 = .ok (.aload_n 0, 1) := by decide +kernel
theorem dX7_task_1 : decode cX7_task 1 = .ok (.getfield 19, 3) := by decide +kernel
theorem dX7_task_4 : decode cX7_task 4 = .ok (.iload_n 1, 1) := by decide +kernel
theorem dX7_task_5 : decode cX7_task 5 = .ok (.invokevirtual 152, 3) := by decide +kernel
theorem dX7_task_8 : decode cX7_task 8 = .ok (.invokestatic 123, 3) := by decide +kernel
theorem dX7_task_11 : decode cX7_task 11 = .ok (.iload_n 2, 1) := by decide +kernel
theorem dX7_task_12 : decode cX7_task 12 = .ok (.iconst 0, 1) := by decide +kernel
theorem dX7_task_13 : decode cX7_task 13 = .ok (.bipush 6, 2) := by decide +kernel
theorem dX7_task_15 : decode cX7_task 15 = .ok (.invokestatic 64, 3) := by decide +kernel
theorem dX7_task_18 : decode cX7_task 18 = .ok (.iload_n 2, 1) := by decide +kernel
theorem dX7_task_19 : decode cX7_task 19 = .ok (.tableswitch 103 0 5 #[37, 47, 57, 67, 77, 94], 37) := by decide +kernel
theorem dX7_task_56 : decode cX7_task 56 = .ok (.aload_n 0, 1) := by decide +kernel
theorem dX7_task_57 : decode cX7_task 57 = .ok (.getfield 19, 3) := by decide +kernel
theorem dX7_task_60 : decode cX7_task 60 = .ok (.getfield 155, 3) := by decide +kernel
theorem dX7_task_63 : decode cX7_task 63 = .ok (.iload_n 1, 1) := by decide +kernel
theorem dX7_task_64 : decode cX7_task 64 = .ok (.iaload, 1) := by decide +kernel
theorem dX7_task_65 : decode cX7_task 65 = .ok (.ireturn, 1) := by decide +kernel
theorem dX7_task_66 : decode cX7_task 66 = .ok (.aload_n 0, 1) := by decide +kernel
theorem dX7_task_67 : decode cX7_task 67 = .ok (.getfield 19, 3) := by decide +kernel
theorem dX7_task_70 : decode cX7_task 70 = .ok (.getfield 158, 3) := by decide +kernel
theorem dX7_task_73 : decode cX7_task 73 = .ok (.iload_n 1, 1) := by decide +kernel
theorem dX7_task_74 : decode cX7_task 74 = .ok (.iaload, 1) := by decide +kernel
theorem dX7_task_75 : decode cX7_task 75 = .ok (.ireturn, 1) := by decide +kernel
theorem dX7_task_76 : decode cX7_task 76 = .ok (.aload_n 0, 1) := by decide +kernel
theorem dX7_task_77 : decode cX7_task 77 = .ok (.getfield 19, 3) := by decide +kernel
theorem dX7_task_80 : decode cX7_task 80 = .ok (.getfield 161, 3) := by decide +kernel
theorem dX7_task_83 : decode cX7_task 83 = .ok (.iload_n 1, 1) := by decide +kernel
theorem dX7_task_84 : decode cX7_task 84 = .ok (.iaload, 1) := by decide +kernel
theorem dX7_task_85 : decode cX7_task 85 = .ok (.ireturn, 1) := by decide +kernel
theorem dX7_task_86 : decode cX7_task 86 = .ok (.aload_n 0, 1) := by decide +kernel
theorem dX7_task_87 : decode cX7_task 87 = .ok (.getfield 19, 3) := by decide +kernel
theorem dX7_task_90 : decode cX7_task 90 = .ok (.getfield 164, 3) := by decide +kernel
theorem dX7_task_93 : decode cX7_task 93 = .ok (.iload_n 1, 1) := by decide +kernel
theorem dX7_task_94 : decode cX7_task 94 = .ok (.iaload, 1) := by decide +kernel
theorem dX7_task_95 : decode cX7_task 95 = .ok (.ireturn, 1) := by decide +kernel
theorem dX7_task_96 : decode cX7_task 96 = .ok (.aload_n 0, 1) := by decide +kernel
theorem dX7_task_97 : decode cX7_task 97 = .ok (.getfield 19, 3) := by decide +kernel
theorem dX7_task_100 : decode cX7_task 100 = .ok (.iload_n 1, 1) := by decide +kernel
theorem dX7_task_101 : decode cX7_task 101 = .ok (.invokevirtual 167, 3) := by decide +kernel
theorem dX7_task_104 : decode cX7_task 104 = .ok (.ifCond .eq 7, 3) := by decide +kernel
theorem dX7_task_107 : decode cX7_task 107 = .ok (.iconst 1, 1) := by decide +kernel
theorem dX7_task_108 : decode cX7_task 108 = .ok (.goto 4, 3) := by decide +kernel
theorem dX7_task_111 : decode cX7_task 111 = .ok (.iconst 0, 1) := by decide +kernel
theorem dX7_task_112 : decode cX7_task 112 = .ok (.ireturn, 1) := by decide +kernel
theorem dX7_task_113 : decode cX7_task 113 = .ok (.aload_n 0, 1) := by decide +kernel
theorem dX7_task_114 : decode cX7_task 114 = .ok (.getfield 19, 3) := by decide +kernel
theorem dX7_task_117 : decode cX7_task 117 = .ok (.iload_n 1, 1) := by decide +kernel
theorem dX7_task_118 : decode cX7_task 118 = .ok (.invokevirtual 170, 3) := by decide +kernel
theorem dX7_task_121 : decode cX7_task 121 = .ok (.ireturn, 1) := by decide +kernel
theorem dX7_task_122 : decode cX7_task 122 = .ok (.aload_n 0, 1) := by decide +kernel
theorem dX7_task_123 : decode cX7_task 123 = .ok (.getfield 19, 3) := by decide +kernel
theorem dX7_task_126 : decode cX7_task 126 = .ok (.iload_n 1, 1) := by decide +kernel
theorem dX7_task_127 : decode cX7_task 127 = .ok (.invokevirtual 173, 3) := by decide +kernel
theorem dX7_task_130 : decode cX7_task 130 = .ok (.ireturn, 1) := by decide +kernel
theorem dX7_note_0 : decode cX7_note 0 = .ok (.aload_n 0, 1) := by decide +kernel
theorem dX7_note_1 : decode cX7_note 1 = .ok (.getfield 19, 3) := by decide +kernel
theorem dX7_note_4 : decode cX7_note 4 = .ok (.iload_n 1, 1) := by decide +kernel
theorem dX7_note_5 : decode cX7_note 5 = .ok (.invokevirtual 119, 3) := by decide +kernel
theorem dX7_note_8 : decode cX7_note 8 = .ok (.ifCond .eq 18, 3) := by decide +kernel
theorem dX7_note_11 : decode cX7_note 11 = .ok (.aload_n 0, 1) := by decide +kernel
theorem dX7_note_12 : decode cX7_note 12 = .ok (.getfield 19, 3) := by decide +kernel
theorem dX7_note_15 : decode cX7_note 15 = .ok (.iload_n 2, 1) := by decide +kernel
theorem dX7_note_16 : decode cX7_note 16 = .ok (.invokevirtual 152, 3) := by decide +kernel
theorem dX7_note_19 : decode cX7_note 19 = .ok (.ifCond .eq 7, 3) := by decide +kernel
theorem dX7_note_22 : decode cX7_note 22 = .ok (.iconst 1, 1) := by decide +kernel
theorem dX7_note_23 : decode cX7_note 23 = .ok (.goto 4, 3) := by decide +kernel
theorem dX7_note_26 : decode cX7_note 26 = .ok (.iconst 0, 1) := by decide +kernel
theorem dX7_note_27 : decode cX7_note 27 = .ok (.invokestatic 123, 3) := by decide +kernel
theorem dX7_note_30 : decode cX7_note 30 = .ok (.iload_n 3, 1) := by decide +kernel
theorem dX7_note_31 : decode cX7_note 31 = .ok (.iconst 0, 1) := by decide +kernel
theorem dX7_note_32 : decode cX7_note 32 = .ok (.iconst 3, 1) := by decide +kernel
theorem dX7_note_33 : decode cX7_note 33 = .ok (.invokestatic 64, 3) := by decide +kernel
theorem dX7_note_36 : decode cX7_note 36 = .ok (.iload_n 1, 1) := by decide +kernel
theorem dX7_note_37 : decode cX7_note 37 = .ok (.iload_n 2, 1) := by decide +kernel
theorem dX7_note_38 : decode cX7_note 38 = .ok (.invokestatic 176, 3) := by decide +kernel
theorem dX7_note_41 : decode cX7_note 41 = .ok (.istore 4, 2) := by decide +kernel
theorem dX7_note_43 : decode cX7_note 43 = .ok (.iload_n 3, 1) := by decide +kernel
theorem dX7_note_44 : decode cX7_note 44 = .ok (.ifCond .ne 17, 3) := by decide +kernel
theorem dX7_note_47 : decode cX7_note 47 = .ok (.aload_n 0, 1) := by decide +kernel
theorem dX7_note_48 : decode cX7_note 48 = .ok (.getfield 19, 3) := by decide +kernel
theorem dX7_note_51 : decode cX7_note 51 = .ok (.getfield 180, 3) := by decide +kernel
theorem dX7_note_54 : decode cX7_note 54 = .ok (.getfield 184, 3) := by decide +kernel
theorem dX7_note_57 : decode cX7_note 57 = .ok (.iload 4, 2) := by decide +kernel
theorem dX7_note_59 : decode cX7_note 59 = .ok (.iaload, 1) := by decide +kernel
theorem dX7_note_60 : decode cX7_note 60 = .ok (.ireturn, 1) := by decide +kernel
theorem dX7_note_61 : decode cX7_note 61 = .ok (.aload_n 0, 1) := by decide +kernel
theorem dX7_note_62 : decode cX7_note 62 = .ok (.getfield 19, 3) := by decide +kernel
theorem dX7_note_65 : decode cX7_note 65 = .ok (.getfield 180, 3) := by decide +kernel
theorem dX7_note_68 : decode cX7_note 68 = .ok (.getfield 184, 3) := by decide +kernel
theorem dX7_note_71 : decode cX7_note 71 = .ok (.iload 4, 2) := by decide +kernel
theorem dX7_note_73 : decode cX7_note 73 = .ok (.iaload, 1) := by decide +kernel
theorem dX7_note_74 : decode cX7_note 74 = .ok (.iconst 1, 1) := by decide +kernel
theorem dX7_note_75 : decode cX7_note 75 = .ok (.if_icmp .eq 6, 3) := by decide +kernel
theorem dX7_note_78 : decode cX7_note 78 = .ok (.bipush (-9), 2) := by decide +kernel
theorem dX7_note_80 : decode cX7_note 80 = .ok (.ireturn, 1) := by decide +kernel
theorem dX7_note_81 : decode cX7_note 81 = .ok (.iload_n 3, 1) := by decide +kernel
theorem dX7_note_82 : decode cX7_note 82 = .ok (.lookupswitch 54 #[(1, 26), (2, 40)], 26) := by decide +kernel
theorem dX7_note_108 : decode cX7_note 108 = .ok (.aload_n 0, 1) := by decide +kernel
theorem dX7_note_109 : decode cX7_note 109 = .ok (.getfield 19, 3) := by decide +kernel
theorem dX7_note_112 : decode cX7_note 112 = .ok (.getfield 180, 3) := by decide +kernel
theorem dX7_note_115 : decode cX7_note 115 = .ok (.getfield 189, 3) := by decide +kernel
theorem dX7_note_118 : decode cX7_note 118 = .ok (.iload 4, 2) := by decide +kernel
theorem dX7_note_120 : decode cX7_note 120 = .ok (.iaload, 1) := by decide +kernel
theorem dX7_note_121 : decode cX7_note 121 = .ok (.ireturn, 1) := by decide +kernel
theorem dX7_note_122 : decode cX7_note 122 = .ok (.aload_n 0, 1) := by decide +kernel
theorem dX7_note_123 : decode cX7_note 123 = .ok (.getfield 19, 3) := by decide +kernel
theorem dX7_note_126 : decode cX7_note 126 = .ok (.getfield 180, 3) := by decide +kernel
theorem dX7_note_129 : decode cX7_note 129 = .ok (.getfield 192, 3) := by decide +kernel
theorem dX7_note_132 : decode cX7_note 132 = .ok (.iload 4, 2) := by decide +kernel
theorem dX7_note_134 : decode cX7_note 134 = .ok (.iaload, 1) := by decide +kernel
theorem dX7_note_135 : decode cX7_note 135 = .ok (.ireturn, 1) := by decide +kernel
theorem dX7_note_136 : decode cX7_note 136 = .ok (.aload_n 0, 1) := by decide +kernel
theorem dX7_note_137 : decode cX7_note 137 = .ok (.getfield 19, 3) := by decide +kernel
theorem dX7_note_140 : decode cX7_note 140 = .ok (.getfield 180, 3) := by decide +kernel
theorem dX7_note_143 : decode cX7_note 143 = .ok (.getfield 195, 3) := by decide +kernel
theorem dX7_note_146 : decode cX7_note 146 = .ok (.iload 4, 2) := by decide +kernel
theorem dX7_note_148 : decode cX7_note 148 = .ok (.iaload, 1) := by decide +kernel
theorem dX7_note_149 : decode cX7_note 149 = .ok (.ireturn, 1) := by decide +kernel
theorem dX7_step_0 : decode cX7_step 0 = .ok (.iload_n 1, 1) := by decide +kernel
theorem dX7_step_1 : decode cX7_step 1 = .ok (.iconst 1, 1) := by decide +kernel
theorem dX7_step_2 : decode cX7_step 2 = .ok (.bipush 99, 2) := by decide +kernel
theorem dX7_step_4 : decode cX7_step 4 = .ok (.invokestatic 64, 3) := by decide +kernel
theorem dX7_step_7 : decode cX7_step 7 = .ok (.aload_n 0, 1) := by decide +kernel
theorem dX7_step_8 : decode cX7_step 8 = .ok (.getfield 29, 3) := by decide +kernel
theorem dX7_step_11 : decode cX7_step 11 = .ok (.aload_n 0, 1) := by decide +kernel
theorem dX7_step_12 : decode cX7_step 12 = .ok (.getfield 19, 3) := by decide +kernel
theorem dX7_step_15 : decode cX7_step 15 = .ok (.invokevirtual 198, 3) := by decide +kernel
theorem dX7_step_18 : decode cX7_step 18 = .ok (.aload_n 0, 1) := by decide +kernel
theorem dX7_step_19 : decode cX7_step 19 = .ok (.getfield 44, 3) := by decide +kernel
theorem dX7_step_22 : decode cX7_step 22 = .ok (.aload_n 0, 1) := by decide +kernel
theorem dX7_step_23 : decode cX7_step 23 = .ok (.getfield 19, 3) := by decide +kernel
theorem dX7_step_26 : decode cX7_step 26 = .ok (.iload_n 1, 1) := by decide +kernel
theorem dX7_step_27 : decode cX7_step 27 = .ok (.invokevirtual 201, 3) := by decide +kernel
theorem dX7_step_30 : decode cX7_step 30 = .ok (.aload_n 0, 1) := by decide +kernel
theorem dX7_step_31 : decode cX7_step 31 = .ok (.getfield 19, 3) := by decide +kernel
theorem dX7_step_34 : decode cX7_step 34 = .ok (.invokevirtual 106, 3) := by decide +kernel
theorem dX7_step_37 : decode cX7_step 37 = .ok (.ireturn, 1) := by decide +kernel
theorem dX7_setRange_0 : decode cX7_setRange 0 = .ok (.aload_n 0, 1) := by decide +kernel
theorem dX7_setRange_1 : decode cX7_setRange 1 = .ok (.getfield 19, 3) := by decide +kernel
theorem dX7_setRange_4 : decode cX7_setRange 4 = .ok (.iload_n 1, 1) := by decide +kernel
theorem dX7_setRange_5 : decode cX7_setRange 5 = .ok (.invokevirtual 119, 3) := by decide +kernel
theorem dX7_setRange_8 : decode cX7_setRange 8 = .ok (.invokestatic 123, 3) := by decide +kernel
theorem dX7_setRange_11 : decode cX7_setRange 11 = .ok (.iload_n 2, 1) := by decide +kernel
theorem dX7_setRange_12 : decode cX7_setRange 12 = .ok (.iconst 0, 1) := by decide +kernel
theorem dX7_setRange_13 : decode cX7_setRange 13 = .ok (.bipush 22, 2) := by decide +kernel
theorem dX7_setRange_15 : decode cX7_setRange 15 = .ok (.invokestatic 64, 3) := by decide +kernel
theorem dX7_setRange_18 : decode cX7_setRange 18 = .ok (.aload_n 0, 1) := by decide +kernel
theorem dX7_setRange_19 : decode cX7_setRange 19 = .ok (.getfield 29, 3) := by decide +kernel
theorem dX7_setRange_22 : decode cX7_setRange 22 = .ok (.aload_n 0, 1) := by decide +kernel
theorem dX7_setRange_23 : decode cX7_setRange 23 = .ok (.getfield 19, 3) := by decide +kernel
theorem dX7_setRange_26 : decode cX7_setRange 26 = .ok (.invokevirtual 198, 3) := by decide +kernel
theorem dX7_setRange_29 : decode cX7_setRange 29 = .ok (.aload_n 0, 1) := by decide +kernel
theorem dX7_setRange_30 : decode cX7_setRange 30 = .ok (.getfield 19, 3) := by decide +kernel
theorem dX7_setRange_33 : decode cX7_setRange 33 = .ok (.getfield 133, 3) := by decide +kernel
theorem dX7_setRange_36 : decode cX7_setRange 36 = .ok (.iload_n 1, 1) := by decide +kernel
theorem dX7_setRange_37 : decode cX7_setRange 37 = .ok (.iaload, 1) := by decide +kernel
theorem dX7_setRange_38 : decode cX7_setRange 38 = .ok (.istore_n 3, 1) := by decide +kernel
theorem dX7_setRange_39 : decode cX7_setRange 39 = .ok (.aload_n 0, 1) := by decide +kernel
theorem dX7_setRange_40 : decode cX7_setRange 40 = .ok (.getfield 19, 3) := by decide +kernel
theorem dX7_setRange_43 : decode cX7_setRange 43 = .ok (.getfield 133, 3) := by decide +kernel
theorem dX7_setRange_46 : decode cX7_setRange 46 = .ok (.iload_n 1, 1) := by decide +kernel
theorem dX7_setRange_47 : decode cX7_setRange 47 = .ok (.iload_n 2, 1) := by decide +kernel
theorem dX7_setRange_48 : decode cX7_setRange 48 = .ok (.iastore, 1) := by decide +kernel
theorem dX7_setRange_49 : decode cX7_setRange 49 = .ok (.iload_n 3, 1) := by decide +kernel
theorem dX7_setRange_50 : decode cX7_setRange 50 = .ok (.ireturn, 1) := by decide +kernel
theorem dX7_put_0 : decode cX7_put 0 = .ok (.aload_n 0, 1) := by decide +kernel
theorem dX7_put_1 : decode cX7_put 1 = .ok (.getfield 19, 3) := by decide +kernel
theorem dX7_put_4 : decode cX7_put 4 = .ok (.iload_n 1, 1) := by decide +kernel
theorem dX7_put_5 : decode cX7_put 5 = .ok (.invokevirtual 119, 3) := by decide +kernel
theorem dX7_put_8 : decode cX7_put 8 = .ok (.invokestatic 123, 3) := by decide +kernel
theorem dX7_put_11 : decode cX7_put 11 = .ok (.iload_n 2, 1) := by decide +kernel
theorem dX7_put_12 : decode cX7_put 12 = .ok (.iconst 0, 1) := by decide +kernel
theorem dX7_put_13 : decode cX7_put 13 = .ok (.bipush 11, 2) := by decide +kernel
theorem dX7_put_15 : decode cX7_put 15 = .ok (.invokestatic 64, 3) := by decide +kernel
theorem dX7_put_18 : decode cX7_put 18 = .ok (.iload_n 3, 1) := by decide +kernel
theorem dX7_put_19 : decode cX7_put 19 = .ok (.iconst 0, 1) := by decide +kernel
theorem dX7_put_20 : decode cX7_put 20 = .ok (.bipush 11, 2) := by decide +kernel
theorem dX7_put_22 : decode cX7_put 22 = .ok (.invokestatic 64, 3) := by decide +kernel
theorem dX7_put_25 : decode cX7_put 25 = .ok (.aload_n 0, 1) := by decide +kernel
theorem dX7_put_26 : decode cX7_put 26 = .ok (.getfield 29, 3) := by decide +kernel
theorem dX7_put_29 : decode cX7_put 29 = .ok (.aload_n 0, 1) := by decide +kernel
theorem dX7_put_30 : decode cX7_put 30 = .ok (.getfield 19, 3) := by decide +kernel
theorem dX7_put_33 : decode cX7_put 33 = .ok (.invokevirtual 198, 3) := by decide +kernel
theorem dX7_put_36 : decode cX7_put 36 = .ok (.aload_n 0, 1) := by decide +kernel
theorem dX7_put_37 : decode cX7_put 37 = .ok (.getfield 19, 3) := by decide +kernel
theorem dX7_put_40 : decode cX7_put 40 = .ok (.getfield 126, 3) := by decide +kernel
theorem dX7_put_43 : decode cX7_put 43 = .ok (.iload_n 1, 1) := by decide +kernel
theorem dX7_put_44 : decode cX7_put 44 = .ok (.iaload, 1) := by decide +kernel
theorem dX7_put_45 : decode cX7_put 45 = .ok (.aload_n 0, 1) := by decide +kernel
theorem dX7_put_46 : decode cX7_put 46 = .ok (.getfield 19, 3) := by decide +kernel
theorem dX7_put_49 : decode cX7_put 49 = .ok (.getfield 130, 3) := by decide +kernel
theorem dX7_put_52 : decode cX7_put 52 = .ok (.iload_n 1, 1) := by decide +kernel
theorem dX7_put_53 : decode cX7_put 53 = .ok (.iaload, 1) := by decide +kernel
theorem dX7_put_54 : decode cX7_put 54 = .ok (.iload_n 2, 1) := by decide +kernel
theorem dX7_put_55 : decode cX7_put 55 = .ok (.iload_n 3, 1) := by decide +kernel
theorem dX7_put_56 : decode cX7_put 56 = .ok (.invokestatic 205, 3) := by decide +kernel
theorem dX7_put_59 : decode cX7_put 59 = .ok (.istore 4, 2) := by decide +kernel
theorem dX7_put_61 : decode cX7_put 61 = .ok (.aload_n 0, 1) := by decide +kernel
theorem dX7_put_62 : decode cX7_put 62 = .ok (.getfield 19, 3) := by decide +kernel
theorem dX7_put_65 : decode cX7_put 65 = .ok (.iload_n 1, 1) := by decide +kernel
theorem dX7_put_66 : decode cX7_put 66 = .ok (.iload_n 2, 1) := by decide +kernel
theorem dX7_put_67 : decode cX7_put 67 = .ok (.iload_n 3, 1) := by decide +kernel
theorem dX7_put_68 : decode cX7_put 68 = .ok (.invokevirtual 209, 3) := by decide +kernel
theorem dX7_put_71 : decode cX7_put 71 = .ok (.iload 4, 2) := by decide +kernel
theorem dX7_put_73 : decode cX7_put 73 = .ok (.ireturn, 1) := by decide +kernel
theorem dX7_toggle_0 : decode cX7_toggle 0 = .ok (.aload_n 0, 1) := by decide +kernel
theorem dX7_toggle_1 : decode cX7_toggle 1 = .ok (.getfield 19, 3) := by decide +kernel
theorem dX7_toggle_4 : decode cX7_toggle 4 = .ok (.iload_n 1, 1) := by decide +kernel
theorem dX7_toggle_5 : decode cX7_toggle 5 = .ok (.invokevirtual 119, 3) := by decide +kernel
theorem dX7_toggle_8 : decode cX7_toggle 8 = .ok (.invokestatic 123, 3) := by decide +kernel
theorem dX7_toggle_11 : decode cX7_toggle 11 = .ok (.aload_n 0, 1) := by decide +kernel
theorem dX7_toggle_12 : decode cX7_toggle 12 = .ok (.getfield 29, 3) := by decide +kernel
theorem dX7_toggle_15 : decode cX7_toggle 15 = .ok (.aload_n 0, 1) := by decide +kernel
theorem dX7_toggle_16 : decode cX7_toggle 16 = .ok (.getfield 19, 3) := by decide +kernel
theorem dX7_toggle_19 : decode cX7_toggle 19 = .ok (.invokevirtual 198, 3) := by decide +kernel
theorem dX7_toggle_22 : decode cX7_toggle 22 = .ok (.aload_n 0, 1) := by decide +kernel
theorem dX7_toggle_23 : decode cX7_toggle 23 = .ok (.getfield 19, 3) := by decide +kernel
theorem dX7_toggle_26 : decode cX7_toggle 26 = .ok (.iload_n 1, 1) := by decide +kernel
theorem dX7_toggle_27 : decode cX7_toggle 27 = .ok (.invokevirtual 212, 3) := by decide +kernel
theorem dX7_toggle_30 : decode cX7_toggle 30 = .ok (.aload_n 0, 1) := by decide +kernel
theorem dX7_toggle_31 : decode cX7_toggle 31 = .ok (.getfield 19, 3) := by decide +kernel
theorem dX7_toggle_34 : decode cX7_toggle 34 = .ok (.getfield 116, 3) := by decide +kernel
theorem dX7_toggle_37 : decode cX7_toggle 37 = .ok (.invokestatic 215, 3) := by decide +kernel
theorem dX7_toggle_40 : decode cX7_toggle 40 = .ok (.ireturn, 1) := by decide +kernel
theorem dX7_handOver_0 : decode cX7_handOver 0 = .ok (.aload_n 0, 1) := by decide +kernel
theorem dX7_handOver_1 : decode cX7_handOver 1 = .ok (.getfield 19, 3) := by decide +kernel
theorem dX7_handOver_4 : decode cX7_handOver 4 = .ok (.iload_n 1, 1) := by decide +kernel
theorem dX7_handOver_5 : decode cX7_handOver 5 = .ok (.invokevirtual 119, 3) := by decide +kernel
theorem dX7_handOver_8 : decode cX7_handOver 8 = .ok (.ifCond .eq 18, 3) := by decide +kernel
theorem dX7_handOver_11 : decode cX7_handOver 11 = .ok (.aload_n 0, 1) := by decide +kernel
theorem dX7_handOver_12 : decode cX7_handOver 12 = .ok (.getfield 19, 3) := by decide +kernel
theorem dX7_handOver_15 : decode cX7_handOver 15 = .ok (.iload_n 2, 1) := by decide +kernel
theorem dX7_handOver_16 : decode cX7_handOver 16 = .ok (.invokevirtual 119, 3) := by decide +kernel
theorem dX7_handOver_19 : decode cX7_handOver 19 = .ok (.ifCond .eq 7, 3) := by decide +kernel
theorem dX7_handOver_22 : decode cX7_handOver 22 = .ok (.iconst 1, 1) := by decide +kernel
theorem dX7_handOver_23 : decode cX7_handOver 23 = .ok (.goto 4, 3) := by decide +kernel
theorem dX7_handOver_26 : decode cX7_handOver 26 = .ok (.iconst 0, 1) := by decide +kernel
theorem dX7_handOver_27 : decode cX7_handOver 27 = .ok (.invokestatic 123, 3) := by decide +kernel
theorem dX7_handOver_30 : decode cX7_handOver 30 = .ok (.iload_n 1, 1) := by decide +kernel
theorem dX7_handOver_31 : decode cX7_handOver 31 = .ok (.iload_n 2, 1) := by decide +kernel
theorem dX7_handOver_32 : decode cX7_handOver 32 = .ok (.if_icmp .eq 7, 3) := by decide +kernel
theorem dX7_handOver_35 : decode cX7_handOver 35 = .ok (.iconst 1, 1) := by decide +kernel
theorem dX7_handOver_36 : decode cX7_handOver 36 = .ok (.goto 4, 3) := by decide +kernel
theorem dX7_handOver_39 : decode cX7_handOver 39 = .ok (.iconst 0, 1) := by decide +kernel
theorem dX7_handOver_40 : decode cX7_handOver 40 = .ok (.invokestatic 220, 3) := by decide +kernel
theorem dX7_handOver_43 : decode cX7_handOver 43 = .ok (.aload_n 0, 1) := by decide +kernel
theorem dX7_handOver_44 : decode cX7_handOver 44 = .ok (.getfield 19, 3) := by decide +kernel
theorem dX7_handOver_47 : decode cX7_handOver 47 = .ok (.iload_n 1, 1) := by decide +kernel
theorem dX7_handOver_48 : decode cX7_handOver 48 = .ok (.iload_n 2, 1) := by decide +kernel
theorem dX7_handOver_49 : decode cX7_handOver 49 = .ok (.invokevirtual 223, 3) := by decide +kernel
theorem dX7_handOver_52 : decode cX7_handOver 52 = .ok (.invokestatic 72, 3) := by decide +kernel
theorem dX7_handOver_55 : decode cX7_handOver 55 = .ok (.aload_n 0, 1) := by decide +kernel
theorem dX7_handOver_56 : decode cX7_handOver 56 = .ok (.getfield 29, 3) := by decide +kernel
theorem dX7_handOver_59 : decode cX7_handOver 59 = .ok (.aload_n 0, 1) := by decide +kernel
theorem dX7_handOver_60 : decode cX7_handOver 60 = .ok (.getfield 19, 3) := by decide +kernel
theorem dX7_handOver_63 : decode cX7_handOver 63 = .ok (.invokevirtual 198, 3) := by decide +kernel
theorem dX7_handOver_66 : decode cX7_handOver 66 = .ok (.aload_n 0, 1) := by decide +kernel
theorem dX7_handOver_67 : decode cX7_handOver 67 = .ok (.getfield 19, 3) := by decide +kernel
theorem dX7_handOver_70 : decode cX7_handOver 70 = .ok (.iload_n 1, 1) := by decide +kernel
theorem dX7_handOver_71 : decode cX7_handOver 71 = .ok (.invokevirtual 139, 3) := by decide +kernel
theorem dX7_handOver_74 : decode cX7_handOver 74 = .ok (.istore_n 3, 1) := by decide +kernel
theorem dX7_handOver_75 : decode cX7_handOver 75 = .ok (.aload_n 0, 1) := by decide +kernel
theorem dX7_handOver_76 : decode cX7_handOver 76 = .ok (.getfield 19, 3) := by decide +kernel
theorem dX7_handOver_79 : decode cX7_handOver 79 = .ok (.iload_n 1, 1) := by decide +kernel
theorem dX7_handOver_80 : decode cX7_handOver 80 = .ok (.iload_n 2, 1) := by decide +kernel
theorem dX7_handOver_81 : decode cX7_handOver 81 = .ok (.invokevirtual 227, 3) := by decide +kernel
theorem dX7_handOver_84 : decode cX7_handOver 84 = .ok (.iload_n 3, 1) := by decide +kernel
theorem dX7_handOver_85 : decode cX7_handOver 85 = .ok (.ireturn, 1) := by decide +kernel
theorem dX7_drop_0 : decode cX7_drop 0 = .ok (.aload_n 0, 1) := by decide +kernel
theorem dX7_drop_1 : decode cX7_drop 1 = .ok (.getfield 19, 3) := by decide +kernel
theorem dX7_drop_4 : decode cX7_drop 4 = .ok (.iload_n 1, 1) := by decide +kernel
theorem dX7_drop_5 : decode cX7_drop 5 = .ok (.invokevirtual 119, 3) := by decide +kernel
theorem dX7_drop_8 : decode cX7_drop 8 = .ok (.invokestatic 123, 3) := by decide +kernel
theorem dX7_drop_11 : decode cX7_drop 11 = .ok (.aload_n 0, 1) := by decide +kernel
theorem dX7_drop_12 : decode cX7_drop 12 = .ok (.getfield 29, 3) := by decide +kernel
theorem dX7_drop_15 : decode cX7_drop 15 = .ok (.aload_n 0, 1) := by decide +kernel
theorem dX7_drop_16 : decode cX7_drop 16 = .ok (.getfield 19, 3) := by decide +kernel
theorem dX7_drop_19 : decode cX7_drop 19 = .ok (.invokevirtual 198, 3) := by decide +kernel
theorem dX7_drop_22 : decode cX7_drop 22 = .ok (.aload_n 0, 1) := by decide +kernel
theorem dX7_drop_23 : decode cX7_drop 23 = .ok (.getfield 19, 3) := by decide +kernel
theorem dX7_drop_26 : decode cX7_drop 26 = .ok (.iload_n 1, 1) := by decide +kernel
theorem dX7_drop_27 : decode cX7_drop 27 = .ok (.invokevirtual 231, 3) := by decide +kernel
theorem dX7_drop_30 : decode cX7_drop 30 = .ok (.ireturn, 1) := by decide +kernel
theorem dX7_setLifetime_0 : decode cX7_setLifetime 0 = .ok (.iload_n 1, 1) := by decide +kernel
theorem dX7_setLifetime_1 : decode cX7_setLifetime 1 = .ok (.iconst 1, 1) := by decide +kernel
theorem dX7_setLifetime_2 : decode cX7_setLifetime 2 = .ok (.bipush 20, 2) := by decide +kernel
theorem dX7_setLifetime_4 : decode cX7_setLifetime 4 = .ok (.invokestatic 64, 3) := by decide +kernel
theorem dX7_setLifetime_7 : decode cX7_setLifetime 7 = .ok (.aload_n 0, 1) := by decide +kernel
theorem dX7_setLifetime_8 : decode cX7_setLifetime 8 = .ok (.getfield 29, 3) := by decide +kernel
theorem dX7_setLifetime_11 : decode cX7_setLifetime 11 = .ok (.aload_n 0, 1) := by decide +kernel
theorem dX7_setLifetime_12 : decode cX7_setLifetime 12 = .ok (.getfield 19, 3) := by decide +kernel
theorem dX7_setLifetime_15 : decode cX7_setLifetime 15 = .ok (.invokevirtual 198, 3) := by decide +kernel
theorem dX7_setLifetime_18 : decode cX7_setLifetime 18 = .ok (.aload_n 0, 1) := by decide +kernel
theorem dX7_setLifetime_19 : decode cX7_setLifetime 19 = .ok (.getfield 19, 3) := by decide +kernel
theorem dX7_setLifetime_22 : decode cX7_setLifetime 22 = .ok (.getfield 103, 3) := by decide +kernel
theorem dX7_setLifetime_25 : decode cX7_setLifetime 25 = .ok (.istore_n 2, 1) := by decide +kernel
theorem dX7_setLifetime_26 : decode cX7_setLifetime 26 = .ok (.aload_n 0, 1) := by decide +kernel
theorem dX7_setLifetime_27 : decode cX7_setLifetime 27 = .ok (.getfield 19, 3) := by decide +kernel
theorem dX7_setLifetime_30 : decode cX7_setLifetime 30 = .ok (.iload_n 1, 1) := by decide +kernel
theorem dX7_setLifetime_31 : decode cX7_setLifetime 31 = .ok (.putfield 103, 3) := by decide +kernel
theorem dX7_setLifetime_34 : decode cX7_setLifetime 34 = .ok (.iload_n 2, 1) := by decide +kernel
theorem dX7_setLifetime_35 : decode cX7_setLifetime 35 = .ok (.ireturn, 1) := by decide +kernel
theorem dX7_undo_0 : decode cX7_undo 0 = .ok (.aload_n 0, 1) := by decide +kernel
theorem dX7_undo_1 : decode cX7_undo 1 = .ok (.getfield 29, 3) := by decide +kernel
theorem dX7_undo_4 : decode cX7_undo 4 = .ok (.getfield 234, 3) := by decide +kernel
theorem dX7_undo_7 : decode cX7_undo 7 = .ok (.ifCond .le 7, 3) := by decide +kernel
theorem dX7_undo_10 : decode cX7_undo 10 = .ok (.iconst 1, 1) := by decide +kernel
theorem dX7_undo_11 : decode cX7_undo 11 = .ok (.goto 4, 3) := by decide +kernel
theorem dX7_undo_14 : decode cX7_undo 14 = .ok (.iconst 0, 1) := by decide +kernel
theorem dX7_undo_15 : decode cX7_undo 15 = .ok (.invokestatic 72, 3) := by decide +kernel
theorem dX7_undo_18 : decode cX7_undo 18 = .ok (.aload_n 0, 1) := by decide +kernel
theorem dX7_undo_19 : decode cX7_undo 19 = .ok (.getfield 29, 3) := by decide +kernel
theorem dX7_undo_22 : decode cX7_undo 22 = .ok (.aload_n 0, 1) := by decide +kernel
theorem dX7_undo_23 : decode cX7_undo 23 = .ok (.getfield 19, 3) := by decide +kernel
theorem dX7_undo_26 : decode cX7_undo 26 = .ok (.invokevirtual 237, 3) := by decide +kernel
theorem dX7_undo_29 : decode cX7_undo 29 = .ok (.aload_n 0, 1) := by decide +kernel
theorem dX7_undo_30 : decode cX7_undo 30 = .ok (.getfield 29, 3) := by decide +kernel
theorem dX7_undo_33 : decode cX7_undo 33 = .ok (.getfield 234, 3) := by decide +kernel
theorem dX7_undo_36 : decode cX7_undo 36 = .ok (.ireturn, 1) := by decide +kernel
theorem dX7_hops_0 : decode cX7_hops 0 = .ok (.aload_n 0, 1) := by decide +kernel
theorem dX7_hops_1 : decode cX7_hops 1 = .ok (.getfield 19, 3) := by decide +kernel
theorem dX7_hops_4 : decode cX7_hops 4 = .ok (.iload_n 1, 1) := by decide +kernel
theorem dX7_hops_5 : decode cX7_hops 5 = .ok (.invokevirtual 119, 3) := by decide +kernel
theorem dX7_hops_8 : decode cX7_hops 8 = .ok (.ifCond .eq 18, 3) := by decide +kernel
theorem dX7_hops_11 : decode cX7_hops 11 = .ok (.aload_n 0, 1) := by decide +kernel
theorem dX7_hops_12 : decode cX7_hops 12 = .ok (.getfield 19, 3) := by decide +kernel
theorem dX7_hops_15 : decode cX7_hops 15 = .ok (.iload_n 2, 1) := by decide +kernel
theorem dX7_hops_16 : decode cX7_hops 16 = .ok (.invokevirtual 119, 3) := by decide +kernel
theorem dX7_hops_19 : decode cX7_hops 19 = .ok (.ifCond .eq 7, 3) := by decide +kernel
theorem dX7_hops_22 : decode cX7_hops 22 = .ok (.iconst 1, 1) := by decide +kernel
theorem dX7_hops_23 : decode cX7_hops 23 = .ok (.goto 4, 3) := by decide +kernel
theorem dX7_hops_26 : decode cX7_hops 26 = .ok (.iconst 0, 1) := by decide +kernel
theorem dX7_hops_27 : decode cX7_hops 27 = .ok (.invokestatic 123, 3) := by decide +kernel
theorem dX7_hops_30 : decode cX7_hops 30 = .ok (.iconst 1, 1) := by decide +kernel
theorem dX7_hops_31 : decode cX7_hops 31 = .ok (.iload_n 1, 1) := by decide +kernel
theorem dX7_hops_32 : decode cX7_hops 32 = .ok (.ishl, 1) := by decide +kernel
theorem dX7_hops_33 : decode cX7_hops 33 = .ok (.istore_n 3, 1) := by decide +kernel
theorem dX7_hops_34 : decode cX7_hops 34 = .ok (.iconst 0, 1) := by decide +kernel
theorem dX7_hops_35 : decode cX7_hops 35 = .ok (.istore 4, 2) := by decide +kernel
theorem dX7_hops_37 : decode cX7_hops 37 = .ok (.iload 4, 2) := by decide +kernel
theorem dX7_hops_39 : decode cX7_hops 39 = .ok (.bipush 6, 2) := by decide +kernel
theorem dX7_hops_41 : decode cX7_hops 41 = .ok (.if_icmp .ge 29, 3) := by decide +kernel
theorem dX7_hops_44 : decode cX7_hops 44 = .ok (.iload_n 3, 1) := by decide +kernel
theorem dX7_hops_45 : decode cX7_hops 45 = .ok (.iload_n 2, 1) := by decide +kernel
theorem dX7_hops_46 : decode cX7_hops 46 = .ok (.invokestatic 240, 3) := by decide +kernel
theorem dX7_hops_49 : decode cX7_hops 49 = .ok (.ifCond .eq 6, 3) := by decide +kernel
theorem dX7_hops_52 : decode cX7_hops 52 = .ok (.iload 4, 2) := by decide +kernel
theorem dX7_hops_54 : decode cX7_hops 54 = .ok (.ireturn, 1) := by decide +kernel
theorem dX7_hops_55 : decode cX7_hops 55 = .ok (.aload_n 0, 1) := by decide +kernel
theorem dX7_hops_56 : decode cX7_hops 56 = .ok (.getfield 19, 3) := by decide +kernel
theorem dX7_hops_59 : decode cX7_hops 59 = .ok (.iload_n 3, 1) := by decide +kernel
theorem dX7_hops_60 : decode cX7_hops 60 = .ok (.invokevirtual 243, 3) := by decide +kernel
theorem dX7_hops_63 : decode cX7_hops 63 = .ok (.istore_n 3, 1) := by decide +kernel
theorem dX7_hops_64 : decode cX7_hops 64 = .ok (.iinc 4 1, 3) := by decide +kernel
theorem dX7_hops_67 : decode cX7_hops 67 = .ok (.goto (-30), 3) := by decide +kernel
theorem dX7_hops_70 : decode cX7_hops 70 = .ok (.bipush (-9), 2) := by decide +kernel
theorem dX7_hops_72 : decode cX7_hops 72 = .ok (.ireturn, 1) := by decide +kernel
theorem dX7_groups_0 : decode cX7_groups 0 = .ok (.aload_n 0, 1) := by decide +kernel
theorem dX7_groups_1 : decode cX7_groups 1 = .ok (.getfield 19, 3) := by decide +kernel
theorem dX7_groups_4 : decode cX7_groups 4 = .ok (.invokevirtual 246, 3) := by decide +kernel
theorem dX7_groups_7 : decode cX7_groups 7 = .ok (.ireturn, 1) := by decide +kernel
theorem dX7_rangeNeeded_0 : decode cX7_rangeNeeded 0 = .ok (.aload_n 0, 1) := by decide +kernel
theorem dX7_rangeNeeded_1 : decode cX7_rangeNeeded 1 = .ok (.getfield 23, 3) := by decide +kernel
theorem dX7_rangeNeeded_4 : decode cX7_rangeNeeded 4 = .ok (.aload_n 0, 1) := by decide +kernel
theorem dX7_rangeNeeded_5 : decode cX7_rangeNeeded 5 = .ok (.getfield 19, 3) := by decide +kernel
theorem dX7_rangeNeeded_8 : decode cX7_rangeNeeded 8 = .ok (.invokevirtual 87, 3) := by decide +kernel
theorem dX7_rangeNeeded_11 : decode cX7_rangeNeeded 11 = .ok (.iconst 0, 1) := by decide +kernel
theorem dX7_rangeNeeded_12 : decode cX7_rangeNeeded 12 = .ok (.istore_n 1, 1) := by decide +kernel
theorem dX7_rangeNeeded_13 : decode cX7_rangeNeeded 13 = .ok (.iload_n 1, 1) := by decide +kernel
theorem dX7_rangeNeeded_14 : decode cX7_rangeNeeded 14 = .ok (.bipush 22, 2) := by decide +kernel
theorem dX7_rangeNeeded_16 : decode cX7_rangeNeeded 16 = .ok (.if_icmp .ge 30, 3) := by decide +kernel
theorem dX7_rangeNeeded_19 : decode cX7_rangeNeeded 19 = .ok (.aload_n 0, 1) := by decide +kernel
theorem dX7_rangeNeeded_20 : decode cX7_rangeNeeded 20 = .ok (.getfield 23, 3) := by decide +kernel
theorem dX7_rangeNeeded_23 : decode cX7_rangeNeeded 23 = .ok (.iload_n 1, 1) := by decide +kernel
theorem dX7_rangeNeeded_24 : decode cX7_rangeNeeded 24 = .ok (.invokevirtual 249, 3) := by decide +kernel
theorem dX7_rangeNeeded_27 : decode cX7_rangeNeeded 27 = .ok (.aload_n 0, 1) := by decide +kernel
theorem dX7_rangeNeeded_28 : decode cX7_rangeNeeded 28 = .ok (.getfield 23, 3) := by decide +kernel
theorem dX7_rangeNeeded_31 : decode cX7_rangeNeeded 31 = .ok (.invokevirtual 246, 3) := by decide +kernel
theorem dX7_rangeNeeded_34 : decode cX7_rangeNeeded 34 = .ok (.iconst 1, 1) := by decide +kernel
theorem dX7_rangeNeeded_35 : decode cX7_rangeNeeded 35 = .ok (.if_icmp .gt 5, 3) := by decide +kernel
theorem dX7_rangeNeeded_38 : decode cX7_rangeNeeded 38 = .ok (.iload_n 1, 1) := by decide +kernel
theorem dX7_rangeNeeded_39 : decode cX7_rangeNeeded 39 = .ok (.ireturn, 1) := by decide +kernel
theorem dX7_rangeNeeded_40 : decode cX7_rangeNeeded 40 = .ok (.iinc 1 1, 3) := by decide +kernel
theorem dX7_rangeNeeded_43 : decode cX7_rangeNeeded 43 = .ok (.goto (-30), 3) := by decide +kernel
theorem dX7_rangeNeeded_46 : decode cX7_rangeNeeded 46 = .ok (.bipush 22, 2) := by decide +kernel
theorem dX7_rangeNeeded_48 : decode cX7_rangeNeeded 48 = .ok (.ireturn, 1) := by decide +kernel
theorem dX7_conflicts_0 : decode cX7_conflicts 0 = .ok (.iload_n 1, 1) := by decide +kernel
theorem dX7_conflicts_1 : decode cX7_conflicts 1 = .ok (.iconst 0, 1) := by decide +kernel
theorem dX7_conflicts_2 : decode cX7_conflicts 2 = .ok (.iconst 2, 1) := by decide +kernel
theorem dX7_conflicts_3 : decode cX7_conflicts 3 = .ok (.invokestatic 64, 3) := by decide +kernel
theorem dX7_conflicts_6 : decode cX7_conflicts 6 = .ok (.iload_n 1, 1) := by decide +kernel
theorem dX7_conflicts_7 : decode cX7_conflicts 7 = .ok (.lookupswitch 41 #[(0, 25), (1, 33)], 25) := by decide +kernel
theorem dX7_conflicts_32 : decode cX7_conflicts 32 = .ok (.aload_n 0, 1) := by decide +kernel
theorem dX7_conflicts_33 : decode cX7_conflicts 33 = .ok (.getfield 19, 3) := by decide +kernel
theorem dX7_conflicts_36 : decode cX7_conflicts 36 = .ok (.invokevirtual 252, 3) := by decide +kernel
theorem dX7_conflicts_39 : decode cX7_conflicts 39 = .ok (.ireturn, 1) := by decide +kernel
theorem dX7_conflicts_40 : decode cX7_conflicts 40 = .ok (.aload_n 0, 1) := by decide +kernel
theorem dX7_conflicts_41 : decode cX7_conflicts 41 = .ok (.getfield 19, 3) := by decide +kernel
theorem dX7_conflicts_44 : decode cX7_conflicts 44 = .ok (.invokevirtual 255, 3) := by decide +kernel
theorem dX7_conflicts_47 : decode cX7_conflicts 47 = .ok (.ireturn, 1) := by decide +kernel
theorem dX7_conflicts_48 : decode cX7_conflicts 48 = .ok (.aload_n 0, 1) := by decide +kernel
theorem dX7_conflicts_49 : decode cX7_conflicts 49 = .ok (.getfield 19, 3) := by decide +kernel
theorem dX7_conflicts_52 : decode cX7_conflicts 52 = .ok (.invokevirtual 258, 3) := by decide +kernel
theorem dX7_conflicts_55 : decode cX7_conflicts 55 = .ok (.ireturn, 1) := by decide +kernel
theorem dX7_finishedAfter_0 : decode cX7_finishedAfter 0 = .ok (.iload_n 1, 1) := by decide +kernel
theorem dX7_finishedAfter_1 : decode cX7_finishedAfter 1 = .ok (.iconst 0, 1) := by decide +kernel
theorem dX7_finishedAfter_2 : decode cX7_finishedAfter 2 = .ok (.bipush 8, 2) := by decide +kernel
theorem dX7_finishedAfter_4 : decode cX7_finishedAfter 4 = .ok (.invokestatic 64, 3) := by decide +kernel
theorem dX7_finishedAfter_7 : decode cX7_finishedAfter 7 = .ok (.aload_n 0, 1) := by decide +kernel
theorem dX7_finishedAfter_8 : decode cX7_finishedAfter 8 = .ok (.getfield 23, 3) := by decide +kernel
theorem dX7_finishedAfter_11 : decode cX7_finishedAfter 11 = .ok (.aload_n 0, 1) := by decide +kernel
theorem dX7_finishedAfter_12 : decode cX7_finishedAfter 12 = .ok (.getfield 19, 3) := by decide +kernel
theorem dX7_finishedAfter_15 : decode cX7_finishedAfter 15 = .ok (.invokevirtual 87, 3) := by decide +kernel
theorem dX7_finishedAfter_18 : decode cX7_finishedAfter 18 = .ok (.iconst 0, 1) := by decide +kernel
theorem dX7_finishedAfter_19 : decode cX7_finishedAfter 19 = .ok (.istore_n 2, 1) := by decide +kernel
theorem dX7_finishedAfter_20 : decode cX7_finishedAfter 20 = .ok (.iload_n 2, 1) := by decide +kernel
theorem dX7_finishedAfter_21 : decode cX7_finishedAfter 21 = .ok (.sipush 150, 3) := by decide +kernel
theorem dX7_finishedAfter_24 : decode cX7_finishedAfter 24 = .ok (.if_icmp .gt 34, 3) := by decide +kernel
theorem dX7_finishedAfter_27 : decode cX7_finishedAfter 27 = .ok (.aload_n 0, 1) := by decide +kernel
theorem dX7_finishedAfter_28 : decode cX7_finishedAfter 28 = .ok (.getfield 23, 3) := by decide +kernel
theorem dX7_finishedAfter_31 : decode cX7_finishedAfter 31 = .ok (.invokevirtual 106, 3) := by decide +kernel
theorem dX7_finishedAfter_34 : decode cX7_finishedAfter 34 = .ok (.iload_n 1, 1) := by decide +kernel
theorem dX7_finishedAfter_35 : decode cX7_finishedAfter 35 = .ok (.if_icmp .lt 5, 3) := by decide +kernel
theorem dX7_finishedAfter_38 : decode cX7_finishedAfter 38 = .ok (.iload_n 2, 1) := by decide +kernel
theorem dX7_finishedAfter_39 : decode cX7_finishedAfter 39 = .ok (.ireturn, 1) := by decide +kernel
theorem dX7_finishedAfter_40 : decode cX7_finishedAfter 40 = .ok (.aload_n 0, 1) := by decide +kernel
theorem dX7_finishedAfter_41 : decode cX7_finishedAfter 41 = .ok (.getfield 44, 3) := by decide +kernel
theorem dX7_finishedAfter_44 : decode cX7_finishedAfter 44 = .ok (.aload_n 0, 1) := by decide +kernel
theorem dX7_finishedAfter_45 : decode cX7_finishedAfter 45 = .ok (.getfield 23, 3) := by decide +kernel
theorem dX7_finishedAfter_48 : decode cX7_finishedAfter 48 = .ok (.iconst 1, 1) := by decide +kernel
theorem dX7_finishedAfter_49 : decode cX7_finishedAfter 49 = .ok (.invokevirtual 201, 3) := by decide +kernel
theorem dX7_finishedAfter_52 : decode cX7_finishedAfter 52 = .ok (.iinc 2 1, 3) := by decide +kernel
theorem dX7_finishedAfter_55 : decode cX7_finishedAfter 55 = .ok (.goto (-35), 3) := by decide +kernel
theorem dX7_finishedAfter_58 : decode cX7_finishedAfter 58 = .ok (.bipush (-9), 2) := by decide +kernel
theorem dX7_finishedAfter_60 : decode cX7_finishedAfter 60 = .ok (.ireturn, 1) := by decide +kernel
theorem dX7_knownAfter_0 : decode cX7_knownAfter 0 = .ok (.aload_n 0, 1) := by decide +kernel
theorem dX7_knownAfter_1 : decode cX7_knownAfter 1 = .ok (.getfield 19, 3) := by decide +kernel
theorem dX7_knownAfter_4 : decode cX7_knownAfter 4 = .ok (.iload_n 1, 1) := by decide +kernel
theorem dX7_knownAfter_5 : decode cX7_knownAfter 5 = .ok (.invokevirtual 152, 3) := by decide +kernel
theorem dX7_knownAfter_8 : decode cX7_knownAfter 8 = .ok (.invokestatic 123, 3) := by decide +kernel
theorem dX7_knownAfter_11 : decode cX7_knownAfter 11 = .ok (.aload_n 0, 1) := by decide +kernel
theorem dX7_knownAfter_12 : decode cX7_knownAfter 12 = .ok (.getfield 23, 3) := by decide +kernel
theorem dX7_knownAfter_15 : decode cX7_knownAfter 15 = .ok (.aload_n 0, 1) := by decide +kernel
theorem dX7_knownAfter_16 : decode cX7_knownAfter 16 = .ok (.getfield 19, 3) := by decide +kernel
theorem dX7_knownAfter_19 : decode cX7_knownAfter 19 = .ok (.invokevirtual 87, 3) := by decide +kernel
theorem dX7_knownAfter_22 : decode cX7_knownAfter 22 = .ok (.iconst 0, 1) := by decide +kernel
theorem dX7_knownAfter_23 : decode cX7_knownAfter 23 = .ok (.istore_n 2, 1) := by decide +kernel
theorem dX7_knownAfter_24 : decode cX7_knownAfter 24 = .ok (.iload_n 2, 1) := by decide +kernel
theorem dX7_knownAfter_25 : decode cX7_knownAfter 25 = .ok (.sipush 150, 3) := by decide +kernel
theorem dX7_knownAfter_28 : decode cX7_knownAfter 28 = .ok (.if_icmp .gt 34, 3) := by decide +kernel
theorem dX7_knownAfter_31 : decode cX7_knownAfter 31 = .ok (.aload_n 0, 1) := by decide +kernel
theorem dX7_knownAfter_32 : decode cX7_knownAfter 32 = .ok (.getfield 23, 3) := by decide +kernel
theorem dX7_knownAfter_35 : decode cX7_knownAfter 35 = .ok (.iload_n 1, 1) := by decide +kernel
theorem dX7_knownAfter_36 : decode cX7_knownAfter 36 = .ok (.invokevirtual 261, 3) := by decide +kernel
theorem dX7_knownAfter_39 : decode cX7_knownAfter 39 = .ok (.ifCond .eq 5, 3) := by decide +kernel
theorem dX7_knownAfter_42 : decode cX7_knownAfter 42 = .ok (.iload_n 2, 1) := by decide +kernel
theorem dX7_knownAfter_43 : decode cX7_knownAfter 43 = .ok (.ireturn, 1) := by decide +kernel
theorem dX7_knownAfter_44 : decode cX7_knownAfter 44 = .ok (.aload_n 0, 1) := by decide +kernel
theorem dX7_knownAfter_45 : decode cX7_knownAfter 45 = .ok (.getfield 44, 3) := by decide +kernel
theorem dX7_knownAfter_48 : decode cX7_knownAfter 48 = .ok (.aload_n 0, 1) := by decide +kernel
theorem dX7_knownAfter_49 : decode cX7_knownAfter 49 = .ok (.getfield 23, 3) := by decide +kernel
theorem dX7_knownAfter_52 : decode cX7_knownAfter 52 = .ok (.iconst 1, 1) := by decide +kernel
theorem dX7_knownAfter_53 : decode cX7_knownAfter 53 = .ok (.invokevirtual 201, 3) := by decide +kernel
theorem dX7_knownAfter_56 : decode cX7_knownAfter 56 = .ok (.iinc 2 1, 3) := by decide +kernel
theorem dX7_knownAfter_59 : decode cX7_knownAfter 59 = .ok (.goto (-35), 3) := by decide +kernel
theorem dX7_knownAfter_62 : decode cX7_knownAfter 62 = .ok (.bipush (-9), 2) := by decide +kernel
theorem dX7_knownAfter_64 : decode cX7_knownAfter 64 = .ok (.ireturn, 1) := by decide +kernel
theorem dX7_wastedIf_0 : decode cX7_wastedIf 0 = .ok (.iload_n 1, 1) := by decide +kernel
theorem dX7_wastedIf_1 : decode cX7_wastedIf 1 = .ok (.iconst 0, 1) := by decide +kernel
theorem dX7_wastedIf_2 : decode cX7_wastedIf 2 = .ok (.bipush 22, 2) := by decide +kernel
theorem dX7_wastedIf_4 : decode cX7_wastedIf 4 = .ok (.invokestatic 64, 3) := by decide +kernel
theorem dX7_wastedIf_7 : decode cX7_wastedIf 7 = .ok (.iload_n 2, 1) := by decide +kernel
theorem dX7_wastedIf_8 : decode cX7_wastedIf 8 = .ok (.iconst 1, 1) := by decide +kernel
theorem dX7_wastedIf_9 : decode cX7_wastedIf 9 = .ok (.bipush 99, 2) := by decide +kernel
theorem dX7_wastedIf_11 : decode cX7_wastedIf 11 = .ok (.invokestatic 64, 3) := by decide +kernel
theorem dX7_wastedIf_14 : decode cX7_wastedIf 14 = .ok (.aload_n 0, 1) := by decide +kernel
theorem dX7_wastedIf_15 : decode cX7_wastedIf 15 = .ok (.getfield 23, 3) := by decide +kernel
theorem dX7_wastedIf_18 : decode cX7_wastedIf 18 = .ok (.aload_n 0, 1) := by decide +kernel
theorem dX7_wastedIf_19 : decode cX7_wastedIf 19 = .ok (.getfield 19, 3) := by decide +kernel
theorem dX7_wastedIf_22 : decode cX7_wastedIf 22 = .ok (.invokevirtual 87, 3) := by decide +kernel
theorem dX7_wastedIf_25 : decode cX7_wastedIf 25 = .ok (.aload_n 0, 1) := by decide +kernel
theorem dX7_wastedIf_26 : decode cX7_wastedIf 26 = .ok (.getfield 23, 3) := by decide +kernel
theorem dX7_wastedIf_29 : decode cX7_wastedIf 29 = .ok (.iload_n 1, 1) := by decide +kernel
theorem dX7_wastedIf_30 : decode cX7_wastedIf 30 = .ok (.invokevirtual 249, 3) := by decide +kernel
theorem dX7_wastedIf_33 : decode cX7_wastedIf 33 = .ok (.aload_n 0, 1) := by decide +kernel
theorem dX7_wastedIf_34 : decode cX7_wastedIf 34 = .ok (.getfield 44, 3) := by decide +kernel
theorem dX7_wastedIf_37 : decode cX7_wastedIf 37 = .ok (.aload_n 0, 1) := by decide +kernel
theorem dX7_wastedIf_38 : decode cX7_wastedIf 38 = .ok (.getfield 23, 3) := by decide +kernel
theorem dX7_wastedIf_41 : decode cX7_wastedIf 41 = .ok (.iload_n 2, 1) := by decide +kernel
theorem dX7_wastedIf_42 : decode cX7_wastedIf 42 = .ok (.invokevirtual 201, 3) := by decide +kernel
theorem dX7_wastedIf_45 : decode cX7_wastedIf 45 = .ok (.aload_n 0, 1) := by decide +kernel
theorem dX7_wastedIf_46 : decode cX7_wastedIf 46 = .ok (.getfield 23, 3) := by decide +kernel
theorem dX7_wastedIf_49 : decode cX7_wastedIf 49 = .ok (.invokevirtual 113, 3) := by decide +kernel
theorem dX7_wastedIf_52 : decode cX7_wastedIf 52 = .ok (.ireturn, 1) := by decide +kernel
theorem dX7_worstLoss_0 : decode cX7_worstLoss 0 = .ok (.iload_n 1, 1) := by decide +kernel
theorem dX7_worstLoss_1 : decode cX7_worstLoss 1 = .ok (.iconst 1, 1) := by decide +kernel
theorem dX7_worstLoss_2 : decode cX7_worstLoss 2 = .ok (.bipush 99, 2) := by decide +kernel
theorem dX7_worstLoss_4 : decode cX7_worstLoss 4 = .ok (.invokestatic 64, 3) := by decide +kernel
theorem dX7_worstLoss_7 : decode cX7_worstLoss 7 = .ok (.bipush (-9), 2) := by decide +kernel
theorem dX7_worstLoss_9 : decode cX7_worstLoss 9 = .ok (.istore_n 2, 1) := by decide +kernel
theorem dX7_worstLoss_10 : decode cX7_worstLoss 10 = .ok (.iconst 0, 1) := by decide +kernel
theorem dX7_worstLoss_11 : decode cX7_worstLoss 11 = .ok (.istore_n 3, 1) := by decide +kernel
theorem dX7_worstLoss_12 : decode cX7_worstLoss 12 = .ok (.iconst 0, 1) := by decide +kernel
theorem dX7_worstLoss_13 : decode cX7_worstLoss 13 = .ok (.istore 4, 2) := by decide +kernel
theorem dX7_worstLoss_15 : decode cX7_worstLoss 15 = .ok (.iload 4, 2) := by decide +kernel
theorem dX7_worstLoss_17 : decode cX7_worstLoss 17 = .ok (.aload_n 0, 1) := by decide +kernel
theorem dX7_worstLoss_18 : decode cX7_worstLoss 18 = .ok (.getfield 19, 3) := by decide +kernel
theorem dX7_worstLoss_21 : decode cX7_worstLoss 21 = .ok (.getfield 94, 3) := by decide +kernel
theorem dX7_worstLoss_24 : decode cX7_worstLoss 24 = .ok (.if_icmp .ge 48, 3) := by decide +kernel
theorem dX7_worstLoss_27 : decode cX7_worstLoss 27 = .ok (.aload_n 0, 1) := by decide +kernel
theorem dX7_worstLoss_28 : decode cX7_worstLoss 28 = .ok (.getfield 19, 3) := by decide +kernel
theorem dX7_worstLoss_31 : decode cX7_worstLoss 31 = .ok (.iload 4, 2) := by decide +kernel
theorem dX7_worstLoss_33 : decode cX7_worstLoss 33 = .ok (.invokevirtual 136, 3) := by decide +kernel
theorem dX7_worstLoss_36 : decode cX7_worstLoss 36 = .ok (.ifCond .eq 30, 3) := by decide +kernel
theorem dX7_worstLoss_39 : decode cX7_worstLoss 39 = .ok (.aload_n 0, 1) := by decide +kernel
theorem dX7_worstLoss_40 : decode cX7_worstLoss 40 = .ok (.iload 4, 2) := by decide +kernel
theorem dX7_worstLoss_42 : decode cX7_worstLoss 42 = .ok (.iload_n 1, 1) := by decide +kernel
theorem dX7_worstLoss_43 : decode cX7_worstLoss 43 = .ok (.invokevirtual 264, 3) := by decide +kernel
theorem dX7_worstLoss_46 : decode cX7_worstLoss 46 = .ok (.istore 5, 2) := by decide +kernel
theorem dX7_worstLoss_48 : decode cX7_worstLoss 48 = .ok (.iload_n 2, 1) := by decide +kernel
theorem dX7_worstLoss_49 : decode cX7_worstLoss 49 = .ok (.bipush (-9), 2) := by decide +kernel
theorem dX7_worstLoss_51 : decode cX7_worstLoss 51 = .ok (.if_icmp .eq 9, 3) := by decide +kernel
theorem dX7_worstLoss_54 : decode cX7_worstLoss 54 = .ok (.iload 5, 2) := by decide +kernel
theorem dX7_worstLoss_56 : decode cX7_worstLoss 56 = .ok (.iload_n 3, 1) := by decide +kernel
theorem dX7_worstLoss_57 : decode cX7_worstLoss 57 = .ok (.if_icmp .ge 9, 3) := by decide +kernel
theorem dX7_worstLoss_60 : decode cX7_worstLoss 60 = .ok (.iload 4, 2) := by decide +kernel
theorem dX7_worstLoss_62 : decode cX7_worstLoss 62 = .ok (.istore_n 2, 1) := by decide +kernel
theorem dX7_worstLoss_63 : decode cX7_worstLoss 63 = .ok (.iload 5, 2) := by decide +kernel
theorem dX7_worstLoss_65 : decode cX7_worstLoss 65 = .ok (.istore_n 3, 1) := by decide +kernel
theorem dX7_worstLoss_66 : decode cX7_worstLoss 66 = .ok (.iinc 4 1, 3) := by decide +kernel
theorem dX7_worstLoss_69 : decode cX7_worstLoss 69 = .ok (.goto (-54), 3) := by decide +kernel
theorem dX7_worstLoss_72 : decode cX7_worstLoss 72 = .ok (.iload_n 2, 1) := by decide +kernel
theorem dX7_worstLoss_73 : decode cX7_worstLoss 73 = .ok (.ireturn, 1) := by decide +kernel
theorem dX7_progressWithout_0 : decode cX7_progressWithout 0 = .ok (.aload_n 0, 1) := by decide +kernel
theorem dX7_progressWithout_1 : decode cX7_progressWithout 1 = .ok (.getfield 23, 3) := by decide +kernel
theorem dX7_progressWithout_4 : decode cX7_progressWithout 4 = .ok (.aload_n 0, 1) := by decide +kernel
theorem dX7_progressWithout_5 : decode cX7_progressWithout 5 = .ok (.getfield 19, 3) := by decide +kernel
theorem dX7_progressWithout_8 : decode cX7_progressWithout 8 = .ok (.invokevirtual 87, 3) := by decide +kernel
theorem dX7_progressWithout_11 : decode cX7_progressWithout 11 = .ok (.aload_n 0, 1) := by decide +kernel
theorem dX7_progressWithout_12 : decode cX7_progressWithout 12 = .ok (.getfield 23, 3) := by decide +kernel
theorem dX7_progressWithout_15 : decode cX7_progressWithout 15 = .ok (.iload_n 1, 1) := by decide +kernel
theorem dX7_progressWithout_16 : decode cX7_progressWithout 16 = .ok (.invokevirtual 212, 3) := by decide +kernel
theorem dX7_progressWithout_19 : decode cX7_progressWithout 19 = .ok (.aload_n 0, 1) := by decide +kernel
theorem dX7_progressWithout_20 : decode cX7_progressWithout 20 = .ok (.getfield 44, 3) := by decide +kernel
theorem dX7_progressWithout_23 : decode cX7_progressWithout 23 = .ok (.aload_n 0, 1) := by decide +kernel
theorem dX7_progressWithout_24 : decode cX7_progressWithout 24 = .ok (.getfield 23, 3) := by decide +kernel
theorem dX7_progressWithout_27 : decode cX7_progressWithout 27 = .ok (.iload_n 2, 1) := by decide +kernel
theorem dX7_progressWithout_28 : decode cX7_progressWithout 28 = .ok (.invokevirtual 201, 3) := by decide +kernel
theorem dX7_progressWithout_31 : decode cX7_progressWithout 31 = .ok (.aload_n 0, 1) := by decide +kernel
theorem dX7_progressWithout_32 : decode cX7_progressWithout 32 = .ok (.getfield 23, 3) := by decide +kernel
theorem dX7_progressWithout_35 : decode cX7_progressWithout 35 = .ok (.invokevirtual 267, 3) := by decide +kernel
theorem dX7_progressWithout_38 : decode cX7_progressWithout 38 = .ok (.ireturn, 1) := by decide +kernel
theorem dX7_bestShare_0 : decode cX7_bestShare 0 = .ok (.iload_n 1, 1) := by decide +kernel
theorem dX7_bestShare_1 : decode cX7_bestShare 1 = .ok (.iconst (-1), 1) := by decide +kernel
theorem dX7_bestShare_2 : decode cX7_bestShare 2 = .ok (.if_icmp .eq 14, 3) := by decide +kernel
theorem dX7_bestShare_5 : decode cX7_bestShare 5 = .ok (.aload_n 0, 1) := by decide +kernel
theorem dX7_bestShare_6 : decode cX7_bestShare 6 = .ok (.getfield 19, 3) := by decide +kernel
theorem dX7_bestShare_9 : decode cX7_bestShare 9 = .ok (.iload_n 1, 1) := by decide +kernel
theorem dX7_bestShare_10 : decode cX7_bestShare 10 = .ok (.invokevirtual 119, 3) := by decide +kernel
theorem dX7_bestShare_13 : decode cX7_bestShare 13 = .ok (.ifCond .eq 7, 3) := by decide +kernel
theorem dX7_bestShare_16 : decode cX7_bestShare 16 = .ok (.iconst 1, 1) := by decide +kernel
theorem dX7_bestShare_17 : decode cX7_bestShare 17 = .ok (.goto 4, 3) := by decide +kernel
theorem dX7_bestShare_20 : decode cX7_bestShare 20 = .ok (.iconst 0, 1) := by decide +kernel
theorem dX7_bestShare_21 : decode cX7_bestShare 21 = .ok (.invokestatic 123, 3) := by decide +kernel
theorem dX7_bestShare_24 : decode cX7_bestShare 24 = .ok (.aload_n 0, 1) := by decide +kernel
theorem dX7_bestShare_25 : decode cX7_bestShare 25 = .ok (.getfield 60, 3) := by decide +kernel
theorem dX7_bestShare_28 : decode cX7_bestShare 28 = .ok (.aload_n 0, 1) := by decide +kernel
theorem dX7_bestShare_29 : decode cX7_bestShare 29 = .ok (.getfield 19, 3) := by decide +kernel
theorem dX7_bestShare_32 : decode cX7_bestShare 32 = .ok (.invokevirtual 270, 3) := by decide +kernel
theorem dX7_bestShare_35 : decode cX7_bestShare 35 = .ok (.iload_n 1, 1) := by decide +kernel
theorem dX7_bestShare_36 : decode cX7_bestShare 36 = .ok (.iconst (-1), 1) := by decide +kernel
theorem dX7_bestShare_37 : decode cX7_bestShare 37 = .ok (.if_icmp .ne 13, 3) := by decide +kernel
theorem dX7_bestShare_40 : decode cX7_bestShare 40 = .ok (.aload_n 0, 1) := by decide +kernel
theorem dX7_bestShare_41 : decode cX7_bestShare 41 = .ok (.getfield 60, 3) := by decide +kernel
theorem dX7_bestShare_44 : decode cX7_bestShare 44 = .ok (.getfield 273, 3) := by decide +kernel
theorem dX7_bestShare_47 : decode cX7_bestShare 47 = .ok (.goto 12, 3) := by decide +kernel
theorem dX7_bestShare_50 : decode cX7_bestShare 50 = .ok (.aload_n 0, 1) := by decide +kernel
theorem dX7_bestShare_51 : decode cX7_bestShare 51 = .ok (.getfield 60, 3) := by decide +kernel
theorem dX7_bestShare_54 : decode cX7_bestShare 54 = .ok (.getfield 276, 3) := by decide +kernel
theorem dX7_bestShare_57 : decode cX7_bestShare 57 = .ok (.iload_n 1, 1) := by decide +kernel
theorem dX7_bestShare_58 : decode cX7_bestShare 58 = .ok (.iaload, 1) := by decide +kernel
theorem dX7_bestShare_59 : decode cX7_bestShare 59 = .ok (.ireturn, 1) := by decide +kernel
theorem dX7_runScript_0 : decode cX7_runScript 0 = .ok (.iload_n 1, 1) := by decide +kernel
theorem dX7_runScript_1 : decode cX7_runScript 1 = .ok (.iconst 1, 1) := by decide +kernel
theorem dX7_runScript_2 : decode cX7_runScript 2 = .ok (.iconst 3, 1) := by decide +kernel
theorem dX7_runScript_3 : decode cX7_runScript 3 = .ok (.invokestatic 64, 3) := by decide +kernel
theorem dX7_runScript_6 : decode cX7_runScript 6 = .ok (.lconst 1, 1) := by decide +kernel
theorem dX7_runScript_7 : decode cX7_runScript 7 = .ok (.lstore 4, 2) := by decide +kernel
theorem dX7_runScript_9 : decode cX7_runScript 9 = .ok (.iconst 0, 1) := by decide +kernel
theorem dX7_runScript_10 : decode cX7_runScript 10 = .ok (.istore 6, 2) := by decide +kernel
theorem dX7_runScript_12 : decode cX7_runScript 12 = .ok (.iload 6, 2) := by decide +kernel
theorem dX7_runScript_14 : decode cX7_runScript 14 = .ok (.iload_n 1, 1) := by decide +kernel
theorem dX7_runScript_15 : decode cX7_runScript 15 = .ok (.if_icmp .ge 17, 3) := by decide +kernel
theorem dX7_runScript_18 : decode cX7_runScript 18 = .ok (.lload 4, 2) := by decide +kernel
theorem dX7_runScript_20 : decode cX7_runScript 20 = .ok (.ldc2_w 279, 3) := by decide +kernel
theorem dX7_runScript_23 : decode cX7_runScript 23 = .ok (.lmul, 1) := by decide +kernel
theorem dX7_runScript_24 : decode cX7_runScript 24 = .ok (.lstore 4, 2) := by decide +kernel
theorem dX7_runScript_26 : decode cX7_runScript 26 = .ok (.iinc 6 1, 3) := by decide +kernel
theorem dX7_runScript_29 : decode cX7_runScript 29 = .ok (.goto (-17), 3) := by decide +kernel
theorem dX7_runScript_32 : decode cX7_runScript 32 = .ok (.lload_n 2, 1) := by decide +kernel
theorem dX7_runScript_33 : decode cX7_runScript 33 = .ok (.lconst 0, 1) := by decide +kernel
theorem dX7_runScript_34 : decode cX7_runScript 34 = .ok (.lcmp, 1) := by decide +kernel
theorem dX7_runScript_35 : decode cX7_runScript 35 = .ok (.ifCond .lt 14, 3) := by decide +kernel
theorem dX7_runScript_38 : decode cX7_runScript 38 = .ok (.lload_n 2, 1) := by decide +kernel
theorem dX7_runScript_39 : decode cX7_runScript 39 = .ok (.lload 4, 2) := by decide +kernel
theorem dX7_runScript_41 : decode cX7_runScript 41 = .ok (.lcmp, 1) := by decide +kernel
theorem dX7_runScript_42 : decode cX7_runScript 42 = .ok (.ifCond .ge 7, 3) := by decide +kernel
theorem dX7_runScript_45 : decode cX7_runScript 45 = .ok (.iconst 1, 1) := by decide +kernel
theorem dX7_runScript_46 : decode cX7_runScript 46 = .ok (.goto 4, 3) := by decide +kernel
theorem dX7_runScript_49 : decode cX7_runScript 49 = .ok (.iconst 0, 1) := by decide +kernel
theorem dX7_runScript_50 : decode cX7_runScript 50 = .ok (.invokestatic 220, 3) := by decide +kernel
theorem dX7_runScript_53 : decode cX7_runScript 53 = .ok (.aload_n 0, 1) := by decide +kernel
theorem dX7_runScript_54 : decode cX7_runScript 54 = .ok (.getfield 23, 3) := by decide +kernel
theorem dX7_runScript_57 : decode cX7_runScript 57 = .ok (.aload_n 0, 1) := by decide +kernel
theorem dX7_runScript_58 : decode cX7_runScript 58 = .ok (.getfield 19, 3) := by decide +kernel
theorem dX7_runScript_61 : decode cX7_runScript 61 = .ok (.invokevirtual 87, 3) := by decide +kernel
theorem dX7_runScript_64 : decode cX7_runScript 64 = .ok (.iconst 0, 1) := by decide +kernel
theorem dX7_runScript_65 : decode cX7_runScript 65 = .ok (.istore 6, 2) := by decide +kernel
theorem dX7_runScript_67 : decode cX7_runScript 67 = .ok (.iload 6, 2) := by decide +kernel
theorem dX7_runScript_69 : decode cX7_runScript 69 = .ok (.iload_n 1, 1) := by decide +kernel
theorem dX7_runScript_70 : decode cX7_runScript 70 = .ok (.if_icmp .ge 47, 3) := by decide +kernel
theorem dX7_runScript_73 : decode cX7_runScript 73 = .ok (.lload 4, 2) := by decide +kernel
theorem dX7_runScript_75 : decode cX7_runScript 75 = .ok (.ldc2_w 279, 3) := by decide +kernel
theorem dX7_runScript_78 : decode cX7_runScript 78 = .ok (.ldiv, 1) := by decide +kernel
theorem dX7_runScript_79 : decode cX7_runScript 79 = .ok (.lstore 4, 2) := by decide +kernel
theorem dX7_runScript_81 : decode cX7_runScript 81 = .ok (.lload_n 2, 1) := by decide +kernel
theorem dX7_runScript_82 : decode cX7_runScript 82 = .ok (.lload 4, 2) := by decide +kernel
theorem dX7_runScript_84 : decode cX7_runScript 84 = .ok (.ldiv, 1) := by decide +kernel
theorem dX7_runScript_85 : decode cX7_runScript 85 = .ok (.ldc2_w 279, 3) := by decide +kernel
theorem dX7_runScript_88 : decode cX7_runScript 88 = .ok (.lrem, 1) := by decide +kernel
theorem dX7_runScript_89 : decode cX7_runScript 89 = .ok (.l2i, 1) := by decide +kernel
theorem dX7_runScript_90 : decode cX7_runScript 90 = .ok (.istore 7, 2) := by decide +kernel
theorem dX7_runScript_92 : decode cX7_runScript 92 = .ok (.aload_n 0, 1) := by decide +kernel
theorem dX7_runScript_93 : decode cX7_runScript 93 = .ok (.getfield 53, 3) := by decide +kernel
theorem dX7_runScript_96 : decode cX7_runScript 96 = .ok (.aload_n 0, 1) := by decide +kernel
theorem dX7_runScript_97 : decode cX7_runScript 97 = .ok (.getfield 23, 3) := by decide +kernel
theorem dX7_runScript_100 : decode cX7_runScript 100 = .ok (.iload 7, 2) := by decide +kernel
theorem dX7_runScript_102 : decode cX7_runScript 102 = .ok (.invokevirtual 281, 3) := by decide +kernel
theorem dX7_runScript_105 : decode cX7_runScript 105 = .ok (.ifCond .ne 6, 3) := by decide +kernel
theorem dX7_runScript_108 : decode cX7_runScript 108 = .ok (.iload 6, 2) := by decide +kernel
theorem dX7_runScript_110 : decode cX7_runScript 110 = .ok (.ireturn, 1) := by decide +kernel
theorem dX7_runScript_111 : decode cX7_runScript 111 = .ok (.iinc 6 1, 3) := by decide +kernel
theorem dX7_runScript_114 : decode cX7_runScript 114 = .ok (.goto (-47), 3) := by decide +kernel
theorem dX7_runScript_117 : decode cX7_runScript 117 = .ok (.bipush (-9), 2) := by decide +kernel
theorem dX7_runScript_119 : decode cX7_runScript 119 = .ok (.ireturn, 1) := by decide +kernel
theorem dX7_simulate_0 : decode cX7_simulate 0 = .ok (.iload_n 3, 1) := by decide +kernel
theorem dX7_simulate_1 : decode cX7_simulate 1 = .ok (.iconst 1, 1) := by decide +kernel
theorem dX7_simulate_2 : decode cX7_simulate 2 = .ok (.bipush 60, 2) := by decide +kernel
theorem dX7_simulate_4 : decode cX7_simulate 4 = .ok (.invokestatic 64, 3) := by decide +kernel
theorem dX7_simulate_7 : decode cX7_simulate 7 = .ok (.aload_n 0, 1) := by decide +kernel
theorem dX7_simulate_8 : decode cX7_simulate 8 = .ok (.getfield 23, 3) := by decide +kernel
theorem dX7_simulate_11 : decode cX7_simulate 11 = .ok (.aload_n 0, 1) := by decide +kernel
theorem dX7_simulate_12 : decode cX7_simulate 12 = .ok (.getfield 19, 3) := by decide +kernel
theorem dX7_simulate_15 : decode cX7_simulate 15 = .ok (.invokevirtual 87, 3) := by decide +kernel
theorem dX7_simulate_18 : decode cX7_simulate 18 = .ok (.lload_n 1, 1) := by decide +kernel
theorem dX7_simulate_19 : decode cX7_simulate 19 = .ok (.lstore 4, 2) := by decide +kernel
theorem dX7_simulate_21 : decode cX7_simulate 21 = .ok (.iconst 0, 1) := by decide +kernel
theorem dX7_simulate_22 : decode cX7_simulate 22 = .ok (.istore 6, 2) := by decide +kernel
theorem dX7_simulate_24 : decode cX7_simulate 24 = .ok (.iload 6, 2) := by decide +kernel
theorem dX7_simulate_26 : decode cX7_simulate 26 = .ok (.iload_n 3, 1) := by decide +kernel
theorem dX7_simulate_27 : decode cX7_simulate 27 = .ok (.if_icmp .ge 46, 3) := by decide +kernel
theorem dX7_simulate_30 : decode cX7_simulate 30 = .ok (.lload 4, 2) := by decide +kernel
theorem dX7_simulate_32 : decode cX7_simulate 32 = .ok (.ldc2_w 285, 3) := by decide +kernel
theorem dX7_simulate_35 : decode cX7_simulate 35 = .ok (.lmul, 1) := by decide +kernel
theorem dX7_simulate_36 : decode cX7_simulate 36 = .ok (.ldc2_w 287, 3) := by decide +kernel
theorem dX7_simulate_39 : decode cX7_simulate 39 = .ok (.ladd, 1) := by decide +kernel
theorem dX7_simulate_40 : decode cX7_simulate 40 = .ok (.lstore 4, 2) := by decide +kernel
theorem dX7_simulate_42 : decode cX7_simulate 42 = .ok (.aload_n 0, 1) := by decide +kernel
theorem dX7_simulate_43 : decode cX7_simulate 43 = .ok (.getfield 23, 3) := by decide +kernel
theorem dX7_simulate_46 : decode cX7_simulate 46 = .ok (.lload 4, 2) := by decide +kernel
theorem dX7_simulate_48 : decode cX7_simulate 48 = .ok (.bipush 33, 2) := by decide +kernel
theorem dX7_simulate_50 : decode cX7_simulate 50 = .ok (.lushr, 1) := by decide +kernel
theorem dX7_simulate_51 : decode cX7_simulate 51 = .ok (.l2i, 1) := by decide +kernel
theorem dX7_simulate_52 : decode cX7_simulate 52 = .ok (.invokestatic 289, 3) := by decide +kernel
theorem dX7_simulate_55 : decode cX7_simulate 55 = .ok (.aload_n 0, 1) := by decide +kernel
theorem dX7_simulate_56 : decode cX7_simulate 56 = .ok (.getfield 44, 3) := by decide +kernel
theorem dX7_simulate_59 : decode cX7_simulate 59 = .ok (.aload_n 0, 1) := by decide +kernel
theorem dX7_simulate_60 : decode cX7_simulate 60 = .ok (.getfield 23, 3) := by decide +kernel
theorem dX7_simulate_63 : decode cX7_simulate 63 = .ok (.iconst 1, 1) := by decide +kernel
theorem dX7_simulate_64 : decode cX7_simulate 64 = .ok (.invokevirtual 201, 3) := by decide +kernel
theorem dX7_simulate_67 : decode cX7_simulate 67 = .ok (.iinc 6 1, 3) := by decide +kernel
theorem dX7_simulate_70 : decode cX7_simulate 70 = .ok (.goto (-46), 3) := by decide +kernel
theorem dX7_simulate_73 : decode cX7_simulate 73 = .ok (.aload_n 0, 1) := by decide +kernel
theorem dX7_simulate_74 : decode cX7_simulate 74 = .ok (.getfield 23, 3) := by decide +kernel
theorem dX7_simulate_77 : decode cX7_simulate 77 = .ok (.invokevirtual 267, 3) := by decide +kernel
theorem dX7_simulate_80 : decode cX7_simulate 80 = .ok (.bipush 100, 2) := by decide +kernel
theorem dX7_simulate_82 : decode cX7_simulate 82 = .ok (.aload_n 0, 1) := by decide +kernel
theorem dX7_simulate_83 : decode cX7_simulate 83 = .ok (.getfield 23, 3) := by decide +kernel
theorem dX7_simulate_86 : decode cX7_simulate 86 = .ok (.invokevirtual 113, 3) := by decide +kernel
theorem dX7_simulate_89 : decode cX7_simulate 89 = .ok (.imul, 1) := by decide +kernel
theorem dX7_simulate_90 : decode cX7_simulate 90 = .ok (.iadd, 1) := by decide +kernel
theorem dX7_simulate_91 : decode cX7_simulate 91 = .ok (.ireturn, 1) := by decide +kernel
theorem dX7_disturb_0 : decode cX7_disturb 0 = .ok (.aload_n 0, 1) := by decide +kernel
theorem dX7_disturb_1 : decode cX7_disturb 1 = .ok (.getfield 94, 3) := by decide +kernel
theorem dX7_disturb_4 : decode cX7_disturb 4 = .ok (.ifCond .gt 4, 3) := by decide +kernel
theorem dX7_disturb_7 : decode cX7_disturb 7 = .ok (.return_, 1) := by decide +kernel
theorem dX7_disturb_8 : decode cX7_disturb 8 = .ok (.iload_n 1, 1) := by decide +kernel
theorem dX7_disturb_9 : decode cX7_disturb 9 = .ok (.bipush 8, 2) := by decide +kernel
theorem dX7_disturb_11 : decode cX7_disturb 11 = .ok (.idiv, 1) := by decide +kernel
theorem dX7_disturb_12 : decode cX7_disturb 12 = .ok (.aload_n 0, 1) := by decide +kernel
theorem dX7_disturb_13 : decode cX7_disturb 13 = .ok (.getfield 94, 3) := by decide +kernel
theorem dX7_disturb_16 : decode cX7_disturb 16 = .ok (.irem, 1) := by decide +kernel
theorem dX7_disturb_17 : decode cX7_disturb 17 = .ok (.istore_n 2, 1) := by decide +kernel
theorem dX7_disturb_18 : decode cX7_disturb 18 = .ok (.iload_n 1, 1) := by decide +kernel
theorem dX7_disturb_19 : decode cX7_disturb 19 = .ok (.bipush 8, 2) := by decide +kernel
theorem dX7_disturb_21 : decode cX7_disturb 21 = .ok (.irem, 1) := by decide +kernel
theorem dX7_disturb_22 : decode cX7_disturb 22 = .ok (.tableswitch 73 0 2 #[26, 34, 50], 26) := by decide +kernel
theorem dX7_disturb_48 : decode cX7_disturb 48 = .ok (.aload_n 0, 1) := by decide +kernel
theorem dX7_disturb_49 : decode cX7_disturb 49 = .ok (.iload_n 2, 1) := by decide +kernel
theorem dX7_disturb_50 : decode cX7_disturb 50 = .ok (.invokevirtual 212, 3) := by decide +kernel
theorem dX7_disturb_53 : decode cX7_disturb 53 = .ok (.goto 42, 3) := by decide +kernel
theorem dX7_disturb_56 : decode cX7_disturb 56 = .ok (.aload_n 0, 1) := by decide +kernel
theorem dX7_disturb_57 : decode cX7_disturb 57 = .ok (.getfield 133, 3) := by decide +kernel
theorem dX7_disturb_60 : decode cX7_disturb 60 = .ok (.iload_n 2, 1) := by decide +kernel
theorem dX7_disturb_61 : decode cX7_disturb 61 = .ok (.iload_n 1, 1) := by decide +kernel
theorem dX7_disturb_62 : decode cX7_disturb 62 = .ok (.bipush 64, 2) := by decide +kernel
theorem dX7_disturb_64 : decode cX7_disturb 64 = .ok (.idiv, 1) := by decide +kernel
theorem dX7_disturb_65 : decode cX7_disturb 65 = .ok (.bipush 23, 2) := by decide +kernel
theorem dX7_disturb_67 : decode cX7_disturb 67 = .ok (.irem, 1) := by decide +kernel
theorem dX7_disturb_68 : decode cX7_disturb 68 = .ok (.iastore, 1) := by decide +kernel
theorem dX7_disturb_69 : decode cX7_disturb 69 = .ok (.goto 26, 3) := by decide +kernel
theorem dX7_disturb_72 : decode cX7_disturb 72 = .ok (.aload_n 0, 1) := by decide +kernel
theorem dX7_disturb_73 : decode cX7_disturb 73 = .ok (.iload_n 2, 1) := by decide +kernel
theorem dX7_disturb_74 : decode cX7_disturb 74 = .ok (.iload_n 1, 1) := by decide +kernel
theorem dX7_disturb_75 : decode cX7_disturb 75 = .ok (.bipush 64, 2) := by decide +kernel
theorem dX7_disturb_77 : decode cX7_disturb 77 = .ok (.idiv, 1) := by decide +kernel
theorem dX7_disturb_78 : decode cX7_disturb 78 = .ok (.bipush 12, 2) := by decide +kernel
theorem dX7_disturb_80 : decode cX7_disturb 80 = .ok (.irem, 1) := by decide +kernel
theorem dX7_disturb_81 : decode cX7_disturb 81 = .ok (.iload_n 1, 1) := by decide +kernel
theorem dX7_disturb_82 : decode cX7_disturb 82 = .ok (.sipush 1024, 3) := by decide +kernel
theorem dX7_disturb_85 : decode cX7_disturb 85 = .ok (.idiv, 1) := by decide +kernel
theorem dX7_disturb_86 : decode cX7_disturb 86 = .ok (.bipush 12, 2) := by decide +kernel
theorem dX7_disturb_88 : decode cX7_disturb 88 = .ok (.irem, 1) := by decide +kernel
theorem dX7_disturb_89 : decode cX7_disturb 89 = .ok (.invokevirtual 209, 3) := by decide +kernel
theorem dX7_disturb_92 : decode cX7_disturb 92 = .ok (.goto 3, 3) := by decide +kernel
theorem dX7_disturb_95 : decode cX7_disturb 95 = .ok (.return_, 1) := by decide +kernel
theorem dX7_save_0 : decode cX7_save 0 = .ok (.iload_n 1, 1) := by decide +kernel
theorem dX7_save_1 : decode cX7_save 1 = .ok (.ifCond .lt 12, 3) := by decide +kernel
theorem dX7_save_4 : decode cX7_save 4 = .ok (.iload_n 1, 1) := by decide +kernel
theorem dX7_save_5 : decode cX7_save 5 = .ok (.iconst 2, 1) := by decide +kernel
theorem dX7_save_6 : decode cX7_save 6 = .ok (.if_icmp .ge 7, 3) := by decide +kernel
theorem dX7_save_9 : decode cX7_save 9 = .ok (.iconst 1, 1) := by decide +kernel
theorem dX7_save_10 : decode cX7_save 10 = .ok (.goto 4, 3) := by decide +kernel
theorem dX7_save_13 : decode cX7_save 13 = .ok (.iconst 0, 1) := by decide +kernel
theorem dX7_save_14 : decode cX7_save 14 = .ok (.invokestatic 123, 3) := by decide +kernel
theorem dX7_save_17 : decode cX7_save 17 = .ok (.aload_n 0, 1) := by decide +kernel
theorem dX7_save_18 : decode cX7_save 18 = .ok (.getfield 33, 3) := by decide +kernel
theorem dX7_save_21 : decode cX7_save 21 = .ok (.iload_n 1, 1) := by decide +kernel
theorem dX7_save_22 : decode cX7_save 22 = .ok (.aaload, 1) := by decide +kernel
theorem dX7_save_23 : decode cX7_save 23 = .ok (.aload_n 0, 1) := by decide +kernel
theorem dX7_save_24 : decode cX7_save 24 = .ok (.getfield 19, 3) := by decide +kernel
theorem dX7_save_27 : decode cX7_save 27 = .ok (.invokevirtual 87, 3) := by decide +kernel
theorem dX7_save_30 : decode cX7_save 30 = .ok (.aload_n 0, 1) := by decide +kernel
theorem dX7_save_31 : decode cX7_save 31 = .ok (.dup, 1) := by decide +kernel
theorem dX7_save_32 : decode cX7_save 32 = .ok (.getfield 37, 3) := by decide +kernel
theorem dX7_save_35 : decode cX7_save 35 = .ok (.iconst 1, 1) := by decide +kernel
theorem dX7_save_36 : decode cX7_save 36 = .ok (.iload_n 1, 1) := by decide +kernel
theorem dX7_save_37 : decode cX7_save 37 = .ok (.ishl, 1) := by decide +kernel
theorem dX7_save_38 : decode cX7_save 38 = .ok (.ior, 1) := by decide +kernel
theorem dX7_save_39 : decode cX7_save 39 = .ok (.putfield 37, 3) := by decide +kernel
theorem dX7_save_42 : decode cX7_save 42 = .ok (.aload_n 0, 1) := by decide +kernel
theorem dX7_save_43 : decode cX7_save 43 = .ok (.getfield 19, 3) := by decide +kernel
theorem dX7_save_46 : decode cX7_save 46 = .ok (.getfield 100, 3) := by decide +kernel
theorem dX7_save_49 : decode cX7_save 49 = .ok (.ireturn, 1) := by decide +kernel
theorem dX7_restore_0 : decode cX7_restore 0 = .ok (.iload_n 1, 1) := by decide +kernel
theorem dX7_restore_1 : decode cX7_restore 1 = .ok (.ifCond .lt 12, 3) := by decide +kernel
theorem dX7_restore_4 : decode cX7_restore 4 = .ok (.iload_n 1, 1) := by decide +kernel
theorem dX7_restore_5 : decode cX7_restore 5 = .ok (.iconst 2, 1) := by decide +kernel
theorem dX7_restore_6 : decode cX7_restore 6 = .ok (.if_icmp .ge 7, 3) := by decide +kernel
theorem dX7_restore_9 : decode cX7_restore 9 = .ok (.iconst 1, 1) := by decide +kernel
theorem dX7_restore_10 : decode cX7_restore 10 = .ok (.goto 4, 3) := by decide +kernel
theorem dX7_restore_13 : decode cX7_restore 13 = .ok (.iconst 0, 1) := by decide +kernel
theorem dX7_restore_14 : decode cX7_restore 14 = .ok (.invokestatic 123, 3) := by decide +kernel
theorem dX7_restore_17 : decode cX7_restore 17 = .ok (.aload_n 0, 1) := by decide +kernel
theorem dX7_restore_18 : decode cX7_restore 18 = .ok (.getfield 37, 3) := by decide +kernel
theorem dX7_restore_21 : decode cX7_restore 21 = .ok (.iload_n 1, 1) := by decide +kernel
theorem dX7_restore_22 : decode cX7_restore 22 = .ok (.invokestatic 240, 3) := by decide +kernel
theorem dX7_restore_25 : decode cX7_restore 25 = .ok (.invokestatic 72, 3) := by decide +kernel
theorem dX7_restore_28 : decode cX7_restore 28 = .ok (.aload_n 0, 1) := by decide +kernel
theorem dX7_restore_29 : decode cX7_restore 29 = .ok (.getfield 19, 3) := by decide +kernel
theorem dX7_restore_32 : decode cX7_restore 32 = .ok (.aload_n 0, 1) := by decide +kernel
theorem dX7_restore_33 : decode cX7_restore 33 = .ok (.getfield 33, 3) := by decide +kernel
theorem dX7_restore_36 : decode cX7_restore 36 = .ok (.iload_n 1, 1) := by decide +kernel
theorem dX7_restore_37 : decode cX7_restore 37 = .ok (.aaload, 1) := by decide +kernel
theorem dX7_restore_38 : decode cX7_restore 38 = .ok (.invokevirtual 87, 3) := by decide +kernel
theorem dX7_restore_41 : decode cX7_restore 41 = .ok (.aload_n 0, 1) := by decide +kernel
theorem dX7_restore_42 : decode cX7_restore 42 = .ok (.getfield 29, 3) := by decide +kernel
theorem dX7_restore_45 : decode cX7_restore 45 = .ok (.invokevirtual 91, 3) := by decide +kernel
theorem dX7_restore_48 : decode cX7_restore 48 = .ok (.aload_n 0, 1) := by decide +kernel
theorem dX7_restore_49 : decode cX7_restore 49 = .ok (.getfield 19, 3) := by decide +kernel
theorem dX7_restore_52 : decode cX7_restore 52 = .ok (.getfield 100, 3) := by decide +kernel
theorem dX7_restore_55 : decode cX7_restore 55 = .ok (.ireturn, 1) := by decide +kernel
theorem dX7_requireIndex_0 : decode cX7_requireIndex 0 = .ok (.iload_n 0, 1) := by decide +kernel
theorem dX7_requireIndex_1 : decode cX7_requireIndex 1 = .ok (.ifCond .ne 14, 3) := by decide +kernel
theorem dX7_requireIndex_4 : decode cX7_requireIndex 4 = .ok (.new 292, 3) := by decide +kernel
theorem dX7_requireIndex_7 : decode cX7_requireIndex 7 = .ok (.dup, 1) := by decide +kernel
theorem dX7_requireIndex_8 : decode cX7_requireIndex 8 = .ok (.ldc_w 294, 3) := by decide +kernel
theorem dX7_requireIndex_11 : decode cX7_requireIndex 11 = .ok (.invokespecial 296, 3) := by decide +kernel
theorem dX7_requireIndex_14 : decode cX7_requireIndex 14 = .ok (.athrow, 1) := by decide +kernel
theorem dX7_requireIndex_15 : decode cX7_requireIndex 15 = .ok (.return_, 1) := by decide +kernel
theorem dX7_requireBetween_0 : decode cX7_requireBetween 0 = .ok (.iload_n 0, 1) := by decide +kernel
theorem dX7_requireBetween_1 : decode cX7_requireBetween 1 = .ok (.iload_n 1, 1) := by decide +kernel
theorem dX7_requireBetween_2 : decode cX7_requireBetween 2 = .ok (.if_icmp .lt 12, 3) := by decide +kernel
theorem dX7_requireBetween_5 : decode cX7_requireBetween 5 = .ok (.iload_n 0, 1) := by decide +kernel
theorem dX7_requireBetween_6 : decode cX7_requireBetween 6 = .ok (.iload_n 2, 1) := by decide +kernel
theorem dX7_requireBetween_7 : decode cX7_requireBetween 7 = .ok (.if_icmp .gt 7, 3) := by decide +kernel
theorem dX7_requireBetween_10 : decode cX7_requireBetween 10 = .ok (.iconst 1, 1) := by decide +kernel
theorem dX7_requireBetween_11 : decode cX7_requireBetween 11 = .ok (.goto 4, 3) := by decide +kernel
theorem dX7_requireBetween_14 : decode cX7_requireBetween 14 = .ok (.iconst 0, 1) := by decide +kernel
theorem dX7_requireBetween_15 : decode cX7_requireBetween 15 = .ok (.invokestatic 220, 3) := by decide +kernel
theorem dX7_requireBetween_18 : decode cX7_requireBetween 18 = .ok (.return_, 1) := by decide +kernel
theorem dX7_requireArgument_0 : decode cX7_requireArgument 0 = .ok (.iload_n 0, 1) := by decide +kernel
theorem dX7_requireArgument_1 : decode cX7_requireArgument 1 = .ok (.ifCond .ne 14, 3) := by decide +kernel
theorem dX7_requireArgument_4 : decode cX7_requireArgument 4 = .ok (.new 299, 3) := by decide +kernel
theorem dX7_requireArgument_7 : decode cX7_requireArgument 7 = .ok (.dup, 1) := by decide +kernel
theorem dX7_requireArgument_8 : decode cX7_requireArgument 8 = .ok (.ldc_w 301, 3) := by decide +kernel
theorem dX7_requireArgument_11 : decode cX7_requireArgument 11 = .ok (.invokespecial 303, 3) := by decide +kernel
theorem dX7_requireArgument_14 : decode cX7_requireArgument 14 = .ok (.athrow, 1) := by decide +kernel
theorem dX7_requireArgument_15 : decode cX7_requireArgument 15 = .ok (.return_, 1) := by decide +kernel
theorem dX7_requireState_0 : decode cX7_requireState 0 = .ok (.iload_n 0, 1) := by decide +kernel
theorem dX7_requireState_1 : decode cX7_requireState 1 = .ok (.ifCond .ne 14, 3) := by decide +kernel
theorem dX7_requireState_4 : decode cX7_requireState 4 = .ok (.new 304, 3) := by decide +kernel
theorem dX7_requireState_7 : decode cX7_requireState 7 = .ok (.dup, 1) := by decide +kernel
theorem dX7_requireState_8 : decode cX7_requireState 8 = .ok (.ldc_w 306, 3) := by decide +kernel
theorem dX7_requireState_11 : decode cX7_requireState 11 = .ok (.invokespecial 308, 3) := by decide +kernel
theorem dX7_requireState_14 : decode cX7_requireState 14 = .ok (.athrow, 1) := by decide +kernel
theorem dX7_requireState_15 : decode cX7_requireState 15 = .ok (.return_, 1) := by decide +kernel
theorem dX7_distanceOf_0 : decode cX7_distanceOf 0 = .ok (.iload_n 0, 1) := by decide +kernel
theorem dX7_distanceOf_1 : decode cX7_distanceOf 1 = .ok (.iload_n 2, 1) := by decide +kernel
theorem dX7_distanceOf_2 : decode cX7_distanceOf 2 = .ok (.if_icmp .ge 9, 3) := by decide +kernel
theorem dX7_distanceOf_5 : decode cX7_distanceOf 5 = .ok (.iload_n 2, 1) := by decide +kernel
theorem dX7_distanceOf_6 : decode cX7_distanceOf 6 = .ok (.iload_n 0, 1) := by decide +kernel
theorem dX7_distanceOf_7 : decode cX7_distanceOf 7 = .ok (.isub, 1) := by decide +kernel
theorem dX7_distanceOf_8 : decode cX7_distanceOf 8 = .ok (.goto 6, 3) := by decide +kernel
theorem dX7_distanceOf_11 : decode cX7_distanceOf 11 = .ok (.iload_n 0, 1) := by decide +kernel
theorem dX7_distanceOf_12 : decode cX7_distanceOf 12 = .ok (.iload_n 2, 1) := by decide +kernel
theorem dX7_distanceOf_13 : decode cX7_distanceOf 13 = .ok (.isub, 1) := by decide +kernel
theorem dX7_distanceOf_14 : decode cX7_distanceOf 14 = .ok (.istore 4, 2) := by decide +kernel
theorem dX7_distanceOf_16 : decode cX7_distanceOf 16 = .ok (.iload_n 1, 1) := by decide +kernel
theorem dX7_distanceOf_17 : decode cX7_distanceOf 17 = .ok (.iload_n 3, 1) := by decide +kernel
theorem dX7_distanceOf_18 : decode cX7_distanceOf 18 = .ok (.if_icmp .ge 9, 3) := by decide +kernel
theorem dX7_distanceOf_21 : decode cX7_distanceOf 21 = .ok (.iload_n 3, 1) := by decide +kernel
theorem dX7_distanceOf_22 : decode cX7_distanceOf 22 = .ok (.iload_n 1, 1) := by decide +kernel
theorem dX7_distanceOf_23 : decode cX7_distanceOf 23 = .ok (.isub, 1) := by decide +kernel
theorem dX7_distanceOf_24 : decode cX7_distanceOf 24 = .ok (.goto 6, 3) := by decide +kernel
theorem dX7_distanceOf_27 : decode cX7_distanceOf 27 = .ok (.iload_n 1, 1) := by decide +kernel
theorem dX7_distanceOf_28 : decode cX7_distanceOf 28 = .ok (.iload_n 3, 1) := by decide +kernel
theorem dX7_distanceOf_29 : decode cX7_distanceOf 29 = .ok (.isub, 1) := by decide +kernel
theorem dX7_distanceOf_30 : decode cX7_distanceOf 30 = .ok (.istore 5, 2) := by decide +kernel
theorem dX7_distanceOf_32 : decode cX7_distanceOf 32 = .ok (.iload 4, 2) := by decide +kernel
theorem dX7_distanceOf_34 : decode cX7_distanceOf 34 = .ok (.iload 5, 2) := by decide +kernel
theorem dX7_distanceOf_36 : decode cX7_distanceOf 36 = .ok (.iadd, 1) := by decide +kernel
theorem dX7_distanceOf_37 : decode cX7_distanceOf 37 = .ok (.ireturn, 1) := by decide +kernel
theorem dX7_isIn_0 : decode cX7_isIn 0 = .ok (.iload_n 0, 1) := by decide +kernel
theorem dX7_isIn_1 : decode cX7_isIn 1 = .ok (.iload_n 1, 1) := by decide +kernel
theorem dX7_isIn_2 : decode cX7_isIn 2 = .ok (.ishr, 1) := by decide +kernel
theorem dX7_isIn_3 : decode cX7_isIn 3 = .ok (.iconst 1, 1) := by decide +kernel
theorem dX7_isIn_4 : decode cX7_isIn 4 = .ok (.iand, 1) := by decide +kernel
theorem dX7_isIn_5 : decode cX7_isIn 5 = .ok (.iconst 1, 1) := by decide +kernel
theorem dX7_isIn_6 : decode cX7_isIn 6 = .ok (.if_icmp .ne 7, 3) := by decide +kernel
theorem dX7_isIn_9 : decode cX7_isIn 9 = .ok (.iconst 1, 1) := by decide +kernel
theorem dX7_isIn_10 : decode cX7_isIn 10 = .ok (.goto 4, 3) := by decide +kernel
theorem dX7_isIn_13 : decode cX7_isIn 13 = .ok (.iconst 0, 1) := by decide +kernel
theorem dX7_isIn_14 : decode cX7_isIn 14 = .ok (.ireturn, 1) := by decide +kernel
theorem dX7_noteIndex_0 : decode cX7_noteIndex 0 = .ok (.iload_n 0, 1) := by decide +kernel
theorem dX7_noteIndex_1 : decode cX7_noteIndex 1 = .ok (.bipush 8, 2) := by decide +kernel
theorem dX7_noteIndex_3 : decode cX7_noteIndex 3 = .ok (.imul, 1) := by decide +kernel
theorem dX7_noteIndex_4 : decode cX7_noteIndex 4 = .ok (.iload_n 1, 1) := by decide +kernel
theorem dX7_noteIndex_5 : decode cX7_noteIndex 5 = .ok (.iadd, 1) := by decide +kernel
theorem dX7_noteIndex_6 : decode cX7_noteIndex 6 = .ok (.ireturn, 1) := by decide +kernel
end
section
theorem dX8_init_0 : decode cX8_init 0 = .ok (.aload_n 0, 1) := by decide +kernel
theorem dX8_init_1 : decode cX8_init 1 = .ok (.invokespecial 1, 3) := by decide +kernel
theorem dX8_init_4 : decode cX8_init 4 = .ok (.aload_n 0, 1) := by decide +kernel
theorem dX8_init_5 : decode cX8_init 5 = .ok (.bipush 120, 2) := by decide +kernel
theorem dX8_init_7 : decode cX8_init 7 = .ok (.newarray .int, 2) := by decide +kernel
theorem dX8_init_9 : decode cX8_init 9 = .ok (.putfield 7, 3) := by decide +kernel
theorem dX8_init_12 : decode cX8_init 12 = .ok (.aload_n 0, 1) := by decide +kernel
theorem dX8_init_13 : decode cX8_init 13 = .ok (.sipush 264, 3) := by decide +kernel
theorem dX8_init_16 : decode cX8_init 16 = .ok (.newarray .int, 2) := by decide +kernel
theorem dX8_init_18 : decode cX8_init 18 = .ok (.putfield 13, 3) := by decide +kernel
theorem dX8_init_21 : decode cX8_init 21 = .ok (.aload_n 0, 1) := by decide +kernel
theorem dX8_init_22 : decode cX8_init 22 = .ok (.sipush 264, 3) := by decide +kernel
theorem dX8_init_25 : decode cX8_init 25 = .ok (.newarray .int, 2) := by decide +kernel
theorem dX8_init_27 : decode cX8_init 27 = .ok (.putfield 16, 3) := by decide +kernel
theorem dX8_init_30 : decode cX8_init 30 = .ok (.aload_n 0, 1) := by decide +kernel
theorem dX8_init_31 : decode cX8_init 31 = .ok (.sipush 264, 3) := by decide +kernel
theorem dX8_init_34 : decode cX8_init 34 = .ok (.newarray .int, 2) := by decide +kernel
theorem dX8_init_36 : decode cX8_init 36 = .ok (.putfield 19, 3) := by decide +kernel
theorem dX8_init_39 : decode cX8_init 39 = .ok (.aload_n 0, 1) := by decide +kernel
theorem dX8_init_40 : decode cX8_init 40 = .ok (.sipush 264, 3) := by decide +kernel
theorem dX8_init_43 : decode cX8_init 43 = .ok (.newarray .int, 2) := by decide +kernel
theorem dX8_init_45 : decode cX8_init 45 = .ok (.putfield 22, 3) := by decide +kernel
theorem dX8_init_48 : decode cX8_init 48 = .ok (.aload_n 0, 1) := by decide +kernel
theorem dX8_init_49 : decode cX8_init 49 = .ok (.sipush 3696, 3) := by decide +kernel
theorem dX8_init_52 : decode cX8_init 52 = .ok (.newarray .int, 2) := by decide +kernel
theorem dX8_init_54 : decode cX8_init 54 = .ok (.putfield 25, 3) := by decide +kernel
theorem dX8_init_57 : decode cX8_init 57 = .ok (.aload_n 0, 1) := by decide +kernel
theorem dX8_init_58 : decode cX8_init 58 = .ok (.sipush 528, 3) := by decide +kernel
theorem dX8_init_61 : decode cX8_init 61 = .ok (.newarray .int, 2) := by decide +kernel
theorem dX8_init_63 : decode cX8_init 63 = .ok (.putfield 28, 3) := by decide +kernel
theorem dX8_init_66 : decode cX8_init 66 = .ok (.aload_n 0, 1) := by decide +kernel
theorem dX8_init_67 : decode cX8_init 67 = .ok (.iconst 2, 1) := by decide +kernel
theorem dX8_init_68 : decode cX8_init 68 = .ok (.newarray .boolean, 2) := by decide +kernel
theorem dX8_init_70 : decode cX8_init 70 = .ok (.putfield 31, 3) := by decide +kernel
theorem dX8_init_73 : decode cX8_init 73 = .ok (.aload_n 0, 1) := by decide +kernel
theorem dX8_init_74 : decode cX8_init 74 = .ok (.bipush 6, 2) := by decide +kernel
theorem dX8_init_76 : decode cX8_init 76 = .ok (.newarray .int, 2) := by decide +kernel
theorem dX8_init_78 : decode cX8_init 78 = .ok (.putfield 35, 3) := by decide +kernel
theorem dX8_init_81 : decode cX8_init 81 = .ok (.aload_n 0, 1) := by decide +kernel
theorem dX8_init_82 : decode cX8_init 82 = .ok (.bipush 6, 2) := by decide +kernel
theorem dX8_init_84 : decode cX8_init 84 = .ok (.newarray .int, 2) := by decide +kernel
theorem dX8_init_86 : decode cX8_init 86 = .ok (.putfield 38, 3) := by decide +kernel
theorem dX8_init_89 : decode cX8_init 89 = .ok (.aload_n 0, 1) := by decide +kernel
theorem dX8_init_90 : decode cX8_init 90 = .ok (.bipush 6, 2) := by decide +kernel
theorem dX8_init_92 : decode cX8_init 92 = .ok (.newarray .int, 2) := by decide +kernel
theorem dX8_init_94 : decode cX8_init 94 = .ok (.putfield 41, 3) := by decide +kernel
theorem dX8_init_97 : decode cX8_init 97 = .ok (.aload_n 0, 1) := by decide +kernel
theorem dX8_init_98 : decode cX8_init 98 = .ok (.getfield 16, 3) := by decide +kernel
theorem dX8_init_101 : decode cX8_init 101 = .ok (.iconst 3, 1) := by decide +kernel
theorem dX8_init_102 : decode cX8_init 102 = .ok (.iconst 5, 1) := by decide +kernel
theorem dX8_init_103 : decode cX8_init 103 = .ok (.iastore, 1) := by decide +kernel
theorem dX8_init_104 : decode cX8_init 104 = .ok (.return_, 1) := by decide +kernel
theorem dX8_thrown_0 : decode cX8_thrown 0 = .ok (.aload_n 0, 1) := by decide +kernel
theorem dX8_thrown_1 : decode cX8_thrown 1 = .ok (.getfield 44, 3) := by decide +kernel
theorem dX8_thrown_4 : decode cX8_thrown 4 = .ok (.ireturn, 1) := by decide +kernel
theorem dX8_refused_0 : decode cX8_refused 0 = .ok (.aload_n 0, 1) := by decide +kernel
theorem dX8_refused_1 : decode cX8_refused 1 = .ok (.iload_n 1, 1) := by decide +kernel
theorem dX8_refused_2 : decode cX8_refused 2 = .ok (.putfield 44, 3) := by decide +kernel
theorem dX8_refused_5 : decode cX8_refused 5 = .ok (.iload_n 1, 1) := by decide +kernel
theorem dX8_refused_6 : decode cX8_refused 6 = .ok (.ifCond .le 7, 3) := by decide +kernel
theorem dX8_refused_9 : decode cX8_refused 9 = .ok (.iconst 1, 1) := by decide +kernel
theorem dX8_refused_10 : decode cX8_refused 10 = .ok (.goto 4, 3) := by decide +kernel
theorem dX8_refused_13 : decode cX8_refused 13 = .ok (.iconst 0, 1) := by decide +kernel
theorem dX8_refused_14 : decode cX8_refused 14 = .ok (.ireturn, 1) := by decide +kernel
theorem dX8_in_0 : decode cX8_in 0 = .ok (.lload_n 0, 1) := by decide +kernel
theorem dX8_in_1 : decode cX8_in 1 = .ok (.lload_n 2, 1) := by decide +kernel
theorem dX8_in_2 : decode cX8_in 2 = .ok (.lcmp, 1) := by decide +kernel
theorem dX8_in_3 : decode cX8_in 3 = .ok (.ifCond .lt 14, 3) := by decide +kernel
theorem dX8_in_6 : decode cX8_in 6 = .ok (.lload_n 0, 1) := by decide +kernel
theorem dX8_in_7 : decode cX8_in 7 = .ok (.lload 4, 2) := by decide +kernel
theorem dX8_in_9 : decode cX8_in 9 = .ok (.lcmp, 1) := by decide +kernel
theorem dX8_in_10 : decode cX8_in 10 = .ok (.ifCond .gt 7, 3) := by decide +kernel
theorem dX8_in_13 : decode cX8_in 13 = .ok (.iconst 1, 1) := by decide +kernel
theorem dX8_in_14 : decode cX8_in 14 = .ok (.goto 4, 3) := by decide +kernel
theorem dX8_in_17 : decode cX8_in 17 = .ok (.iconst 0, 1) := by decide +kernel
theorem dX8_in_18 : decode cX8_in 18 = .ok (.ireturn, 1) := by decide +kernel
theorem dX8_copy_0 : decode cX8_copy 0 = .ok (.iconst 0, 1) := by decide +kernel
theorem dX8_copy_1 : decode cX8_copy 1 = .ok (.istore 5, 2) := by decide +kernel
theorem dX8_copy_3 : decode cX8_copy 3 = .ok (.iload 5, 2) := by decide +kernel
theorem dX8_copy_5 : decode cX8_copy 5 = .ok (.iload 4, 2) := by decide +kernel
theorem dX8_copy_7 : decode cX8_copy 7 = .ok (.if_icmp .ge 21, 3) := by decide +kernel
theorem dX8_copy_10 : decode cX8_copy 10 = .ok (.aload_n 2, 1) := by decide +kernel
theorem dX8_copy_11 : decode cX8_copy 11 = .ok (.iload_n 3, 1) := by decide +kernel
theorem dX8_copy_12 : decode cX8_copy 12 = .ok (.iload 5, 2) := by decide +kernel
theorem dX8_copy_14 : decode cX8_copy 14 = .ok (.iadd, 1) := by decide +kernel
theorem dX8_copy_15 : decode cX8_copy 15 = .ok (.aload_n 0, 1) := by decide +kernel
theorem dX8_copy_16 : decode cX8_copy 16 = .ok (.iload_n 1, 1) := by decide +kernel
theorem dX8_copy_17 : decode cX8_copy 17 = .ok (.iload 5, 2) := by decide +kernel
theorem dX8_copy_19 : decode cX8_copy 19 = .ok (.iadd, 1) := by decide +kernel
theorem dX8_copy_20 : decode cX8_copy 20 = .ok (.iaload, 1) := by decide +kernel
theorem dX8_copy_21 : decode cX8_copy 21 = .ok (.iastore, 1) := by decide +kernel
theorem dX8_copy_22 : decode cX8_copy 22 = .ok (.iinc 5 1, 3) := by decide +kernel
theorem dX8_copy_25 : decode cX8_copy 25 = .ok (.goto (-22), 3) := by decide +kernel
theorem dX8_copy_28 : decode cX8_copy 28 = .ok (.return_, 1) := by decide +kernel
theorem dX8_tenTo_0 : decode cX8_tenTo 0 = .ok (.lconst 1, 1) := by decide +kernel
theorem dX8_tenTo_1 : decode cX8_tenTo 1 = .ok (.lstore_n 1, 1) := by decide +kernel
theorem dX8_tenTo_2 : decode cX8_tenTo 2 = .ok (.iconst 0, 1) := by decide +kernel
theorem dX8_tenTo_3 : decode cX8_tenTo 3 = .ok (.istore_n 3, 1) := by decide +kernel
theorem dX8_tenTo_4 : decode cX8_tenTo 4 = .ok (.iload_n 3, 1) := by decide +kernel
theorem dX8_tenTo_5 : decode cX8_tenTo 5 = .ok (.iload_n 0, 1) := by decide +kernel
theorem dX8_tenTo_6 : decode cX8_tenTo 6 = .ok (.if_icmp .ge 15, 3) := by decide +kernel
theorem dX8_tenTo_9 : decode cX8_tenTo 9 = .ok (.lload_n 1, 1) := by decide +kernel
theorem dX8_tenTo_10 : decode cX8_tenTo 10 = .ok (.ldc2_w 48, 3) := by decide +kernel
theorem dX8_tenTo_13 : decode cX8_tenTo 13 = .ok (.lmul, 1) := by decide +kernel
theorem dX8_tenTo_14 : decode cX8_tenTo 14 = .ok (.lstore_n 1, 1) := by decide +kernel
theorem dX8_tenTo_15 : decode cX8_tenTo 15 = .ok (.iinc 3 1, 3) := by decide +kernel
theorem dX8_tenTo_18 : decode cX8_tenTo 18 = .ok (.goto (-14), 3) := by decide +kernel
theorem dX8_tenTo_21 : decode cX8_tenTo 21 = .ok (.lload_n 1, 1) := by decide +kernel
theorem dX8_tenTo_22 : decode cX8_tenTo 22 = .ok (.lreturn, 1) := by decide +kernel
theorem dX8_note_0 : decode cX8_note 0 = .ok (.aload_n 0, 1) := by decide +kernel
theorem dX8_note_1 : decode cX8_note 1 = .ok (.getfield 50, 3) := by decide +kernel
theorem dX8_note_4 : decode cX8_note 4 = .ok (.bipush 14, 2) := by decide +kernel
theorem dX8_note_6 : decode cX8_note 6 = .ok (.if_icmp .ne 31, 3) := by decide +kernel
theorem dX8_note_9 : decode cX8_note 9 = .ok (.aload_n 0, 1) := by decide +kernel
theorem dX8_note_10 : decode cX8_note 10 = .ok (.getfield 25, 3) := by decide +kernel
theorem dX8_note_13 : decode cX8_note 13 = .ok (.sipush 264, 3) := by decide +kernel
theorem dX8_note_16 : decode cX8_note 16 = .ok (.aload_n 0, 1) := by decide +kernel
theorem dX8_note_17 : decode cX8_note 17 = .ok (.getfield 25, 3) := by decide +kernel
theorem dX8_note_20 : decode cX8_note 20 = .ok (.iconst 0, 1) := by decide +kernel
theorem dX8_note_21 : decode cX8_note 21 = .ok (.sipush 3432, 3) := by decide +kernel
theorem dX8_note_24 : decode cX8_note 24 = .ok (.invokestatic 53, 3) := by decide +kernel
theorem dX8_note_27 : decode cX8_note 27 = .ok (.aload_n 0, 1) := by decide +kernel
theorem dX8_note_28 : decode cX8_note 28 = .ok (.dup, 1) := by decide +kernel
theorem dX8_note_29 : decode cX8_note 29 = .ok (.getfield 50, 3) := by decide +kernel
theorem dX8_note_32 : decode cX8_note 32 = .ok (.iconst 1, 1) := by decide +kernel
theorem dX8_note_33 : decode cX8_note 33 = .ok (.isub, 1) := by decide +kernel
theorem dX8_note_34 : decode cX8_note 34 = .ok (.putfield 50, 3) := by decide +kernel
theorem dX8_note_37 : decode cX8_note 37 = .ok (.aload_n 0, 1) := by decide +kernel
theorem dX8_note_38 : decode cX8_note 38 = .ok (.getfield 16, 3) := by decide +kernel
theorem dX8_note_41 : decode cX8_note 41 = .ok (.iconst 0, 1) := by decide +kernel
theorem dX8_note_42 : decode cX8_note 42 = .ok (.aload_n 0, 1) := by decide +kernel
theorem dX8_note_43 : decode cX8_note 43 = .ok (.getfield 25, 3) := by decide +kernel
theorem dX8_note_46 : decode cX8_note 46 = .ok (.sipush 264, 3) := by decide +kernel
theorem dX8_note_49 : decode cX8_note 49 = .ok (.aload_n 0, 1) := by decide +kernel
theorem dX8_note_50 : decode cX8_note 50 = .ok (.getfield 50, 3) := by decide +kernel
theorem dX8_note_53 : decode cX8_note 53 = .ok (.imul, 1) := by decide +kernel
theorem dX8_note_54 : decode cX8_note 54 = .ok (.sipush 264, 3) := by decide +kernel
theorem dX8_note_57 : decode cX8_note 57 = .ok (.invokestatic 53, 3) := by decide +kernel
theorem dX8_note_60 : decode cX8_note 60 = .ok (.aload_n 0, 1) := by decide +kernel
theorem dX8_note_61 : decode cX8_note 61 = .ok (.dup, 1) := by decide +kernel
theorem dX8_note_62 : decode cX8_note 62 = .ok (.getfield 50, 3) := by decide +kernel
theorem dX8_note_65 : decode cX8_note 65 = .ok (.iconst 1, 1) := by decide +kernel
theorem dX8_note_66 : decode cX8_note 66 = .ok (.iadd, 1) := by decide +kernel
theorem dX8_note_67 : decode cX8_note 67 = .ok (.putfield 50, 3) := by decide +kernel
theorem dX8_note_70 : decode cX8_note 70 = .ok (.return_, 1) := by decide +kernel
theorem dX8_size_0 : decode cX8_size 0 = .ok (.iload_n 0, 1) := by decide +kernel
theorem dX8_size_1 : decode cX8_size 1 = .ok (.ifCond .ge 8, 3) := by decide +kernel
theorem dX8_size_4 : decode cX8_size 4 = .ok (.iload_n 0, 1) := by decide +kernel
theorem dX8_size_5 : decode cX8_size 5 = .ok (.ineg, 1) := by decide +kernel
theorem dX8_size_6 : decode cX8_size 6 = .ok (.goto 4, 3) := by decide +kernel
theorem dX8_size_9 : decode cX8_size 9 = .ok (.iload_n 0, 1) := by decide +kernel
theorem dX8_size_10 : decode cX8_size 10 = .ok (.ireturn, 1) := by decide +kernel
theorem dX8_agentAt_0 : decode cX8_agentAt 0 = .ok (.iconst 4, 1) := by decide +kernel
theorem dX8_agentAt_1 : decode cX8_agentAt 1 = .ok (.bipush 6, 2) := by decide +kernel
theorem dX8_agentAt_3 : decode cX8_agentAt 3 = .ok (.iload_n 0, 1) := by decide +kernel
theorem dX8_agentAt_4 : decode cX8_agentAt 4 = .ok (.imul, 1) := by decide +kernel
theorem dX8_agentAt_5 : decode cX8_agentAt 5 = .ok (.iadd, 1) := by decide +kernel
theorem dX8_agentAt_6 : decode cX8_agentAt 6 = .ok (.ireturn, 1) := by decide +kernel
theorem dX8_taskAt_0 : decode cX8_taskAt 0 = .ok (.bipush 40, 2) := by decide +kernel
theorem dX8_taskAt_2 : decode cX8_taskAt 2 = .ok (.iconst 4, 1) := by decide +kernel
theorem dX8_taskAt_3 : decode cX8_taskAt 3 = .ok (.iload_n 0, 1) := by decide +kernel
theorem dX8_taskAt_4 : decode cX8_taskAt 4 = .ok (.imul, 1) := by decide +kernel
theorem dX8_taskAt_5 : decode cX8_taskAt 5 = .ok (.iadd, 1) := by decide +kernel
theorem dX8_taskAt_6 : decode cX8_taskAt 6 = .ok (.ireturn, 1) := by decide +kernel
theorem dX8_noteAt_0 : decode cX8_noteAt 0 = .ok (.bipush 72, 2) := by decide +kernel
theorem dX8_noteAt_2 : decode cX8_noteAt 2 = .ok (.iconst 4, 1) := by decide +kernel
theorem dX8_noteAt_3 : decode cX8_noteAt 3 = .ok (.bipush 8, 2) := by decide +kernel
theorem dX8_noteAt_5 : decode cX8_noteAt 5 = .ok (.iload_n 0, 1) := by decide +kernel
theorem dX8_noteAt_6 : decode cX8_noteAt 6 = .ok (.imul, 1) := by decide +kernel
theorem dX8_noteAt_7 : decode cX8_noteAt 7 = .ok (.iload_n 1, 1) := by decide +kernel
theorem dX8_noteAt_8 : decode cX8_noteAt 8 = .ok (.iadd, 1) := by decide +kernel
theorem dX8_noteAt_9 : decode cX8_noteAt 9 = .ok (.imul, 1) := by decide +kernel
theorem dX8_noteAt_10 : decode cX8_noteAt 10 = .ok (.iadd, 1) := by decide +kernel
theorem dX8_noteAt_11 : decode cX8_noteAt 11 = .ok (.ireturn, 1) := by decide +kernel
theorem dX8_isAgent_0 : decode cX8_isAgent 0 = .ok (.iload_n 1, 1) := by decide +kernel
theorem dX8_isAgent_1 : decode cX8_isAgent 1 = .ok (.i2l, 1) := by decide +kernel
theorem dX8_isAgent_2 : decode cX8_isAgent 2 = .ok (.lconst 0, 1) := by decide +kernel
theorem dX8_isAgent_3 : decode cX8_isAgent 3 = .ok (.aload_n 0, 1) := by decide +kernel
theorem dX8_isAgent_4 : decode cX8_isAgent 4 = .ok (.getfield 16, 3) := by decide +kernel
theorem dX8_isAgent_7 : decode cX8_isAgent 7 = .ok (.iconst 0, 1) := by decide +kernel
theorem dX8_isAgent_8 : decode cX8_isAgent 8 = .ok (.iaload, 1) := by decide +kernel
theorem dX8_isAgent_9 : decode cX8_isAgent 9 = .ok (.iconst 1, 1) := by decide +kernel
theorem dX8_isAgent_10 : decode cX8_isAgent 10 = .ok (.isub, 1) := by decide +kernel
theorem dX8_isAgent_11 : decode cX8_isAgent 11 = .ok (.i2l, 1) := by decide +kernel
theorem dX8_isAgent_12 : decode cX8_isAgent 12 = .ok (.invokestatic 57, 3) := by decide +kernel
theorem dX8_isAgent_15 : decode cX8_isAgent 15 = .ok (.ireturn, 1) := by decide +kernel
theorem dX8_isTask_0 : decode cX8_isTask 0 = .ok (.iload_n 1, 1) := by decide +kernel
theorem dX8_isTask_1 : decode cX8_isTask 1 = .ok (.i2l, 1) := by decide +kernel
theorem dX8_isTask_2 : decode cX8_isTask 2 = .ok (.lconst 0, 1) := by decide +kernel
theorem dX8_isTask_3 : decode cX8_isTask 3 = .ok (.aload_n 0, 1) := by decide +kernel
theorem dX8_isTask_4 : decode cX8_isTask 4 = .ok (.getfield 16, 3) := by decide +kernel
theorem dX8_isTask_7 : decode cX8_isTask 7 = .ok (.iconst 1, 1) := by decide +kernel
theorem dX8_isTask_8 : decode cX8_isTask 8 = .ok (.iaload, 1) := by decide +kernel
theorem dX8_isTask_9 : decode cX8_isTask 9 = .ok (.iconst 1, 1) := by decide +kernel
theorem dX8_isTask_10 : decode cX8_isTask 10 = .ok (.isub, 1) := by decide +kernel
theorem dX8_isTask_11 : decode cX8_isTask 11 = .ok (.i2l, 1) := by decide +kernel
theorem dX8_isTask_12 : decode cX8_isTask 12 = .ok (.invokestatic 57, 3) := by decide +kernel
theorem dX8_isTask_15 : decode cX8_isTask 15 = .ok (.ireturn, 1) := by decide +kernel
theorem dX8_isOn_0 : decode cX8_isOn 0 = .ok (.aload_n 0, 1) := by decide +kernel
theorem dX8_isOn_1 : decode cX8_isOn 1 = .ok (.iload_n 1, 1) := by decide +kernel
theorem dX8_isOn_2 : decode cX8_isOn 2 = .ok (.invokestatic 61, 3) := by decide +kernel
theorem dX8_isOn_5 : decode cX8_isOn 5 = .ok (.iconst 3, 1) := by decide +kernel
theorem dX8_isOn_6 : decode cX8_isOn 6 = .ok (.iadd, 1) := by decide +kernel
theorem dX8_isOn_7 : decode cX8_isOn 7 = .ok (.iaload, 1) := by decide +kernel
theorem dX8_isOn_8 : decode cX8_isOn 8 = .ok (.iconst 1, 1) := by decide +kernel
theorem dX8_isOn_9 : decode cX8_isOn 9 = .ok (.if_icmp .ne 7, 3) := by decide +kernel
theorem dX8_isOn_12 : decode cX8_isOn 12 = .ok (.iconst 1, 1) := by decide +kernel
theorem dX8_isOn_13 : decode cX8_isOn 13 = .ok (.goto 4, 3) := by decide +kernel
theorem dX8_isOn_16 : decode cX8_isOn 16 = .ok (.iconst 0, 1) := by decide +kernel
theorem dX8_isOn_17 : decode cX8_isOn 17 = .ok (.ireturn, 1) := by decide +kernel
theorem dX8_isDone_0 : decode cX8_isDone 0 = .ok (.aload_n 0, 1) := by decide +kernel
theorem dX8_isDone_1 : decode cX8_isDone 1 = .ok (.iload_n 1, 1) := by decide +kernel
theorem dX8_isDone_2 : decode cX8_isDone 2 = .ok (.invokestatic 65, 3) := by decide +kernel
theorem dX8_isDone_5 : decode cX8_isDone 5 = .ok (.iconst 3, 1) := by decide +kernel
theorem dX8_isDone_6 : decode cX8_isDone 6 = .ok (.iadd, 1) := by decide +kernel
theorem dX8_isDone_7 : decode cX8_isDone 7 = .ok (.iaload, 1) := by decide +kernel
theorem dX8_isDone_8 : decode cX8_isDone 8 = .ok (.aload_n 0, 1) := by decide +kernel
theorem dX8_isDone_9 : decode cX8_isDone 9 = .ok (.iload_n 1, 1) := by decide +kernel
theorem dX8_isDone_10 : decode cX8_isDone 10 = .ok (.invokestatic 65, 3) := by decide +kernel
theorem dX8_isDone_13 : decode cX8_isDone 13 = .ok (.iconst 2, 1) := by decide +kernel
theorem dX8_isDone_14 : decode cX8_isDone 14 = .ok (.iadd, 1) := by decide +kernel
theorem dX8_isDone_15 : decode cX8_isDone 15 = .ok (.iaload, 1) := by decide +kernel
theorem dX8_isDone_16 : decode cX8_isDone 16 = .ok (.if_icmp .ne 7, 3) := by decide +kernel
theorem dX8_isDone_19 : decode cX8_isDone 19 = .ok (.iconst 1, 1) := by decide +kernel
theorem dX8_isDone_20 : decode cX8_isDone 20 = .ok (.goto 4, 3) := by decide +kernel
theorem dX8_isDone_23 : decode cX8_isDone 23 = .ok (.iconst 0, 1) := by decide +kernel
theorem dX8_isDone_24 : decode cX8_isDone 24 = .ok (.ireturn, 1) := by decide +kernel
theorem dX8_apart_0 : decode cX8_apart 0 = .ok (.aload_n 0, 1) := by decide +kernel
theorem dX8_apart_1 : decode cX8_apart 1 = .ok (.iload_n 1, 1) := by decide +kernel
theorem dX8_apart_2 : decode cX8_apart 2 = .ok (.invokestatic 61, 3) := by decide +kernel
theorem dX8_apart_5 : decode cX8_apart 5 = .ok (.iconst 0, 1) := by decide +kernel
theorem dX8_apart_6 : decode cX8_apart 6 = .ok (.iadd, 1) := by decide +kernel
theorem dX8_apart_7 : decode cX8_apart 7 = .ok (.iaload, 1) := by decide +kernel
theorem dX8_apart_8 : decode cX8_apart 8 = .ok (.aload_n 0, 1) := by decide +kernel
theorem dX8_apart_9 : decode cX8_apart 9 = .ok (.iload_n 2, 1) := by decide +kernel
theorem dX8_apart_10 : decode cX8_apart 10 = .ok (.invokestatic 61, 3) := by decide +kernel
theorem dX8_apart_13 : decode cX8_apart 13 = .ok (.iconst 0, 1) := by decide +kernel
theorem dX8_apart_14 : decode cX8_apart 14 = .ok (.iadd, 1) := by decide +kernel
theorem dX8_apart_15 : decode cX8_apart 15 = .ok (.iaload, 1) := by decide +kernel
theorem dX8_apart_16 : decode cX8_apart 16 = .ok (.isub, 1) := by decide +kernel
theorem dX8_apart_17 : decode cX8_apart 17 = .ok (.invokestatic 68, 3) := by decide +kernel
theorem dX8_apart_20 : decode cX8_apart 20 = .ok (.aload_n 0, 1) := by decide +kernel
theorem dX8_apart_21 : decode cX8_apart 21 = .ok (.iload_n 1, 1) := by decide +kernel
theorem dX8_apart_22 : decode cX8_apart 22 = .ok (.invokestatic 61, 3) := by decide +kernel
theorem dX8_apart_25 : decode cX8_apart 25 = .ok (.iconst 1, 1) := by decide +kernel
theorem dX8_apart_26 : decode cX8_apart 26 = .ok (.iadd, 1) := by decide +kernel
theorem dX8_apart_27 : decode cX8_apart 27 = .ok (.iaload, 1) := by decide +kernel
theorem dX8_apart_28 : decode cX8_apart 28 = .ok (.aload_n 0, 1) := by decide +kernel
theorem dX8_apart_29 : decode cX8_apart 29 = .ok (.iload_n 2, 1) := by decide +kernel
theorem dX8_apart_30 : decode cX8_apart 30 = .ok (.invokestatic 61, 3) := by decide +kernel
theorem dX8_apart_33 : decode cX8_apart 33 = .ok (.iconst 1, 1) := by decide +kernel
theorem dX8_apart_34 : decode cX8_apart 34 = .ok (.iadd, 1) := by decide +kernel
theorem dX8_apart_35 : decode cX8_apart 35 = .ok (.iaload, 1) := by decide +kernel
theorem dX8_apart_36 : decode cX8_apart 36 = .ok (.isub, 1) := by decide +kernel
theorem dX8_apart_37 : decode cX8_apart 37 = .ok (.invokestatic 68, 3) := by decide +kernel
theorem dX8_apart_40 : decode cX8_apart 40 = .ok (.iadd, 1) := by decide +kernel
theorem dX8_apart_41 : decode cX8_apart 41 = .ok (.ireturn, 1) := by decide +kernel
theorem dX8_far_0 : decode cX8_far 0 = .ok (.aload_n 0, 1) := by decide +kernel
theorem dX8_far_1 : decode cX8_far 1 = .ok (.iload_n 1, 1) := by decide +kernel
theorem dX8_far_2 : decode cX8_far 2 = .ok (.invokestatic 61, 3) := by decide +kernel
theorem dX8_far_5 : decode cX8_far 5 = .ok (.iconst 0, 1) := by decide +kernel
theorem dX8_far_6 : decode cX8_far 6 = .ok (.iadd, 1) := by decide +kernel
theorem dX8_far_7 : decode cX8_far 7 = .ok (.iaload, 1) := by decide +kernel
theorem dX8_far_8 : decode cX8_far 8 = .ok (.aload_n 0, 1) := by decide +kernel
theorem dX8_far_9 : decode cX8_far 9 = .ok (.iload_n 2, 1) := by decide +kernel
theorem dX8_far_10 : decode cX8_far 10 = .ok (.invokestatic 65, 3) := by decide +kernel
theorem dX8_far_13 : decode cX8_far 13 = .ok (.iconst 0, 1) := by decide +kernel
theorem dX8_far_14 : decode cX8_far 14 = .ok (.iadd, 1) := by decide +kernel
theorem dX8_far_15 : decode cX8_far 15 = .ok (.iaload, 1) := by decide +kernel
theorem dX8_far_16 : decode cX8_far 16 = .ok (.isub, 1) := by decide +kernel
theorem dX8_far_17 : decode cX8_far 17 = .ok (.invokestatic 68, 3) := by decide +kernel
theorem dX8_far_20 : decode cX8_far 20 = .ok (.aload_n 0, 1) := by decide +kernel
theorem dX8_far_21 : decode cX8_far 21 = .ok (.iload_n 1, 1) := by decide +kernel
theorem dX8_far_22 : decode cX8_far 22 = .ok (.invokestatic 61, 3) := by decide +kernel
theorem dX8_far_25 : decode cX8_far 25 = .ok (.iconst 1, 1) := by decide +kernel
theorem dX8_far_26 : decode cX8_far 26 = .ok (.iadd, 1) := by decide +kernel
theorem dX8_far_27 : decode cX8_far 27 = .ok (.iaload, 1) := by decide +kernel
theorem dX8_far_28 : decode cX8_far 28 = .ok (.aload_n 0, 1) := by decide +kernel
theorem dX8_far_29 : decode cX8_far 29 = .ok (.iload_n 2, 1) := by decide +kernel
theorem dX8_far_30 : decode cX8_far 30 = .ok (.invokestatic 65, 3) := by decide +kernel
theorem dX8_far_33 : decode cX8_far 33 = .ok (.iconst 1, 1) := by decide +kernel
theorem dX8_far_34 : decode cX8_far 34 = .ok (.iadd, 1) := by decide +kernel
theorem dX8_far_35 : decode cX8_far 35 = .ok (.iaload, 1) := by decide +kernel
theorem dX8_far_36 : decode cX8_far 36 = .ok (.isub, 1) := by decide +kernel
theorem dX8_far_37 : decode cX8_far 37 = .ok (.invokestatic 68, 3) := by decide +kernel
theorem dX8_far_40 : decode cX8_far 40 = .ok (.iadd, 1) := by decide +kernel
theorem dX8_far_41 : decode cX8_far 41 = .ok (.ireturn, 1) := by decide +kernel
theorem dX8_hears_0 : decode cX8_hears 0 = .ok (.aload_n 0, 1) := by decide +kernel
theorem dX8_hears_1 : decode cX8_hears 1 = .ok (.iload_n 1, 1) := by decide +kernel
theorem dX8_hears_2 : decode cX8_hears 2 = .ok (.invokestatic 61, 3) := by decide +kernel
theorem dX8_hears_5 : decode cX8_hears 5 = .ok (.iconst 2, 1) := by decide +kernel
theorem dX8_hears_6 : decode cX8_hears 6 = .ok (.iadd, 1) := by decide +kernel
theorem dX8_hears_7 : decode cX8_hears 7 = .ok (.iaload, 1) := by decide +kernel
theorem dX8_hears_8 : decode cX8_hears 8 = .ok (.aload_n 0, 1) := by decide +kernel
theorem dX8_hears_9 : decode cX8_hears 9 = .ok (.iload_n 2, 1) := by decide +kernel
theorem dX8_hears_10 : decode cX8_hears 10 = .ok (.invokestatic 61, 3) := by decide +kernel
theorem dX8_hears_13 : decode cX8_hears 13 = .ok (.iconst 2, 1) := by decide +kernel
theorem dX8_hears_14 : decode cX8_hears 14 = .ok (.iadd, 1) := by decide +kernel
theorem dX8_hears_15 : decode cX8_hears 15 = .ok (.iaload, 1) := by decide +kernel
theorem dX8_hears_16 : decode cX8_hears 16 = .ok (.if_icmp .ge 14, 3) := by decide +kernel
theorem dX8_hears_19 : decode cX8_hears 19 = .ok (.aload_n 0, 1) := by decide +kernel
theorem dX8_hears_20 : decode cX8_hears 20 = .ok (.iload_n 1, 1) := by decide +kernel
theorem dX8_hears_21 : decode cX8_hears 21 = .ok (.invokestatic 61, 3) := by decide +kernel
theorem dX8_hears_24 : decode cX8_hears 24 = .ok (.iconst 2, 1) := by decide +kernel
theorem dX8_hears_25 : decode cX8_hears 25 = .ok (.iadd, 1) := by decide +kernel
theorem dX8_hears_26 : decode cX8_hears 26 = .ok (.iaload, 1) := by decide +kernel
theorem dX8_hears_27 : decode cX8_hears 27 = .ok (.goto 11, 3) := by decide +kernel
theorem dX8_hears_30 : decode cX8_hears 30 = .ok (.aload_n 0, 1) := by decide +kernel
theorem dX8_hears_31 : decode cX8_hears 31 = .ok (.iload_n 2, 1) := by decide +kernel
theorem dX8_hears_32 : decode cX8_hears 32 = .ok (.invokestatic 61, 3) := by decide +kernel
theorem dX8_hears_35 : decode cX8_hears 35 = .ok (.iconst 2, 1) := by decide +kernel
theorem dX8_hears_36 : decode cX8_hears 36 = .ok (.iadd, 1) := by decide +kernel
theorem dX8_hears_37 : decode cX8_hears 37 = .ok (.iaload, 1) := by decide +kernel
theorem dX8_hears_38 : decode cX8_hears 38 = .ok (.istore_n 3, 1) := by decide +kernel
theorem dX8_hears_39 : decode cX8_hears 39 = .ok (.iload_n 1, 1) := by decide +kernel
theorem dX8_hears_40 : decode cX8_hears 40 = .ok (.iload_n 2, 1) := by decide +kernel
theorem dX8_hears_41 : decode cX8_hears 41 = .ok (.if_icmp .eq 33, 3) := by decide +kernel
theorem dX8_hears_44 : decode cX8_hears 44 = .ok (.aload_n 0, 1) := by decide +kernel
theorem dX8_hears_45 : decode cX8_hears 45 = .ok (.iload_n 1, 1) := by decide +kernel
theorem dX8_hears_46 : decode cX8_hears 46 = .ok (.invokestatic 71, 3) := by decide +kernel
theorem dX8_hears_49 : decode cX8_hears 49 = .ok (.ifCond .eq 25, 3) := by decide +kernel
theorem dX8_hears_52 : decode cX8_hears 52 = .ok (.aload_n 0, 1) := by decide +kernel
theorem dX8_hears_53 : decode cX8_hears 53 = .ok (.iload_n 2, 1) := by decide +kernel
theorem dX8_hears_54 : decode cX8_hears 54 = .ok (.invokestatic 71, 3) := by decide +kernel
theorem dX8_hears_57 : decode cX8_hears 57 = .ok (.ifCond .eq 17, 3) := by decide +kernel
theorem dX8_hears_60 : decode cX8_hears 60 = .ok (.aload_n 0, 1) := by decide +kernel
theorem dX8_hears_61 : decode cX8_hears 61 = .ok (.iload_n 1, 1) := by decide +kernel
theorem dX8_hears_62 : decode cX8_hears 62 = .ok (.iload_n 2, 1) := by decide +kernel
theorem dX8_hears_63 : decode cX8_hears 63 = .ok (.invokestatic 75, 3) := by decide +kernel
theorem dX8_hears_66 : decode cX8_hears 66 = .ok (.iload_n 3, 1) := by decide +kernel
theorem dX8_hears_67 : decode cX8_hears 67 = .ok (.if_icmp .gt 7, 3) := by decide +kernel
theorem dX8_hears_70 : decode cX8_hears 70 = .ok (.iconst 1, 1) := by decide +kernel
theorem dX8_hears_71 : decode cX8_hears 71 = .ok (.goto 4, 3) := by decide +kernel
theorem dX8_hears_74 : decode cX8_hears 74 = .ok (.iconst 0, 1) := by decide +kernel
theorem dX8_hears_75 : decode cX8_hears 75 = .ok (.ireturn, 1) := by decide +kernel
theorem dX8_isLive_0 : decode cX8_isLive 0 = .ok (.aload_n 0, 1) := by decide +kernel
theorem dX8_isLive_1 : decode cX8_isLive 1 = .ok (.iload_n 1, 1) := by decide +kernel
theorem dX8_isLive_2 : decode cX8_isLive 2 = .ok (.iconst 0, 1) := by decide +kernel
theorem dX8_isLive_3 : decode cX8_isLive 3 = .ok (.iadd, 1) := by decide +kernel
theorem dX8_isLive_4 : decode cX8_isLive 4 = .ok (.iaload, 1) := by decide +kernel
theorem dX8_isLive_5 : decode cX8_isLive 5 = .ok (.iconst 1, 1) := by decide +kernel
theorem dX8_isLive_6 : decode cX8_isLive 6 = .ok (.if_icmp .ne 16, 3) := by decide +kernel
theorem dX8_isLive_9 : decode cX8_isLive 9 = .ok (.aload_n 0, 1) := by decide +kernel
theorem dX8_isLive_10 : decode cX8_isLive 10 = .ok (.iload_n 1, 1) := by decide +kernel
theorem dX8_isLive_11 : decode cX8_isLive 11 = .ok (.iconst 3, 1) := by decide +kernel
theorem dX8_isLive_12 : decode cX8_isLive 12 = .ok (.iadd, 1) := by decide +kernel
theorem dX8_isLive_13 : decode cX8_isLive 13 = .ok (.iaload, 1) := by decide +kernel
theorem dX8_isLive_14 : decode cX8_isLive 14 = .ok (.iload_n 2, 1) := by decide +kernel
theorem dX8_isLive_15 : decode cX8_isLive 15 = .ok (.if_icmp .le 7, 3) := by decide +kernel
theorem dX8_isLive_18 : decode cX8_isLive 18 = .ok (.iconst 1, 1) := by decide +kernel
theorem dX8_isLive_19 : decode cX8_isLive 19 = .ok (.goto 4, 3) := by decide +kernel
theorem dX8_isLive_22 : decode cX8_isLive 22 = .ok (.iconst 0, 1) := by decide +kernel
theorem dX8_isLive_23 : decode cX8_isLive 23 = .ok (.ireturn, 1) := by decide +kernel
theorem dX8_better_0 : decode cX8_better 0 = .ok (.aload_n 0, 1) := by decide +kernel
theorem dX8_better_1 : decode cX8_better 1 = .ok (.iconst 2, 1) := by decide +kernel
theorem dX8_better_2 : decode cX8_better 2 = .ok (.iaload, 1) := by decide +kernel
theorem dX8_better_3 : decode cX8_better 3 = .ok (.istore_n 3, 1) := by decide +kernel
theorem dX8_better_4 : decode cX8_better 4 = .ok (.aload_n 0, 1) := by decide +kernel
theorem dX8_better_5 : decode cX8_better 5 = .ok (.iload_n 1, 1) := by decide +kernel
theorem dX8_better_6 : decode cX8_better 6 = .ok (.iconst 0, 1) := by decide +kernel
theorem dX8_better_7 : decode cX8_better 7 = .ok (.iadd, 1) := by decide +kernel
theorem dX8_better_8 : decode cX8_better 8 = .ok (.iaload, 1) := by decide +kernel
theorem dX8_better_9 : decode cX8_better 9 = .ok (.iconst 2, 1) := by decide +kernel
theorem dX8_better_10 : decode cX8_better 10 = .ok (.if_icmp .ne 7, 3) := by decide +kernel
theorem dX8_better_13 : decode cX8_better 13 = .ok (.iconst 1, 1) := by decide +kernel
theorem dX8_better_14 : decode cX8_better 14 = .ok (.goto 4, 3) := by decide +kernel
theorem dX8_better_17 : decode cX8_better 17 = .ok (.iconst 0, 1) := by decide +kernel
theorem dX8_better_18 : decode cX8_better 18 = .ok (.istore 4, 2) := by decide +kernel
theorem dX8_better_20 : decode cX8_better 20 = .ok (.aload_n 0, 1) := by decide +kernel
theorem dX8_better_21 : decode cX8_better 21 = .ok (.iload_n 2, 1) := by decide +kernel
theorem dX8_better_22 : decode cX8_better 22 = .ok (.iconst 0, 1) := by decide +kernel
theorem dX8_better_23 : decode cX8_better 23 = .ok (.iadd, 1) := by decide +kernel
theorem dX8_better_24 : decode cX8_better 24 = .ok (.iaload, 1) := by decide +kernel
theorem dX8_better_25 : decode cX8_better 25 = .ok (.iconst 2, 1) := by decide +kernel
theorem dX8_better_26 : decode cX8_better 26 = .ok (.if_icmp .ne 7, 3) := by decide +kernel
theorem dX8_better_29 : decode cX8_better 29 = .ok (.iconst 1, 1) := by decide +kernel
theorem dX8_better_30 : decode cX8_better 30 = .ok (.goto 4, 3) := by decide +kernel
theorem dX8_better_33 : decode cX8_better 33 = .ok (.iconst 0, 1) := by decide +kernel
theorem dX8_better_34 : decode cX8_better 34 = .ok (.istore 5, 2) := by decide +kernel
theorem dX8_better_36 : decode cX8_better 36 = .ok (.iload 4, 2) := by decide +kernel
theorem dX8_better_38 : decode cX8_better 38 = .ok (.ifCond .ne 8, 3) := by decide +kernel
theorem dX8_better_41 : decode cX8_better 41 = .ok (.iload 5, 2) := by decide +kernel
theorem dX8_better_43 : decode cX8_better 43 = .ok (.ifCond .eq 19, 3) := by decide +kernel
theorem dX8_better_46 : decode cX8_better 46 = .ok (.iload 4, 2) := by decide +kernel
theorem dX8_better_48 : decode cX8_better 48 = .ok (.ifCond .eq 12, 3) := by decide +kernel
theorem dX8_better_51 : decode cX8_better 51 = .ok (.iload 5, 2) := by decide +kernel
theorem dX8_better_53 : decode cX8_better 53 = .ok (.ifCond .ne 7, 3) := by decide +kernel
theorem dX8_better_56 : decode cX8_better 56 = .ok (.iconst 1, 1) := by decide +kernel
theorem dX8_better_57 : decode cX8_better 57 = .ok (.goto 4, 3) := by decide +kernel
theorem dX8_better_60 : decode cX8_better 60 = .ok (.iconst 0, 1) := by decide +kernel
theorem dX8_better_61 : decode cX8_better 61 = .ok (.ireturn, 1) := by decide +kernel
theorem dX8_better_62 : decode cX8_better 62 = .ok (.aload_n 0, 1) := by decide +kernel
theorem dX8_better_63 : decode cX8_better 63 = .ok (.iload_n 1, 1) := by decide +kernel
theorem dX8_better_64 : decode cX8_better 64 = .ok (.iload_n 3, 1) := by decide +kernel
theorem dX8_better_65 : decode cX8_better 65 = .ok (.invokestatic 79, 3) := by decide +kernel
theorem dX8_better_68 : decode cX8_better 68 = .ok (.istore 6, 2) := by decide +kernel
theorem dX8_better_70 : decode cX8_better 70 = .ok (.aload_n 0, 1) := by decide +kernel
theorem dX8_better_71 : decode cX8_better 71 = .ok (.iload_n 2, 1) := by decide +kernel
theorem dX8_better_72 : decode cX8_better 72 = .ok (.iload_n 3, 1) := by decide +kernel
theorem dX8_better_73 : decode cX8_better 73 = .ok (.invokestatic 79, 3) := by decide +kernel
theorem dX8_better_76 : decode cX8_better 76 = .ok (.istore 7, 2) := by decide +kernel
theorem dX8_better_78 : decode cX8_better 78 = .ok (.iload 6, 2) := by decide +kernel
theorem dX8_better_80 : decode cX8_better 80 = .ok (.ifCond .eq 8, 3) := by decide +kernel
theorem dX8_better_83 : decode cX8_better 83 = .ok (.iload 7, 2) := by decide +kernel
theorem dX8_better_85 : decode cX8_better 85 = .ok (.ifCond .ne 19, 3) := by decide +kernel
theorem dX8_better_88 : decode cX8_better 88 = .ok (.iload 6, 2) := by decide +kernel
theorem dX8_better_90 : decode cX8_better 90 = .ok (.ifCond .eq 12, 3) := by decide +kernel
theorem dX8_better_93 : decode cX8_better 93 = .ok (.iload 7, 2) := by decide +kernel
theorem dX8_better_95 : decode cX8_better 95 = .ok (.ifCond .ne 7, 3) := by decide +kernel
theorem dX8_better_98 : decode cX8_better 98 = .ok (.iconst 1, 1) := by decide +kernel
theorem dX8_better_99 : decode cX8_better 99 = .ok (.goto 4, 3) := by decide +kernel
theorem dX8_better_102 : decode cX8_better 102 = .ok (.iconst 0, 1) := by decide +kernel
theorem dX8_better_103 : decode cX8_better 103 = .ok (.ireturn, 1) := by decide +kernel
theorem dX8_better_104 : decode cX8_better 104 = .ok (.iconst 2, 1) := by decide +kernel
theorem dX8_better_105 : decode cX8_better 105 = .ok (.istore 8, 2) := by decide +kernel
theorem dX8_better_107 : decode cX8_better 107 = .ok (.iload 8, 2) := by decide +kernel
theorem dX8_better_109 : decode cX8_better 109 = .ok (.iconst 1, 1) := by decide +kernel
theorem dX8_better_110 : decode cX8_better 110 = .ok (.if_icmp .lt 45, 3) := by decide +kernel
theorem dX8_better_113 : decode cX8_better 113 = .ok (.aload_n 0, 1) := by decide +kernel
theorem dX8_better_114 : decode cX8_better 114 = .ok (.iload_n 1, 1) := by decide +kernel
theorem dX8_better_115 : decode cX8_better 115 = .ok (.iload 8, 2) := by decide +kernel
theorem dX8_better_117 : decode cX8_better 117 = .ok (.iadd, 1) := by decide +kernel
theorem dX8_better_118 : decode cX8_better 118 = .ok (.iaload, 1) := by decide +kernel
theorem dX8_better_119 : decode cX8_better 119 = .ok (.aload_n 0, 1) := by decide +kernel
theorem dX8_better_120 : decode cX8_better 120 = .ok (.iload_n 2, 1) := by decide +kernel
theorem dX8_better_121 : decode cX8_better 121 = .ok (.iload 8, 2) := by decide +kernel
theorem dX8_better_123 : decode cX8_better 123 = .ok (.iadd, 1) := by decide +kernel
theorem dX8_better_124 : decode cX8_better 124 = .ok (.iaload, 1) := by decide +kernel
theorem dX8_better_125 : decode cX8_better 125 = .ok (.if_icmp .eq 24, 3) := by decide +kernel
theorem dX8_better_128 : decode cX8_better 128 = .ok (.aload_n 0, 1) := by decide +kernel
theorem dX8_better_129 : decode cX8_better 129 = .ok (.iload_n 1, 1) := by decide +kernel
theorem dX8_better_130 : decode cX8_better 130 = .ok (.iload 8, 2) := by decide +kernel
theorem dX8_better_132 : decode cX8_better 132 = .ok (.iadd, 1) := by decide +kernel
theorem dX8_better_133 : decode cX8_better 133 = .ok (.iaload, 1) := by decide +kernel
theorem dX8_better_134 : decode cX8_better 134 = .ok (.aload_n 0, 1) := by decide +kernel
theorem dX8_better_135 : decode cX8_better 135 = .ok (.iload_n 2, 1) := by decide +kernel
theorem dX8_better_136 : decode cX8_better 136 = .ok (.iload 8, 2) := by decide +kernel
theorem dX8_better_138 : decode cX8_better 138 = .ok (.iadd, 1) := by decide +kernel
theorem dX8_better_139 : decode cX8_better 139 = .ok (.iaload, 1) := by decide +kernel
theorem dX8_better_140 : decode cX8_better 140 = .ok (.if_icmp .ge 7, 3) := by decide +kernel
theorem dX8_better_143 : decode cX8_better 143 = .ok (.iconst 1, 1) := by decide +kernel
theorem dX8_better_144 : decode cX8_better 144 = .ok (.goto 4, 3) := by decide +kernel
theorem dX8_better_147 : decode cX8_better 147 = .ok (.iconst 0, 1) := by decide +kernel
theorem dX8_better_148 : decode cX8_better 148 = .ok (.ireturn, 1) := by decide +kernel
theorem dX8_better_149 : decode cX8_better 149 = .ok (.iinc 8 (-1), 3) := by decide +kernel
theorem dX8_better_152 : decode cX8_better 152 = .ok (.goto (-45), 3) := by decide +kernel
theorem dX8_better_155 : decode cX8_better 155 = .ok (.aload_n 0, 1) := by decide +kernel
theorem dX8_better_156 : decode cX8_better 156 = .ok (.iload_n 1, 1) := by decide +kernel
theorem dX8_better_157 : decode cX8_better 157 = .ok (.iconst 3, 1) := by decide +kernel
theorem dX8_better_158 : decode cX8_better 158 = .ok (.iadd, 1) := by decide +kernel
theorem dX8_better_159 : decode cX8_better 159 = .ok (.iaload, 1) := by decide +kernel
theorem dX8_better_160 : decode cX8_better 160 = .ok (.aload_n 0, 1) := by decide +kernel
theorem dX8_better_161 : decode cX8_better 161 = .ok (.iload_n 2, 1) := by decide +kernel
theorem dX8_better_162 : decode cX8_better 162 = .ok (.iconst 3, 1) := by decide +kernel
theorem dX8_better_163 : decode cX8_better 163 = .ok (.iadd, 1) := by decide +kernel
theorem dX8_better_164 : decode cX8_better 164 = .ok (.iaload, 1) := by decide +kernel
theorem dX8_better_165 : decode cX8_better 165 = .ok (.if_icmp .le 7, 3) := by decide +kernel
theorem dX8_better_168 : decode cX8_better 168 = .ok (.iconst 1, 1) := by decide +kernel
theorem dX8_better_169 : decode cX8_better 169 = .ok (.goto 4, 3) := by decide +kernel
theorem dX8_better_172 : decode cX8_better 172 = .ok (.iconst 0, 1) := by decide +kernel
theorem dX8_better_173 : decode cX8_better 173 = .ok (.ireturn, 1) := by decide +kernel
theorem dX8_lay_0 : decode cX8_lay 0 = .ok (.aload_n 0, 1) := by decide +kernel
theorem dX8_lay_1 : decode cX8_lay 1 = .ok (.iload_n 1, 1) := by decide +kernel
theorem dX8_lay_2 : decode cX8_lay 2 = .ok (.iconst 0, 1) := by decide +kernel
theorem dX8_lay_3 : decode cX8_lay 3 = .ok (.iadd, 1) := by decide +kernel
theorem dX8_lay_4 : decode cX8_lay 4 = .ok (.iload_n 2, 1) := by decide +kernel
theorem dX8_lay_5 : decode cX8_lay 5 = .ok (.iastore, 1) := by decide +kernel
theorem dX8_lay_6 : decode cX8_lay 6 = .ok (.aload_n 0, 1) := by decide +kernel
theorem dX8_lay_7 : decode cX8_lay 7 = .ok (.iload_n 1, 1) := by decide +kernel
theorem dX8_lay_8 : decode cX8_lay 8 = .ok (.iconst 1, 1) := by decide +kernel
theorem dX8_lay_9 : decode cX8_lay 9 = .ok (.iadd, 1) := by decide +kernel
theorem dX8_lay_10 : decode cX8_lay 10 = .ok (.iload_n 3, 1) := by decide +kernel
theorem dX8_lay_11 : decode cX8_lay 11 = .ok (.iastore, 1) := by decide +kernel
theorem dX8_lay_12 : decode cX8_lay 12 = .ok (.aload_n 0, 1) := by decide +kernel
theorem dX8_lay_13 : decode cX8_lay 13 = .ok (.iload_n 1, 1) := by decide +kernel
theorem dX8_lay_14 : decode cX8_lay 14 = .ok (.iconst 2, 1) := by decide +kernel
theorem dX8_lay_15 : decode cX8_lay 15 = .ok (.iadd, 1) := by decide +kernel
theorem dX8_lay_16 : decode cX8_lay 16 = .ok (.iload 4, 2) := by decide +kernel
theorem dX8_lay_18 : decode cX8_lay 18 = .ok (.iastore, 1) := by decide +kernel
theorem dX8_lay_19 : decode cX8_lay 19 = .ok (.aload_n 0, 1) := by decide +kernel
theorem dX8_lay_20 : decode cX8_lay 20 = .ok (.iload_n 1, 1) := by decide +kernel
theorem dX8_lay_21 : decode cX8_lay 21 = .ok (.iconst 3, 1) := by decide +kernel
theorem dX8_lay_22 : decode cX8_lay 22 = .ok (.iadd, 1) := by decide +kernel
theorem dX8_lay_23 : decode cX8_lay 23 = .ok (.iload 5, 2) := by decide +kernel
theorem dX8_lay_25 : decode cX8_lay 25 = .ok (.iastore, 1) := by decide +kernel
theorem dX8_lay_26 : decode cX8_lay 26 = .ok (.return_, 1) := by decide +kernel
theorem dX8_isOwn_0 : decode cX8_isOwn 0 = .ok (.aload_n 0, 1) := by decide +kernel
theorem dX8_isOwn_1 : decode cX8_isOwn 1 = .ok (.iload_n 1, 1) := by decide +kernel
theorem dX8_isOwn_2 : decode cX8_isOwn 2 = .ok (.iload_n 2, 1) := by decide +kernel
theorem dX8_isOwn_3 : decode cX8_isOwn 3 = .ok (.invokestatic 83, 3) := by decide +kernel
theorem dX8_isOwn_6 : decode cX8_isOwn 6 = .ok (.aload_n 0, 1) := by decide +kernel
theorem dX8_isOwn_7 : decode cX8_isOwn 7 = .ok (.iconst 2, 1) := by decide +kernel
theorem dX8_isOwn_8 : decode cX8_isOwn 8 = .ok (.iaload, 1) := by decide +kernel
theorem dX8_isOwn_9 : decode cX8_isOwn 9 = .ok (.invokestatic 79, 3) := by decide +kernel
theorem dX8_isOwn_12 : decode cX8_isOwn 12 = .ok (.ifCond .eq 20, 3) := by decide +kernel
theorem dX8_isOwn_15 : decode cX8_isOwn 15 = .ok (.aload_n 0, 1) := by decide +kernel
theorem dX8_isOwn_16 : decode cX8_isOwn 16 = .ok (.iload_n 1, 1) := by decide +kernel
theorem dX8_isOwn_17 : decode cX8_isOwn 17 = .ok (.iload_n 2, 1) := by decide +kernel
theorem dX8_isOwn_18 : decode cX8_isOwn 18 = .ok (.invokestatic 83, 3) := by decide +kernel
theorem dX8_isOwn_21 : decode cX8_isOwn 21 = .ok (.iconst 1, 1) := by decide +kernel
theorem dX8_isOwn_22 : decode cX8_isOwn 22 = .ok (.iadd, 1) := by decide +kernel
theorem dX8_isOwn_23 : decode cX8_isOwn 23 = .ok (.iaload, 1) := by decide +kernel
theorem dX8_isOwn_24 : decode cX8_isOwn 24 = .ok (.iload_n 1, 1) := by decide +kernel
theorem dX8_isOwn_25 : decode cX8_isOwn 25 = .ok (.if_icmp .ne 7, 3) := by decide +kernel
theorem dX8_isOwn_28 : decode cX8_isOwn 28 = .ok (.iconst 1, 1) := by decide +kernel
theorem dX8_isOwn_29 : decode cX8_isOwn 29 = .ok (.goto 4, 3) := by decide +kernel
theorem dX8_isOwn_32 : decode cX8_isOwn 32 = .ok (.iconst 0, 1) := by decide +kernel
theorem dX8_isOwn_33 : decode cX8_isOwn 33 = .ok (.ireturn, 1) := by decide +kernel
theorem dX8_ownTask_0 : decode cX8_ownTask 0 = .ok (.iconst 0, 1) := by decide +kernel
theorem dX8_ownTask_1 : decode cX8_ownTask 1 = .ok (.istore_n 2, 1) := by decide +kernel
theorem dX8_ownTask_2 : decode cX8_ownTask 2 = .ok (.iload_n 2, 1) := by decide +kernel
theorem dX8_ownTask_3 : decode cX8_ownTask 3 = .ok (.aload_n 0, 1) := by decide +kernel
theorem dX8_ownTask_4 : decode cX8_ownTask 4 = .ok (.iconst 1, 1) := by decide +kernel
theorem dX8_ownTask_5 : decode cX8_ownTask 5 = .ok (.iaload, 1) := by decide +kernel
theorem dX8_ownTask_6 : decode cX8_ownTask 6 = .ok (.if_icmp .ge 20, 3) := by decide +kernel
theorem dX8_ownTask_9 : decode cX8_ownTask 9 = .ok (.aload_n 0, 1) := by decide +kernel
theorem dX8_ownTask_10 : decode cX8_ownTask 10 = .ok (.iload_n 1, 1) := by decide +kernel
theorem dX8_ownTask_11 : decode cX8_ownTask 11 = .ok (.iload_n 2, 1) := by decide +kernel
theorem dX8_ownTask_12 : decode cX8_ownTask 12 = .ok (.invokestatic 87, 3) := by decide +kernel
theorem dX8_ownTask_15 : decode cX8_ownTask 15 = .ok (.ifCond .eq 5, 3) := by decide +kernel
theorem dX8_ownTask_18 : decode cX8_ownTask 18 = .ok (.iload_n 2, 1) := by decide +kernel
theorem dX8_ownTask_19 : decode cX8_ownTask 19 = .ok (.ireturn, 1) := by decide +kernel
theorem dX8_ownTask_20 : decode cX8_ownTask 20 = .ok (.iinc 2 1, 3) := by decide +kernel
theorem dX8_ownTask_23 : decode cX8_ownTask 23 = .ok (.goto (-21), 3) := by decide +kernel
theorem dX8_ownTask_26 : decode cX8_ownTask 26 = .ok (.bipush (-9), 2) := by decide +kernel
theorem dX8_ownTask_28 : decode cX8_ownTask 28 = .ok (.ireturn, 1) := by decide +kernel
theorem dX8_listen_0 : decode cX8_listen 0 = .ok (.aload_n 1, 1) := by decide +kernel
theorem dX8_listen_1 : decode cX8_listen 1 = .ok (.iconst 0, 1) := by decide +kernel
theorem dX8_listen_2 : decode cX8_listen 2 = .ok (.aload_n 0, 1) := by decide +kernel
theorem dX8_listen_3 : decode cX8_listen 3 = .ok (.getfield 22, 3) := by decide +kernel
theorem dX8_listen_6 : decode cX8_listen 6 = .ok (.iconst 0, 1) := by decide +kernel
theorem dX8_listen_7 : decode cX8_listen 7 = .ok (.sipush 264, 3) := by decide +kernel
theorem dX8_listen_10 : decode cX8_listen 10 = .ok (.invokestatic 53, 3) := by decide +kernel
theorem dX8_listen_13 : decode cX8_listen 13 = .ok (.iconst 0, 1) := by decide +kernel
theorem dX8_listen_14 : decode cX8_listen 14 = .ok (.istore_n 2, 1) := by decide +kernel
theorem dX8_listen_15 : decode cX8_listen 15 = .ok (.iload_n 2, 1) := by decide +kernel
theorem dX8_listen_16 : decode cX8_listen 16 = .ok (.aload_n 1, 1) := by decide +kernel
theorem dX8_listen_17 : decode cX8_listen 17 = .ok (.iconst 0, 1) := by decide +kernel
theorem dX8_listen_18 : decode cX8_listen 18 = .ok (.iaload, 1) := by decide +kernel
theorem dX8_listen_19 : decode cX8_listen 19 = .ok (.if_icmp .ge 152, 3) := by decide +kernel
theorem dX8_listen_22 : decode cX8_listen 22 = .ok (.iconst 0, 1) := by decide +kernel
theorem dX8_listen_23 : decode cX8_listen 23 = .ok (.istore_n 3, 1) := by decide +kernel
theorem dX8_listen_24 : decode cX8_listen 24 = .ok (.iload_n 3, 1) := by decide +kernel
theorem dX8_listen_25 : decode cX8_listen 25 = .ok (.aload_n 1, 1) := by decide +kernel
theorem dX8_listen_26 : decode cX8_listen 26 = .ok (.iconst 1, 1) := by decide +kernel
theorem dX8_listen_27 : decode cX8_listen 27 = .ok (.iaload, 1) := by decide +kernel
theorem dX8_listen_28 : decode cX8_listen 28 = .ok (.if_icmp .ge 137, 3) := by decide +kernel
theorem dX8_listen_31 : decode cX8_listen 31 = .ok (.aload_n 1, 1) := by decide +kernel
theorem dX8_listen_32 : decode cX8_listen 32 = .ok (.iload_n 2, 1) := by decide +kernel
theorem dX8_listen_33 : decode cX8_listen 33 = .ok (.invokestatic 71, 3) := by decide +kernel
theorem dX8_listen_36 : decode cX8_listen 36 = .ok (.ifCond .eq 129, 3) := by decide +kernel
theorem dX8_listen_39 : decode cX8_listen 39 = .ok (.iload_n 2, 1) := by decide +kernel
theorem dX8_listen_40 : decode cX8_listen 40 = .ok (.iload_n 3, 1) := by decide +kernel
theorem dX8_listen_41 : decode cX8_listen 41 = .ok (.invokestatic 83, 3) := by decide +kernel
theorem dX8_listen_44 : decode cX8_listen 44 = .ok (.istore 4, 2) := by decide +kernel
theorem dX8_listen_46 : decode cX8_listen 46 = .ok (.iconst 0, 1) := by decide +kernel
theorem dX8_listen_47 : decode cX8_listen 47 = .ok (.istore 5, 2) := by decide +kernel
theorem dX8_listen_49 : decode cX8_listen 49 = .ok (.iload 5, 2) := by decide +kernel
theorem dX8_listen_51 : decode cX8_listen 51 = .ok (.aload_n 1, 1) := by decide +kernel
theorem dX8_listen_52 : decode cX8_listen 52 = .ok (.iconst 0, 1) := by decide +kernel
theorem dX8_listen_53 : decode cX8_listen 53 = .ok (.iaload, 1) := by decide +kernel
theorem dX8_listen_54 : decode cX8_listen 54 = .ok (.if_icmp .ge 48, 3) := by decide +kernel
theorem dX8_listen_57 : decode cX8_listen 57 = .ok (.aload_n 0, 1) := by decide +kernel
theorem dX8_listen_58 : decode cX8_listen 58 = .ok (.getfield 22, 3) := by decide +kernel
theorem dX8_listen_61 : decode cX8_listen 61 = .ok (.iload_n 2, 1) := by decide +kernel
theorem dX8_listen_62 : decode cX8_listen 62 = .ok (.iload 5, 2) := by decide +kernel
theorem dX8_listen_64 : decode cX8_listen 64 = .ok (.invokestatic 90, 3) := by decide +kernel
theorem dX8_listen_67 : decode cX8_listen 67 = .ok (.ifCond .eq 29, 3) := by decide +kernel
theorem dX8_listen_70 : decode cX8_listen 70 = .ok (.aload_n 0, 1) := by decide +kernel
theorem dX8_listen_71 : decode cX8_listen 71 = .ok (.getfield 22, 3) := by decide +kernel
theorem dX8_listen_74 : decode cX8_listen 74 = .ok (.iload 5, 2) := by decide +kernel
theorem dX8_listen_76 : decode cX8_listen 76 = .ok (.iload_n 3, 1) := by decide +kernel
theorem dX8_listen_77 : decode cX8_listen 77 = .ok (.invokestatic 83, 3) := by decide +kernel
theorem dX8_listen_80 : decode cX8_listen 80 = .ok (.iload 4, 2) := by decide +kernel
theorem dX8_listen_82 : decode cX8_listen 82 = .ok (.invokestatic 93, 3) := by decide +kernel
theorem dX8_listen_85 : decode cX8_listen 85 = .ok (.ifCond .eq 11, 3) := by decide +kernel
theorem dX8_listen_88 : decode cX8_listen 88 = .ok (.iload 5, 2) := by decide +kernel
theorem dX8_listen_90 : decode cX8_listen 90 = .ok (.iload_n 3, 1) := by decide +kernel
theorem dX8_listen_91 : decode cX8_listen 91 = .ok (.invokestatic 83, 3) := by decide +kernel
theorem dX8_listen_94 : decode cX8_listen 94 = .ok (.istore 4, 2) := by decide +kernel
theorem dX8_listen_96 : decode cX8_listen 96 = .ok (.iinc 5 1, 3) := by decide +kernel
theorem dX8_listen_99 : decode cX8_listen 99 = .ok (.goto (-50), 3) := by decide +kernel
theorem dX8_listen_102 : decode cX8_listen 102 = .ok (.aload_n 0, 1) := by decide +kernel
theorem dX8_listen_103 : decode cX8_listen 103 = .ok (.getfield 22, 3) := by decide +kernel
theorem dX8_listen_106 : decode cX8_listen 106 = .ok (.iload 4, 2) := by decide +kernel
theorem dX8_listen_108 : decode cX8_listen 108 = .ok (.aload_n 1, 1) := by decide +kernel
theorem dX8_listen_109 : decode cX8_listen 109 = .ok (.iload_n 2, 1) := by decide +kernel
theorem dX8_listen_110 : decode cX8_listen 110 = .ok (.iload_n 3, 1) := by decide +kernel
theorem dX8_listen_111 : decode cX8_listen 111 = .ok (.invokestatic 83, 3) := by decide +kernel
theorem dX8_listen_114 : decode cX8_listen 114 = .ok (.iconst 4, 1) := by decide +kernel
theorem dX8_listen_115 : decode cX8_listen 115 = .ok (.invokestatic 53, 3) := by decide +kernel
theorem dX8_listen_118 : decode cX8_listen 118 = .ok (.aload_n 1, 1) := by decide +kernel
theorem dX8_listen_119 : decode cX8_listen 119 = .ok (.iload_n 2, 1) := by decide +kernel
theorem dX8_listen_120 : decode cX8_listen 120 = .ok (.iload_n 3, 1) := by decide +kernel
theorem dX8_listen_121 : decode cX8_listen 121 = .ok (.invokestatic 83, 3) := by decide +kernel
theorem dX8_listen_124 : decode cX8_listen 124 = .ok (.iconst 0, 1) := by decide +kernel
theorem dX8_listen_125 : decode cX8_listen 125 = .ok (.iadd, 1) := by decide +kernel
theorem dX8_listen_126 : decode cX8_listen 126 = .ok (.iaload, 1) := by decide +kernel
theorem dX8_listen_127 : decode cX8_listen 127 = .ok (.iconst 1, 1) := by decide +kernel
theorem dX8_listen_128 : decode cX8_listen 128 = .ok (.if_icmp .ne 31, 3) := by decide +kernel
theorem dX8_listen_131 : decode cX8_listen 131 = .ok (.aload_n 1, 1) := by decide +kernel
theorem dX8_listen_132 : decode cX8_listen 132 = .ok (.iload_n 2, 1) := by decide +kernel
theorem dX8_listen_133 : decode cX8_listen 133 = .ok (.iload_n 3, 1) := by decide +kernel
theorem dX8_listen_134 : decode cX8_listen 134 = .ok (.invokestatic 83, 3) := by decide +kernel
theorem dX8_listen_137 : decode cX8_listen 137 = .ok (.aload_n 1, 1) := by decide +kernel
theorem dX8_listen_138 : decode cX8_listen 138 = .ok (.iconst 2, 1) := by decide +kernel
theorem dX8_listen_139 : decode cX8_listen 139 = .ok (.iaload, 1) := by decide +kernel
theorem dX8_listen_140 : decode cX8_listen 140 = .ok (.invokestatic 79, 3) := by decide +kernel
theorem dX8_listen_143 : decode cX8_listen 143 = .ok (.ifCond .ne 16, 3) := by decide +kernel
theorem dX8_listen_146 : decode cX8_listen 146 = .ok (.aload_n 1, 1) := by decide +kernel
theorem dX8_listen_147 : decode cX8_listen 147 = .ok (.iload_n 2, 1) := by decide +kernel
theorem dX8_listen_148 : decode cX8_listen 148 = .ok (.iload_n 3, 1) := by decide +kernel
theorem dX8_listen_149 : decode cX8_listen 149 = .ok (.invokestatic 83, 3) := by decide +kernel
theorem dX8_listen_152 : decode cX8_listen 152 = .ok (.iconst 0, 1) := by decide +kernel
theorem dX8_listen_153 : decode cX8_listen 153 = .ok (.iconst 0, 1) := by decide +kernel
theorem dX8_listen_154 : decode cX8_listen 154 = .ok (.iconst 0, 1) := by decide +kernel
theorem dX8_listen_155 : decode cX8_listen 155 = .ok (.iconst 0, 1) := by decide +kernel
theorem dX8_listen_156 : decode cX8_listen 156 = .ok (.invokestatic 96, 3) := by decide +kernel
theorem dX8_listen_159 : decode cX8_listen 159 = .ok (.iinc 3 1, 3) := by decide +kernel
theorem dX8_listen_162 : decode cX8_listen 162 = .ok (.goto (-138), 3) := by decide +kernel
theorem dX8_listen_165 : decode cX8_listen 165 = .ok (.iinc 2 1, 3) := by decide +kernel
theorem dX8_listen_168 : decode cX8_listen 168 = .ok (.goto (-153), 3) := by decide +kernel
theorem dX8_listen_171 : decode cX8_listen 171 = .ok (.return_, 1) := by decide +kernel
theorem dX8_claim_0 : decode cX8_claim 0 = .ok (.aload_n 0, 1) := by decide +kernel
theorem dX8_claim_1 : decode cX8_claim 1 = .ok (.iconst 2, 1) := by decide +kernel
theorem dX8_claim_2 : decode cX8_claim 2 = .ok (.iaload, 1) := by decide +kernel
theorem dX8_claim_3 : decode cX8_claim 3 = .ok (.aload_n 0, 1) := by decide +kernel
theorem dX8_claim_4 : decode cX8_claim 4 = .ok (.iconst 3, 1) := by decide +kernel
theorem dX8_claim_5 : decode cX8_claim 5 = .ok (.iaload, 1) := by decide +kernel
theorem dX8_claim_6 : decode cX8_claim 6 = .ok (.iadd, 1) := by decide +kernel
theorem dX8_claim_7 : decode cX8_claim 7 = .ok (.istore_n 2, 1) := by decide +kernel
theorem dX8_claim_8 : decode cX8_claim 8 = .ok (.bipush (-9), 2) := by decide +kernel
theorem dX8_claim_10 : decode cX8_claim 10 = .ok (.istore_n 3, 1) := by decide +kernel
theorem dX8_claim_11 : decode cX8_claim 11 = .ok (.iconst 0, 1) := by decide +kernel
theorem dX8_claim_12 : decode cX8_claim 12 = .ok (.istore 4, 2) := by decide +kernel
theorem dX8_claim_14 : decode cX8_claim 14 = .ok (.iload 4, 2) := by decide +kernel
theorem dX8_claim_16 : decode cX8_claim 16 = .ok (.aload_n 0, 1) := by decide +kernel
theorem dX8_claim_17 : decode cX8_claim 17 = .ok (.iconst 1, 1) := by decide +kernel
theorem dX8_claim_18 : decode cX8_claim 18 = .ok (.iaload, 1) := by decide +kernel
theorem dX8_claim_19 : decode cX8_claim 19 = .ok (.if_icmp .ge 48, 3) := by decide +kernel
theorem dX8_claim_22 : decode cX8_claim 22 = .ok (.aload_n 0, 1) := by decide +kernel
theorem dX8_claim_23 : decode cX8_claim 23 = .ok (.iload_n 1, 1) := by decide +kernel
theorem dX8_claim_24 : decode cX8_claim 24 = .ok (.iload 4, 2) := by decide +kernel
theorem dX8_claim_26 : decode cX8_claim 26 = .ok (.invokestatic 87, 3) := by decide +kernel
theorem dX8_claim_29 : decode cX8_claim 29 = .ok (.ifCond .eq 30, 3) := by decide +kernel
theorem dX8_claim_32 : decode cX8_claim 32 = .ok (.iload_n 3, 1) := by decide +kernel
theorem dX8_claim_33 : decode cX8_claim 33 = .ok (.bipush (-9), 2) := by decide +kernel
theorem dX8_claim_35 : decode cX8_claim 35 = .ok (.if_icmp .eq 19, 3) := by decide +kernel
theorem dX8_claim_38 : decode cX8_claim 38 = .ok (.aload_n 0, 1) := by decide +kernel
theorem dX8_claim_39 : decode cX8_claim 39 = .ok (.iload_n 1, 1) := by decide +kernel
theorem dX8_claim_40 : decode cX8_claim 40 = .ok (.iload 4, 2) := by decide +kernel
theorem dX8_claim_42 : decode cX8_claim 42 = .ok (.invokestatic 100, 3) := by decide +kernel
theorem dX8_claim_45 : decode cX8_claim 45 = .ok (.aload_n 0, 1) := by decide +kernel
theorem dX8_claim_46 : decode cX8_claim 46 = .ok (.iload_n 1, 1) := by decide +kernel
theorem dX8_claim_47 : decode cX8_claim 47 = .ok (.iload_n 3, 1) := by decide +kernel
theorem dX8_claim_48 : decode cX8_claim 48 = .ok (.invokestatic 100, 3) := by decide +kernel
theorem dX8_claim_51 : decode cX8_claim 51 = .ok (.if_icmp .ge 8, 3) := by decide +kernel
theorem dX8_claim_54 : decode cX8_claim 54 = .ok (.iload 4, 2) := by decide +kernel
theorem dX8_claim_56 : decode cX8_claim 56 = .ok (.goto 4, 3) := by decide +kernel
theorem dX8_claim_59 : decode cX8_claim 59 = .ok (.iload_n 3, 1) := by decide +kernel
theorem dX8_claim_60 : decode cX8_claim 60 = .ok (.istore_n 3, 1) := by decide +kernel
theorem dX8_claim_61 : decode cX8_claim 61 = .ok (.iinc 4 1, 3) := by decide +kernel
theorem dX8_claim_64 : decode cX8_claim 64 = .ok (.goto (-50), 3) := by decide +kernel
theorem dX8_claim_67 : decode cX8_claim 67 = .ok (.iload_n 3, 1) := by decide +kernel
theorem dX8_claim_68 : decode cX8_claim 68 = .ok (.bipush (-9), 2) := by decide +kernel
theorem dX8_claim_70 : decode cX8_claim 70 = .ok (.if_icmp .eq 69, 3) := by decide +kernel
theorem dX8_claim_73 : decode cX8_claim 73 = .ok (.iconst 0, 1) := by decide +kernel
theorem dX8_claim_74 : decode cX8_claim 74 = .ok (.istore 4, 2) := by decide +kernel
theorem dX8_claim_76 : decode cX8_claim 76 = .ok (.iload 4, 2) := by decide +kernel
theorem dX8_claim_78 : decode cX8_claim 78 = .ok (.aload_n 0, 1) := by decide +kernel
theorem dX8_claim_79 : decode cX8_claim 79 = .ok (.iconst 1, 1) := by decide +kernel
theorem dX8_claim_80 : decode cX8_claim 80 = .ok (.iaload, 1) := by decide +kernel
theorem dX8_claim_81 : decode cX8_claim 81 = .ok (.if_icmp .ge 39, 3) := by decide +kernel
theorem dX8_claim_84 : decode cX8_claim 84 = .ok (.aload_n 0, 1) := by decide +kernel
theorem dX8_claim_85 : decode cX8_claim 85 = .ok (.iload_n 1, 1) := by decide +kernel
theorem dX8_claim_86 : decode cX8_claim 86 = .ok (.iload 4, 2) := by decide +kernel
theorem dX8_claim_88 : decode cX8_claim 88 = .ok (.invokestatic 87, 3) := by decide +kernel
theorem dX8_claim_91 : decode cX8_claim 91 = .ok (.ifCond .eq 23, 3) := by decide +kernel
theorem dX8_claim_94 : decode cX8_claim 94 = .ok (.iload 4, 2) := by decide +kernel
theorem dX8_claim_96 : decode cX8_claim 96 = .ok (.iload_n 3, 1) := by decide +kernel
theorem dX8_claim_97 : decode cX8_claim 97 = .ok (.if_icmp .eq 17, 3) := by decide +kernel
theorem dX8_claim_100 : decode cX8_claim 100 = .ok (.aload_n 0, 1) := by decide +kernel
theorem dX8_claim_101 : decode cX8_claim 101 = .ok (.iload_n 1, 1) := by decide +kernel
theorem dX8_claim_102 : decode cX8_claim 102 = .ok (.iload 4, 2) := by decide +kernel
theorem dX8_claim_104 : decode cX8_claim 104 = .ok (.invokestatic 83, 3) := by decide +kernel
theorem dX8_claim_107 : decode cX8_claim 107 = .ok (.iconst 0, 1) := by decide +kernel
theorem dX8_claim_108 : decode cX8_claim 108 = .ok (.iconst 0, 1) := by decide +kernel
theorem dX8_claim_109 : decode cX8_claim 109 = .ok (.iconst 0, 1) := by decide +kernel
theorem dX8_claim_110 : decode cX8_claim 110 = .ok (.iconst 0, 1) := by decide +kernel
theorem dX8_claim_111 : decode cX8_claim 111 = .ok (.invokestatic 96, 3) := by decide +kernel
theorem dX8_claim_114 : decode cX8_claim 114 = .ok (.iinc 4 1, 3) := by decide +kernel
theorem dX8_claim_117 : decode cX8_claim 117 = .ok (.goto (-41), 3) := by decide +kernel
theorem dX8_claim_120 : decode cX8_claim 120 = .ok (.aload_n 0, 1) := by decide +kernel
theorem dX8_claim_121 : decode cX8_claim 121 = .ok (.iload_n 1, 1) := by decide +kernel
theorem dX8_claim_122 : decode cX8_claim 122 = .ok (.iload_n 3, 1) := by decide +kernel
theorem dX8_claim_123 : decode cX8_claim 123 = .ok (.invokestatic 83, 3) := by decide +kernel
theorem dX8_claim_126 : decode cX8_claim 126 = .ok (.iconst 1, 1) := by decide +kernel
theorem dX8_claim_127 : decode cX8_claim 127 = .ok (.iload_n 1, 1) := by decide +kernel
theorem dX8_claim_128 : decode cX8_claim 128 = .ok (.aload_n 0, 1) := by decide +kernel
theorem dX8_claim_129 : decode cX8_claim 129 = .ok (.iload_n 1, 1) := by decide +kernel
theorem dX8_claim_130 : decode cX8_claim 130 = .ok (.iload_n 3, 1) := by decide +kernel
theorem dX8_claim_131 : decode cX8_claim 131 = .ok (.invokestatic 100, 3) := by decide +kernel
theorem dX8_claim_134 : decode cX8_claim 134 = .ok (.iload_n 2, 1) := by decide +kernel
theorem dX8_claim_135 : decode cX8_claim 135 = .ok (.invokestatic 96, 3) := by decide +kernel
theorem dX8_claim_138 : decode cX8_claim 138 = .ok (.return_, 1) := by decide +kernel
theorem dX8_claim_139 : decode cX8_claim 139 = .ok (.bipush (-9), 2) := by decide +kernel
theorem dX8_claim_141 : decode cX8_claim 141 = .ok (.istore 4, 2) := by decide +kernel
theorem dX8_claim_143 : decode cX8_claim 143 = .ok (.iconst 0, 1) := by decide +kernel
theorem dX8_claim_144 : decode cX8_claim 144 = .ok (.istore 5, 2) := by decide +kernel
theorem dX8_claim_146 : decode cX8_claim 146 = .ok (.iload 5, 2) := by decide +kernel
theorem dX8_claim_148 : decode cX8_claim 148 = .ok (.aload_n 0, 1) := by decide +kernel
theorem dX8_claim_149 : decode cX8_claim 149 = .ok (.iconst 1, 1) := by decide +kernel
theorem dX8_claim_150 : decode cX8_claim 150 = .ok (.iaload, 1) := by decide +kernel
theorem dX8_claim_151 : decode cX8_claim 151 = .ok (.if_icmp .ge 55, 3) := by decide +kernel
theorem dX8_claim_154 : decode cX8_claim 154 = .ok (.aload_n 0, 1) := by decide +kernel
theorem dX8_claim_155 : decode cX8_claim 155 = .ok (.iload_n 1, 1) := by decide +kernel
theorem dX8_claim_156 : decode cX8_claim 156 = .ok (.iload 5, 2) := by decide +kernel
theorem dX8_claim_158 : decode cX8_claim 158 = .ok (.invokestatic 83, 3) := by decide +kernel
theorem dX8_claim_161 : decode cX8_claim 161 = .ok (.iconst 0, 1) := by decide +kernel
theorem dX8_claim_162 : decode cX8_claim 162 = .ok (.iadd, 1) := by decide +kernel
theorem dX8_claim_163 : decode cX8_claim 163 = .ok (.iaload, 1) := by decide +kernel
theorem dX8_claim_164 : decode cX8_claim 164 = .ok (.ifCond .ne 32, 3) := by decide +kernel
theorem dX8_claim_167 : decode cX8_claim 167 = .ok (.iload 4, 2) := by decide +kernel
theorem dX8_claim_169 : decode cX8_claim 169 = .ok (.bipush (-9), 2) := by decide +kernel
theorem dX8_claim_171 : decode cX8_claim 171 = .ok (.if_icmp .eq 20, 3) := by decide +kernel
theorem dX8_claim_174 : decode cX8_claim 174 = .ok (.aload_n 0, 1) := by decide +kernel
theorem dX8_claim_175 : decode cX8_claim 175 = .ok (.iload_n 1, 1) := by decide +kernel
theorem dX8_claim_176 : decode cX8_claim 176 = .ok (.iload 5, 2) := by decide +kernel
theorem dX8_claim_178 : decode cX8_claim 178 = .ok (.invokestatic 100, 3) := by decide +kernel
theorem dX8_claim_181 : decode cX8_claim 181 = .ok (.aload_n 0, 1) := by decide +kernel
theorem dX8_claim_182 : decode cX8_claim 182 = .ok (.iload_n 1, 1) := by decide +kernel
theorem dX8_claim_183 : decode cX8_claim 183 = .ok (.iload 4, 2) := by decide +kernel
theorem dX8_claim_185 : decode cX8_claim 185 = .ok (.invokestatic 100, 3) := by decide +kernel
theorem dX8_claim_188 : decode cX8_claim 188 = .ok (.if_icmp .ge 8, 3) := by decide +kernel
theorem dX8_claim_191 : decode cX8_claim 191 = .ok (.iload 5, 2) := by decide +kernel
theorem dX8_claim_193 : decode cX8_claim 193 = .ok (.goto 5, 3) := by decide +kernel
theorem dX8_claim_196 : decode cX8_claim 196 = .ok (.iload 4, 2) := by decide +kernel
theorem dX8_claim_198 : decode cX8_claim 198 = .ok (.istore 4, 2) := by decide +kernel
theorem dX8_claim_200 : decode cX8_claim 200 = .ok (.iinc 5 1, 3) := by decide +kernel
theorem dX8_claim_203 : decode cX8_claim 203 = .ok (.goto (-57), 3) := by decide +kernel
theorem dX8_claim_206 : decode cX8_claim 206 = .ok (.iload 4, 2) := by decide +kernel
theorem dX8_claim_208 : decode cX8_claim 208 = .ok (.bipush (-9), 2) := by decide +kernel
theorem dX8_claim_210 : decode cX8_claim 210 = .ok (.if_icmp .eq 23, 3) := by decide +kernel
theorem dX8_claim_213 : decode cX8_claim 213 = .ok (.aload_n 0, 1) := by decide +kernel
theorem dX8_claim_214 : decode cX8_claim 214 = .ok (.iload_n 1, 1) := by decide +kernel
theorem dX8_claim_215 : decode cX8_claim 215 = .ok (.iload 4, 2) := by decide +kernel
theorem dX8_claim_217 : decode cX8_claim 217 = .ok (.invokestatic 83, 3) := by decide +kernel
theorem dX8_claim_220 : decode cX8_claim 220 = .ok (.iconst 1, 1) := by decide +kernel
theorem dX8_claim_221 : decode cX8_claim 221 = .ok (.iload_n 1, 1) := by decide +kernel
theorem dX8_claim_222 : decode cX8_claim 222 = .ok (.aload_n 0, 1) := by decide +kernel
theorem dX8_claim_223 : decode cX8_claim 223 = .ok (.iload_n 1, 1) := by decide +kernel
theorem dX8_claim_224 : decode cX8_claim 224 = .ok (.iload 4, 2) := by decide +kernel
theorem dX8_claim_226 : decode cX8_claim 226 = .ok (.invokestatic 100, 3) := by decide +kernel
theorem dX8_claim_229 : decode cX8_claim 229 = .ok (.iload_n 2, 1) := by decide +kernel
theorem dX8_claim_230 : decode cX8_claim 230 = .ok (.invokestatic 96, 3) := by decide +kernel
theorem dX8_claim_233 : decode cX8_claim 233 = .ok (.return_, 1) := by decide +kernel
theorem dX8_work_0 : decode cX8_work 0 = .ok (.aload_n 0, 1) := by decide +kernel
theorem dX8_work_1 : decode cX8_work 1 = .ok (.iload_n 1, 1) := by decide +kernel
theorem dX8_work_2 : decode cX8_work 2 = .ok (.invokestatic 103, 3) := by decide +kernel
theorem dX8_work_5 : decode cX8_work 5 = .ok (.istore_n 2, 1) := by decide +kernel
theorem dX8_work_6 : decode cX8_work 6 = .ok (.iload_n 2, 1) := by decide +kernel
theorem dX8_work_7 : decode cX8_work 7 = .ok (.bipush (-9), 2) := by decide +kernel
theorem dX8_work_9 : decode cX8_work 9 = .ok (.if_icmp .ne 4, 3) := by decide +kernel
theorem dX8_work_12 : decode cX8_work 12 = .ok (.return_, 1) := by decide +kernel
theorem dX8_work_13 : decode cX8_work 13 = .ok (.iload_n 1, 1) := by decide +kernel
theorem dX8_work_14 : decode cX8_work 14 = .ok (.invokestatic 61, 3) := by decide +kernel
theorem dX8_work_17 : decode cX8_work 17 = .ok (.istore_n 3, 1) := by decide +kernel
theorem dX8_work_18 : decode cX8_work 18 = .ok (.iload_n 2, 1) := by decide +kernel
theorem dX8_work_19 : decode cX8_work 19 = .ok (.invokestatic 65, 3) := by decide +kernel
theorem dX8_work_22 : decode cX8_work 22 = .ok (.istore 4, 2) := by decide +kernel
theorem dX8_work_24 : decode cX8_work 24 = .ok (.aload_n 0, 1) := by decide +kernel
theorem dX8_work_25 : decode cX8_work 25 = .ok (.iload_n 1, 1) := by decide +kernel
theorem dX8_work_26 : decode cX8_work 26 = .ok (.iload_n 2, 1) := by decide +kernel
theorem dX8_work_27 : decode cX8_work 27 = .ok (.invokestatic 100, 3) := by decide +kernel
theorem dX8_work_30 : decode cX8_work 30 = .ok (.ifCond .le 64, 3) := by decide +kernel
theorem dX8_work_33 : decode cX8_work 33 = .ok (.aload_n 0, 1) := by decide +kernel
theorem dX8_work_34 : decode cX8_work 34 = .ok (.iload_n 3, 1) := by decide +kernel
theorem dX8_work_35 : decode cX8_work 35 = .ok (.iconst 0, 1) := by decide +kernel
theorem dX8_work_36 : decode cX8_work 36 = .ok (.iadd, 1) := by decide +kernel
theorem dX8_work_37 : decode cX8_work 37 = .ok (.iaload, 1) := by decide +kernel
theorem dX8_work_38 : decode cX8_work 38 = .ok (.aload_n 0, 1) := by decide +kernel
theorem dX8_work_39 : decode cX8_work 39 = .ok (.iload 4, 2) := by decide +kernel
theorem dX8_work_41 : decode cX8_work 41 = .ok (.iconst 0, 1) := by decide +kernel
theorem dX8_work_42 : decode cX8_work 42 = .ok (.iadd, 1) := by decide +kernel
theorem dX8_work_43 : decode cX8_work 43 = .ok (.iaload, 1) := by decide +kernel
theorem dX8_work_44 : decode cX8_work 44 = .ok (.if_icmp .eq 7, 3) := by decide +kernel
theorem dX8_work_47 : decode cX8_work 47 = .ok (.iconst 0, 1) := by decide +kernel
theorem dX8_work_48 : decode cX8_work 48 = .ok (.goto 4, 3) := by decide +kernel
theorem dX8_work_51 : decode cX8_work 51 = .ok (.iconst 1, 1) := by decide +kernel
theorem dX8_work_52 : decode cX8_work 52 = .ok (.istore 5, 2) := by decide +kernel
theorem dX8_work_54 : decode cX8_work 54 = .ok (.aload_n 0, 1) := by decide +kernel
theorem dX8_work_55 : decode cX8_work 55 = .ok (.iload_n 3, 1) := by decide +kernel
theorem dX8_work_56 : decode cX8_work 56 = .ok (.iload 5, 2) := by decide +kernel
theorem dX8_work_58 : decode cX8_work 58 = .ok (.iadd, 1) := by decide +kernel
theorem dX8_work_59 : decode cX8_work 59 = .ok (.dup2, 1) := by decide +kernel
theorem dX8_work_60 : decode cX8_work 60 = .ok (.iaload, 1) := by decide +kernel
theorem dX8_work_61 : decode cX8_work 61 = .ok (.aload_n 0, 1) := by decide +kernel
theorem dX8_work_62 : decode cX8_work 62 = .ok (.iload 4, 2) := by decide +kernel
theorem dX8_work_64 : decode cX8_work 64 = .ok (.iload 5, 2) := by decide +kernel
theorem dX8_work_66 : decode cX8_work 66 = .ok (.iadd, 1) := by decide +kernel
theorem dX8_work_67 : decode cX8_work 67 = .ok (.iaload, 1) := by decide +kernel
theorem dX8_work_68 : decode cX8_work 68 = .ok (.aload_n 0, 1) := by decide +kernel
theorem dX8_work_69 : decode cX8_work 69 = .ok (.iload_n 3, 1) := by decide +kernel
theorem dX8_work_70 : decode cX8_work 70 = .ok (.iload 5, 2) := by decide +kernel
theorem dX8_work_72 : decode cX8_work 72 = .ok (.iadd, 1) := by decide +kernel
theorem dX8_work_73 : decode cX8_work 73 = .ok (.iaload, 1) := by decide +kernel
theorem dX8_work_74 : decode cX8_work 74 = .ok (.if_icmp .le 7, 3) := by decide +kernel
theorem dX8_work_77 : decode cX8_work 77 = .ok (.iconst 1, 1) := by decide +kernel
theorem dX8_work_78 : decode cX8_work 78 = .ok (.goto 4, 3) := by decide +kernel
theorem dX8_work_81 : decode cX8_work 81 = .ok (.iconst (-1), 1) := by decide +kernel
theorem dX8_work_82 : decode cX8_work 82 = .ok (.iadd, 1) := by decide +kernel
theorem dX8_work_83 : decode cX8_work 83 = .ok (.iastore, 1) := by decide +kernel
theorem dX8_work_84 : decode cX8_work 84 = .ok (.aload_n 0, 1) := by decide +kernel
theorem dX8_work_85 : decode cX8_work 85 = .ok (.iload_n 3, 1) := by decide +kernel
theorem dX8_work_86 : decode cX8_work 86 = .ok (.iconst 4, 1) := by decide +kernel
theorem dX8_work_87 : decode cX8_work 87 = .ok (.iadd, 1) := by decide +kernel
theorem dX8_work_88 : decode cX8_work 88 = .ok (.dup2, 1) := by decide +kernel
theorem dX8_work_89 : decode cX8_work 89 = .ok (.iaload, 1) := by decide +kernel
theorem dX8_work_90 : decode cX8_work 90 = .ok (.iconst 1, 1) := by decide +kernel
theorem dX8_work_91 : decode cX8_work 91 = .ok (.iadd, 1) := by decide +kernel
theorem dX8_work_92 : decode cX8_work 92 = .ok (.iastore, 1) := by decide +kernel
theorem dX8_work_93 : decode cX8_work 93 = .ok (.return_, 1) := by decide +kernel
theorem dX8_work_94 : decode cX8_work 94 = .ok (.aload_n 0, 1) := by decide +kernel
theorem dX8_work_95 : decode cX8_work 95 = .ok (.iload_n 2, 1) := by decide +kernel
theorem dX8_work_96 : decode cX8_work 96 = .ok (.invokestatic 107, 3) := by decide +kernel
theorem dX8_work_99 : decode cX8_work 99 = .ok (.ifCond .eq 15, 3) := by decide +kernel
theorem dX8_work_102 : decode cX8_work 102 = .ok (.aload_n 0, 1) := by decide +kernel
theorem dX8_work_103 : decode cX8_work 103 = .ok (.iload_n 3, 1) := by decide +kernel
theorem dX8_work_104 : decode cX8_work 104 = .ok (.iconst 5, 1) := by decide +kernel
theorem dX8_work_105 : decode cX8_work 105 = .ok (.iadd, 1) := by decide +kernel
theorem dX8_work_106 : decode cX8_work 106 = .ok (.dup2, 1) := by decide +kernel
theorem dX8_work_107 : decode cX8_work 107 = .ok (.iaload, 1) := by decide +kernel
theorem dX8_work_108 : decode cX8_work 108 = .ok (.iconst 1, 1) := by decide +kernel
theorem dX8_work_109 : decode cX8_work 109 = .ok (.iadd, 1) := by decide +kernel
theorem dX8_work_110 : decode cX8_work 110 = .ok (.iastore, 1) := by decide +kernel
theorem dX8_work_111 : decode cX8_work 111 = .ok (.goto 13, 3) := by decide +kernel
theorem dX8_work_114 : decode cX8_work 114 = .ok (.aload_n 0, 1) := by decide +kernel
theorem dX8_work_115 : decode cX8_work 115 = .ok (.iload 4, 2) := by decide +kernel
theorem dX8_work_117 : decode cX8_work 117 = .ok (.iconst 3, 1) := by decide +kernel
theorem dX8_work_118 : decode cX8_work 118 = .ok (.iadd, 1) := by decide +kernel
theorem dX8_work_119 : decode cX8_work 119 = .ok (.dup2, 1) := by decide +kernel
theorem dX8_work_120 : decode cX8_work 120 = .ok (.iaload, 1) := by decide +kernel
theorem dX8_work_121 : decode cX8_work 121 = .ok (.iconst 1, 1) := by decide +kernel
theorem dX8_work_122 : decode cX8_work 122 = .ok (.iadd, 1) := by decide +kernel
theorem dX8_work_123 : decode cX8_work 123 = .ok (.iastore, 1) := by decide +kernel
theorem dX8_work_124 : decode cX8_work 124 = .ok (.aload_n 0, 1) := by decide +kernel
theorem dX8_work_125 : decode cX8_work 125 = .ok (.iload_n 2, 1) := by decide +kernel
theorem dX8_work_126 : decode cX8_work 126 = .ok (.invokestatic 107, 3) := by decide +kernel
theorem dX8_work_129 : decode cX8_work 129 = .ok (.ifCond .eq 16, 3) := by decide +kernel
theorem dX8_work_132 : decode cX8_work 132 = .ok (.aload_n 0, 1) := by decide +kernel
theorem dX8_work_133 : decode cX8_work 133 = .ok (.iload_n 1, 1) := by decide +kernel
theorem dX8_work_134 : decode cX8_work 134 = .ok (.iload_n 2, 1) := by decide +kernel
theorem dX8_work_135 : decode cX8_work 135 = .ok (.invokestatic 83, 3) := by decide +kernel
theorem dX8_work_138 : decode cX8_work 138 = .ok (.iconst 2, 1) := by decide +kernel
theorem dX8_work_139 : decode cX8_work 139 = .ok (.iconst 0, 1) := by decide +kernel
theorem dX8_work_140 : decode cX8_work 140 = .ok (.iconst 0, 1) := by decide +kernel
theorem dX8_work_141 : decode cX8_work 141 = .ok (.iconst 0, 1) := by decide +kernel
theorem dX8_work_142 : decode cX8_work 142 = .ok (.invokestatic 96, 3) := by decide +kernel
theorem dX8_work_145 : decode cX8_work 145 = .ok (.return_, 1) := by decide +kernel
theorem dX8_stepOn_0 : decode cX8_stepOn 0 = .ok (.aload_n 0, 1) := by decide +kernel
theorem dX8_stepOn_1 : decode cX8_stepOn 1 = .ok (.aload_n 1, 1) := by decide +kernel
theorem dX8_stepOn_2 : decode cX8_stepOn 2 = .ok (.invokevirtual 110, 3) := by decide +kernel
theorem dX8_stepOn_5 : decode cX8_stepOn 5 = .ok (.iconst 0, 1) := by decide +kernel
theorem dX8_stepOn_6 : decode cX8_stepOn 6 = .ok (.istore_n 2, 1) := by decide +kernel
theorem dX8_stepOn_7 : decode cX8_stepOn 7 = .ok (.iload_n 2, 1) := by decide +kernel
theorem dX8_stepOn_8 : decode cX8_stepOn 8 = .ok (.aload_n 1, 1) := by decide +kernel
theorem dX8_stepOn_9 : decode cX8_stepOn 9 = .ok (.iconst 0, 1) := by decide +kernel
theorem dX8_stepOn_10 : decode cX8_stepOn 10 = .ok (.iaload, 1) := by decide +kernel
theorem dX8_stepOn_11 : decode cX8_stepOn 11 = .ok (.if_icmp .ge 22, 3) := by decide +kernel
theorem dX8_stepOn_14 : decode cX8_stepOn 14 = .ok (.aload_n 1, 1) := by decide +kernel
theorem dX8_stepOn_15 : decode cX8_stepOn 15 = .ok (.iload_n 2, 1) := by decide +kernel
theorem dX8_stepOn_16 : decode cX8_stepOn 16 = .ok (.invokestatic 71, 3) := by decide +kernel
theorem dX8_stepOn_19 : decode cX8_stepOn 19 = .ok (.ifCond .eq 8, 3) := by decide +kernel
theorem dX8_stepOn_22 : decode cX8_stepOn 22 = .ok (.aload_n 1, 1) := by decide +kernel
theorem dX8_stepOn_23 : decode cX8_stepOn 23 = .ok (.iload_n 2, 1) := by decide +kernel
theorem dX8_stepOn_24 : decode cX8_stepOn 24 = .ok (.invokestatic 114, 3) := by decide +kernel
theorem dX8_stepOn_27 : decode cX8_stepOn 27 = .ok (.iinc 2 1, 3) := by decide +kernel
theorem dX8_stepOn_30 : decode cX8_stepOn 30 = .ok (.goto (-23), 3) := by decide +kernel
theorem dX8_stepOn_33 : decode cX8_stepOn 33 = .ok (.iconst 0, 1) := by decide +kernel
theorem dX8_stepOn_34 : decode cX8_stepOn 34 = .ok (.istore_n 2, 1) := by decide +kernel
theorem dX8_stepOn_35 : decode cX8_stepOn 35 = .ok (.iload_n 2, 1) := by decide +kernel
theorem dX8_stepOn_36 : decode cX8_stepOn 36 = .ok (.aload_n 1, 1) := by decide +kernel
theorem dX8_stepOn_37 : decode cX8_stepOn 37 = .ok (.iconst 0, 1) := by decide +kernel
theorem dX8_stepOn_38 : decode cX8_stepOn 38 = .ok (.iaload, 1) := by decide +kernel
theorem dX8_stepOn_39 : decode cX8_stepOn 39 = .ok (.if_icmp .ge 22, 3) := by decide +kernel
theorem dX8_stepOn_42 : decode cX8_stepOn 42 = .ok (.aload_n 1, 1) := by decide +kernel
theorem dX8_stepOn_43 : decode cX8_stepOn 43 = .ok (.iload_n 2, 1) := by decide +kernel
theorem dX8_stepOn_44 : decode cX8_stepOn 44 = .ok (.invokestatic 71, 3) := by decide +kernel
theorem dX8_stepOn_47 : decode cX8_stepOn 47 = .ok (.ifCond .eq 8, 3) := by decide +kernel
theorem dX8_stepOn_50 : decode cX8_stepOn 50 = .ok (.aload_n 1, 1) := by decide +kernel
theorem dX8_stepOn_51 : decode cX8_stepOn 51 = .ok (.iload_n 2, 1) := by decide +kernel
theorem dX8_stepOn_52 : decode cX8_stepOn 52 = .ok (.invokestatic 118, 3) := by decide +kernel
theorem dX8_stepOn_55 : decode cX8_stepOn 55 = .ok (.iinc 2 1, 3) := by decide +kernel
theorem dX8_stepOn_58 : decode cX8_stepOn 58 = .ok (.goto (-23), 3) := by decide +kernel
theorem dX8_stepOn_61 : decode cX8_stepOn 61 = .ok (.aload_n 1, 1) := by decide +kernel
theorem dX8_stepOn_62 : decode cX8_stepOn 62 = .ok (.iconst 2, 1) := by decide +kernel
theorem dX8_stepOn_63 : decode cX8_stepOn 63 = .ok (.dup2, 1) := by decide +kernel
theorem dX8_stepOn_64 : decode cX8_stepOn 64 = .ok (.iaload, 1) := by decide +kernel
theorem dX8_stepOn_65 : decode cX8_stepOn 65 = .ok (.iconst 1, 1) := by decide +kernel
theorem dX8_stepOn_66 : decode cX8_stepOn 66 = .ok (.iadd, 1) := by decide +kernel
theorem dX8_stepOn_67 : decode cX8_stepOn 67 = .ok (.iastore, 1) := by decide +kernel
theorem dX8_stepOn_68 : decode cX8_stepOn 68 = .ok (.return_, 1) := by decide +kernel
theorem dX8_finished_0 : decode cX8_finished 0 = .ok (.iconst 0, 1) := by decide +kernel
theorem dX8_finished_1 : decode cX8_finished 1 = .ok (.istore_n 1, 1) := by decide +kernel
theorem dX8_finished_2 : decode cX8_finished 2 = .ok (.iconst 0, 1) := by decide +kernel
theorem dX8_finished_3 : decode cX8_finished 3 = .ok (.istore_n 2, 1) := by decide +kernel
theorem dX8_finished_4 : decode cX8_finished 4 = .ok (.iload_n 2, 1) := by decide +kernel
theorem dX8_finished_5 : decode cX8_finished 5 = .ok (.aload_n 0, 1) := by decide +kernel
theorem dX8_finished_6 : decode cX8_finished 6 = .ok (.iconst 1, 1) := by decide +kernel
theorem dX8_finished_7 : decode cX8_finished 7 = .ok (.iaload, 1) := by decide +kernel
theorem dX8_finished_8 : decode cX8_finished 8 = .ok (.if_icmp .ge 25, 3) := by decide +kernel
theorem dX8_finished_11 : decode cX8_finished 11 = .ok (.iload_n 1, 1) := by decide +kernel
theorem dX8_finished_12 : decode cX8_finished 12 = .ok (.aload_n 0, 1) := by decide +kernel
theorem dX8_finished_13 : decode cX8_finished 13 = .ok (.iload_n 2, 1) := by decide +kernel
theorem dX8_finished_14 : decode cX8_finished 14 = .ok (.invokestatic 107, 3) := by decide +kernel
theorem dX8_finished_17 : decode cX8_finished 17 = .ok (.ifCond .eq 7, 3) := by decide +kernel
theorem dX8_finished_20 : decode cX8_finished 20 = .ok (.iconst 1, 1) := by decide +kernel
theorem dX8_finished_21 : decode cX8_finished 21 = .ok (.goto 4, 3) := by decide +kernel
theorem dX8_finished_24 : decode cX8_finished 24 = .ok (.iconst 0, 1) := by decide +kernel
theorem dX8_finished_25 : decode cX8_finished 25 = .ok (.iadd, 1) := by decide +kernel
theorem dX8_finished_26 : decode cX8_finished 26 = .ok (.istore_n 1, 1) := by decide +kernel
theorem dX8_finished_27 : decode cX8_finished 27 = .ok (.iinc 2 1, 3) := by decide +kernel
theorem dX8_finished_30 : decode cX8_finished 30 = .ok (.goto (-26), 3) := by decide +kernel
theorem dX8_finished_33 : decode cX8_finished 33 = .ok (.iload_n 1, 1) := by decide +kernel
theorem dX8_finished_34 : decode cX8_finished 34 = .ok (.ireturn, 1) := by decide +kernel
theorem dX8_sumOf_0 : decode cX8_sumOf 0 = .ok (.iconst 0, 1) := by decide +kernel
theorem dX8_sumOf_1 : decode cX8_sumOf 1 = .ok (.istore_n 2, 1) := by decide +kernel
theorem dX8_sumOf_2 : decode cX8_sumOf 2 = .ok (.iconst 0, 1) := by decide +kernel
theorem dX8_sumOf_3 : decode cX8_sumOf 3 = .ok (.istore_n 3, 1) := by decide +kernel
theorem dX8_sumOf_4 : decode cX8_sumOf 4 = .ok (.iload_n 3, 1) := by decide +kernel
theorem dX8_sumOf_5 : decode cX8_sumOf 5 = .ok (.aload_n 0, 1) := by decide +kernel
theorem dX8_sumOf_6 : decode cX8_sumOf 6 = .ok (.iconst 0, 1) := by decide +kernel
theorem dX8_sumOf_7 : decode cX8_sumOf 7 = .ok (.iaload, 1) := by decide +kernel
theorem dX8_sumOf_8 : decode cX8_sumOf 8 = .ok (.if_icmp .ge 20, 3) := by decide +kernel
theorem dX8_sumOf_11 : decode cX8_sumOf 11 = .ok (.iload_n 2, 1) := by decide +kernel
theorem dX8_sumOf_12 : decode cX8_sumOf 12 = .ok (.aload_n 0, 1) := by decide +kernel
theorem dX8_sumOf_13 : decode cX8_sumOf 13 = .ok (.iload_n 3, 1) := by decide +kernel
theorem dX8_sumOf_14 : decode cX8_sumOf 14 = .ok (.invokestatic 61, 3) := by decide +kernel
theorem dX8_sumOf_17 : decode cX8_sumOf 17 = .ok (.iload_n 1, 1) := by decide +kernel
theorem dX8_sumOf_18 : decode cX8_sumOf 18 = .ok (.iadd, 1) := by decide +kernel
theorem dX8_sumOf_19 : decode cX8_sumOf 19 = .ok (.iaload, 1) := by decide +kernel
theorem dX8_sumOf_20 : decode cX8_sumOf 20 = .ok (.iadd, 1) := by decide +kernel
theorem dX8_sumOf_21 : decode cX8_sumOf 21 = .ok (.istore_n 2, 1) := by decide +kernel
theorem dX8_sumOf_22 : decode cX8_sumOf 22 = .ok (.iinc 3 1, 3) := by decide +kernel
theorem dX8_sumOf_25 : decode cX8_sumOf 25 = .ok (.goto (-21), 3) := by decide +kernel
theorem dX8_sumOf_28 : decode cX8_sumOf 28 = .ok (.iload_n 2, 1) := by decide +kernel
theorem dX8_sumOf_29 : decode cX8_sumOf 29 = .ok (.ireturn, 1) := by decide +kernel
theorem dX8_progress_0 : decode cX8_progress 0 = .ok (.iconst 0, 1) := by decide +kernel
theorem dX8_progress_1 : decode cX8_progress 1 = .ok (.istore_n 1, 1) := by decide +kernel
theorem dX8_progress_2 : decode cX8_progress 2 = .ok (.iconst 0, 1) := by decide +kernel
theorem dX8_progress_3 : decode cX8_progress 3 = .ok (.istore_n 2, 1) := by decide +kernel
theorem dX8_progress_4 : decode cX8_progress 4 = .ok (.iload_n 2, 1) := by decide +kernel
theorem dX8_progress_5 : decode cX8_progress 5 = .ok (.aload_n 0, 1) := by decide +kernel
theorem dX8_progress_6 : decode cX8_progress 6 = .ok (.iconst 1, 1) := by decide +kernel
theorem dX8_progress_7 : decode cX8_progress 7 = .ok (.iaload, 1) := by decide +kernel
theorem dX8_progress_8 : decode cX8_progress 8 = .ok (.if_icmp .ge 20, 3) := by decide +kernel
theorem dX8_progress_11 : decode cX8_progress 11 = .ok (.iload_n 1, 1) := by decide +kernel
theorem dX8_progress_12 : decode cX8_progress 12 = .ok (.aload_n 0, 1) := by decide +kernel
theorem dX8_progress_13 : decode cX8_progress 13 = .ok (.iload_n 2, 1) := by decide +kernel
theorem dX8_progress_14 : decode cX8_progress 14 = .ok (.invokestatic 65, 3) := by decide +kernel
theorem dX8_progress_17 : decode cX8_progress 17 = .ok (.iconst 3, 1) := by decide +kernel
theorem dX8_progress_18 : decode cX8_progress 18 = .ok (.iadd, 1) := by decide +kernel
theorem dX8_progress_19 : decode cX8_progress 19 = .ok (.iaload, 1) := by decide +kernel
theorem dX8_progress_20 : decode cX8_progress 20 = .ok (.iadd, 1) := by decide +kernel
theorem dX8_progress_21 : decode cX8_progress 21 = .ok (.istore_n 1, 1) := by decide +kernel
theorem dX8_progress_22 : decode cX8_progress 22 = .ok (.iinc 2 1, 3) := by decide +kernel
theorem dX8_progress_25 : decode cX8_progress 25 = .ok (.goto (-21), 3) := by decide +kernel
theorem dX8_progress_28 : decode cX8_progress 28 = .ok (.iload_n 1, 1) := by decide +kernel
theorem dX8_progress_29 : decode cX8_progress 29 = .ok (.ireturn, 1) := by decide +kernel
theorem dX8_append_0 : decode cX8_append 0 = .ok (.aload_n 0, 1) := by decide +kernel
theorem dX8_append_1 : decode cX8_append 1 = .ok (.iload_n 1, 1) := by decide +kernel
theorem dX8_append_2 : decode cX8_append 2 = .ok (.i2l, 1) := by decide +kernel
theorem dX8_append_3 : decode cX8_append 3 = .ok (.lconst 0, 1) := by decide +kernel
theorem dX8_append_4 : decode cX8_append 4 = .ok (.ldc2_w 121, 3) := by decide +kernel
theorem dX8_append_7 : decode cX8_append 7 = .ok (.invokestatic 57, 3) := by decide +kernel
theorem dX8_append_10 : decode cX8_append 10 = .ok (.ifCond .ne 7, 3) := by decide +kernel
theorem dX8_append_13 : decode cX8_append 13 = .ok (.iconst 1, 1) := by decide +kernel
theorem dX8_append_14 : decode cX8_append 14 = .ok (.goto 17, 3) := by decide +kernel
theorem dX8_append_17 : decode cX8_append 17 = .ok (.aload_n 0, 1) := by decide +kernel
theorem dX8_append_18 : decode cX8_append 18 = .ok (.getfield 123, 3) := by decide +kernel
theorem dX8_append_21 : decode cX8_append 21 = .ok (.bipush 120, 2) := by decide +kernel
theorem dX8_append_23 : decode cX8_append 23 = .ok (.if_icmp .ne 7, 3) := by decide +kernel
theorem dX8_append_26 : decode cX8_append 26 = .ok (.iconst 2, 1) := by decide +kernel
theorem dX8_append_27 : decode cX8_append 27 = .ok (.goto 4, 3) := by decide +kernel
theorem dX8_append_30 : decode cX8_append 30 = .ok (.iconst 0, 1) := by decide +kernel
theorem dX8_append_31 : decode cX8_append 31 = .ok (.invokevirtual 126, 3) := by decide +kernel
theorem dX8_append_34 : decode cX8_append 34 = .ok (.ifCond .eq 5, 3) := by decide +kernel
theorem dX8_append_37 : decode cX8_append 37 = .ok (.iconst 0, 1) := by decide +kernel
theorem dX8_append_38 : decode cX8_append 38 = .ok (.ireturn, 1) := by decide +kernel
theorem dX8_append_39 : decode cX8_append 39 = .ok (.aload_n 0, 1) := by decide +kernel
theorem dX8_append_40 : decode cX8_append 40 = .ok (.getfield 7, 3) := by decide +kernel
theorem dX8_append_43 : decode cX8_append 43 = .ok (.aload_n 0, 1) := by decide +kernel
theorem dX8_append_44 : decode cX8_append 44 = .ok (.getfield 123, 3) := by decide +kernel
theorem dX8_append_47 : decode cX8_append 47 = .ok (.iload_n 1, 1) := by decide +kernel
theorem dX8_append_48 : decode cX8_append 48 = .ok (.iastore, 1) := by decide +kernel
theorem dX8_append_49 : decode cX8_append 49 = .ok (.aload_n 0, 1) := by decide +kernel
theorem dX8_append_50 : decode cX8_append 50 = .ok (.dup, 1) := by decide +kernel
theorem dX8_append_51 : decode cX8_append 51 = .ok (.getfield 123, 3) := by decide +kernel
theorem dX8_append_54 : decode cX8_append 54 = .ok (.iconst 1, 1) := by decide +kernel
theorem dX8_append_55 : decode cX8_append 55 = .ok (.iadd, 1) := by decide +kernel
theorem dX8_append_56 : decode cX8_append 56 = .ok (.putfield 123, 3) := by decide +kernel
theorem dX8_append_59 : decode cX8_append 59 = .ok (.aload_n 0, 1) := by decide +kernel
theorem dX8_append_60 : decode cX8_append 60 = .ok (.getfield 123, 3) := by decide +kernel
theorem dX8_append_63 : decode cX8_append 63 = .ok (.ireturn, 1) := by decide +kernel
theorem dX8_clearText_0 : decode cX8_clearText 0 = .ok (.aload_n 0, 1) := by decide +kernel
theorem dX8_clearText_1 : decode cX8_clearText 1 = .ok (.iconst 0, 1) := by decide +kernel
theorem dX8_clearText_2 : decode cX8_clearText 2 = .ok (.putfield 44, 3) := by decide +kernel
theorem dX8_clearText_5 : decode cX8_clearText 5 = .ok (.aload_n 0, 1) := by decide +kernel
theorem dX8_clearText_6 : decode cX8_clearText 6 = .ok (.getfield 123, 3) := by decide +kernel
theorem dX8_clearText_9 : decode cX8_clearText 9 = .ok (.istore_n 1, 1) := by decide +kernel
theorem dX8_clearText_10 : decode cX8_clearText 10 = .ok (.aload_n 0, 1) := by decide +kernel
theorem dX8_clearText_11 : decode cX8_clearText 11 = .ok (.iconst 0, 1) := by decide +kernel
theorem dX8_clearText_12 : decode cX8_clearText 12 = .ok (.putfield 123, 3) := by decide +kernel
theorem dX8_clearText_15 : decode cX8_clearText 15 = .ok (.iload_n 1, 1) := by decide +kernel
theorem dX8_clearText_16 : decode cX8_clearText 16 = .ok (.ireturn, 1) := by decide +kernel
theorem dX8_digit_0 : decode cX8_digit 0 = .ok (.aload_n 0, 1) := by decide +kernel
theorem dX8_digit_1 : decode cX8_digit 1 = .ok (.getfield 130, 3) := by decide +kernel
theorem dX8_digit_4 : decode cX8_digit 4 = .ok (.aload_n 0, 1) := by decide +kernel
theorem dX8_digit_5 : decode cX8_digit 5 = .ok (.getfield 123, 3) := by decide +kernel
theorem dX8_digit_8 : decode cX8_digit 8 = .ok (.if_icmp .ge 18, 3) := by decide +kernel
theorem dX8_digit_11 : decode cX8_digit 11 = .ok (.aload_n 0, 1) := by decide +kernel
theorem dX8_digit_12 : decode cX8_digit 12 = .ok (.getfield 7, 3) := by decide +kernel
theorem dX8_digit_15 : decode cX8_digit 15 = .ok (.aload_n 0, 1) := by decide +kernel
theorem dX8_digit_16 : decode cX8_digit 16 = .ok (.getfield 130, 3) := by decide +kernel
theorem dX8_digit_19 : decode cX8_digit 19 = .ok (.iaload, 1) := by decide +kernel
theorem dX8_digit_20 : decode cX8_digit 20 = .ok (.bipush 48, 2) := by decide +kernel
theorem dX8_digit_22 : decode cX8_digit 22 = .ok (.isub, 1) := by decide +kernel
theorem dX8_digit_23 : decode cX8_digit 23 = .ok (.goto 5, 3) := by decide +kernel
theorem dX8_digit_26 : decode cX8_digit 26 = .ok (.bipush (-9), 2) := by decide +kernel
theorem dX8_digit_28 : decode cX8_digit 28 = .ok (.istore_n 3, 1) := by decide +kernel
theorem dX8_digit_29 : decode cX8_digit 29 = .ok (.iload_n 3, 1) := by decide +kernel
theorem dX8_digit_30 : decode cX8_digit 30 = .ok (.i2l, 1) := by decide +kernel
theorem dX8_digit_31 : decode cX8_digit 31 = .ok (.iload_n 1, 1) := by decide +kernel
theorem dX8_digit_32 : decode cX8_digit 32 = .ok (.i2l, 1) := by decide +kernel
theorem dX8_digit_33 : decode cX8_digit 33 = .ok (.iload_n 2, 1) := by decide +kernel
theorem dX8_digit_34 : decode cX8_digit 34 = .ok (.i2l, 1) := by decide +kernel
theorem dX8_digit_35 : decode cX8_digit 35 = .ok (.invokestatic 57, 3) := by decide +kernel
theorem dX8_digit_38 : decode cX8_digit 38 = .ok (.ifCond .ne 6, 3) := by decide +kernel
theorem dX8_digit_41 : decode cX8_digit 41 = .ok (.bipush (-9), 2) := by decide +kernel
theorem dX8_digit_43 : decode cX8_digit 43 = .ok (.ireturn, 1) := by decide +kernel
theorem dX8_digit_44 : decode cX8_digit 44 = .ok (.aload_n 0, 1) := by decide +kernel
theorem dX8_digit_45 : decode cX8_digit 45 = .ok (.dup, 1) := by decide +kernel
theorem dX8_digit_46 : decode cX8_digit 46 = .ok (.getfield 130, 3) := by decide +kernel
theorem dX8_digit_49 : decode cX8_digit 49 = .ok (.iconst 1, 1) := by decide +kernel
theorem dX8_digit_50 : decode cX8_digit 50 = .ok (.iadd, 1) := by decide +kernel
theorem dX8_digit_51 : decode cX8_digit 51 = .ok (.putfield 130, 3) := by decide +kernel
theorem dX8_digit_54 : decode cX8_digit 54 = .ok (.iload_n 3, 1) := by decide +kernel
theorem dX8_digit_55 : decode cX8_digit 55 = .ok (.ireturn, 1) := by decide +kernel
theorem dX8_two_0 : decode cX8_two 0 = .ok (.aload_n 0, 1) := by decide +kernel
theorem dX8_two_1 : decode cX8_two 1 = .ok (.iload_n 1, 1) := by decide +kernel
theorem dX8_two_2 : decode cX8_two 2 = .ok (.bipush 10, 2) := by decide +kernel
theorem dX8_two_4 : decode cX8_two 4 = .ok (.idiv, 1) := by decide +kernel
theorem dX8_two_5 : decode cX8_two 5 = .ok (.iload_n 2, 1) := by decide +kernel
theorem dX8_two_6 : decode cX8_two 6 = .ok (.bipush 10, 2) := by decide +kernel
theorem dX8_two_8 : decode cX8_two 8 = .ok (.idiv, 1) := by decide +kernel
theorem dX8_two_9 : decode cX8_two 9 = .ok (.invokevirtual 133, 3) := by decide +kernel
theorem dX8_two_12 : decode cX8_two 12 = .ok (.istore_n 3, 1) := by decide +kernel
theorem dX8_two_13 : decode cX8_two 13 = .ok (.iload_n 3, 1) := by decide +kernel
theorem dX8_two_14 : decode cX8_two 14 = .ok (.bipush (-9), 2) := by decide +kernel
theorem dX8_two_16 : decode cX8_two 16 = .ok (.if_icmp .ne 8, 3) := by decide +kernel
theorem dX8_two_19 : decode cX8_two 19 = .ok (.bipush (-9), 2) := by decide +kernel
theorem dX8_two_21 : decode cX8_two 21 = .ok (.goto 40, 3) := by decide +kernel
theorem dX8_two_24 : decode cX8_two 24 = .ok (.aload_n 0, 1) := by decide +kernel
theorem dX8_two_25 : decode cX8_two 25 = .ok (.iload_n 3, 1) := by decide +kernel
theorem dX8_two_26 : decode cX8_two 26 = .ok (.iload_n 1, 1) := by decide +kernel
theorem dX8_two_27 : decode cX8_two 27 = .ok (.bipush 10, 2) := by decide +kernel
theorem dX8_two_29 : decode cX8_two 29 = .ok (.idiv, 1) := by decide +kernel
theorem dX8_two_30 : decode cX8_two 30 = .ok (.if_icmp .ne 10, 3) := by decide +kernel
theorem dX8_two_33 : decode cX8_two 33 = .ok (.iload_n 1, 1) := by decide +kernel
theorem dX8_two_34 : decode cX8_two 34 = .ok (.bipush 10, 2) := by decide +kernel
theorem dX8_two_36 : decode cX8_two 36 = .ok (.irem, 1) := by decide +kernel
theorem dX8_two_37 : decode cX8_two 37 = .ok (.goto 4, 3) := by decide +kernel
theorem dX8_two_40 : decode cX8_two 40 = .ok (.iconst 0, 1) := by decide +kernel
theorem dX8_two_41 : decode cX8_two 41 = .ok (.iload_n 3, 1) := by decide +kernel
theorem dX8_two_42 : decode cX8_two 42 = .ok (.iload_n 2, 1) := by decide +kernel
theorem dX8_two_43 : decode cX8_two 43 = .ok (.bipush 10, 2) := by decide +kernel
theorem dX8_two_45 : decode cX8_two 45 = .ok (.idiv, 1) := by decide +kernel
theorem dX8_two_46 : decode cX8_two 46 = .ok (.if_icmp .ne 10, 3) := by decide +kernel
theorem dX8_two_49 : decode cX8_two 49 = .ok (.iload_n 2, 1) := by decide +kernel
theorem dX8_two_50 : decode cX8_two 50 = .ok (.bipush 10, 2) := by decide +kernel
theorem dX8_two_52 : decode cX8_two 52 = .ok (.irem, 1) := by decide +kernel
theorem dX8_two_53 : decode cX8_two 53 = .ok (.goto 5, 3) := by decide +kernel
theorem dX8_two_56 : decode cX8_two 56 = .ok (.bipush 9, 2) := by decide +kernel
theorem dX8_two_58 : decode cX8_two 58 = .ok (.invokevirtual 133, 3) := by decide +kernel
theorem dX8_two_61 : decode cX8_two 61 = .ok (.istore 4, 2) := by decide +kernel
theorem dX8_two_63 : decode cX8_two 63 = .ok (.iload 4, 2) := by decide +kernel
theorem dX8_two_65 : decode cX8_two 65 = .ok (.bipush (-9), 2) := by decide +kernel
theorem dX8_two_67 : decode cX8_two 67 = .ok (.if_icmp .ne 8, 3) := by decide +kernel
theorem dX8_two_70 : decode cX8_two 70 = .ok (.bipush (-9), 2) := by decide +kernel
theorem dX8_two_72 : decode cX8_two 72 = .ok (.goto 10, 3) := by decide +kernel
theorem dX8_two_75 : decode cX8_two 75 = .ok (.bipush 10, 2) := by decide +kernel
theorem dX8_two_77 : decode cX8_two 77 = .ok (.iload_n 3, 1) := by decide +kernel
theorem dX8_two_78 : decode cX8_two 78 = .ok (.imul, 1) := by decide +kernel
theorem dX8_two_79 : decode cX8_two 79 = .ok (.iload 4, 2) := by decide +kernel
theorem dX8_two_81 : decode cX8_two 81 = .ok (.iadd, 1) := by decide +kernel
theorem dX8_two_82 : decode cX8_two 82 = .ok (.ireturn, 1) := by decide +kernel
theorem dX8_readAgent_0 : decode cX8_readAgent 0 = .ok (.aload_n 0, 1) := by decide +kernel
theorem dX8_readAgent_1 : decode cX8_readAgent 1 = .ok (.iconst 0, 1) := by decide +kernel
theorem dX8_readAgent_2 : decode cX8_readAgent 2 = .ok (.bipush 11, 2) := by decide +kernel
theorem dX8_readAgent_4 : decode cX8_readAgent 4 = .ok (.invokevirtual 136, 3) := by decide +kernel
theorem dX8_readAgent_7 : decode cX8_readAgent 7 = .ok (.istore_n 1, 1) := by decide +kernel
theorem dX8_readAgent_8 : decode cX8_readAgent 8 = .ok (.iload_n 1, 1) := by decide +kernel
theorem dX8_readAgent_9 : decode cX8_readAgent 9 = .ok (.bipush (-9), 2) := by decide +kernel
theorem dX8_readAgent_11 : decode cX8_readAgent 11 = .ok (.if_icmp .ne 8, 3) := by decide +kernel
theorem dX8_readAgent_14 : decode cX8_readAgent 14 = .ok (.bipush (-9), 2) := by decide +kernel
theorem dX8_readAgent_16 : decode cX8_readAgent 16 = .ok (.goto 10, 3) := by decide +kernel
theorem dX8_readAgent_19 : decode cX8_readAgent 19 = .ok (.aload_n 0, 1) := by decide +kernel
theorem dX8_readAgent_20 : decode cX8_readAgent 20 = .ok (.iconst 0, 1) := by decide +kernel
theorem dX8_readAgent_21 : decode cX8_readAgent 21 = .ok (.bipush 11, 2) := by decide +kernel
theorem dX8_readAgent_23 : decode cX8_readAgent 23 = .ok (.invokevirtual 136, 3) := by decide +kernel
theorem dX8_readAgent_26 : decode cX8_readAgent 26 = .ok (.istore_n 2, 1) := by decide +kernel
theorem dX8_readAgent_27 : decode cX8_readAgent 27 = .ok (.iload_n 2, 1) := by decide +kernel
theorem dX8_readAgent_28 : decode cX8_readAgent 28 = .ok (.bipush (-9), 2) := by decide +kernel
theorem dX8_readAgent_30 : decode cX8_readAgent 30 = .ok (.if_icmp .ne 8, 3) := by decide +kernel
theorem dX8_readAgent_33 : decode cX8_readAgent 33 = .ok (.bipush (-9), 2) := by decide +kernel
theorem dX8_readAgent_35 : decode cX8_readAgent 35 = .ok (.goto 10, 3) := by decide +kernel
theorem dX8_readAgent_38 : decode cX8_readAgent 38 = .ok (.aload_n 0, 1) := by decide +kernel
theorem dX8_readAgent_39 : decode cX8_readAgent 39 = .ok (.iconst 0, 1) := by decide +kernel
theorem dX8_readAgent_40 : decode cX8_readAgent 40 = .ok (.bipush 22, 2) := by decide +kernel
theorem dX8_readAgent_42 : decode cX8_readAgent 42 = .ok (.invokevirtual 136, 3) := by decide +kernel
theorem dX8_readAgent_45 : decode cX8_readAgent 45 = .ok (.istore_n 3, 1) := by decide +kernel
theorem dX8_readAgent_46 : decode cX8_readAgent 46 = .ok (.iload_n 3, 1) := by decide +kernel
theorem dX8_readAgent_47 : decode cX8_readAgent 47 = .ok (.bipush (-9), 2) := by decide +kernel
theorem dX8_readAgent_49 : decode cX8_readAgent 49 = .ok (.if_icmp .ne 5, 3) := by decide +kernel
theorem dX8_readAgent_52 : decode cX8_readAgent 52 = .ok (.iconst 0, 1) := by decide +kernel
theorem dX8_readAgent_53 : decode cX8_readAgent 53 = .ok (.ireturn, 1) := by decide +kernel
theorem dX8_readAgent_54 : decode cX8_readAgent 54 = .ok (.aload_n 0, 1) := by decide +kernel
theorem dX8_readAgent_55 : decode cX8_readAgent 55 = .ok (.getfield 13, 3) := by decide +kernel
theorem dX8_readAgent_58 : decode cX8_readAgent 58 = .ok (.iconst 0, 1) := by decide +kernel
theorem dX8_readAgent_59 : decode cX8_readAgent 59 = .ok (.iaload, 1) := by decide +kernel
theorem dX8_readAgent_60 : decode cX8_readAgent 60 = .ok (.invokestatic 61, 3) := by decide +kernel
theorem dX8_readAgent_63 : decode cX8_readAgent 63 = .ok (.istore 4, 2) := by decide +kernel
theorem dX8_readAgent_65 : decode cX8_readAgent 65 = .ok (.aload_n 0, 1) := by decide +kernel
theorem dX8_readAgent_66 : decode cX8_readAgent 66 = .ok (.getfield 13, 3) := by decide +kernel
theorem dX8_readAgent_69 : decode cX8_readAgent 69 = .ok (.iload 4, 2) := by decide +kernel
theorem dX8_readAgent_71 : decode cX8_readAgent 71 = .ok (.iconst 0, 1) := by decide +kernel
theorem dX8_readAgent_72 : decode cX8_readAgent 72 = .ok (.iadd, 1) := by decide +kernel
theorem dX8_readAgent_73 : decode cX8_readAgent 73 = .ok (.iload_n 1, 1) := by decide +kernel
theorem dX8_readAgent_74 : decode cX8_readAgent 74 = .ok (.iastore, 1) := by decide +kernel
theorem dX8_readAgent_75 : decode cX8_readAgent 75 = .ok (.aload_n 0, 1) := by decide +kernel
theorem dX8_readAgent_76 : decode cX8_readAgent 76 = .ok (.getfield 13, 3) := by decide +kernel
theorem dX8_readAgent_79 : decode cX8_readAgent 79 = .ok (.iload 4, 2) := by decide +kernel
theorem dX8_readAgent_81 : decode cX8_readAgent 81 = .ok (.iconst 1, 1) := by decide +kernel
theorem dX8_readAgent_82 : decode cX8_readAgent 82 = .ok (.iadd, 1) := by decide +kernel
theorem dX8_readAgent_83 : decode cX8_readAgent 83 = .ok (.iload_n 2, 1) := by decide +kernel
theorem dX8_readAgent_84 : decode cX8_readAgent 84 = .ok (.iastore, 1) := by decide +kernel
theorem dX8_readAgent_85 : decode cX8_readAgent 85 = .ok (.aload_n 0, 1) := by decide +kernel
theorem dX8_readAgent_86 : decode cX8_readAgent 86 = .ok (.getfield 13, 3) := by decide +kernel
theorem dX8_readAgent_89 : decode cX8_readAgent 89 = .ok (.iload 4, 2) := by decide +kernel
theorem dX8_readAgent_91 : decode cX8_readAgent 91 = .ok (.iconst 2, 1) := by decide +kernel
theorem dX8_readAgent_92 : decode cX8_readAgent 92 = .ok (.iadd, 1) := by decide +kernel
theorem dX8_readAgent_93 : decode cX8_readAgent 93 = .ok (.iload_n 3, 1) := by decide +kernel
theorem dX8_readAgent_94 : decode cX8_readAgent 94 = .ok (.iastore, 1) := by decide +kernel
theorem dX8_readAgent_95 : decode cX8_readAgent 95 = .ok (.aload_n 0, 1) := by decide +kernel
theorem dX8_readAgent_96 : decode cX8_readAgent 96 = .ok (.getfield 13, 3) := by decide +kernel
theorem dX8_readAgent_99 : decode cX8_readAgent 99 = .ok (.iload 4, 2) := by decide +kernel
theorem dX8_readAgent_101 : decode cX8_readAgent 101 = .ok (.iconst 3, 1) := by decide +kernel
theorem dX8_readAgent_102 : decode cX8_readAgent 102 = .ok (.iadd, 1) := by decide +kernel
theorem dX8_readAgent_103 : decode cX8_readAgent 103 = .ok (.iconst 1, 1) := by decide +kernel
theorem dX8_readAgent_104 : decode cX8_readAgent 104 = .ok (.iastore, 1) := by decide +kernel
theorem dX8_readAgent_105 : decode cX8_readAgent 105 = .ok (.aload_n 0, 1) := by decide +kernel
theorem dX8_readAgent_106 : decode cX8_readAgent 106 = .ok (.getfield 13, 3) := by decide +kernel
theorem dX8_readAgent_109 : decode cX8_readAgent 109 = .ok (.iconst 0, 1) := by decide +kernel
theorem dX8_readAgent_110 : decode cX8_readAgent 110 = .ok (.dup2, 1) := by decide +kernel
theorem dX8_readAgent_111 : decode cX8_readAgent 111 = .ok (.iaload, 1) := by decide +kernel
theorem dX8_readAgent_112 : decode cX8_readAgent 112 = .ok (.iconst 1, 1) := by decide +kernel
theorem dX8_readAgent_113 : decode cX8_readAgent 113 = .ok (.iadd, 1) := by decide +kernel
theorem dX8_readAgent_114 : decode cX8_readAgent 114 = .ok (.iastore, 1) := by decide +kernel
theorem dX8_readAgent_115 : decode cX8_readAgent 115 = .ok (.iconst 1, 1) := by decide +kernel
theorem dX8_readAgent_116 : decode cX8_readAgent 116 = .ok (.ireturn, 1) := by decide +kernel
theorem dX8_readTask_0 : decode cX8_readTask 0 = .ok (.aload_n 0, 1) := by decide +kernel
theorem dX8_readTask_1 : decode cX8_readTask 1 = .ok (.iconst 0, 1) := by decide +kernel
theorem dX8_readTask_2 : decode cX8_readTask 2 = .ok (.bipush 11, 2) := by decide +kernel
theorem dX8_readTask_4 : decode cX8_readTask 4 = .ok (.invokevirtual 136, 3) := by decide +kernel
theorem dX8_readTask_7 : decode cX8_readTask 7 = .ok (.istore_n 1, 1) := by decide +kernel
theorem dX8_readTask_8 : decode cX8_readTask 8 = .ok (.iload_n 1, 1) := by decide +kernel
theorem dX8_readTask_9 : decode cX8_readTask 9 = .ok (.bipush (-9), 2) := by decide +kernel
theorem dX8_readTask_11 : decode cX8_readTask 11 = .ok (.if_icmp .ne 8, 3) := by decide +kernel
theorem dX8_readTask_14 : decode cX8_readTask 14 = .ok (.bipush (-9), 2) := by decide +kernel
theorem dX8_readTask_16 : decode cX8_readTask 16 = .ok (.goto 10, 3) := by decide +kernel
theorem dX8_readTask_19 : decode cX8_readTask 19 = .ok (.aload_n 0, 1) := by decide +kernel
theorem dX8_readTask_20 : decode cX8_readTask 20 = .ok (.iconst 0, 1) := by decide +kernel
theorem dX8_readTask_21 : decode cX8_readTask 21 = .ok (.bipush 11, 2) := by decide +kernel
theorem dX8_readTask_23 : decode cX8_readTask 23 = .ok (.invokevirtual 136, 3) := by decide +kernel
theorem dX8_readTask_26 : decode cX8_readTask 26 = .ok (.istore_n 2, 1) := by decide +kernel
theorem dX8_readTask_27 : decode cX8_readTask 27 = .ok (.iload_n 2, 1) := by decide +kernel
theorem dX8_readTask_28 : decode cX8_readTask 28 = .ok (.bipush (-9), 2) := by decide +kernel
theorem dX8_readTask_30 : decode cX8_readTask 30 = .ok (.if_icmp .ne 8, 3) := by decide +kernel
theorem dX8_readTask_33 : decode cX8_readTask 33 = .ok (.bipush (-9), 2) := by decide +kernel
theorem dX8_readTask_35 : decode cX8_readTask 35 = .ok (.goto 10, 3) := by decide +kernel
theorem dX8_readTask_38 : decode cX8_readTask 38 = .ok (.aload_n 0, 1) := by decide +kernel
theorem dX8_readTask_39 : decode cX8_readTask 39 = .ok (.iconst 1, 1) := by decide +kernel
theorem dX8_readTask_40 : decode cX8_readTask 40 = .ok (.bipush 9, 2) := by decide +kernel
theorem dX8_readTask_42 : decode cX8_readTask 42 = .ok (.invokevirtual 133, 3) := by decide +kernel
theorem dX8_readTask_45 : decode cX8_readTask 45 = .ok (.istore_n 3, 1) := by decide +kernel
theorem dX8_readTask_46 : decode cX8_readTask 46 = .ok (.iload_n 3, 1) := by decide +kernel
theorem dX8_readTask_47 : decode cX8_readTask 47 = .ok (.bipush (-9), 2) := by decide +kernel
theorem dX8_readTask_49 : decode cX8_readTask 49 = .ok (.if_icmp .ne 5, 3) := by decide +kernel
theorem dX8_readTask_52 : decode cX8_readTask 52 = .ok (.iconst 0, 1) := by decide +kernel
theorem dX8_readTask_53 : decode cX8_readTask 53 = .ok (.ireturn, 1) := by decide +kernel
theorem dX8_readTask_54 : decode cX8_readTask 54 = .ok (.aload_n 0, 1) := by decide +kernel
theorem dX8_readTask_55 : decode cX8_readTask 55 = .ok (.getfield 13, 3) := by decide +kernel
theorem dX8_readTask_58 : decode cX8_readTask 58 = .ok (.iconst 1, 1) := by decide +kernel
theorem dX8_readTask_59 : decode cX8_readTask 59 = .ok (.iaload, 1) := by decide +kernel
theorem dX8_readTask_60 : decode cX8_readTask 60 = .ok (.invokestatic 65, 3) := by decide +kernel
theorem dX8_readTask_63 : decode cX8_readTask 63 = .ok (.istore 4, 2) := by decide +kernel
theorem dX8_readTask_65 : decode cX8_readTask 65 = .ok (.aload_n 0, 1) := by decide +kernel
theorem dX8_readTask_66 : decode cX8_readTask 66 = .ok (.getfield 13, 3) := by decide +kernel
theorem dX8_readTask_69 : decode cX8_readTask 69 = .ok (.iload 4, 2) := by decide +kernel
theorem dX8_readTask_71 : decode cX8_readTask 71 = .ok (.iconst 0, 1) := by decide +kernel
theorem dX8_readTask_72 : decode cX8_readTask 72 = .ok (.iadd, 1) := by decide +kernel
theorem dX8_readTask_73 : decode cX8_readTask 73 = .ok (.iload_n 1, 1) := by decide +kernel
theorem dX8_readTask_74 : decode cX8_readTask 74 = .ok (.iastore, 1) := by decide +kernel
theorem dX8_readTask_75 : decode cX8_readTask 75 = .ok (.aload_n 0, 1) := by decide +kernel
theorem dX8_readTask_76 : decode cX8_readTask 76 = .ok (.getfield 13, 3) := by decide +kernel
theorem dX8_readTask_79 : decode cX8_readTask 79 = .ok (.iload 4, 2) := by decide +kernel
theorem dX8_readTask_81 : decode cX8_readTask 81 = .ok (.iconst 1, 1) := by decide +kernel
theorem dX8_readTask_82 : decode cX8_readTask 82 = .ok (.iadd, 1) := by decide +kernel
theorem dX8_readTask_83 : decode cX8_readTask 83 = .ok (.iload_n 2, 1) := by decide +kernel
theorem dX8_readTask_84 : decode cX8_readTask 84 = .ok (.iastore, 1) := by decide +kernel
theorem dX8_readTask_85 : decode cX8_readTask 85 = .ok (.aload_n 0, 1) := by decide +kernel
theorem dX8_readTask_86 : decode cX8_readTask 86 = .ok (.getfield 13, 3) := by decide +kernel
theorem dX8_readTask_89 : decode cX8_readTask 89 = .ok (.iload 4, 2) := by decide +kernel
theorem dX8_readTask_91 : decode cX8_readTask 91 = .ok (.iconst 2, 1) := by decide +kernel
theorem dX8_readTask_92 : decode cX8_readTask 92 = .ok (.iadd, 1) := by decide +kernel
theorem dX8_readTask_93 : decode cX8_readTask 93 = .ok (.iload_n 3, 1) := by decide +kernel
theorem dX8_readTask_94 : decode cX8_readTask 94 = .ok (.iastore, 1) := by decide +kernel
theorem dX8_readTask_95 : decode cX8_readTask 95 = .ok (.aload_n 0, 1) := by decide +kernel
theorem dX8_readTask_96 : decode cX8_readTask 96 = .ok (.getfield 13, 3) := by decide +kernel
theorem dX8_readTask_99 : decode cX8_readTask 99 = .ok (.iconst 1, 1) := by decide +kernel
theorem dX8_readTask_100 : decode cX8_readTask 100 = .ok (.dup2, 1) := by decide +kernel
theorem dX8_readTask_101 : decode cX8_readTask 101 = .ok (.iaload, 1) := by decide +kernel
theorem dX8_readTask_102 : decode cX8_readTask 102 = .ok (.iconst 1, 1) := by decide +kernel
theorem dX8_readTask_103 : decode cX8_readTask 103 = .ok (.iadd, 1) := by decide +kernel
theorem dX8_readTask_104 : decode cX8_readTask 104 = .ok (.iastore, 1) := by decide +kernel
theorem dX8_readTask_105 : decode cX8_readTask 105 = .ok (.iconst 1, 1) := by decide +kernel
theorem dX8_readTask_106 : decode cX8_readTask 106 = .ok (.ireturn, 1) := by decide +kernel
theorem dX8_readText_0 : decode cX8_readText 0 = .ok (.iconst 0, 1) := by decide +kernel
theorem dX8_readText_1 : decode cX8_readText 1 = .ok (.istore_n 1, 1) := by decide +kernel
theorem dX8_readText_2 : decode cX8_readText 2 = .ok (.iload_n 1, 1) := by decide +kernel
theorem dX8_readText_3 : decode cX8_readText 3 = .ok (.sipush 264, 3) := by decide +kernel
theorem dX8_readText_6 : decode cX8_readText 6 = .ok (.if_icmp .ge 16, 3) := by decide +kernel
theorem dX8_readText_9 : decode cX8_readText 9 = .ok (.aload_n 0, 1) := by decide +kernel
theorem dX8_readText_10 : decode cX8_readText 10 = .ok (.getfield 13, 3) := by decide +kernel
theorem dX8_readText_13 : decode cX8_readText 13 = .ok (.iload_n 1, 1) := by decide +kernel
theorem dX8_readText_14 : decode cX8_readText 14 = .ok (.iconst 0, 1) := by decide +kernel
theorem dX8_readText_15 : decode cX8_readText 15 = .ok (.iastore, 1) := by decide +kernel
theorem dX8_readText_16 : decode cX8_readText 16 = .ok (.iinc 1 1, 3) := by decide +kernel
theorem dX8_readText_19 : decode cX8_readText 19 = .ok (.goto (-17), 3) := by decide +kernel
theorem dX8_readText_22 : decode cX8_readText 22 = .ok (.aload_n 0, 1) := by decide +kernel
theorem dX8_readText_23 : decode cX8_readText 23 = .ok (.iconst 0, 1) := by decide +kernel
theorem dX8_readText_24 : decode cX8_readText 24 = .ok (.putfield 130, 3) := by decide +kernel
theorem dX8_readText_27 : decode cX8_readText 27 = .ok (.aload_n 0, 1) := by decide +kernel
theorem dX8_readText_28 : decode cX8_readText 28 = .ok (.getfield 123, 3) := by decide +kernel
theorem dX8_readText_31 : decode cX8_readText 31 = .ok (.ifCond .eq 14, 3) := by decide +kernel
theorem dX8_readText_34 : decode cX8_readText 34 = .ok (.aload_n 0, 1) := by decide +kernel
theorem dX8_readText_35 : decode cX8_readText 35 = .ok (.getfield 7, 3) := by decide +kernel
theorem dX8_readText_38 : decode cX8_readText 38 = .ok (.iconst 0, 1) := by decide +kernel
theorem dX8_readText_39 : decode cX8_readText 39 = .ok (.iaload, 1) := by decide +kernel
theorem dX8_readText_40 : decode cX8_readText 40 = .ok (.bipush 67, 2) := by decide +kernel
theorem dX8_readText_42 : decode cX8_readText 42 = .ok (.if_icmp .eq 5, 3) := by decide +kernel
theorem dX8_readText_45 : decode cX8_readText 45 = .ok (.iconst 0, 1) := by decide +kernel
theorem dX8_readText_46 : decode cX8_readText 46 = .ok (.ireturn, 1) := by decide +kernel
theorem dX8_readText_47 : decode cX8_readText 47 = .ok (.aload_n 0, 1) := by decide +kernel
theorem dX8_readText_48 : decode cX8_readText 48 = .ok (.iconst 1, 1) := by decide +kernel
theorem dX8_readText_49 : decode cX8_readText 49 = .ok (.putfield 130, 3) := by decide +kernel
theorem dX8_readText_52 : decode cX8_readText 52 = .ok (.aload_n 0, 1) := by decide +kernel
theorem dX8_readText_53 : decode cX8_readText 53 = .ok (.iconst 1, 1) := by decide +kernel
theorem dX8_readText_54 : decode cX8_readText 54 = .ok (.bipush 20, 2) := by decide +kernel
theorem dX8_readText_56 : decode cX8_readText 56 = .ok (.invokevirtual 136, 3) := by decide +kernel
theorem dX8_readText_59 : decode cX8_readText 59 = .ok (.istore_n 1, 1) := by decide +kernel
theorem dX8_readText_60 : decode cX8_readText 60 = .ok (.iload_n 1, 1) := by decide +kernel
theorem dX8_readText_61 : decode cX8_readText 61 = .ok (.bipush (-9), 2) := by decide +kernel
theorem dX8_readText_63 : decode cX8_readText 63 = .ok (.if_icmp .ne 8, 3) := by decide +kernel
theorem dX8_readText_66 : decode cX8_readText 66 = .ok (.aload_n 0, 1) := by decide +kernel
theorem dX8_readText_67 : decode cX8_readText 67 = .ok (.getfield 130, 3) := by decide +kernel
theorem dX8_readText_70 : decode cX8_readText 70 = .ok (.ireturn, 1) := by decide +kernel
theorem dX8_readText_71 : decode cX8_readText 71 = .ok (.aload_n 0, 1) := by decide +kernel
theorem dX8_readText_72 : decode cX8_readText 72 = .ok (.getfield 13, 3) := by decide +kernel
theorem dX8_readText_75 : decode cX8_readText 75 = .ok (.iconst 3, 1) := by decide +kernel
theorem dX8_readText_76 : decode cX8_readText 76 = .ok (.iload_n 1, 1) := by decide +kernel
theorem dX8_readText_77 : decode cX8_readText 77 = .ok (.iastore, 1) := by decide +kernel
theorem dX8_readText_78 : decode cX8_readText 78 = .ok (.aload_n 0, 1) := by decide +kernel
theorem dX8_readText_79 : decode cX8_readText 79 = .ok (.getfield 130, 3) := by decide +kernel
theorem dX8_readText_82 : decode cX8_readText 82 = .ok (.aload_n 0, 1) := by decide +kernel
theorem dX8_readText_83 : decode cX8_readText 83 = .ok (.getfield 123, 3) := by decide +kernel
theorem dX8_readText_86 : decode cX8_readText 86 = .ok (.if_icmp .ge 103, 3) := by decide +kernel
theorem dX8_readText_89 : decode cX8_readText 89 = .ok (.aload_n 0, 1) := by decide +kernel
theorem dX8_readText_90 : decode cX8_readText 90 = .ok (.getfield 7, 3) := by decide +kernel
theorem dX8_readText_93 : decode cX8_readText 93 = .ok (.aload_n 0, 1) := by decide +kernel
theorem dX8_readText_94 : decode cX8_readText 94 = .ok (.getfield 130, 3) := by decide +kernel
theorem dX8_readText_97 : decode cX8_readText 97 = .ok (.iaload, 1) := by decide +kernel
theorem dX8_readText_98 : decode cX8_readText 98 = .ok (.istore_n 2, 1) := by decide +kernel
theorem dX8_readText_99 : decode cX8_readText 99 = .ok (.iload_n 2, 1) := by decide +kernel
theorem dX8_readText_100 : decode cX8_readText 100 = .ok (.bipush 97, 2) := by decide +kernel
theorem dX8_readText_102 : decode cX8_readText 102 = .ok (.if_icmp .ne 14, 3) := by decide +kernel
theorem dX8_readText_105 : decode cX8_readText 105 = .ok (.aload_n 0, 1) := by decide +kernel
theorem dX8_readText_106 : decode cX8_readText 106 = .ok (.getfield 13, 3) := by decide +kernel
theorem dX8_readText_109 : decode cX8_readText 109 = .ok (.iconst 0, 1) := by decide +kernel
theorem dX8_readText_110 : decode cX8_readText 110 = .ok (.iaload, 1) := by decide +kernel
theorem dX8_readText_111 : decode cX8_readText 111 = .ok (.bipush 6, 2) := by decide +kernel
theorem dX8_readText_113 : decode cX8_readText 113 = .ok (.if_icmp .lt 20, 3) := by decide +kernel
theorem dX8_readText_116 : decode cX8_readText 116 = .ok (.iload_n 2, 1) := by decide +kernel
theorem dX8_readText_117 : decode cX8_readText 117 = .ok (.bipush 116, 2) := by decide +kernel
theorem dX8_readText_119 : decode cX8_readText 119 = .ok (.if_icmp .ne 18, 3) := by decide +kernel
theorem dX8_readText_122 : decode cX8_readText 122 = .ok (.aload_n 0, 1) := by decide +kernel
theorem dX8_readText_123 : decode cX8_readText 123 = .ok (.getfield 13, 3) := by decide +kernel
theorem dX8_readText_126 : decode cX8_readText 126 = .ok (.iconst 1, 1) := by decide +kernel
theorem dX8_readText_127 : decode cX8_readText 127 = .ok (.iaload, 1) := by decide +kernel
theorem dX8_readText_128 : decode cX8_readText 128 = .ok (.bipush 8, 2) := by decide +kernel
theorem dX8_readText_130 : decode cX8_readText 130 = .ok (.if_icmp .ge 7, 3) := by decide +kernel
theorem dX8_readText_133 : decode cX8_readText 133 = .ok (.iconst 1, 1) := by decide +kernel
theorem dX8_readText_134 : decode cX8_readText 134 = .ok (.goto 4, 3) := by decide +kernel
theorem dX8_readText_137 : decode cX8_readText 137 = .ok (.iconst 0, 1) := by decide +kernel
theorem dX8_readText_138 : decode cX8_readText 138 = .ok (.istore_n 3, 1) := by decide +kernel
theorem dX8_readText_139 : decode cX8_readText 139 = .ok (.iload_n 3, 1) := by decide +kernel
theorem dX8_readText_140 : decode cX8_readText 140 = .ok (.ifCond .ne 8, 3) := by decide +kernel
theorem dX8_readText_143 : decode cX8_readText 143 = .ok (.aload_n 0, 1) := by decide +kernel
theorem dX8_readText_144 : decode cX8_readText 144 = .ok (.getfield 130, 3) := by decide +kernel
theorem dX8_readText_147 : decode cX8_readText 147 = .ok (.ireturn, 1) := by decide +kernel
theorem dX8_readText_148 : decode cX8_readText 148 = .ok (.aload_n 0, 1) := by decide +kernel
theorem dX8_readText_149 : decode cX8_readText 149 = .ok (.dup, 1) := by decide +kernel
theorem dX8_readText_150 : decode cX8_readText 150 = .ok (.getfield 130, 3) := by decide +kernel
theorem dX8_readText_153 : decode cX8_readText 153 = .ok (.iconst 1, 1) := by decide +kernel
theorem dX8_readText_154 : decode cX8_readText 154 = .ok (.iadd, 1) := by decide +kernel
theorem dX8_readText_155 : decode cX8_readText 155 = .ok (.putfield 130, 3) := by decide +kernel
theorem dX8_readText_158 : decode cX8_readText 158 = .ok (.iload_n 2, 1) := by decide +kernel
theorem dX8_readText_159 : decode cX8_readText 159 = .ok (.bipush 97, 2) := by decide +kernel
theorem dX8_readText_161 : decode cX8_readText 161 = .ok (.if_icmp .ne 13, 3) := by decide +kernel
theorem dX8_readText_164 : decode cX8_readText 164 = .ok (.aload_n 0, 1) := by decide +kernel
theorem dX8_readText_165 : decode cX8_readText 165 = .ok (.invokevirtual 139, 3) := by decide +kernel
theorem dX8_readText_168 : decode cX8_readText 168 = .ok (.ifCond .ne 18, 3) := by decide +kernel
theorem dX8_readText_171 : decode cX8_readText 171 = .ok (.goto 10, 3) := by decide +kernel
theorem dX8_readText_174 : decode cX8_readText 174 = .ok (.aload_n 0, 1) := by decide +kernel
theorem dX8_readText_175 : decode cX8_readText 175 = .ok (.invokevirtual 143, 3) := by decide +kernel
theorem dX8_readText_178 : decode cX8_readText 178 = .ok (.ifCond .ne 8, 3) := by decide +kernel
theorem dX8_readText_181 : decode cX8_readText 181 = .ok (.aload_n 0, 1) := by decide +kernel
theorem dX8_readText_182 : decode cX8_readText 182 = .ok (.getfield 130, 3) := by decide +kernel
theorem dX8_readText_185 : decode cX8_readText 185 = .ok (.ireturn, 1) := by decide +kernel
theorem dX8_readText_186 : decode cX8_readText 186 = .ok (.goto (-108), 3) := by decide +kernel
theorem dX8_readText_189 : decode cX8_readText 189 = .ok (.bipush (-9), 2) := by decide +kernel
theorem dX8_readText_191 : decode cX8_readText 191 = .ok (.ireturn, 1) := by decide +kernel
theorem dX8_errorPosition_0 : decode cX8_errorPosition 0 = .ok (.aload_n 0, 1) := by decide +kernel
theorem dX8_errorPosition_1 : decode cX8_errorPosition 1 = .ok (.iconst 0, 1) := by decide +kernel
theorem dX8_errorPosition_2 : decode cX8_errorPosition 2 = .ok (.putfield 44, 3) := by decide +kernel
theorem dX8_errorPosition_5 : decode cX8_errorPosition 5 = .ok (.aload_n 0, 1) := by decide +kernel
theorem dX8_errorPosition_6 : decode cX8_errorPosition 6 = .ok (.invokevirtual 146, 3) := by decide +kernel
theorem dX8_errorPosition_9 : decode cX8_errorPosition 9 = .ok (.ireturn, 1) := by decide +kernel
theorem dX8_load_0 : decode cX8_load 0 = .ok (.aload_n 0, 1) := by decide +kernel
theorem dX8_load_1 : decode cX8_load 1 = .ok (.aload_n 0, 1) := by decide +kernel
theorem dX8_load_2 : decode cX8_load 2 = .ok (.invokevirtual 146, 3) := by decide +kernel
theorem dX8_load_5 : decode cX8_load 5 = .ok (.bipush (-9), 2) := by decide +kernel
theorem dX8_load_7 : decode cX8_load 7 = .ok (.if_icmp .ne 7, 3) := by decide +kernel
theorem dX8_load_10 : decode cX8_load 10 = .ok (.iconst 0, 1) := by decide +kernel
theorem dX8_load_11 : decode cX8_load 11 = .ok (.goto 4, 3) := by decide +kernel
theorem dX8_load_14 : decode cX8_load 14 = .ok (.iconst 1, 1) := by decide +kernel
theorem dX8_load_15 : decode cX8_load 15 = .ok (.invokevirtual 126, 3) := by decide +kernel
theorem dX8_load_18 : decode cX8_load 18 = .ok (.ifCond .eq 5, 3) := by decide +kernel
theorem dX8_load_21 : decode cX8_load 21 = .ok (.iconst 0, 1) := by decide +kernel
theorem dX8_load_22 : decode cX8_load 22 = .ok (.ireturn, 1) := by decide +kernel
theorem dX8_load_23 : decode cX8_load 23 = .ok (.aload_n 0, 1) := by decide +kernel
theorem dX8_load_24 : decode cX8_load 24 = .ok (.getfield 13, 3) := by decide +kernel
theorem dX8_load_27 : decode cX8_load 27 = .ok (.iconst 0, 1) := by decide +kernel
theorem dX8_load_28 : decode cX8_load 28 = .ok (.aload_n 0, 1) := by decide +kernel
theorem dX8_load_29 : decode cX8_load 29 = .ok (.getfield 16, 3) := by decide +kernel
theorem dX8_load_32 : decode cX8_load 32 = .ok (.iconst 0, 1) := by decide +kernel
theorem dX8_load_33 : decode cX8_load 33 = .ok (.sipush 264, 3) := by decide +kernel
theorem dX8_load_36 : decode cX8_load 36 = .ok (.invokestatic 53, 3) := by decide +kernel
theorem dX8_load_39 : decode cX8_load 39 = .ok (.aload_n 0, 1) := by decide +kernel
theorem dX8_load_40 : decode cX8_load 40 = .ok (.iconst 0, 1) := by decide +kernel
theorem dX8_load_41 : decode cX8_load 41 = .ok (.putfield 50, 3) := by decide +kernel
theorem dX8_load_44 : decode cX8_load 44 = .ok (.aload_n 0, 1) := by decide +kernel
theorem dX8_load_45 : decode cX8_load 45 = .ok (.getfield 31, 3) := by decide +kernel
theorem dX8_load_48 : decode cX8_load 48 = .ok (.iconst 0, 1) := by decide +kernel
theorem dX8_load_49 : decode cX8_load 49 = .ok (.iconst 0, 1) := by decide +kernel
theorem dX8_load_50 : decode cX8_load 50 = .ok (.bastore, 1) := by decide +kernel
theorem dX8_load_51 : decode cX8_load 51 = .ok (.aload_n 0, 1) := by decide +kernel
theorem dX8_load_52 : decode cX8_load 52 = .ok (.getfield 31, 3) := by decide +kernel
theorem dX8_load_55 : decode cX8_load 55 = .ok (.iconst 1, 1) := by decide +kernel
theorem dX8_load_56 : decode cX8_load 56 = .ok (.iconst 0, 1) := by decide +kernel
theorem dX8_load_57 : decode cX8_load 57 = .ok (.bastore, 1) := by decide +kernel
theorem dX8_load_58 : decode cX8_load 58 = .ok (.aload_n 0, 1) := by decide +kernel
theorem dX8_load_59 : decode cX8_load 59 = .ok (.getfield 16, 3) := by decide +kernel
theorem dX8_load_62 : decode cX8_load 62 = .ok (.iconst 0, 1) := by decide +kernel
theorem dX8_load_63 : decode cX8_load 63 = .ok (.iaload, 1) := by decide +kernel
theorem dX8_load_64 : decode cX8_load 64 = .ok (.ireturn, 1) := by decide +kernel
theorem dX8_about_0 : decode cX8_about 0 = .ok (.aload_n 0, 1) := by decide +kernel
theorem dX8_about_1 : decode cX8_about 1 = .ok (.iload_n 1, 1) := by decide +kernel
theorem dX8_about_2 : decode cX8_about 2 = .ok (.i2l, 1) := by decide +kernel
theorem dX8_about_3 : decode cX8_about 3 = .ok (.lconst 0, 1) := by decide +kernel
theorem dX8_about_4 : decode cX8_about 4 = .ok (.ldc2_w 150, 3) := by decide +kernel
theorem dX8_about_7 : decode cX8_about 7 = .ok (.invokestatic 57, 3) := by decide +kernel
theorem dX8_about_10 : decode cX8_about 10 = .ok (.ifCond .eq 7, 3) := by decide +kernel
theorem dX8_about_13 : decode cX8_about 13 = .ok (.iconst 0, 1) := by decide +kernel
theorem dX8_about_14 : decode cX8_about 14 = .ok (.goto 4, 3) := by decide +kernel
theorem dX8_about_17 : decode cX8_about 17 = .ok (.iconst 1, 1) := by decide +kernel
theorem dX8_about_18 : decode cX8_about 18 = .ok (.invokevirtual 126, 3) := by decide +kernel
theorem dX8_about_21 : decode cX8_about 21 = .ok (.ifCond .eq 5, 3) := by decide +kernel
theorem dX8_about_24 : decode cX8_about 24 = .ok (.iconst 0, 1) := by decide +kernel
theorem dX8_about_25 : decode cX8_about 25 = .ok (.ireturn, 1) := by decide +kernel
theorem dX8_about_26 : decode cX8_about 26 = .ok (.iload_n 1, 1) := by decide +kernel
theorem dX8_about_27 : decode cX8_about 27 = .ok (.tableswitch 98 4 7 #[29, 37, 46, 55], 29) := by decide +kernel
theorem dX8_about_56 : decode cX8_about 56 = .ok (.aload_n 0, 1) := by decide +kernel
theorem dX8_about_57 : decode cX8_about 57 = .ok (.getfield 16, 3) := by decide +kernel
theorem dX8_about_60 : decode cX8_about 60 = .ok (.invokestatic 152, 3) := by decide +kernel
theorem dX8_about_63 : decode cX8_about 63 = .ok (.ireturn, 1) := by decide +kernel
theorem dX8_about_64 : decode cX8_about 64 = .ok (.aload_n 0, 1) := by decide +kernel
theorem dX8_about_65 : decode cX8_about 65 = .ok (.getfield 16, 3) := by decide +kernel
theorem dX8_about_68 : decode cX8_about 68 = .ok (.iconst 4, 1) := by decide +kernel
theorem dX8_about_69 : decode cX8_about 69 = .ok (.invokestatic 156, 3) := by decide +kernel
theorem dX8_about_72 : decode cX8_about 72 = .ok (.ireturn, 1) := by decide +kernel
theorem dX8_about_73 : decode cX8_about 73 = .ok (.aload_n 0, 1) := by decide +kernel
theorem dX8_about_74 : decode cX8_about 74 = .ok (.getfield 16, 3) := by decide +kernel
theorem dX8_about_77 : decode cX8_about 77 = .ok (.iconst 5, 1) := by decide +kernel
theorem dX8_about_78 : decode cX8_about 78 = .ok (.invokestatic 156, 3) := by decide +kernel
theorem dX8_about_81 : decode cX8_about 81 = .ok (.ireturn, 1) := by decide +kernel
theorem dX8_about_82 : decode cX8_about 82 = .ok (.iconst 0, 1) := by decide +kernel
theorem dX8_about_83 : decode cX8_about 83 = .ok (.istore_n 2, 1) := by decide +kernel
theorem dX8_about_84 : decode cX8_about 84 = .ok (.iconst 0, 1) := by decide +kernel
theorem dX8_about_85 : decode cX8_about 85 = .ok (.istore_n 3, 1) := by decide +kernel
theorem dX8_about_86 : decode cX8_about 86 = .ok (.iload_n 3, 1) := by decide +kernel
theorem dX8_about_87 : decode cX8_about 87 = .ok (.aload_n 0, 1) := by decide +kernel
theorem dX8_about_88 : decode cX8_about 88 = .ok (.getfield 16, 3) := by decide +kernel
theorem dX8_about_91 : decode cX8_about 91 = .ok (.iconst 0, 1) := by decide +kernel
theorem dX8_about_92 : decode cX8_about 92 = .ok (.iaload, 1) := by decide +kernel
theorem dX8_about_93 : decode cX8_about 93 = .ok (.if_icmp .ge 30, 3) := by decide +kernel
theorem dX8_about_96 : decode cX8_about 96 = .ok (.iload_n 2, 1) := by decide +kernel
theorem dX8_about_97 : decode cX8_about 97 = .ok (.aload_n 0, 1) := by decide +kernel
theorem dX8_about_98 : decode cX8_about 98 = .ok (.getfield 16, 3) := by decide +kernel
theorem dX8_about_101 : decode cX8_about 101 = .ok (.iload_n 3, 1) := by decide +kernel
theorem dX8_about_102 : decode cX8_about 102 = .ok (.invokestatic 71, 3) := by decide +kernel
theorem dX8_about_105 : decode cX8_about 105 = .ok (.ifCond .eq 9, 3) := by decide +kernel
theorem dX8_about_108 : decode cX8_about 108 = .ok (.iconst 1, 1) := by decide +kernel
theorem dX8_about_109 : decode cX8_about 109 = .ok (.iload_n 3, 1) := by decide +kernel
theorem dX8_about_110 : decode cX8_about 110 = .ok (.ishl, 1) := by decide +kernel
theorem dX8_about_111 : decode cX8_about 111 = .ok (.goto 4, 3) := by decide +kernel
theorem dX8_about_114 : decode cX8_about 114 = .ok (.iconst 0, 1) := by decide +kernel
theorem dX8_about_115 : decode cX8_about 115 = .ok (.ior, 1) := by decide +kernel
theorem dX8_about_116 : decode cX8_about 116 = .ok (.istore_n 2, 1) := by decide +kernel
theorem dX8_about_117 : decode cX8_about 117 = .ok (.iinc 3 1, 3) := by decide +kernel
theorem dX8_about_120 : decode cX8_about 120 = .ok (.goto (-34), 3) := by decide +kernel
theorem dX8_about_123 : decode cX8_about 123 = .ok (.iload_n 2, 1) := by decide +kernel
theorem dX8_about_124 : decode cX8_about 124 = .ok (.ireturn, 1) := by decide +kernel
theorem dX8_about_125 : decode cX8_about 125 = .ok (.aload_n 0, 1) := by decide +kernel
theorem dX8_about_126 : decode cX8_about 126 = .ok (.getfield 16, 3) := by decide +kernel
theorem dX8_about_129 : decode cX8_about 129 = .ok (.iload_n 1, 1) := by decide +kernel
theorem dX8_about_130 : decode cX8_about 130 = .ok (.iaload, 1) := by decide +kernel
theorem dX8_about_131 : decode cX8_about 131 = .ok (.ireturn, 1) := by decide +kernel
theorem dX8_agent_0 : decode cX8_agent 0 = .ok (.aload_n 0, 1) := by decide +kernel
theorem dX8_agent_1 : decode cX8_agent 1 = .ok (.aload_n 0, 1) := by decide +kernel
theorem dX8_agent_2 : decode cX8_agent 2 = .ok (.iload_n 1, 1) := by decide +kernel
theorem dX8_agent_3 : decode cX8_agent 3 = .ok (.invokevirtual 159, 3) := by decide +kernel
theorem dX8_agent_6 : decode cX8_agent 6 = .ok (.ifCond .ne 7, 3) := by decide +kernel
theorem dX8_agent_9 : decode cX8_agent 9 = .ok (.iconst 1, 1) := by decide +kernel
theorem dX8_agent_10 : decode cX8_agent 10 = .ok (.goto 20, 3) := by decide +kernel
theorem dX8_agent_13 : decode cX8_agent 13 = .ok (.iload_n 2, 1) := by decide +kernel
theorem dX8_agent_14 : decode cX8_agent 14 = .ok (.i2l, 1) := by decide +kernel
theorem dX8_agent_15 : decode cX8_agent 15 = .ok (.lconst 0, 1) := by decide +kernel
theorem dX8_agent_16 : decode cX8_agent 16 = .ok (.ldc2_w 150, 3) := by decide +kernel
theorem dX8_agent_19 : decode cX8_agent 19 = .ok (.invokestatic 57, 3) := by decide +kernel
theorem dX8_agent_22 : decode cX8_agent 22 = .ok (.ifCond .ne 7, 3) := by decide +kernel
theorem dX8_agent_25 : decode cX8_agent 25 = .ok (.iconst 2, 1) := by decide +kernel
theorem dX8_agent_26 : decode cX8_agent 26 = .ok (.goto 4, 3) := by decide +kernel
theorem dX8_agent_29 : decode cX8_agent 29 = .ok (.iconst 0, 1) := by decide +kernel
theorem dX8_agent_30 : decode cX8_agent 30 = .ok (.invokevirtual 126, 3) := by decide +kernel
theorem dX8_agent_33 : decode cX8_agent 33 = .ok (.ifCond .eq 5, 3) := by decide +kernel
theorem dX8_agent_36 : decode cX8_agent 36 = .ok (.iconst 0, 1) := by decide +kernel
theorem dX8_agent_37 : decode cX8_agent 37 = .ok (.ireturn, 1) := by decide +kernel
theorem dX8_agent_38 : decode cX8_agent 38 = .ok (.iload_n 1, 1) := by decide +kernel
theorem dX8_agent_39 : decode cX8_agent 39 = .ok (.invokestatic 61, 3) := by decide +kernel
theorem dX8_agent_42 : decode cX8_agent 42 = .ok (.istore_n 3, 1) := by decide +kernel
theorem dX8_agent_43 : decode cX8_agent 43 = .ok (.iload_n 2, 1) := by decide +kernel
theorem dX8_agent_44 : decode cX8_agent 44 = .ok (.tableswitch 111 4 7 #[32, 41, 50, 59], 32) := by decide +kernel
theorem dX8_agent_76 : decode cX8_agent 76 = .ok (.aload_n 0, 1) := by decide +kernel
theorem dX8_agent_77 : decode cX8_agent 77 = .ok (.getfield 16, 3) := by decide +kernel
theorem dX8_agent_80 : decode cX8_agent 80 = .ok (.iload_n 1, 1) := by decide +kernel
theorem dX8_agent_81 : decode cX8_agent 81 = .ok (.invokestatic 103, 3) := by decide +kernel
theorem dX8_agent_84 : decode cX8_agent 84 = .ok (.ireturn, 1) := by decide +kernel
theorem dX8_agent_85 : decode cX8_agent 85 = .ok (.aload_n 0, 1) := by decide +kernel
theorem dX8_agent_86 : decode cX8_agent 86 = .ok (.getfield 16, 3) := by decide +kernel
theorem dX8_agent_89 : decode cX8_agent 89 = .ok (.iload_n 3, 1) := by decide +kernel
theorem dX8_agent_90 : decode cX8_agent 90 = .ok (.iconst 4, 1) := by decide +kernel
theorem dX8_agent_91 : decode cX8_agent 91 = .ok (.iadd, 1) := by decide +kernel
theorem dX8_agent_92 : decode cX8_agent 92 = .ok (.iaload, 1) := by decide +kernel
theorem dX8_agent_93 : decode cX8_agent 93 = .ok (.ireturn, 1) := by decide +kernel
theorem dX8_agent_94 : decode cX8_agent 94 = .ok (.aload_n 0, 1) := by decide +kernel
theorem dX8_agent_95 : decode cX8_agent 95 = .ok (.getfield 16, 3) := by decide +kernel
theorem dX8_agent_98 : decode cX8_agent 98 = .ok (.iload_n 3, 1) := by decide +kernel
theorem dX8_agent_99 : decode cX8_agent 99 = .ok (.iconst 5, 1) := by decide +kernel
theorem dX8_agent_100 : decode cX8_agent 100 = .ok (.iadd, 1) := by decide +kernel
theorem dX8_agent_101 : decode cX8_agent 101 = .ok (.iaload, 1) := by decide +kernel
theorem dX8_agent_102 : decode cX8_agent 102 = .ok (.ireturn, 1) := by decide +kernel
theorem dX8_agent_103 : decode cX8_agent 103 = .ok (.iconst 0, 1) := by decide +kernel
theorem dX8_agent_104 : decode cX8_agent 104 = .ok (.istore 4, 2) := by decide +kernel
theorem dX8_agent_106 : decode cX8_agent 106 = .ok (.iconst 0, 1) := by decide +kernel
theorem dX8_agent_107 : decode cX8_agent 107 = .ok (.istore 5, 2) := by decide +kernel
theorem dX8_agent_109 : decode cX8_agent 109 = .ok (.iload 5, 2) := by decide +kernel
theorem dX8_agent_111 : decode cX8_agent 111 = .ok (.aload_n 0, 1) := by decide +kernel
theorem dX8_agent_112 : decode cX8_agent 112 = .ok (.getfield 16, 3) := by decide +kernel
theorem dX8_agent_115 : decode cX8_agent 115 = .ok (.iconst 0, 1) := by decide +kernel
theorem dX8_agent_116 : decode cX8_agent 116 = .ok (.iaload, 1) := by decide +kernel
theorem dX8_agent_117 : decode cX8_agent 117 = .ok (.if_icmp .ge 35, 3) := by decide +kernel
theorem dX8_agent_120 : decode cX8_agent 120 = .ok (.iload 4, 2) := by decide +kernel
theorem dX8_agent_122 : decode cX8_agent 122 = .ok (.aload_n 0, 1) := by decide +kernel
theorem dX8_agent_123 : decode cX8_agent 123 = .ok (.getfield 16, 3) := by decide +kernel
theorem dX8_agent_126 : decode cX8_agent 126 = .ok (.iload_n 1, 1) := by decide +kernel
theorem dX8_agent_127 : decode cX8_agent 127 = .ok (.iload 5, 2) := by decide +kernel
theorem dX8_agent_129 : decode cX8_agent 129 = .ok (.invokestatic 90, 3) := by decide +kernel
theorem dX8_agent_132 : decode cX8_agent 132 = .ok (.ifCond .eq 10, 3) := by decide +kernel
theorem dX8_agent_135 : decode cX8_agent 135 = .ok (.iconst 1, 1) := by decide +kernel
theorem dX8_agent_136 : decode cX8_agent 136 = .ok (.iload 5, 2) := by decide +kernel
theorem dX8_agent_138 : decode cX8_agent 138 = .ok (.ishl, 1) := by decide +kernel
theorem dX8_agent_139 : decode cX8_agent 139 = .ok (.goto 4, 3) := by decide +kernel
theorem dX8_agent_142 : decode cX8_agent 142 = .ok (.iconst 0, 1) := by decide +kernel
theorem dX8_agent_143 : decode cX8_agent 143 = .ok (.ior, 1) := by decide +kernel
theorem dX8_agent_144 : decode cX8_agent 144 = .ok (.istore 4, 2) := by decide +kernel
theorem dX8_agent_146 : decode cX8_agent 146 = .ok (.iinc 5 1, 3) := by decide +kernel
theorem dX8_agent_149 : decode cX8_agent 149 = .ok (.goto (-40), 3) := by decide +kernel
theorem dX8_agent_152 : decode cX8_agent 152 = .ok (.iload 4, 2) := by decide +kernel
theorem dX8_agent_154 : decode cX8_agent 154 = .ok (.ireturn, 1) := by decide +kernel
theorem dX8_agent_155 : decode cX8_agent 155 = .ok (.aload_n 0, 1) := by decide +kernel
theorem dX8_agent_156 : decode cX8_agent 156 = .ok (.getfield 16, 3) := by decide +kernel
theorem dX8_agent_159 : decode cX8_agent 159 = .ok (.iload_n 3, 1) := by decide +kernel
theorem dX8_agent_160 : decode cX8_agent 160 = .ok (.iload_n 2, 1) := by decide +kernel
theorem dX8_agent_161 : decode cX8_agent 161 = .ok (.iadd, 1) := by decide +kernel
theorem dX8_agent_162 : decode cX8_agent 162 = .ok (.iaload, 1) := by decide +kernel
theorem dX8_agent_163 : decode cX8_agent 163 = .ok (.ireturn, 1) := by decide +kernel
theorem dX8_claimers_0 : decode cX8_claimers 0 = .ok (.iconst 0, 1) := by decide +kernel
theorem dX8_claimers_1 : decode cX8_claimers 1 = .ok (.istore_n 2, 1) := by decide +kernel
theorem dX8_claimers_2 : decode cX8_claimers 2 = .ok (.iconst 0, 1) := by decide +kernel
theorem dX8_claimers_3 : decode cX8_claimers 3 = .ok (.istore_n 3, 1) := by decide +kernel
theorem dX8_claimers_4 : decode cX8_claimers 4 = .ok (.iload_n 3, 1) := by decide +kernel
theorem dX8_claimers_5 : decode cX8_claimers 5 = .ok (.aload_n 0, 1) := by decide +kernel
theorem dX8_claimers_6 : decode cX8_claimers 6 = .ok (.iconst 0, 1) := by decide +kernel
theorem dX8_claimers_7 : decode cX8_claimers 7 = .ok (.iaload, 1) := by decide +kernel
theorem dX8_claimers_8 : decode cX8_claimers 8 = .ok (.if_icmp .ge 36, 3) := by decide +kernel
theorem dX8_claimers_11 : decode cX8_claimers 11 = .ok (.iload_n 2, 1) := by decide +kernel
theorem dX8_claimers_12 : decode cX8_claimers 12 = .ok (.aload_n 0, 1) := by decide +kernel
theorem dX8_claimers_13 : decode cX8_claimers 13 = .ok (.iload_n 3, 1) := by decide +kernel
theorem dX8_claimers_14 : decode cX8_claimers 14 = .ok (.invokestatic 71, 3) := by decide +kernel
theorem dX8_claimers_17 : decode cX8_claimers 17 = .ok (.ifCond .eq 18, 3) := by decide +kernel
theorem dX8_claimers_20 : decode cX8_claimers 20 = .ok (.aload_n 0, 1) := by decide +kernel
theorem dX8_claimers_21 : decode cX8_claimers 21 = .ok (.iload_n 3, 1) := by decide +kernel
theorem dX8_claimers_22 : decode cX8_claimers 22 = .ok (.iload_n 1, 1) := by decide +kernel
theorem dX8_claimers_23 : decode cX8_claimers 23 = .ok (.invokestatic 87, 3) := by decide +kernel
theorem dX8_claimers_26 : decode cX8_claimers 26 = .ok (.ifCond .eq 9, 3) := by decide +kernel
theorem dX8_claimers_29 : decode cX8_claimers 29 = .ok (.iconst 1, 1) := by decide +kernel
theorem dX8_claimers_30 : decode cX8_claimers 30 = .ok (.iload_n 3, 1) := by decide +kernel
theorem dX8_claimers_31 : decode cX8_claimers 31 = .ok (.ishl, 1) := by decide +kernel
theorem dX8_claimers_32 : decode cX8_claimers 32 = .ok (.goto 4, 3) := by decide +kernel
theorem dX8_claimers_35 : decode cX8_claimers 35 = .ok (.iconst 0, 1) := by decide +kernel
theorem dX8_claimers_36 : decode cX8_claimers 36 = .ok (.ior, 1) := by decide +kernel
theorem dX8_claimers_37 : decode cX8_claimers 37 = .ok (.istore_n 2, 1) := by decide +kernel
theorem dX8_claimers_38 : decode cX8_claimers 38 = .ok (.iinc 3 1, 3) := by decide +kernel
theorem dX8_claimers_41 : decode cX8_claimers 41 = .ok (.goto (-37), 3) := by decide +kernel
theorem dX8_claimers_44 : decode cX8_claimers 44 = .ok (.iload_n 2, 1) := by decide +kernel
theorem dX8_claimers_45 : decode cX8_claimers 45 = .ok (.ireturn, 1) := by decide +kernel
theorem dX8_task_0 : decode cX8_task 0 = .ok (.aload_n 0, 1) := by decide +kernel
theorem dX8_task_1 : decode cX8_task 1 = .ok (.aload_n 0, 1) := by decide +kernel
theorem dX8_task_2 : decode cX8_task 2 = .ok (.iload_n 1, 1) := by decide +kernel
theorem dX8_task_3 : decode cX8_task 3 = .ok (.invokevirtual 162, 3) := by decide +kernel
theorem dX8_task_6 : decode cX8_task 6 = .ok (.ifCond .ne 7, 3) := by decide +kernel
theorem dX8_task_9 : decode cX8_task 9 = .ok (.iconst 1, 1) := by decide +kernel
theorem dX8_task_10 : decode cX8_task 10 = .ok (.goto 20, 3) := by decide +kernel
theorem dX8_task_13 : decode cX8_task 13 = .ok (.iload_n 2, 1) := by decide +kernel
theorem dX8_task_14 : decode cX8_task 14 = .ok (.i2l, 1) := by decide +kernel
theorem dX8_task_15 : decode cX8_task 15 = .ok (.lconst 0, 1) := by decide +kernel
theorem dX8_task_16 : decode cX8_task 16 = .ok (.ldc2_w 165, 3) := by decide +kernel
theorem dX8_task_19 : decode cX8_task 19 = .ok (.invokestatic 57, 3) := by decide +kernel
theorem dX8_task_22 : decode cX8_task 22 = .ok (.ifCond .ne 7, 3) := by decide +kernel
theorem dX8_task_25 : decode cX8_task 25 = .ok (.iconst 2, 1) := by decide +kernel
theorem dX8_task_26 : decode cX8_task 26 = .ok (.goto 4, 3) := by decide +kernel
theorem dX8_task_29 : decode cX8_task 29 = .ok (.iconst 0, 1) := by decide +kernel
theorem dX8_task_30 : decode cX8_task 30 = .ok (.invokevirtual 126, 3) := by decide +kernel
theorem dX8_task_33 : decode cX8_task 33 = .ok (.ifCond .eq 5, 3) := by decide +kernel
theorem dX8_task_36 : decode cX8_task 36 = .ok (.iconst 0, 1) := by decide +kernel
theorem dX8_task_37 : decode cX8_task 37 = .ok (.ireturn, 1) := by decide +kernel
theorem dX8_task_38 : decode cX8_task 38 = .ok (.iload_n 2, 1) := by decide +kernel
theorem dX8_task_39 : decode cX8_task 39 = .ok (.tableswitch 103 4 6 #[25, 42, 94], 25) := by decide +kernel
theorem dX8_task_64 : decode cX8_task 64 = .ok (.aload_n 0, 1) := by decide +kernel
theorem dX8_task_65 : decode cX8_task 65 = .ok (.getfield 16, 3) := by decide +kernel
theorem dX8_task_68 : decode cX8_task 68 = .ok (.iload_n 1, 1) := by decide +kernel
theorem dX8_task_69 : decode cX8_task 69 = .ok (.invokestatic 107, 3) := by decide +kernel
theorem dX8_task_72 : decode cX8_task 72 = .ok (.ifCond .eq 7, 3) := by decide +kernel
theorem dX8_task_75 : decode cX8_task 75 = .ok (.iconst 1, 1) := by decide +kernel
theorem dX8_task_76 : decode cX8_task 76 = .ok (.goto 4, 3) := by decide +kernel
theorem dX8_task_79 : decode cX8_task 79 = .ok (.iconst 0, 1) := by decide +kernel
theorem dX8_task_80 : decode cX8_task 80 = .ok (.ireturn, 1) := by decide +kernel
theorem dX8_task_81 : decode cX8_task 81 = .ok (.iconst 0, 1) := by decide +kernel
theorem dX8_task_82 : decode cX8_task 82 = .ok (.istore_n 3, 1) := by decide +kernel
theorem dX8_task_83 : decode cX8_task 83 = .ok (.iconst 0, 1) := by decide +kernel
theorem dX8_task_84 : decode cX8_task 84 = .ok (.istore 4, 2) := by decide +kernel
theorem dX8_task_86 : decode cX8_task 86 = .ok (.iload 4, 2) := by decide +kernel
theorem dX8_task_88 : decode cX8_task 88 = .ok (.aload_n 0, 1) := by decide +kernel
theorem dX8_task_89 : decode cX8_task 89 = .ok (.getfield 16, 3) := by decide +kernel
theorem dX8_task_92 : decode cX8_task 92 = .ok (.iconst 0, 1) := by decide +kernel
theorem dX8_task_93 : decode cX8_task 93 = .ok (.iaload, 1) := by decide +kernel
theorem dX8_task_94 : decode cX8_task 94 = .ok (.if_icmp .ge 37, 3) := by decide +kernel
theorem dX8_task_97 : decode cX8_task 97 = .ok (.iload_n 3, 1) := by decide +kernel
theorem dX8_task_98 : decode cX8_task 98 = .ok (.aload_n 0, 1) := by decide +kernel
theorem dX8_task_99 : decode cX8_task 99 = .ok (.getfield 16, 3) := by decide +kernel
theorem dX8_task_102 : decode cX8_task 102 = .ok (.iload 4, 2) := by decide +kernel
theorem dX8_task_104 : decode cX8_task 104 = .ok (.iload_n 1, 1) := by decide +kernel
theorem dX8_task_105 : decode cX8_task 105 = .ok (.invokestatic 83, 3) := by decide +kernel
theorem dX8_task_108 : decode cX8_task 108 = .ok (.iconst 0, 1) := by decide +kernel
theorem dX8_task_109 : decode cX8_task 109 = .ok (.iadd, 1) := by decide +kernel
theorem dX8_task_110 : decode cX8_task 110 = .ok (.iaload, 1) := by decide +kernel
theorem dX8_task_111 : decode cX8_task 111 = .ok (.iconst 2, 1) := by decide +kernel
theorem dX8_task_112 : decode cX8_task 112 = .ok (.if_icmp .ne 10, 3) := by decide +kernel
theorem dX8_task_115 : decode cX8_task 115 = .ok (.iconst 1, 1) := by decide +kernel
theorem dX8_task_116 : decode cX8_task 116 = .ok (.iload 4, 2) := by decide +kernel
theorem dX8_task_118 : decode cX8_task 118 = .ok (.ishl, 1) := by decide +kernel
theorem dX8_task_119 : decode cX8_task 119 = .ok (.goto 4, 3) := by decide +kernel
theorem dX8_task_122 : decode cX8_task 122 = .ok (.iconst 0, 1) := by decide +kernel
theorem dX8_task_123 : decode cX8_task 123 = .ok (.ior, 1) := by decide +kernel
theorem dX8_task_124 : decode cX8_task 124 = .ok (.istore_n 3, 1) := by decide +kernel
theorem dX8_task_125 : decode cX8_task 125 = .ok (.iinc 4 1, 3) := by decide +kernel
theorem dX8_task_128 : decode cX8_task 128 = .ok (.goto (-42), 3) := by decide +kernel
theorem dX8_task_131 : decode cX8_task 131 = .ok (.iload_n 3, 1) := by decide +kernel
theorem dX8_task_132 : decode cX8_task 132 = .ok (.ireturn, 1) := by decide +kernel
theorem dX8_task_133 : decode cX8_task 133 = .ok (.aload_n 0, 1) := by decide +kernel
theorem dX8_task_134 : decode cX8_task 134 = .ok (.getfield 16, 3) := by decide +kernel
theorem dX8_task_137 : decode cX8_task 137 = .ok (.iload_n 1, 1) := by decide +kernel
theorem dX8_task_138 : decode cX8_task 138 = .ok (.invokestatic 167, 3) := by decide +kernel
theorem dX8_task_141 : decode cX8_task 141 = .ok (.ireturn, 1) := by decide +kernel
theorem dX8_task_142 : decode cX8_task 142 = .ok (.aload_n 0, 1) := by decide +kernel
theorem dX8_task_143 : decode cX8_task 143 = .ok (.getfield 16, 3) := by decide +kernel
theorem dX8_task_146 : decode cX8_task 146 = .ok (.iload_n 1, 1) := by decide +kernel
theorem dX8_task_147 : decode cX8_task 147 = .ok (.invokestatic 65, 3) := by decide +kernel
theorem dX8_task_150 : decode cX8_task 150 = .ok (.iload_n 2, 1) := by decide +kernel
theorem dX8_task_151 : decode cX8_task 151 = .ok (.iadd, 1) := by decide +kernel
theorem dX8_task_152 : decode cX8_task 152 = .ok (.iaload, 1) := by decide +kernel
theorem dX8_task_153 : decode cX8_task 153 = .ok (.ireturn, 1) := by decide +kernel
theorem dX8_note__0 : decode cX8_note_ 0 = .ok (.aload_n 0, 1) := by decide +kernel
theorem dX8_note__1 : decode cX8_note_ 1 = .ok (.aload_n 0, 1) := by decide +kernel
theorem dX8_note__2 : decode cX8_note_ 2 = .ok (.iload_n 1, 1) := by decide +kernel
theorem dX8_note__3 : decode cX8_note_ 3 = .ok (.invokevirtual 159, 3) := by decide +kernel
theorem dX8_note__6 : decode cX8_note_ 6 = .ok (.ifCond .eq 11, 3) := by decide +kernel
theorem dX8_note__9 : decode cX8_note_ 9 = .ok (.aload_n 0, 1) := by decide +kernel
theorem dX8_note__10 : decode cX8_note_ 10 = .ok (.iload_n 2, 1) := by decide +kernel
theorem dX8_note__11 : decode cX8_note_ 11 = .ok (.invokevirtual 162, 3) := by decide +kernel
theorem dX8_note__14 : decode cX8_note_ 14 = .ok (.ifCond .ne 7, 3) := by decide +kernel
theorem dX8_note__17 : decode cX8_note_ 17 = .ok (.iconst 1, 1) := by decide +kernel
theorem dX8_note__18 : decode cX8_note_ 18 = .ok (.goto 20, 3) := by decide +kernel
theorem dX8_note__21 : decode cX8_note_ 21 = .ok (.iload_n 3, 1) := by decide +kernel
theorem dX8_note__22 : decode cX8_note_ 22 = .ok (.i2l, 1) := by decide +kernel
theorem dX8_note__23 : decode cX8_note_ 23 = .ok (.lconst 0, 1) := by decide +kernel
theorem dX8_note__24 : decode cX8_note_ 24 = .ok (.ldc2_w 170, 3) := by decide +kernel
theorem dX8_note__27 : decode cX8_note_ 27 = .ok (.invokestatic 57, 3) := by decide +kernel
theorem dX8_note__30 : decode cX8_note_ 30 = .ok (.ifCond .ne 7, 3) := by decide +kernel
theorem dX8_note__33 : decode cX8_note_ 33 = .ok (.iconst 2, 1) := by decide +kernel
theorem dX8_note__34 : decode cX8_note_ 34 = .ok (.goto 4, 3) := by decide +kernel
theorem dX8_note__37 : decode cX8_note_ 37 = .ok (.iconst 0, 1) := by decide +kernel
theorem dX8_note__38 : decode cX8_note_ 38 = .ok (.invokevirtual 126, 3) := by decide +kernel
theorem dX8_note__41 : decode cX8_note_ 41 = .ok (.ifCond .eq 5, 3) := by decide +kernel
theorem dX8_note__44 : decode cX8_note_ 44 = .ok (.iconst 0, 1) := by decide +kernel
theorem dX8_note__45 : decode cX8_note_ 45 = .ok (.ireturn, 1) := by decide +kernel
theorem dX8_note__46 : decode cX8_note_ 46 = .ok (.iload_n 1, 1) := by decide +kernel
theorem dX8_note__47 : decode cX8_note_ 47 = .ok (.iload_n 2, 1) := by decide +kernel
theorem dX8_note__48 : decode cX8_note_ 48 = .ok (.invokestatic 83, 3) := by decide +kernel
theorem dX8_note__51 : decode cX8_note_ 51 = .ok (.istore 4, 2) := by decide +kernel
theorem dX8_note__53 : decode cX8_note_ 53 = .ok (.iload_n 3, 1) := by decide +kernel
theorem dX8_note__54 : decode cX8_note_ 54 = .ok (.ifCond .eq 16, 3) := by decide +kernel
theorem dX8_note__57 : decode cX8_note_ 57 = .ok (.aload_n 0, 1) := by decide +kernel
theorem dX8_note__58 : decode cX8_note_ 58 = .ok (.getfield 16, 3) := by decide +kernel
theorem dX8_note__61 : decode cX8_note_ 61 = .ok (.iload 4, 2) := by decide +kernel
theorem dX8_note__63 : decode cX8_note_ 63 = .ok (.iconst 0, 1) := by decide +kernel
theorem dX8_note__64 : decode cX8_note_ 64 = .ok (.iadd, 1) := by decide +kernel
theorem dX8_note__65 : decode cX8_note_ 65 = .ok (.iaload, 1) := by decide +kernel
theorem dX8_note__66 : decode cX8_note_ 66 = .ok (.iconst 1, 1) := by decide +kernel
theorem dX8_note__67 : decode cX8_note_ 67 = .ok (.if_icmp .ne 15, 3) := by decide +kernel
theorem dX8_note__70 : decode cX8_note_ 70 = .ok (.aload_n 0, 1) := by decide +kernel
theorem dX8_note__71 : decode cX8_note_ 71 = .ok (.getfield 16, 3) := by decide +kernel
theorem dX8_note__74 : decode cX8_note_ 74 = .ok (.iload 4, 2) := by decide +kernel
theorem dX8_note__76 : decode cX8_note_ 76 = .ok (.iload_n 3, 1) := by decide +kernel
theorem dX8_note__77 : decode cX8_note_ 77 = .ok (.iadd, 1) := by decide +kernel
theorem dX8_note__78 : decode cX8_note_ 78 = .ok (.iaload, 1) := by decide +kernel
theorem dX8_note__79 : decode cX8_note_ 79 = .ok (.goto 5, 3) := by decide +kernel
theorem dX8_note__82 : decode cX8_note_ 82 = .ok (.bipush (-9), 2) := by decide +kernel
theorem dX8_note__84 : decode cX8_note_ 84 = .ok (.ireturn, 1) := by decide +kernel
theorem dX8_step_0 : decode cX8_step 0 = .ok (.aload_n 0, 1) := by decide +kernel
theorem dX8_step_1 : decode cX8_step 1 = .ok (.iload_n 1, 1) := by decide +kernel
theorem dX8_step_2 : decode cX8_step 2 = .ok (.i2l, 1) := by decide +kernel
theorem dX8_step_3 : decode cX8_step 3 = .ok (.lconst 1, 1) := by decide +kernel
theorem dX8_step_4 : decode cX8_step 4 = .ok (.ldc2_w 172, 3) := by decide +kernel
theorem dX8_step_7 : decode cX8_step 7 = .ok (.invokestatic 57, 3) := by decide +kernel
theorem dX8_step_10 : decode cX8_step 10 = .ok (.ifCond .eq 7, 3) := by decide +kernel
theorem dX8_step_13 : decode cX8_step 13 = .ok (.iconst 0, 1) := by decide +kernel
theorem dX8_step_14 : decode cX8_step 14 = .ok (.goto 4, 3) := by decide +kernel
theorem dX8_step_17 : decode cX8_step 17 = .ok (.iconst 1, 1) := by decide +kernel
theorem dX8_step_18 : decode cX8_step 18 = .ok (.invokevirtual 126, 3) := by decide +kernel
theorem dX8_step_21 : decode cX8_step 21 = .ok (.ifCond .eq 5, 3) := by decide +kernel
theorem dX8_step_24 : decode cX8_step 24 = .ok (.iconst 0, 1) := by decide +kernel
theorem dX8_step_25 : decode cX8_step 25 = .ok (.ireturn, 1) := by decide +kernel
theorem dX8_step_26 : decode cX8_step 26 = .ok (.aload_n 0, 1) := by decide +kernel
theorem dX8_step_27 : decode cX8_step 27 = .ok (.invokevirtual 174, 3) := by decide +kernel
theorem dX8_step_30 : decode cX8_step 30 = .ok (.iconst 0, 1) := by decide +kernel
theorem dX8_step_31 : decode cX8_step 31 = .ok (.istore_n 2, 1) := by decide +kernel
theorem dX8_step_32 : decode cX8_step 32 = .ok (.iload_n 2, 1) := by decide +kernel
theorem dX8_step_33 : decode cX8_step 33 = .ok (.iload_n 1, 1) := by decide +kernel
theorem dX8_step_34 : decode cX8_step 34 = .ok (.if_icmp .ge 17, 3) := by decide +kernel
theorem dX8_step_37 : decode cX8_step 37 = .ok (.aload_n 0, 1) := by decide +kernel
theorem dX8_step_38 : decode cX8_step 38 = .ok (.aload_n 0, 1) := by decide +kernel
theorem dX8_step_39 : decode cX8_step 39 = .ok (.getfield 16, 3) := by decide +kernel
theorem dX8_step_42 : decode cX8_step 42 = .ok (.invokevirtual 177, 3) := by decide +kernel
theorem dX8_step_45 : decode cX8_step 45 = .ok (.iinc 2 1, 3) := by decide +kernel
theorem dX8_step_48 : decode cX8_step 48 = .ok (.goto (-16), 3) := by decide +kernel
theorem dX8_step_51 : decode cX8_step 51 = .ok (.aload_n 0, 1) := by decide +kernel
theorem dX8_step_52 : decode cX8_step 52 = .ok (.getfield 16, 3) := by decide +kernel
theorem dX8_step_55 : decode cX8_step 55 = .ok (.invokestatic 152, 3) := by decide +kernel
theorem dX8_step_58 : decode cX8_step 58 = .ok (.ireturn, 1) := by decide +kernel
theorem dX8_setRange_0 : decode cX8_setRange 0 = .ok (.aload_n 0, 1) := by decide +kernel
theorem dX8_setRange_1 : decode cX8_setRange 1 = .ok (.aload_n 0, 1) := by decide +kernel
theorem dX8_setRange_2 : decode cX8_setRange 2 = .ok (.iload_n 1, 1) := by decide +kernel
theorem dX8_setRange_3 : decode cX8_setRange 3 = .ok (.invokevirtual 159, 3) := by decide +kernel
theorem dX8_setRange_6 : decode cX8_setRange 6 = .ok (.ifCond .ne 7, 3) := by decide +kernel
theorem dX8_setRange_9 : decode cX8_setRange 9 = .ok (.iconst 1, 1) := by decide +kernel
theorem dX8_setRange_10 : decode cX8_setRange 10 = .ok (.goto 20, 3) := by decide +kernel
theorem dX8_setRange_13 : decode cX8_setRange 13 = .ok (.iload_n 2, 1) := by decide +kernel
theorem dX8_setRange_14 : decode cX8_setRange 14 = .ok (.i2l, 1) := by decide +kernel
theorem dX8_setRange_15 : decode cX8_setRange 15 = .ok (.lconst 0, 1) := by decide +kernel
theorem dX8_setRange_16 : decode cX8_setRange 16 = .ok (.ldc2_w 180, 3) := by decide +kernel
theorem dX8_setRange_19 : decode cX8_setRange 19 = .ok (.invokestatic 57, 3) := by decide +kernel
theorem dX8_setRange_22 : decode cX8_setRange 22 = .ok (.ifCond .ne 7, 3) := by decide +kernel
theorem dX8_setRange_25 : decode cX8_setRange 25 = .ok (.iconst 2, 1) := by decide +kernel
theorem dX8_setRange_26 : decode cX8_setRange 26 = .ok (.goto 4, 3) := by decide +kernel
theorem dX8_setRange_29 : decode cX8_setRange 29 = .ok (.iconst 0, 1) := by decide +kernel
theorem dX8_setRange_30 : decode cX8_setRange 30 = .ok (.invokevirtual 126, 3) := by decide +kernel
theorem dX8_setRange_33 : decode cX8_setRange 33 = .ok (.ifCond .eq 5, 3) := by decide +kernel
theorem dX8_setRange_36 : decode cX8_setRange 36 = .ok (.iconst 0, 1) := by decide +kernel
theorem dX8_setRange_37 : decode cX8_setRange 37 = .ok (.ireturn, 1) := by decide +kernel
theorem dX8_setRange_38 : decode cX8_setRange 38 = .ok (.aload_n 0, 1) := by decide +kernel
theorem dX8_setRange_39 : decode cX8_setRange 39 = .ok (.invokevirtual 174, 3) := by decide +kernel
theorem dX8_setRange_42 : decode cX8_setRange 42 = .ok (.aload_n 0, 1) := by decide +kernel
theorem dX8_setRange_43 : decode cX8_setRange 43 = .ok (.getfield 16, 3) := by decide +kernel
theorem dX8_setRange_46 : decode cX8_setRange 46 = .ok (.iload_n 1, 1) := by decide +kernel
theorem dX8_setRange_47 : decode cX8_setRange 47 = .ok (.invokestatic 61, 3) := by decide +kernel
theorem dX8_setRange_50 : decode cX8_setRange 50 = .ok (.iconst 2, 1) := by decide +kernel
theorem dX8_setRange_51 : decode cX8_setRange 51 = .ok (.iadd, 1) := by decide +kernel
theorem dX8_setRange_52 : decode cX8_setRange 52 = .ok (.iaload, 1) := by decide +kernel
theorem dX8_setRange_53 : decode cX8_setRange 53 = .ok (.istore_n 3, 1) := by decide +kernel
theorem dX8_setRange_54 : decode cX8_setRange 54 = .ok (.aload_n 0, 1) := by decide +kernel
theorem dX8_setRange_55 : decode cX8_setRange 55 = .ok (.getfield 16, 3) := by decide +kernel
theorem dX8_setRange_58 : decode cX8_setRange 58 = .ok (.iload_n 1, 1) := by decide +kernel
theorem dX8_setRange_59 : decode cX8_setRange 59 = .ok (.invokestatic 61, 3) := by decide +kernel
theorem dX8_setRange_62 : decode cX8_setRange 62 = .ok (.iconst 2, 1) := by decide +kernel
theorem dX8_setRange_63 : decode cX8_setRange 63 = .ok (.iadd, 1) := by decide +kernel
theorem dX8_setRange_64 : decode cX8_setRange 64 = .ok (.iload_n 2, 1) := by decide +kernel
theorem dX8_setRange_65 : decode cX8_setRange 65 = .ok (.iastore, 1) := by decide +kernel
theorem dX8_setRange_66 : decode cX8_setRange 66 = .ok (.iload_n 3, 1) := by decide +kernel
theorem dX8_setRange_67 : decode cX8_setRange 67 = .ok (.ireturn, 1) := by decide +kernel
theorem dX8_isPlace_0 : decode cX8_isPlace 0 = .ok (.iload_n 0, 1) := by decide +kernel
theorem dX8_isPlace_1 : decode cX8_isPlace 1 = .ok (.i2l, 1) := by decide +kernel
theorem dX8_isPlace_2 : decode cX8_isPlace 2 = .ok (.lconst 0, 1) := by decide +kernel
theorem dX8_isPlace_3 : decode cX8_isPlace 3 = .ok (.ldc2_w 182, 3) := by decide +kernel
theorem dX8_isPlace_6 : decode cX8_isPlace 6 = .ok (.invokestatic 57, 3) := by decide +kernel
theorem dX8_isPlace_9 : decode cX8_isPlace 9 = .ok (.ifCond .eq 19, 3) := by decide +kernel
theorem dX8_isPlace_12 : decode cX8_isPlace 12 = .ok (.iload_n 1, 1) := by decide +kernel
theorem dX8_isPlace_13 : decode cX8_isPlace 13 = .ok (.i2l, 1) := by decide +kernel
theorem dX8_isPlace_14 : decode cX8_isPlace 14 = .ok (.lconst 0, 1) := by decide +kernel
theorem dX8_isPlace_15 : decode cX8_isPlace 15 = .ok (.ldc2_w 182, 3) := by decide +kernel
theorem dX8_isPlace_18 : decode cX8_isPlace 18 = .ok (.invokestatic 57, 3) := by decide +kernel
theorem dX8_isPlace_21 : decode cX8_isPlace 21 = .ok (.ifCond .eq 7, 3) := by decide +kernel
theorem dX8_isPlace_24 : decode cX8_isPlace 24 = .ok (.iconst 1, 1) := by decide +kernel
theorem dX8_isPlace_25 : decode cX8_isPlace 25 = .ok (.goto 4, 3) := by decide +kernel
theorem dX8_isPlace_28 : decode cX8_isPlace 28 = .ok (.iconst 0, 1) := by decide +kernel
theorem dX8_isPlace_29 : decode cX8_isPlace 29 = .ok (.ireturn, 1) := by decide +kernel
theorem dX8_put_0 : decode cX8_put 0 = .ok (.aload_n 0, 1) := by decide +kernel
theorem dX8_put_1 : decode cX8_put 1 = .ok (.aload_n 0, 1) := by decide +kernel
theorem dX8_put_2 : decode cX8_put 2 = .ok (.iload_n 1, 1) := by decide +kernel
theorem dX8_put_3 : decode cX8_put 3 = .ok (.invokevirtual 159, 3) := by decide +kernel
theorem dX8_put_6 : decode cX8_put 6 = .ok (.ifCond .ne 7, 3) := by decide +kernel
theorem dX8_put_9 : decode cX8_put 9 = .ok (.iconst 1, 1) := by decide +kernel
theorem dX8_put_10 : decode cX8_put 10 = .ok (.goto 16, 3) := by decide +kernel
theorem dX8_put_13 : decode cX8_put 13 = .ok (.iload_n 2, 1) := by decide +kernel
theorem dX8_put_14 : decode cX8_put 14 = .ok (.iload_n 3, 1) := by decide +kernel
theorem dX8_put_15 : decode cX8_put 15 = .ok (.invokestatic 184, 3) := by decide +kernel
theorem dX8_put_18 : decode cX8_put 18 = .ok (.ifCond .ne 7, 3) := by decide +kernel
theorem dX8_put_21 : decode cX8_put 21 = .ok (.iconst 2, 1) := by decide +kernel
theorem dX8_put_22 : decode cX8_put 22 = .ok (.goto 4, 3) := by decide +kernel
theorem dX8_put_25 : decode cX8_put 25 = .ok (.iconst 0, 1) := by decide +kernel
theorem dX8_put_26 : decode cX8_put 26 = .ok (.invokevirtual 126, 3) := by decide +kernel
theorem dX8_put_29 : decode cX8_put 29 = .ok (.ifCond .eq 5, 3) := by decide +kernel
theorem dX8_put_32 : decode cX8_put 32 = .ok (.iconst 0, 1) := by decide +kernel
theorem dX8_put_33 : decode cX8_put 33 = .ok (.ireturn, 1) := by decide +kernel
theorem dX8_put_34 : decode cX8_put 34 = .ok (.aload_n 0, 1) := by decide +kernel
theorem dX8_put_35 : decode cX8_put 35 = .ok (.invokevirtual 174, 3) := by decide +kernel
theorem dX8_put_38 : decode cX8_put 38 = .ok (.iload_n 1, 1) := by decide +kernel
theorem dX8_put_39 : decode cX8_put 39 = .ok (.invokestatic 61, 3) := by decide +kernel
theorem dX8_put_42 : decode cX8_put 42 = .ok (.istore 4, 2) := by decide +kernel
theorem dX8_put_44 : decode cX8_put 44 = .ok (.aload_n 0, 1) := by decide +kernel
theorem dX8_put_45 : decode cX8_put 45 = .ok (.getfield 16, 3) := by decide +kernel
theorem dX8_put_48 : decode cX8_put 48 = .ok (.iload 4, 2) := by decide +kernel
theorem dX8_put_50 : decode cX8_put 50 = .ok (.iconst 0, 1) := by decide +kernel
theorem dX8_put_51 : decode cX8_put 51 = .ok (.iadd, 1) := by decide +kernel
theorem dX8_put_52 : decode cX8_put 52 = .ok (.iaload, 1) := by decide +kernel
theorem dX8_put_53 : decode cX8_put 53 = .ok (.iload_n 2, 1) := by decide +kernel
theorem dX8_put_54 : decode cX8_put 54 = .ok (.isub, 1) := by decide +kernel
theorem dX8_put_55 : decode cX8_put 55 = .ok (.invokestatic 68, 3) := by decide +kernel
theorem dX8_put_58 : decode cX8_put 58 = .ok (.aload_n 0, 1) := by decide +kernel
theorem dX8_put_59 : decode cX8_put 59 = .ok (.getfield 16, 3) := by decide +kernel
theorem dX8_put_62 : decode cX8_put 62 = .ok (.iload 4, 2) := by decide +kernel
theorem dX8_put_64 : decode cX8_put 64 = .ok (.iconst 1, 1) := by decide +kernel
theorem dX8_put_65 : decode cX8_put 65 = .ok (.iadd, 1) := by decide +kernel
theorem dX8_put_66 : decode cX8_put 66 = .ok (.iaload, 1) := by decide +kernel
theorem dX8_put_67 : decode cX8_put 67 = .ok (.iload_n 3, 1) := by decide +kernel
theorem dX8_put_68 : decode cX8_put 68 = .ok (.isub, 1) := by decide +kernel
theorem dX8_put_69 : decode cX8_put 69 = .ok (.invokestatic 68, 3) := by decide +kernel
theorem dX8_put_72 : decode cX8_put 72 = .ok (.iadd, 1) := by decide +kernel
theorem dX8_put_73 : decode cX8_put 73 = .ok (.istore 5, 2) := by decide +kernel
theorem dX8_put_75 : decode cX8_put 75 = .ok (.aload_n 0, 1) := by decide +kernel
theorem dX8_put_76 : decode cX8_put 76 = .ok (.getfield 16, 3) := by decide +kernel
theorem dX8_put_79 : decode cX8_put 79 = .ok (.iload 4, 2) := by decide +kernel
theorem dX8_put_81 : decode cX8_put 81 = .ok (.iconst 0, 1) := by decide +kernel
theorem dX8_put_82 : decode cX8_put 82 = .ok (.iadd, 1) := by decide +kernel
theorem dX8_put_83 : decode cX8_put 83 = .ok (.iload_n 2, 1) := by decide +kernel
theorem dX8_put_84 : decode cX8_put 84 = .ok (.iastore, 1) := by decide +kernel
theorem dX8_put_85 : decode cX8_put 85 = .ok (.aload_n 0, 1) := by decide +kernel
theorem dX8_put_86 : decode cX8_put 86 = .ok (.getfield 16, 3) := by decide +kernel
theorem dX8_put_89 : decode cX8_put 89 = .ok (.iload 4, 2) := by decide +kernel
theorem dX8_put_91 : decode cX8_put 91 = .ok (.iconst 1, 1) := by decide +kernel
theorem dX8_put_92 : decode cX8_put 92 = .ok (.iadd, 1) := by decide +kernel
theorem dX8_put_93 : decode cX8_put 93 = .ok (.iload_n 3, 1) := by decide +kernel
theorem dX8_put_94 : decode cX8_put 94 = .ok (.iastore, 1) := by decide +kernel
theorem dX8_put_95 : decode cX8_put 95 = .ok (.iload 5, 2) := by decide +kernel
theorem dX8_put_97 : decode cX8_put 97 = .ok (.ireturn, 1) := by decide +kernel
theorem dX8_countOn_0 : decode cX8_countOn 0 = .ok (.aload_n 0, 1) := by decide +kernel
theorem dX8_countOn_1 : decode cX8_countOn 1 = .ok (.iconst 3, 1) := by decide +kernel
theorem dX8_countOn_2 : decode cX8_countOn 2 = .ok (.invokestatic 156, 3) := by decide +kernel
theorem dX8_countOn_5 : decode cX8_countOn 5 = .ok (.ireturn, 1) := by decide +kernel
theorem dX8_toggle_0 : decode cX8_toggle 0 = .ok (.aload_n 0, 1) := by decide +kernel
theorem dX8_toggle_1 : decode cX8_toggle 1 = .ok (.aload_n 0, 1) := by decide +kernel
theorem dX8_toggle_2 : decode cX8_toggle 2 = .ok (.iload_n 1, 1) := by decide +kernel
theorem dX8_toggle_3 : decode cX8_toggle 3 = .ok (.invokevirtual 159, 3) := by decide +kernel
theorem dX8_toggle_6 : decode cX8_toggle 6 = .ok (.ifCond .eq 7, 3) := by decide +kernel
theorem dX8_toggle_9 : decode cX8_toggle 9 = .ok (.iconst 0, 1) := by decide +kernel
theorem dX8_toggle_10 : decode cX8_toggle 10 = .ok (.goto 4, 3) := by decide +kernel
theorem dX8_toggle_13 : decode cX8_toggle 13 = .ok (.iconst 1, 1) := by decide +kernel
theorem dX8_toggle_14 : decode cX8_toggle 14 = .ok (.invokevirtual 126, 3) := by decide +kernel
theorem dX8_toggle_17 : decode cX8_toggle 17 = .ok (.ifCond .eq 5, 3) := by decide +kernel
theorem dX8_toggle_20 : decode cX8_toggle 20 = .ok (.iconst 0, 1) := by decide +kernel
theorem dX8_toggle_21 : decode cX8_toggle 21 = .ok (.ireturn, 1) := by decide +kernel
theorem dX8_toggle_22 : decode cX8_toggle 22 = .ok (.aload_n 0, 1) := by decide +kernel
theorem dX8_toggle_23 : decode cX8_toggle 23 = .ok (.invokevirtual 174, 3) := by decide +kernel
theorem dX8_toggle_26 : decode cX8_toggle 26 = .ok (.aload_n 0, 1) := by decide +kernel
theorem dX8_toggle_27 : decode cX8_toggle 27 = .ok (.getfield 16, 3) := by decide +kernel
theorem dX8_toggle_30 : decode cX8_toggle 30 = .ok (.iload_n 1, 1) := by decide +kernel
theorem dX8_toggle_31 : decode cX8_toggle 31 = .ok (.invokestatic 61, 3) := by decide +kernel
theorem dX8_toggle_34 : decode cX8_toggle 34 = .ok (.iconst 3, 1) := by decide +kernel
theorem dX8_toggle_35 : decode cX8_toggle 35 = .ok (.iadd, 1) := by decide +kernel
theorem dX8_toggle_36 : decode cX8_toggle 36 = .ok (.iconst 1, 1) := by decide +kernel
theorem dX8_toggle_37 : decode cX8_toggle 37 = .ok (.aload_n 0, 1) := by decide +kernel
theorem dX8_toggle_38 : decode cX8_toggle 38 = .ok (.getfield 16, 3) := by decide +kernel
theorem dX8_toggle_41 : decode cX8_toggle 41 = .ok (.iload_n 1, 1) := by decide +kernel
theorem dX8_toggle_42 : decode cX8_toggle 42 = .ok (.invokestatic 61, 3) := by decide +kernel
theorem dX8_toggle_45 : decode cX8_toggle 45 = .ok (.iconst 3, 1) := by decide +kernel
theorem dX8_toggle_46 : decode cX8_toggle 46 = .ok (.iadd, 1) := by decide +kernel
theorem dX8_toggle_47 : decode cX8_toggle 47 = .ok (.iaload, 1) := by decide +kernel
theorem dX8_toggle_48 : decode cX8_toggle 48 = .ok (.isub, 1) := by decide +kernel
theorem dX8_toggle_49 : decode cX8_toggle 49 = .ok (.iastore, 1) := by decide +kernel
theorem dX8_toggle_50 : decode cX8_toggle 50 = .ok (.aload_n 0, 1) := by decide +kernel
theorem dX8_toggle_51 : decode cX8_toggle 51 = .ok (.getfield 16, 3) := by decide +kernel
theorem dX8_toggle_54 : decode cX8_toggle 54 = .ok (.invokestatic 188, 3) := by decide +kernel
theorem dX8_toggle_57 : decode cX8_toggle 57 = .ok (.ireturn, 1) := by decide +kernel
theorem dX8_canHandOver_0 : decode cX8_canHandOver 0 = .ok (.aload_n 0, 1) := by decide +kernel
theorem dX8_canHandOver_1 : decode cX8_canHandOver 1 = .ok (.iload_n 1, 1) := by decide +kernel
theorem dX8_canHandOver_2 : decode cX8_canHandOver 2 = .ok (.iload_n 2, 1) := by decide +kernel
theorem dX8_canHandOver_3 : decode cX8_canHandOver 3 = .ok (.invokestatic 90, 3) := by decide +kernel
theorem dX8_canHandOver_6 : decode cX8_canHandOver 6 = .ok (.ifCond .eq 27, 3) := by decide +kernel
theorem dX8_canHandOver_9 : decode cX8_canHandOver 9 = .ok (.aload_n 0, 1) := by decide +kernel
theorem dX8_canHandOver_10 : decode cX8_canHandOver 10 = .ok (.iload_n 1, 1) := by decide +kernel
theorem dX8_canHandOver_11 : decode cX8_canHandOver 11 = .ok (.invokestatic 103, 3) := by decide +kernel
theorem dX8_canHandOver_14 : decode cX8_canHandOver 14 = .ok (.bipush (-9), 2) := by decide +kernel
theorem dX8_canHandOver_16 : decode cX8_canHandOver 16 = .ok (.if_icmp .eq 17, 3) := by decide +kernel
theorem dX8_canHandOver_19 : decode cX8_canHandOver 19 = .ok (.aload_n 0, 1) := by decide +kernel
theorem dX8_canHandOver_20 : decode cX8_canHandOver 20 = .ok (.iload_n 2, 1) := by decide +kernel
theorem dX8_canHandOver_21 : decode cX8_canHandOver 21 = .ok (.invokestatic 103, 3) := by decide +kernel
theorem dX8_canHandOver_24 : decode cX8_canHandOver 24 = .ok (.bipush (-9), 2) := by decide +kernel
theorem dX8_canHandOver_26 : decode cX8_canHandOver 26 = .ok (.if_icmp .ne 7, 3) := by decide +kernel
theorem dX8_canHandOver_29 : decode cX8_canHandOver 29 = .ok (.iconst 1, 1) := by decide +kernel
theorem dX8_canHandOver_30 : decode cX8_canHandOver 30 = .ok (.goto 4, 3) := by decide +kernel
theorem dX8_canHandOver_33 : decode cX8_canHandOver 33 = .ok (.iconst 0, 1) := by decide +kernel
theorem dX8_canHandOver_34 : decode cX8_canHandOver 34 = .ok (.ireturn, 1) := by decide +kernel
theorem dX8_handOn_0 : decode cX8_handOn 0 = .ok (.aload_n 0, 1) := by decide +kernel
theorem dX8_handOn_1 : decode cX8_handOn 1 = .ok (.iload_n 1, 1) := by decide +kernel
theorem dX8_handOn_2 : decode cX8_handOn 2 = .ok (.invokestatic 103, 3) := by decide +kernel
theorem dX8_handOn_5 : decode cX8_handOn 5 = .ok (.istore_n 3, 1) := by decide +kernel
theorem dX8_handOn_6 : decode cX8_handOn 6 = .ok (.aload_n 0, 1) := by decide +kernel
theorem dX8_handOn_7 : decode cX8_handOn 7 = .ok (.iconst 2, 1) := by decide +kernel
theorem dX8_handOn_8 : decode cX8_handOn 8 = .ok (.iaload, 1) := by decide +kernel
theorem dX8_handOn_9 : decode cX8_handOn 9 = .ok (.aload_n 0, 1) := by decide +kernel
theorem dX8_handOn_10 : decode cX8_handOn 10 = .ok (.iconst 3, 1) := by decide +kernel
theorem dX8_handOn_11 : decode cX8_handOn 11 = .ok (.iaload, 1) := by decide +kernel
theorem dX8_handOn_12 : decode cX8_handOn 12 = .ok (.iadd, 1) := by decide +kernel
theorem dX8_handOn_13 : decode cX8_handOn 13 = .ok (.istore 4, 2) := by decide +kernel
theorem dX8_handOn_15 : decode cX8_handOn 15 = .ok (.aload_n 0, 1) := by decide +kernel
theorem dX8_handOn_16 : decode cX8_handOn 16 = .ok (.iload_n 1, 1) := by decide +kernel
theorem dX8_handOn_17 : decode cX8_handOn 17 = .ok (.iload_n 3, 1) := by decide +kernel
theorem dX8_handOn_18 : decode cX8_handOn 18 = .ok (.invokestatic 83, 3) := by decide +kernel
theorem dX8_handOn_21 : decode cX8_handOn 21 = .ok (.iconst 1, 1) := by decide +kernel
theorem dX8_handOn_22 : decode cX8_handOn 22 = .ok (.iload_n 2, 1) := by decide +kernel
theorem dX8_handOn_23 : decode cX8_handOn 23 = .ok (.aload_n 0, 1) := by decide +kernel
theorem dX8_handOn_24 : decode cX8_handOn 24 = .ok (.iload_n 2, 1) := by decide +kernel
theorem dX8_handOn_25 : decode cX8_handOn 25 = .ok (.iload_n 3, 1) := by decide +kernel
theorem dX8_handOn_26 : decode cX8_handOn 26 = .ok (.invokestatic 100, 3) := by decide +kernel
theorem dX8_handOn_29 : decode cX8_handOn 29 = .ok (.iload 4, 2) := by decide +kernel
theorem dX8_handOn_31 : decode cX8_handOn 31 = .ok (.invokestatic 96, 3) := by decide +kernel
theorem dX8_handOn_34 : decode cX8_handOn 34 = .ok (.aload_n 0, 1) := by decide +kernel
theorem dX8_handOn_35 : decode cX8_handOn 35 = .ok (.iload_n 2, 1) := by decide +kernel
theorem dX8_handOn_36 : decode cX8_handOn 36 = .ok (.iload_n 3, 1) := by decide +kernel
theorem dX8_handOn_37 : decode cX8_handOn 37 = .ok (.invokestatic 83, 3) := by decide +kernel
theorem dX8_handOn_40 : decode cX8_handOn 40 = .ok (.iconst 1, 1) := by decide +kernel
theorem dX8_handOn_41 : decode cX8_handOn 41 = .ok (.iload_n 2, 1) := by decide +kernel
theorem dX8_handOn_42 : decode cX8_handOn 42 = .ok (.aload_n 0, 1) := by decide +kernel
theorem dX8_handOn_43 : decode cX8_handOn 43 = .ok (.iload_n 2, 1) := by decide +kernel
theorem dX8_handOn_44 : decode cX8_handOn 44 = .ok (.iload_n 3, 1) := by decide +kernel
theorem dX8_handOn_45 : decode cX8_handOn 45 = .ok (.invokestatic 100, 3) := by decide +kernel
theorem dX8_handOn_48 : decode cX8_handOn 48 = .ok (.iload 4, 2) := by decide +kernel
theorem dX8_handOn_50 : decode cX8_handOn 50 = .ok (.invokestatic 96, 3) := by decide +kernel
theorem dX8_handOn_53 : decode cX8_handOn 53 = .ok (.iload_n 3, 1) := by decide +kernel
theorem dX8_handOn_54 : decode cX8_handOn 54 = .ok (.ireturn, 1) := by decide +kernel
theorem dX8_handOver_0 : decode cX8_handOver 0 = .ok (.aload_n 0, 1) := by decide +kernel
theorem dX8_handOver_1 : decode cX8_handOver 1 = .ok (.aload_n 0, 1) := by decide +kernel
theorem dX8_handOver_2 : decode cX8_handOver 2 = .ok (.iload_n 1, 1) := by decide +kernel
theorem dX8_handOver_3 : decode cX8_handOver 3 = .ok (.invokevirtual 159, 3) := by decide +kernel
theorem dX8_handOver_6 : decode cX8_handOver 6 = .ok (.ifCond .eq 11, 3) := by decide +kernel
theorem dX8_handOver_9 : decode cX8_handOver 9 = .ok (.aload_n 0, 1) := by decide +kernel
theorem dX8_handOver_10 : decode cX8_handOver 10 = .ok (.iload_n 2, 1) := by decide +kernel
theorem dX8_handOver_11 : decode cX8_handOver 11 = .ok (.invokevirtual 159, 3) := by decide +kernel
theorem dX8_handOver_14 : decode cX8_handOver 14 = .ok (.ifCond .ne 7, 3) := by decide +kernel
theorem dX8_handOver_17 : decode cX8_handOver 17 = .ok (.iconst 1, 1) := by decide +kernel
theorem dX8_handOver_18 : decode cX8_handOver 18 = .ok (.goto 29, 3) := by decide +kernel
theorem dX8_handOver_21 : decode cX8_handOver 21 = .ok (.iload_n 1, 1) := by decide +kernel
theorem dX8_handOver_22 : decode cX8_handOver 22 = .ok (.iload_n 2, 1) := by decide +kernel
theorem dX8_handOver_23 : decode cX8_handOver 23 = .ok (.if_icmp .ne 7, 3) := by decide +kernel
theorem dX8_handOver_26 : decode cX8_handOver 26 = .ok (.iconst 2, 1) := by decide +kernel
theorem dX8_handOver_27 : decode cX8_handOver 27 = .ok (.goto 20, 3) := by decide +kernel
theorem dX8_handOver_30 : decode cX8_handOver 30 = .ok (.aload_n 0, 1) := by decide +kernel
theorem dX8_handOver_31 : decode cX8_handOver 31 = .ok (.getfield 16, 3) := by decide +kernel
theorem dX8_handOver_34 : decode cX8_handOver 34 = .ok (.iload_n 1, 1) := by decide +kernel
theorem dX8_handOver_35 : decode cX8_handOver 35 = .ok (.iload_n 2, 1) := by decide +kernel
theorem dX8_handOver_36 : decode cX8_handOver 36 = .ok (.invokestatic 191, 3) := by decide +kernel
theorem dX8_handOver_39 : decode cX8_handOver 39 = .ok (.ifCond .ne 7, 3) := by decide +kernel
theorem dX8_handOver_42 : decode cX8_handOver 42 = .ok (.iconst 3, 1) := by decide +kernel
theorem dX8_handOver_43 : decode cX8_handOver 43 = .ok (.goto 4, 3) := by decide +kernel
theorem dX8_handOver_46 : decode cX8_handOver 46 = .ok (.iconst 0, 1) := by decide +kernel
theorem dX8_handOver_47 : decode cX8_handOver 47 = .ok (.invokevirtual 126, 3) := by decide +kernel
theorem dX8_handOver_50 : decode cX8_handOver 50 = .ok (.ifCond .eq 5, 3) := by decide +kernel
theorem dX8_handOver_53 : decode cX8_handOver 53 = .ok (.iconst 0, 1) := by decide +kernel
theorem dX8_handOver_54 : decode cX8_handOver 54 = .ok (.ireturn, 1) := by decide +kernel
theorem dX8_handOver_55 : decode cX8_handOver 55 = .ok (.aload_n 0, 1) := by decide +kernel
theorem dX8_handOver_56 : decode cX8_handOver 56 = .ok (.invokevirtual 174, 3) := by decide +kernel
theorem dX8_handOver_59 : decode cX8_handOver 59 = .ok (.aload_n 0, 1) := by decide +kernel
theorem dX8_handOver_60 : decode cX8_handOver 60 = .ok (.getfield 16, 3) := by decide +kernel
theorem dX8_handOver_63 : decode cX8_handOver 63 = .ok (.iload_n 1, 1) := by decide +kernel
theorem dX8_handOver_64 : decode cX8_handOver 64 = .ok (.iload_n 2, 1) := by decide +kernel
theorem dX8_handOver_65 : decode cX8_handOver 65 = .ok (.invokestatic 194, 3) := by decide +kernel
theorem dX8_handOver_68 : decode cX8_handOver 68 = .ok (.ireturn, 1) := by decide +kernel
theorem dX8_dropOn_0 : decode cX8_dropOn 0 = .ok (.iconst 0, 1) := by decide +kernel
theorem dX8_dropOn_1 : decode cX8_dropOn 1 = .ok (.istore_n 2, 1) := by decide +kernel
theorem dX8_dropOn_2 : decode cX8_dropOn 2 = .ok (.iconst 0, 1) := by decide +kernel
theorem dX8_dropOn_3 : decode cX8_dropOn 3 = .ok (.istore_n 3, 1) := by decide +kernel
theorem dX8_dropOn_4 : decode cX8_dropOn 4 = .ok (.iload_n 3, 1) := by decide +kernel
theorem dX8_dropOn_5 : decode cX8_dropOn 5 = .ok (.aload_n 0, 1) := by decide +kernel
theorem dX8_dropOn_6 : decode cX8_dropOn 6 = .ok (.iconst 1, 1) := by decide +kernel
theorem dX8_dropOn_7 : decode cX8_dropOn 7 = .ok (.iaload, 1) := by decide +kernel
theorem dX8_dropOn_8 : decode cX8_dropOn 8 = .ok (.if_icmp .ge 51, 3) := by decide +kernel
theorem dX8_dropOn_11 : decode cX8_dropOn 11 = .ok (.aload_n 0, 1) := by decide +kernel
theorem dX8_dropOn_12 : decode cX8_dropOn 12 = .ok (.iload_n 1, 1) := by decide +kernel
theorem dX8_dropOn_13 : decode cX8_dropOn 13 = .ok (.iload_n 3, 1) := by decide +kernel
theorem dX8_dropOn_14 : decode cX8_dropOn 14 = .ok (.invokestatic 83, 3) := by decide +kernel
theorem dX8_dropOn_17 : decode cX8_dropOn 17 = .ok (.iconst 0, 1) := by decide +kernel
theorem dX8_dropOn_18 : decode cX8_dropOn 18 = .ok (.iadd, 1) := by decide +kernel
theorem dX8_dropOn_19 : decode cX8_dropOn 19 = .ok (.iaload, 1) := by decide +kernel
theorem dX8_dropOn_20 : decode cX8_dropOn 20 = .ok (.iconst 1, 1) := by decide +kernel
theorem dX8_dropOn_21 : decode cX8_dropOn 21 = .ok (.if_icmp .ne 32, 3) := by decide +kernel
theorem dX8_dropOn_24 : decode cX8_dropOn 24 = .ok (.aload_n 0, 1) := by decide +kernel
theorem dX8_dropOn_25 : decode cX8_dropOn 25 = .ok (.iload_n 1, 1) := by decide +kernel
theorem dX8_dropOn_26 : decode cX8_dropOn 26 = .ok (.iload_n 3, 1) := by decide +kernel
theorem dX8_dropOn_27 : decode cX8_dropOn 27 = .ok (.invokestatic 83, 3) := by decide +kernel
theorem dX8_dropOn_30 : decode cX8_dropOn 30 = .ok (.iconst 1, 1) := by decide +kernel
theorem dX8_dropOn_31 : decode cX8_dropOn 31 = .ok (.iadd, 1) := by decide +kernel
theorem dX8_dropOn_32 : decode cX8_dropOn 32 = .ok (.iaload, 1) := by decide +kernel
theorem dX8_dropOn_33 : decode cX8_dropOn 33 = .ok (.iload_n 1, 1) := by decide +kernel
theorem dX8_dropOn_34 : decode cX8_dropOn 34 = .ok (.if_icmp .ne 19, 3) := by decide +kernel
theorem dX8_dropOn_37 : decode cX8_dropOn 37 = .ok (.aload_n 0, 1) := by decide +kernel
theorem dX8_dropOn_38 : decode cX8_dropOn 38 = .ok (.iload_n 1, 1) := by decide +kernel
theorem dX8_dropOn_39 : decode cX8_dropOn 39 = .ok (.iload_n 3, 1) := by decide +kernel
theorem dX8_dropOn_40 : decode cX8_dropOn 40 = .ok (.invokestatic 83, 3) := by decide +kernel
theorem dX8_dropOn_43 : decode cX8_dropOn 43 = .ok (.iconst 0, 1) := by decide +kernel
theorem dX8_dropOn_44 : decode cX8_dropOn 44 = .ok (.iconst 0, 1) := by decide +kernel
theorem dX8_dropOn_45 : decode cX8_dropOn 45 = .ok (.iconst 0, 1) := by decide +kernel
theorem dX8_dropOn_46 : decode cX8_dropOn 46 = .ok (.iconst 0, 1) := by decide +kernel
theorem dX8_dropOn_47 : decode cX8_dropOn 47 = .ok (.invokestatic 96, 3) := by decide +kernel
theorem dX8_dropOn_50 : decode cX8_dropOn 50 = .ok (.iinc 2 1, 3) := by decide +kernel
theorem dX8_dropOn_53 : decode cX8_dropOn 53 = .ok (.iinc 3 1, 3) := by decide +kernel
theorem dX8_dropOn_56 : decode cX8_dropOn 56 = .ok (.goto (-52), 3) := by decide +kernel
theorem dX8_dropOn_59 : decode cX8_dropOn 59 = .ok (.iload_n 2, 1) := by decide +kernel
theorem dX8_dropOn_60 : decode cX8_dropOn 60 = .ok (.ireturn, 1) := by decide +kernel
theorem dX8_drop_0 : decode cX8_drop 0 = .ok (.aload_n 0, 1) := by decide +kernel
theorem dX8_drop_1 : decode cX8_drop 1 = .ok (.aload_n 0, 1) := by decide +kernel
theorem dX8_drop_2 : decode cX8_drop 2 = .ok (.iload_n 1, 1) := by decide +kernel
theorem dX8_drop_3 : decode cX8_drop 3 = .ok (.invokevirtual 159, 3) := by decide +kernel
theorem dX8_drop_6 : decode cX8_drop 6 = .ok (.ifCond .eq 7, 3) := by decide +kernel
theorem dX8_drop_9 : decode cX8_drop 9 = .ok (.iconst 0, 1) := by decide +kernel
theorem dX8_drop_10 : decode cX8_drop 10 = .ok (.goto 4, 3) := by decide +kernel
theorem dX8_drop_13 : decode cX8_drop 13 = .ok (.iconst 1, 1) := by decide +kernel
theorem dX8_drop_14 : decode cX8_drop 14 = .ok (.invokevirtual 126, 3) := by decide +kernel
theorem dX8_drop_17 : decode cX8_drop 17 = .ok (.ifCond .eq 5, 3) := by decide +kernel
theorem dX8_drop_20 : decode cX8_drop 20 = .ok (.iconst 0, 1) := by decide +kernel
theorem dX8_drop_21 : decode cX8_drop 21 = .ok (.ireturn, 1) := by decide +kernel
theorem dX8_drop_22 : decode cX8_drop 22 = .ok (.aload_n 0, 1) := by decide +kernel
theorem dX8_drop_23 : decode cX8_drop 23 = .ok (.invokevirtual 174, 3) := by decide +kernel
theorem dX8_drop_26 : decode cX8_drop 26 = .ok (.aload_n 0, 1) := by decide +kernel
theorem dX8_drop_27 : decode cX8_drop 27 = .ok (.getfield 16, 3) := by decide +kernel
theorem dX8_drop_30 : decode cX8_drop 30 = .ok (.iload_n 1, 1) := by decide +kernel
theorem dX8_drop_31 : decode cX8_drop 31 = .ok (.invokestatic 197, 3) := by decide +kernel
theorem dX8_drop_34 : decode cX8_drop 34 = .ok (.ireturn, 1) := by decide +kernel
theorem dX8_setLifetime_0 : decode cX8_setLifetime 0 = .ok (.aload_n 0, 1) := by decide +kernel
theorem dX8_setLifetime_1 : decode cX8_setLifetime 1 = .ok (.iload_n 1, 1) := by decide +kernel
theorem dX8_setLifetime_2 : decode cX8_setLifetime 2 = .ok (.i2l, 1) := by decide +kernel
theorem dX8_setLifetime_3 : decode cX8_setLifetime 3 = .ok (.lconst 1, 1) := by decide +kernel
theorem dX8_setLifetime_4 : decode cX8_setLifetime 4 = .ok (.ldc2_w 200, 3) := by decide +kernel
theorem dX8_setLifetime_7 : decode cX8_setLifetime 7 = .ok (.invokestatic 57, 3) := by decide +kernel
theorem dX8_setLifetime_10 : decode cX8_setLifetime 10 = .ok (.ifCond .eq 7, 3) := by decide +kernel
theorem dX8_setLifetime_13 : decode cX8_setLifetime 13 = .ok (.iconst 0, 1) := by decide +kernel
theorem dX8_setLifetime_14 : decode cX8_setLifetime 14 = .ok (.goto 4, 3) := by decide +kernel
theorem dX8_setLifetime_17 : decode cX8_setLifetime 17 = .ok (.iconst 1, 1) := by decide +kernel
theorem dX8_setLifetime_18 : decode cX8_setLifetime 18 = .ok (.invokevirtual 126, 3) := by decide +kernel
theorem dX8_setLifetime_21 : decode cX8_setLifetime 21 = .ok (.ifCond .eq 5, 3) := by decide +kernel
theorem dX8_setLifetime_24 : decode cX8_setLifetime 24 = .ok (.iconst 0, 1) := by decide +kernel
theorem dX8_setLifetime_25 : decode cX8_setLifetime 25 = .ok (.ireturn, 1) := by decide +kernel
theorem dX8_setLifetime_26 : decode cX8_setLifetime 26 = .ok (.aload_n 0, 1) := by decide +kernel
theorem dX8_setLifetime_27 : decode cX8_setLifetime 27 = .ok (.invokevirtual 174, 3) := by decide +kernel
theorem dX8_setLifetime_30 : decode cX8_setLifetime 30 = .ok (.aload_n 0, 1) := by decide +kernel
theorem dX8_setLifetime_31 : decode cX8_setLifetime 31 = .ok (.getfield 16, 3) := by decide +kernel
theorem dX8_setLifetime_34 : decode cX8_setLifetime 34 = .ok (.iconst 3, 1) := by decide +kernel
theorem dX8_setLifetime_35 : decode cX8_setLifetime 35 = .ok (.iaload, 1) := by decide +kernel
theorem dX8_setLifetime_36 : decode cX8_setLifetime 36 = .ok (.istore_n 2, 1) := by decide +kernel
theorem dX8_setLifetime_37 : decode cX8_setLifetime 37 = .ok (.aload_n 0, 1) := by decide +kernel
theorem dX8_setLifetime_38 : decode cX8_setLifetime 38 = .ok (.getfield 16, 3) := by decide +kernel
theorem dX8_setLifetime_41 : decode cX8_setLifetime 41 = .ok (.iconst 3, 1) := by decide +kernel
theorem dX8_setLifetime_42 : decode cX8_setLifetime 42 = .ok (.iload_n 1, 1) := by decide +kernel
theorem dX8_setLifetime_43 : decode cX8_setLifetime 43 = .ok (.iastore, 1) := by decide +kernel
theorem dX8_setLifetime_44 : decode cX8_setLifetime 44 = .ok (.iload_n 2, 1) := by decide +kernel
theorem dX8_setLifetime_45 : decode cX8_setLifetime 45 = .ok (.ireturn, 1) := by decide +kernel
theorem dX8_undo_0 : decode cX8_undo 0 = .ok (.aload_n 0, 1) := by decide +kernel
theorem dX8_undo_1 : decode cX8_undo 1 = .ok (.aload_n 0, 1) := by decide +kernel
theorem dX8_undo_2 : decode cX8_undo 2 = .ok (.getfield 50, 3) := by decide +kernel
theorem dX8_undo_5 : decode cX8_undo 5 = .ok (.ifCond .ne 7, 3) := by decide +kernel
theorem dX8_undo_8 : decode cX8_undo 8 = .ok (.iconst 1, 1) := by decide +kernel
theorem dX8_undo_9 : decode cX8_undo 9 = .ok (.goto 4, 3) := by decide +kernel
theorem dX8_undo_12 : decode cX8_undo 12 = .ok (.iconst 0, 1) := by decide +kernel
theorem dX8_undo_13 : decode cX8_undo 13 = .ok (.invokevirtual 126, 3) := by decide +kernel
theorem dX8_undo_16 : decode cX8_undo 16 = .ok (.ifCond .eq 5, 3) := by decide +kernel
theorem dX8_undo_19 : decode cX8_undo 19 = .ok (.iconst 0, 1) := by decide +kernel
theorem dX8_undo_20 : decode cX8_undo 20 = .ok (.ireturn, 1) := by decide +kernel
theorem dX8_undo_21 : decode cX8_undo 21 = .ok (.aload_n 0, 1) := by decide +kernel
theorem dX8_undo_22 : decode cX8_undo 22 = .ok (.dup, 1) := by decide +kernel
theorem dX8_undo_23 : decode cX8_undo 23 = .ok (.getfield 50, 3) := by decide +kernel
theorem dX8_undo_26 : decode cX8_undo 26 = .ok (.iconst 1, 1) := by decide +kernel
theorem dX8_undo_27 : decode cX8_undo 27 = .ok (.isub, 1) := by decide +kernel
theorem dX8_undo_28 : decode cX8_undo 28 = .ok (.putfield 50, 3) := by decide +kernel
theorem dX8_undo_31 : decode cX8_undo 31 = .ok (.aload_n 0, 1) := by decide +kernel
theorem dX8_undo_32 : decode cX8_undo 32 = .ok (.getfield 25, 3) := by decide +kernel
theorem dX8_undo_35 : decode cX8_undo 35 = .ok (.sipush 264, 3) := by decide +kernel
theorem dX8_undo_38 : decode cX8_undo 38 = .ok (.aload_n 0, 1) := by decide +kernel
theorem dX8_undo_39 : decode cX8_undo 39 = .ok (.getfield 50, 3) := by decide +kernel
theorem dX8_undo_42 : decode cX8_undo 42 = .ok (.imul, 1) := by decide +kernel
theorem dX8_undo_43 : decode cX8_undo 43 = .ok (.aload_n 0, 1) := by decide +kernel
theorem dX8_undo_44 : decode cX8_undo 44 = .ok (.getfield 16, 3) := by decide +kernel
theorem dX8_undo_47 : decode cX8_undo 47 = .ok (.iconst 0, 1) := by decide +kernel
theorem dX8_undo_48 : decode cX8_undo 48 = .ok (.sipush 264, 3) := by decide +kernel
theorem dX8_undo_51 : decode cX8_undo 51 = .ok (.invokestatic 53, 3) := by decide +kernel
theorem dX8_undo_54 : decode cX8_undo 54 = .ok (.aload_n 0, 1) := by decide +kernel
theorem dX8_undo_55 : decode cX8_undo 55 = .ok (.getfield 50, 3) := by decide +kernel
theorem dX8_undo_58 : decode cX8_undo 58 = .ok (.ireturn, 1) := by decide +kernel
theorem dX8_layWays_0 : decode cX8_layWays 0 = .ok (.iconst 0, 1) := by decide +kernel
theorem dX8_layWays_1 : decode cX8_layWays 1 = .ok (.istore_n 3, 1) := by decide +kernel
theorem dX8_layWays_2 : decode cX8_layWays 2 = .ok (.iload_n 3, 1) := by decide +kernel
theorem dX8_layWays_3 : decode cX8_layWays 3 = .ok (.bipush 6, 2) := by decide +kernel
theorem dX8_layWays_5 : decode cX8_layWays 5 = .ok (.if_icmp .ge 26, 3) := by decide +kernel
theorem dX8_layWays_8 : decode cX8_layWays 8 = .ok (.aload_n 0, 1) := by decide +kernel
theorem dX8_layWays_9 : decode cX8_layWays 9 = .ok (.getfield 35, 3) := by decide +kernel
theorem dX8_layWays_12 : decode cX8_layWays 12 = .ok (.iload_n 3, 1) := by decide +kernel
theorem dX8_layWays_13 : decode cX8_layWays 13 = .ok (.iload_n 3, 1) := by decide +kernel
theorem dX8_layWays_14 : decode cX8_layWays 14 = .ok (.iload_n 2, 1) := by decide +kernel
theorem dX8_layWays_15 : decode cX8_layWays 15 = .ok (.if_icmp .ne 7, 3) := by decide +kernel
theorem dX8_layWays_18 : decode cX8_layWays 18 = .ok (.iconst 0, 1) := by decide +kernel
theorem dX8_layWays_19 : decode cX8_layWays 19 = .ok (.goto 5, 3) := by decide +kernel
theorem dX8_layWays_22 : decode cX8_layWays 22 = .ok (.bipush (-9), 2) := by decide +kernel
theorem dX8_layWays_24 : decode cX8_layWays 24 = .ok (.iastore, 1) := by decide +kernel
theorem dX8_layWays_25 : decode cX8_layWays 25 = .ok (.iinc 3 1, 3) := by decide +kernel
theorem dX8_layWays_28 : decode cX8_layWays 28 = .ok (.goto (-26), 3) := by decide +kernel
theorem dX8_layWays_31 : decode cX8_layWays 31 = .ok (.iconst 0, 1) := by decide +kernel
theorem dX8_layWays_32 : decode cX8_layWays 32 = .ok (.istore_n 3, 1) := by decide +kernel
theorem dX8_layWays_33 : decode cX8_layWays 33 = .ok (.iload_n 3, 1) := by decide +kernel
theorem dX8_layWays_34 : decode cX8_layWays 34 = .ok (.bipush 6, 2) := by decide +kernel
theorem dX8_layWays_36 : decode cX8_layWays 36 = .ok (.if_icmp .ge 97, 3) := by decide +kernel
theorem dX8_layWays_39 : decode cX8_layWays 39 = .ok (.iconst 0, 1) := by decide +kernel
theorem dX8_layWays_40 : decode cX8_layWays 40 = .ok (.istore 4, 2) := by decide +kernel
theorem dX8_layWays_42 : decode cX8_layWays 42 = .ok (.iload 4, 2) := by decide +kernel
theorem dX8_layWays_44 : decode cX8_layWays 44 = .ok (.aload_n 1, 1) := by decide +kernel
theorem dX8_layWays_45 : decode cX8_layWays 45 = .ok (.iconst 0, 1) := by decide +kernel
theorem dX8_layWays_46 : decode cX8_layWays 46 = .ok (.iaload, 1) := by decide +kernel
theorem dX8_layWays_47 : decode cX8_layWays 47 = .ok (.if_icmp .ge 80, 3) := by decide +kernel
theorem dX8_layWays_50 : decode cX8_layWays 50 = .ok (.iconst 0, 1) := by decide +kernel
theorem dX8_layWays_51 : decode cX8_layWays 51 = .ok (.istore 5, 2) := by decide +kernel
theorem dX8_layWays_53 : decode cX8_layWays 53 = .ok (.iload 5, 2) := by decide +kernel
theorem dX8_layWays_55 : decode cX8_layWays 55 = .ok (.aload_n 1, 1) := by decide +kernel
theorem dX8_layWays_56 : decode cX8_layWays 56 = .ok (.iconst 0, 1) := by decide +kernel
theorem dX8_layWays_57 : decode cX8_layWays 57 = .ok (.iaload, 1) := by decide +kernel
theorem dX8_layWays_58 : decode cX8_layWays 58 = .ok (.if_icmp .ge 63, 3) := by decide +kernel
theorem dX8_layWays_61 : decode cX8_layWays 61 = .ok (.aload_n 0, 1) := by decide +kernel
theorem dX8_layWays_62 : decode cX8_layWays 62 = .ok (.getfield 35, 3) := by decide +kernel
theorem dX8_layWays_65 : decode cX8_layWays 65 = .ok (.iload 4, 2) := by decide +kernel
theorem dX8_layWays_67 : decode cX8_layWays 67 = .ok (.iaload, 1) := by decide +kernel
theorem dX8_layWays_68 : decode cX8_layWays 68 = .ok (.iload_n 3, 1) := by decide +kernel
theorem dX8_layWays_69 : decode cX8_layWays 69 = .ok (.if_icmp .ne 52, 3) := by decide +kernel
theorem dX8_layWays_72 : decode cX8_layWays 72 = .ok (.aload_n 0, 1) := by decide +kernel
theorem dX8_layWays_73 : decode cX8_layWays 73 = .ok (.getfield 35, 3) := by decide +kernel
theorem dX8_layWays_76 : decode cX8_layWays 76 = .ok (.iload 5, 2) := by decide +kernel
theorem dX8_layWays_78 : decode cX8_layWays 78 = .ok (.aload_n 0, 1) := by decide +kernel
theorem dX8_layWays_79 : decode cX8_layWays 79 = .ok (.getfield 35, 3) := by decide +kernel
theorem dX8_layWays_82 : decode cX8_layWays 82 = .ok (.iload 5, 2) := by decide +kernel
theorem dX8_layWays_84 : decode cX8_layWays 84 = .ok (.iaload, 1) := by decide +kernel
theorem dX8_layWays_85 : decode cX8_layWays 85 = .ok (.bipush (-9), 2) := by decide +kernel
theorem dX8_layWays_87 : decode cX8_layWays 87 = .ok (.if_icmp .ne 20, 3) := by decide +kernel
theorem dX8_layWays_90 : decode cX8_layWays 90 = .ok (.aload_n 1, 1) := by decide +kernel
theorem dX8_layWays_91 : decode cX8_layWays 91 = .ok (.iload 4, 2) := by decide +kernel
theorem dX8_layWays_93 : decode cX8_layWays 93 = .ok (.iload 5, 2) := by decide +kernel
theorem dX8_layWays_95 : decode cX8_layWays 95 = .ok (.invokestatic 90, 3) := by decide +kernel
theorem dX8_layWays_98 : decode cX8_layWays 98 = .ok (.ifCond .eq 9, 3) := by decide +kernel
theorem dX8_layWays_101 : decode cX8_layWays 101 = .ok (.iload_n 3, 1) := by decide +kernel
theorem dX8_layWays_102 : decode cX8_layWays 102 = .ok (.iconst 1, 1) := by decide +kernel
theorem dX8_layWays_103 : decode cX8_layWays 103 = .ok (.iadd, 1) := by decide +kernel
theorem dX8_layWays_104 : decode cX8_layWays 104 = .ok (.goto 10, 3) := by decide +kernel
theorem dX8_layWays_107 : decode cX8_layWays 107 = .ok (.aload_n 0, 1) := by decide +kernel
theorem dX8_layWays_108 : decode cX8_layWays 108 = .ok (.getfield 35, 3) := by decide +kernel
theorem dX8_layWays_111 : decode cX8_layWays 111 = .ok (.iload 5, 2) := by decide +kernel
theorem dX8_layWays_113 : decode cX8_layWays 113 = .ok (.iaload, 1) := by decide +kernel
theorem dX8_layWays_114 : decode cX8_layWays 114 = .ok (.iastore, 1) := by decide +kernel
theorem dX8_layWays_115 : decode cX8_layWays 115 = .ok (.iinc 5 1, 3) := by decide +kernel
theorem dX8_layWays_118 : decode cX8_layWays 118 = .ok (.goto (-65), 3) := by decide +kernel
theorem dX8_layWays_121 : decode cX8_layWays 121 = .ok (.iinc 4 1, 3) := by decide +kernel
theorem dX8_layWays_124 : decode cX8_layWays 124 = .ok (.goto (-82), 3) := by decide +kernel
theorem dX8_layWays_127 : decode cX8_layWays 127 = .ok (.iinc 3 1, 3) := by decide +kernel
theorem dX8_layWays_130 : decode cX8_layWays 130 = .ok (.goto (-97), 3) := by decide +kernel
theorem dX8_layWays_133 : decode cX8_layWays 133 = .ok (.return_, 1) := by decide +kernel
theorem dX8_hops_0 : decode cX8_hops 0 = .ok (.aload_n 0, 1) := by decide +kernel
theorem dX8_hops_1 : decode cX8_hops 1 = .ok (.aload_n 0, 1) := by decide +kernel
theorem dX8_hops_2 : decode cX8_hops 2 = .ok (.iload_n 1, 1) := by decide +kernel
theorem dX8_hops_3 : decode cX8_hops 3 = .ok (.invokevirtual 159, 3) := by decide +kernel
theorem dX8_hops_6 : decode cX8_hops 6 = .ok (.ifCond .eq 15, 3) := by decide +kernel
theorem dX8_hops_9 : decode cX8_hops 9 = .ok (.aload_n 0, 1) := by decide +kernel
theorem dX8_hops_10 : decode cX8_hops 10 = .ok (.iload_n 2, 1) := by decide +kernel
theorem dX8_hops_11 : decode cX8_hops 11 = .ok (.invokevirtual 159, 3) := by decide +kernel
theorem dX8_hops_14 : decode cX8_hops 14 = .ok (.ifCond .eq 7, 3) := by decide +kernel
theorem dX8_hops_17 : decode cX8_hops 17 = .ok (.iconst 0, 1) := by decide +kernel
theorem dX8_hops_18 : decode cX8_hops 18 = .ok (.goto 4, 3) := by decide +kernel
theorem dX8_hops_21 : decode cX8_hops 21 = .ok (.iconst 1, 1) := by decide +kernel
theorem dX8_hops_22 : decode cX8_hops 22 = .ok (.invokevirtual 126, 3) := by decide +kernel
theorem dX8_hops_25 : decode cX8_hops 25 = .ok (.ifCond .eq 5, 3) := by decide +kernel
theorem dX8_hops_28 : decode cX8_hops 28 = .ok (.iconst 0, 1) := by decide +kernel
theorem dX8_hops_29 : decode cX8_hops 29 = .ok (.ireturn, 1) := by decide +kernel
theorem dX8_hops_30 : decode cX8_hops 30 = .ok (.aload_n 0, 1) := by decide +kernel
theorem dX8_hops_31 : decode cX8_hops 31 = .ok (.aload_n 0, 1) := by decide +kernel
theorem dX8_hops_32 : decode cX8_hops 32 = .ok (.getfield 16, 3) := by decide +kernel
theorem dX8_hops_35 : decode cX8_hops 35 = .ok (.iload_n 1, 1) := by decide +kernel
theorem dX8_hops_36 : decode cX8_hops 36 = .ok (.invokevirtual 202, 3) := by decide +kernel
theorem dX8_hops_39 : decode cX8_hops 39 = .ok (.aload_n 0, 1) := by decide +kernel
theorem dX8_hops_40 : decode cX8_hops 40 = .ok (.getfield 35, 3) := by decide +kernel
theorem dX8_hops_43 : decode cX8_hops 43 = .ok (.iload_n 2, 1) := by decide +kernel
theorem dX8_hops_44 : decode cX8_hops 44 = .ok (.iaload, 1) := by decide +kernel
theorem dX8_hops_45 : decode cX8_hops 45 = .ok (.ireturn, 1) := by decide +kernel
theorem dX8_groupsOf_0 : decode cX8_groupsOf 0 = .ok (.iconst 0, 1) := by decide +kernel
theorem dX8_groupsOf_1 : decode cX8_groupsOf 1 = .ok (.istore_n 2, 1) := by decide +kernel
theorem dX8_groupsOf_2 : decode cX8_groupsOf 2 = .ok (.iconst 0, 1) := by decide +kernel
theorem dX8_groupsOf_3 : decode cX8_groupsOf 3 = .ok (.istore_n 3, 1) := by decide +kernel
theorem dX8_groupsOf_4 : decode cX8_groupsOf 4 = .ok (.iconst 0, 1) := by decide +kernel
theorem dX8_groupsOf_5 : decode cX8_groupsOf 5 = .ok (.istore 4, 2) := by decide +kernel
theorem dX8_groupsOf_7 : decode cX8_groupsOf 7 = .ok (.iload 4, 2) := by decide +kernel
theorem dX8_groupsOf_9 : decode cX8_groupsOf 9 = .ok (.aload_n 1, 1) := by decide +kernel
theorem dX8_groupsOf_10 : decode cX8_groupsOf 10 = .ok (.iconst 0, 1) := by decide +kernel
theorem dX8_groupsOf_11 : decode cX8_groupsOf 11 = .ok (.iaload, 1) := by decide +kernel
theorem dX8_groupsOf_12 : decode cX8_groupsOf 12 = .ok (.if_icmp .ge 77, 3) := by decide +kernel
theorem dX8_groupsOf_15 : decode cX8_groupsOf 15 = .ok (.aload_n 1, 1) := by decide +kernel
theorem dX8_groupsOf_16 : decode cX8_groupsOf 16 = .ok (.iload 4, 2) := by decide +kernel
theorem dX8_groupsOf_18 : decode cX8_groupsOf 18 = .ok (.invokestatic 71, 3) := by decide +kernel
theorem dX8_groupsOf_21 : decode cX8_groupsOf 21 = .ok (.ifCond .eq 62, 3) := by decide +kernel
theorem dX8_groupsOf_24 : decode cX8_groupsOf 24 = .ok (.iload_n 2, 1) := by decide +kernel
theorem dX8_groupsOf_25 : decode cX8_groupsOf 25 = .ok (.iload 4, 2) := by decide +kernel
theorem dX8_groupsOf_27 : decode cX8_groupsOf 27 = .ok (.ishr, 1) := by decide +kernel
theorem dX8_groupsOf_28 : decode cX8_groupsOf 28 = .ok (.iconst 1, 1) := by decide +kernel
theorem dX8_groupsOf_29 : decode cX8_groupsOf 29 = .ok (.iand, 1) := by decide +kernel
theorem dX8_groupsOf_30 : decode cX8_groupsOf 30 = .ok (.ifCond .ne 53, 3) := by decide +kernel
theorem dX8_groupsOf_33 : decode cX8_groupsOf 33 = .ok (.iinc 3 1, 3) := by decide +kernel
theorem dX8_groupsOf_36 : decode cX8_groupsOf 36 = .ok (.aload_n 0, 1) := by decide +kernel
theorem dX8_groupsOf_37 : decode cX8_groupsOf 37 = .ok (.aload_n 1, 1) := by decide +kernel
theorem dX8_groupsOf_38 : decode cX8_groupsOf 38 = .ok (.iload 4, 2) := by decide +kernel
theorem dX8_groupsOf_40 : decode cX8_groupsOf 40 = .ok (.invokevirtual 202, 3) := by decide +kernel
theorem dX8_groupsOf_43 : decode cX8_groupsOf 43 = .ok (.iconst 0, 1) := by decide +kernel
theorem dX8_groupsOf_44 : decode cX8_groupsOf 44 = .ok (.istore 5, 2) := by decide +kernel
theorem dX8_groupsOf_46 : decode cX8_groupsOf 46 = .ok (.iload 5, 2) := by decide +kernel
theorem dX8_groupsOf_48 : decode cX8_groupsOf 48 = .ok (.aload_n 1, 1) := by decide +kernel
theorem dX8_groupsOf_49 : decode cX8_groupsOf 49 = .ok (.iconst 0, 1) := by decide +kernel
theorem dX8_groupsOf_50 : decode cX8_groupsOf 50 = .ok (.iaload, 1) := by decide +kernel
theorem dX8_groupsOf_51 : decode cX8_groupsOf 51 = .ok (.if_icmp .ge 32, 3) := by decide +kernel
theorem dX8_groupsOf_54 : decode cX8_groupsOf 54 = .ok (.iload_n 2, 1) := by decide +kernel
theorem dX8_groupsOf_55 : decode cX8_groupsOf 55 = .ok (.aload_n 0, 1) := by decide +kernel
theorem dX8_groupsOf_56 : decode cX8_groupsOf 56 = .ok (.getfield 35, 3) := by decide +kernel
theorem dX8_groupsOf_59 : decode cX8_groupsOf 59 = .ok (.iload 5, 2) := by decide +kernel
theorem dX8_groupsOf_61 : decode cX8_groupsOf 61 = .ok (.iaload, 1) := by decide +kernel
theorem dX8_groupsOf_62 : decode cX8_groupsOf 62 = .ok (.bipush (-9), 2) := by decide +kernel
theorem dX8_groupsOf_64 : decode cX8_groupsOf 64 = .ok (.if_icmp .ne 7, 3) := by decide +kernel
theorem dX8_groupsOf_67 : decode cX8_groupsOf 67 = .ok (.iconst 0, 1) := by decide +kernel
theorem dX8_groupsOf_68 : decode cX8_groupsOf 68 = .ok (.goto 7, 3) := by decide +kernel
theorem dX8_groupsOf_71 : decode cX8_groupsOf 71 = .ok (.iconst 1, 1) := by decide +kernel
theorem dX8_groupsOf_72 : decode cX8_groupsOf 72 = .ok (.iload 5, 2) := by decide +kernel
theorem dX8_groupsOf_74 : decode cX8_groupsOf 74 = .ok (.ishl, 1) := by decide +kernel
theorem dX8_groupsOf_75 : decode cX8_groupsOf 75 = .ok (.ior, 1) := by decide +kernel
theorem dX8_groupsOf_76 : decode cX8_groupsOf 76 = .ok (.istore_n 2, 1) := by decide +kernel
theorem dX8_groupsOf_77 : decode cX8_groupsOf 77 = .ok (.iinc 5 1, 3) := by decide +kernel
theorem dX8_groupsOf_80 : decode cX8_groupsOf 80 = .ok (.goto (-34), 3) := by decide +kernel
theorem dX8_groupsOf_83 : decode cX8_groupsOf 83 = .ok (.iinc 4 1, 3) := by decide +kernel
theorem dX8_groupsOf_86 : decode cX8_groupsOf 86 = .ok (.goto (-79), 3) := by decide +kernel
theorem dX8_groupsOf_89 : decode cX8_groupsOf 89 = .ok (.iload_n 3, 1) := by decide +kernel
theorem dX8_groupsOf_90 : decode cX8_groupsOf 90 = .ok (.ireturn, 1) := by decide +kernel
theorem dX8_groups_0 : decode cX8_groups 0 = .ok (.aload_n 0, 1) := by decide +kernel
theorem dX8_groups_1 : decode cX8_groups 1 = .ok (.iconst 0, 1) := by decide +kernel
theorem dX8_groups_2 : decode cX8_groups 2 = .ok (.putfield 44, 3) := by decide +kernel
theorem dX8_groups_5 : decode cX8_groups 5 = .ok (.aload_n 0, 1) := by decide +kernel
theorem dX8_groups_6 : decode cX8_groups 6 = .ok (.aload_n 0, 1) := by decide +kernel
theorem dX8_groups_7 : decode cX8_groups 7 = .ok (.getfield 16, 3) := by decide +kernel
theorem dX8_groups_10 : decode cX8_groups 10 = .ok (.invokevirtual 205, 3) := by decide +kernel
theorem dX8_groups_13 : decode cX8_groups 13 = .ok (.ireturn, 1) := by decide +kernel
theorem dX8_setRanges_0 : decode cX8_setRanges 0 = .ok (.iconst 0, 1) := by decide +kernel
theorem dX8_setRanges_1 : decode cX8_setRanges 1 = .ok (.istore_n 3, 1) := by decide +kernel
theorem dX8_setRanges_2 : decode cX8_setRanges 2 = .ok (.iload_n 3, 1) := by decide +kernel
theorem dX8_setRanges_3 : decode cX8_setRanges 3 = .ok (.aload_n 1, 1) := by decide +kernel
theorem dX8_setRanges_4 : decode cX8_setRanges 4 = .ok (.iconst 0, 1) := by decide +kernel
theorem dX8_setRanges_5 : decode cX8_setRanges 5 = .ok (.iaload, 1) := by decide +kernel
theorem dX8_setRanges_6 : decode cX8_setRanges 6 = .ok (.if_icmp .ge 18, 3) := by decide +kernel
theorem dX8_setRanges_9 : decode cX8_setRanges 9 = .ok (.aload_n 1, 1) := by decide +kernel
theorem dX8_setRanges_10 : decode cX8_setRanges 10 = .ok (.iload_n 3, 1) := by decide +kernel
theorem dX8_setRanges_11 : decode cX8_setRanges 11 = .ok (.invokestatic 61, 3) := by decide +kernel
theorem dX8_setRanges_14 : decode cX8_setRanges 14 = .ok (.iconst 2, 1) := by decide +kernel
theorem dX8_setRanges_15 : decode cX8_setRanges 15 = .ok (.iadd, 1) := by decide +kernel
theorem dX8_setRanges_16 : decode cX8_setRanges 16 = .ok (.iload_n 2, 1) := by decide +kernel
theorem dX8_setRanges_17 : decode cX8_setRanges 17 = .ok (.iastore, 1) := by decide +kernel
theorem dX8_setRanges_18 : decode cX8_setRanges 18 = .ok (.iinc 3 1, 3) := by decide +kernel
theorem dX8_setRanges_21 : decode cX8_setRanges 21 = .ok (.goto (-19), 3) := by decide +kernel
theorem dX8_setRanges_24 : decode cX8_setRanges 24 = .ok (.return_, 1) := by decide +kernel
theorem dX8_rangeNeeded_0 : decode cX8_rangeNeeded 0 = .ok (.aload_n 0, 1) := by decide +kernel
theorem dX8_rangeNeeded_1 : decode cX8_rangeNeeded 1 = .ok (.iconst 0, 1) := by decide +kernel
theorem dX8_rangeNeeded_2 : decode cX8_rangeNeeded 2 = .ok (.putfield 44, 3) := by decide +kernel
theorem dX8_rangeNeeded_5 : decode cX8_rangeNeeded 5 = .ok (.aload_n 0, 1) := by decide +kernel
theorem dX8_rangeNeeded_6 : decode cX8_rangeNeeded 6 = .ok (.getfield 16, 3) := by decide +kernel
theorem dX8_rangeNeeded_9 : decode cX8_rangeNeeded 9 = .ok (.iconst 0, 1) := by decide +kernel
theorem dX8_rangeNeeded_10 : decode cX8_rangeNeeded 10 = .ok (.aload_n 0, 1) := by decide +kernel
theorem dX8_rangeNeeded_11 : decode cX8_rangeNeeded 11 = .ok (.getfield 19, 3) := by decide +kernel
theorem dX8_rangeNeeded_14 : decode cX8_rangeNeeded 14 = .ok (.iconst 0, 1) := by decide +kernel
theorem dX8_rangeNeeded_15 : decode cX8_rangeNeeded 15 = .ok (.sipush 264, 3) := by decide +kernel
theorem dX8_rangeNeeded_18 : decode cX8_rangeNeeded 18 = .ok (.invokestatic 53, 3) := by decide +kernel
theorem dX8_rangeNeeded_21 : decode cX8_rangeNeeded 21 = .ok (.iconst 0, 1) := by decide +kernel
theorem dX8_rangeNeeded_22 : decode cX8_rangeNeeded 22 = .ok (.istore_n 1, 1) := by decide +kernel
theorem dX8_rangeNeeded_23 : decode cX8_rangeNeeded 23 = .ok (.aload_n 0, 1) := by decide +kernel
theorem dX8_rangeNeeded_24 : decode cX8_rangeNeeded 24 = .ok (.aload_n 0, 1) := by decide +kernel
theorem dX8_rangeNeeded_25 : decode cX8_rangeNeeded 25 = .ok (.getfield 19, 3) := by decide +kernel
theorem dX8_rangeNeeded_28 : decode cX8_rangeNeeded 28 = .ok (.iload_n 1, 1) := by decide +kernel
theorem dX8_rangeNeeded_29 : decode cX8_rangeNeeded 29 = .ok (.invokevirtual 208, 3) := by decide +kernel
theorem dX8_rangeNeeded_32 : decode cX8_rangeNeeded 32 = .ok (.aload_n 0, 1) := by decide +kernel
theorem dX8_rangeNeeded_33 : decode cX8_rangeNeeded 33 = .ok (.aload_n 0, 1) := by decide +kernel
theorem dX8_rangeNeeded_34 : decode cX8_rangeNeeded 34 = .ok (.getfield 19, 3) := by decide +kernel
theorem dX8_rangeNeeded_37 : decode cX8_rangeNeeded 37 = .ok (.invokevirtual 205, 3) := by decide +kernel
theorem dX8_rangeNeeded_40 : decode cX8_rangeNeeded 40 = .ok (.iconst 1, 1) := by decide +kernel
theorem dX8_rangeNeeded_41 : decode cX8_rangeNeeded 41 = .ok (.if_icmp .le 18, 3) := by decide +kernel
theorem dX8_rangeNeeded_44 : decode cX8_rangeNeeded 44 = .ok (.iinc 1 1, 3) := by decide +kernel
theorem dX8_rangeNeeded_47 : decode cX8_rangeNeeded 47 = .ok (.aload_n 0, 1) := by decide +kernel
theorem dX8_rangeNeeded_48 : decode cX8_rangeNeeded 48 = .ok (.aload_n 0, 1) := by decide +kernel
theorem dX8_rangeNeeded_49 : decode cX8_rangeNeeded 49 = .ok (.getfield 19, 3) := by decide +kernel
theorem dX8_rangeNeeded_52 : decode cX8_rangeNeeded 52 = .ok (.iload_n 1, 1) := by decide +kernel
theorem dX8_rangeNeeded_53 : decode cX8_rangeNeeded 53 = .ok (.invokevirtual 208, 3) := by decide +kernel
theorem dX8_rangeNeeded_56 : decode cX8_rangeNeeded 56 = .ok (.goto (-24), 3) := by decide +kernel
theorem dX8_rangeNeeded_59 : decode cX8_rangeNeeded 59 = .ok (.iload_n 1, 1) := by decide +kernel
theorem dX8_rangeNeeded_60 : decode cX8_rangeNeeded 60 = .ok (.ireturn, 1) := by decide +kernel
theorem dX8_doubles_0 : decode cX8_doubles 0 = .ok (.iconst 0, 1) := by decide +kernel
theorem dX8_doubles_1 : decode cX8_doubles 1 = .ok (.istore_n 1, 1) := by decide +kernel
theorem dX8_doubles_2 : decode cX8_doubles 2 = .ok (.iconst 0, 1) := by decide +kernel
theorem dX8_doubles_3 : decode cX8_doubles 3 = .ok (.istore_n 2, 1) := by decide +kernel
theorem dX8_doubles_4 : decode cX8_doubles 4 = .ok (.iload_n 2, 1) := by decide +kernel
theorem dX8_doubles_5 : decode cX8_doubles 5 = .ok (.aload_n 0, 1) := by decide +kernel
theorem dX8_doubles_6 : decode cX8_doubles 6 = .ok (.iconst 1, 1) := by decide +kernel
theorem dX8_doubles_7 : decode cX8_doubles 7 = .ok (.iaload, 1) := by decide +kernel
theorem dX8_doubles_8 : decode cX8_doubles 8 = .ok (.if_icmp .ge 31, 3) := by decide +kernel
theorem dX8_doubles_11 : decode cX8_doubles 11 = .ok (.aload_n 0, 1) := by decide +kernel
theorem dX8_doubles_12 : decode cX8_doubles 12 = .ok (.iload_n 2, 1) := by decide +kernel
theorem dX8_doubles_13 : decode cX8_doubles 13 = .ok (.invokestatic 167, 3) := by decide +kernel
theorem dX8_doubles_16 : decode cX8_doubles 16 = .ok (.istore_n 3, 1) := by decide +kernel
theorem dX8_doubles_17 : decode cX8_doubles 17 = .ok (.iload_n 1, 1) := by decide +kernel
theorem dX8_doubles_18 : decode cX8_doubles 18 = .ok (.iload_n 3, 1) := by decide +kernel
theorem dX8_doubles_19 : decode cX8_doubles 19 = .ok (.iload_n 3, 1) := by decide +kernel
theorem dX8_doubles_20 : decode cX8_doubles 20 = .ok (.iconst 1, 1) := by decide +kernel
theorem dX8_doubles_21 : decode cX8_doubles 21 = .ok (.isub, 1) := by decide +kernel
theorem dX8_doubles_22 : decode cX8_doubles 22 = .ok (.iand, 1) := by decide +kernel
theorem dX8_doubles_23 : decode cX8_doubles 23 = .ok (.ifCond .eq 7, 3) := by decide +kernel
theorem dX8_doubles_26 : decode cX8_doubles 26 = .ok (.iconst 1, 1) := by decide +kernel
theorem dX8_doubles_27 : decode cX8_doubles 27 = .ok (.goto 4, 3) := by decide +kernel
theorem dX8_doubles_30 : decode cX8_doubles 30 = .ok (.iconst 0, 1) := by decide +kernel
theorem dX8_doubles_31 : decode cX8_doubles 31 = .ok (.iadd, 1) := by decide +kernel
theorem dX8_doubles_32 : decode cX8_doubles 32 = .ok (.istore_n 1, 1) := by decide +kernel
theorem dX8_doubles_33 : decode cX8_doubles 33 = .ok (.iinc 2 1, 3) := by decide +kernel
theorem dX8_doubles_36 : decode cX8_doubles 36 = .ok (.goto (-32), 3) := by decide +kernel
theorem dX8_doubles_39 : decode cX8_doubles 39 = .ok (.iload_n 1, 1) := by decide +kernel
theorem dX8_doubles_40 : decode cX8_doubles 40 = .ok (.ireturn, 1) := by decide +kernel
theorem dX8_conflicts_0 : decode cX8_conflicts 0 = .ok (.aload_n 0, 1) := by decide +kernel
theorem dX8_conflicts_1 : decode cX8_conflicts 1 = .ok (.iload_n 1, 1) := by decide +kernel
theorem dX8_conflicts_2 : decode cX8_conflicts 2 = .ok (.i2l, 1) := by decide +kernel
theorem dX8_conflicts_3 : decode cX8_conflicts 3 = .ok (.lconst 0, 1) := by decide +kernel
theorem dX8_conflicts_4 : decode cX8_conflicts 4 = .ok (.ldc2_w 211, 3) := by decide +kernel
theorem dX8_conflicts_7 : decode cX8_conflicts 7 = .ok (.invokestatic 57, 3) := by decide +kernel
theorem dX8_conflicts_10 : decode cX8_conflicts 10 = .ok (.ifCond .eq 7, 3) := by decide +kernel
theorem dX8_conflicts_13 : decode cX8_conflicts 13 = .ok (.iconst 0, 1) := by decide +kernel
theorem dX8_conflicts_14 : decode cX8_conflicts 14 = .ok (.goto 4, 3) := by decide +kernel
theorem dX8_conflicts_17 : decode cX8_conflicts 17 = .ok (.iconst 1, 1) := by decide +kernel
theorem dX8_conflicts_18 : decode cX8_conflicts 18 = .ok (.invokevirtual 126, 3) := by decide +kernel
theorem dX8_conflicts_21 : decode cX8_conflicts 21 = .ok (.ifCond .eq 5, 3) := by decide +kernel
theorem dX8_conflicts_24 : decode cX8_conflicts 24 = .ok (.iconst 0, 1) := by decide +kernel
theorem dX8_conflicts_25 : decode cX8_conflicts 25 = .ok (.ireturn, 1) := by decide +kernel
theorem dX8_conflicts_26 : decode cX8_conflicts 26 = .ok (.iload_n 1, 1) := by decide +kernel
theorem dX8_conflicts_27 : decode cX8_conflicts 27 = .ok (.ifCond .ne 11, 3) := by decide +kernel
theorem dX8_conflicts_30 : decode cX8_conflicts 30 = .ok (.aload_n 0, 1) := by decide +kernel
theorem dX8_conflicts_31 : decode cX8_conflicts 31 = .ok (.getfield 16, 3) := by decide +kernel
theorem dX8_conflicts_34 : decode cX8_conflicts 34 = .ok (.invokestatic 213, 3) := by decide +kernel
theorem dX8_conflicts_37 : decode cX8_conflicts 37 = .ok (.ireturn, 1) := by decide +kernel
theorem dX8_conflicts_38 : decode cX8_conflicts 38 = .ok (.iconst 0, 1) := by decide +kernel
theorem dX8_conflicts_39 : decode cX8_conflicts 39 = .ok (.istore_n 2, 1) := by decide +kernel
theorem dX8_conflicts_40 : decode cX8_conflicts 40 = .ok (.iconst 0, 1) := by decide +kernel
theorem dX8_conflicts_41 : decode cX8_conflicts 41 = .ok (.istore_n 3, 1) := by decide +kernel
theorem dX8_conflicts_42 : decode cX8_conflicts 42 = .ok (.iload_n 3, 1) := by decide +kernel
theorem dX8_conflicts_43 : decode cX8_conflicts 43 = .ok (.aload_n 0, 1) := by decide +kernel
theorem dX8_conflicts_44 : decode cX8_conflicts 44 = .ok (.getfield 16, 3) := by decide +kernel
theorem dX8_conflicts_47 : decode cX8_conflicts 47 = .ok (.iconst 0, 1) := by decide +kernel
theorem dX8_conflicts_48 : decode cX8_conflicts 48 = .ok (.iaload, 1) := by decide +kernel
theorem dX8_conflicts_49 : decode cX8_conflicts 49 = .ok (.if_icmp .ge 134, 3) := by decide +kernel
theorem dX8_conflicts_52 : decode cX8_conflicts 52 = .ok (.iconst 0, 1) := by decide +kernel
theorem dX8_conflicts_53 : decode cX8_conflicts 53 = .ok (.istore 4, 2) := by decide +kernel
theorem dX8_conflicts_55 : decode cX8_conflicts 55 = .ok (.iload 4, 2) := by decide +kernel
theorem dX8_conflicts_57 : decode cX8_conflicts 57 = .ok (.aload_n 0, 1) := by decide +kernel
theorem dX8_conflicts_58 : decode cX8_conflicts 58 = .ok (.getfield 16, 3) := by decide +kernel
theorem dX8_conflicts_61 : decode cX8_conflicts 61 = .ok (.iconst 1, 1) := by decide +kernel
theorem dX8_conflicts_62 : decode cX8_conflicts 62 = .ok (.iaload, 1) := by decide +kernel
theorem dX8_conflicts_63 : decode cX8_conflicts 63 = .ok (.if_icmp .ge 114, 3) := by decide +kernel
theorem dX8_conflicts_66 : decode cX8_conflicts 66 = .ok (.aload_n 0, 1) := by decide +kernel
theorem dX8_conflicts_67 : decode cX8_conflicts 67 = .ok (.getfield 16, 3) := by decide +kernel
theorem dX8_conflicts_70 : decode cX8_conflicts 70 = .ok (.iload_n 3, 1) := by decide +kernel
theorem dX8_conflicts_71 : decode cX8_conflicts 71 = .ok (.invokestatic 71, 3) := by decide +kernel
theorem dX8_conflicts_74 : decode cX8_conflicts 74 = .ok (.ifCond .eq 103, 3) := by decide +kernel
theorem dX8_conflicts_77 : decode cX8_conflicts 77 = .ok (.iload_n 3, 1) := by decide +kernel
theorem dX8_conflicts_78 : decode cX8_conflicts 78 = .ok (.iload 4, 2) := by decide +kernel
theorem dX8_conflicts_80 : decode cX8_conflicts 80 = .ok (.invokestatic 83, 3) := by decide +kernel
theorem dX8_conflicts_83 : decode cX8_conflicts 83 = .ok (.istore 5, 2) := by decide +kernel
theorem dX8_conflicts_85 : decode cX8_conflicts 85 = .ok (.iload_n 1, 1) := by decide +kernel
theorem dX8_conflicts_86 : decode cX8_conflicts 86 = .ok (.iconst 1, 1) := by decide +kernel
theorem dX8_conflicts_87 : decode cX8_conflicts 87 = .ok (.if_icmp .ne 39, 3) := by decide +kernel
theorem dX8_conflicts_90 : decode cX8_conflicts 90 = .ok (.iload_n 2, 1) := by decide +kernel
theorem dX8_conflicts_91 : decode cX8_conflicts 91 = .ok (.aload_n 0, 1) := by decide +kernel
theorem dX8_conflicts_92 : decode cX8_conflicts 92 = .ok (.getfield 16, 3) := by decide +kernel
theorem dX8_conflicts_95 : decode cX8_conflicts 95 = .ok (.iload 4, 2) := by decide +kernel
theorem dX8_conflicts_97 : decode cX8_conflicts 97 = .ok (.invokestatic 107, 3) := by decide +kernel
theorem dX8_conflicts_100 : decode cX8_conflicts 100 = .ok (.ifCond .eq 20, 3) := by decide +kernel
theorem dX8_conflicts_103 : decode cX8_conflicts 103 = .ok (.aload_n 0, 1) := by decide +kernel
theorem dX8_conflicts_104 : decode cX8_conflicts 104 = .ok (.getfield 16, 3) := by decide +kernel
theorem dX8_conflicts_107 : decode cX8_conflicts 107 = .ok (.iload 5, 2) := by decide +kernel
theorem dX8_conflicts_109 : decode cX8_conflicts 109 = .ok (.iconst 0, 1) := by decide +kernel
theorem dX8_conflicts_110 : decode cX8_conflicts 110 = .ok (.iadd, 1) := by decide +kernel
theorem dX8_conflicts_111 : decode cX8_conflicts 111 = .ok (.iaload, 1) := by decide +kernel
theorem dX8_conflicts_112 : decode cX8_conflicts 112 = .ok (.iconst 2, 1) := by decide +kernel
theorem dX8_conflicts_113 : decode cX8_conflicts 113 = .ok (.if_icmp .eq 7, 3) := by decide +kernel
theorem dX8_conflicts_116 : decode cX8_conflicts 116 = .ok (.iconst 1, 1) := by decide +kernel
theorem dX8_conflicts_117 : decode cX8_conflicts 117 = .ok (.goto 4, 3) := by decide +kernel
theorem dX8_conflicts_120 : decode cX8_conflicts 120 = .ok (.iconst 0, 1) := by decide +kernel
theorem dX8_conflicts_121 : decode cX8_conflicts 121 = .ok (.iadd, 1) := by decide +kernel
theorem dX8_conflicts_122 : decode cX8_conflicts 122 = .ok (.istore_n 2, 1) := by decide +kernel
theorem dX8_conflicts_123 : decode cX8_conflicts 123 = .ok (.goto 48, 3) := by decide +kernel
theorem dX8_conflicts_126 : decode cX8_conflicts 126 = .ok (.iload_n 2, 1) := by decide +kernel
theorem dX8_conflicts_127 : decode cX8_conflicts 127 = .ok (.aload_n 0, 1) := by decide +kernel
theorem dX8_conflicts_128 : decode cX8_conflicts 128 = .ok (.getfield 16, 3) := by decide +kernel
theorem dX8_conflicts_131 : decode cX8_conflicts 131 = .ok (.iload 5, 2) := by decide +kernel
theorem dX8_conflicts_133 : decode cX8_conflicts 133 = .ok (.aload_n 0, 1) := by decide +kernel
theorem dX8_conflicts_134 : decode cX8_conflicts 134 = .ok (.getfield 16, 3) := by decide +kernel
theorem dX8_conflicts_137 : decode cX8_conflicts 137 = .ok (.iconst 2, 1) := by decide +kernel
theorem dX8_conflicts_138 : decode cX8_conflicts 138 = .ok (.iaload, 1) := by decide +kernel
theorem dX8_conflicts_139 : decode cX8_conflicts 139 = .ok (.invokestatic 79, 3) := by decide +kernel
theorem dX8_conflicts_142 : decode cX8_conflicts 142 = .ok (.ifCond .eq 26, 3) := by decide +kernel
theorem dX8_conflicts_145 : decode cX8_conflicts 145 = .ok (.aload_n 0, 1) := by decide +kernel
theorem dX8_conflicts_146 : decode cX8_conflicts 146 = .ok (.getfield 16, 3) := by decide +kernel
theorem dX8_conflicts_149 : decode cX8_conflicts 149 = .ok (.aload_n 0, 1) := by decide +kernel
theorem dX8_conflicts_150 : decode cX8_conflicts 150 = .ok (.getfield 16, 3) := by decide +kernel
theorem dX8_conflicts_153 : decode cX8_conflicts 153 = .ok (.iload 5, 2) := by decide +kernel
theorem dX8_conflicts_155 : decode cX8_conflicts 155 = .ok (.iconst 1, 1) := by decide +kernel
theorem dX8_conflicts_156 : decode cX8_conflicts 156 = .ok (.iadd, 1) := by decide +kernel
theorem dX8_conflicts_157 : decode cX8_conflicts 157 = .ok (.iaload, 1) := by decide +kernel
theorem dX8_conflicts_158 : decode cX8_conflicts 158 = .ok (.invokestatic 71, 3) := by decide +kernel
theorem dX8_conflicts_161 : decode cX8_conflicts 161 = .ok (.ifCond .ne 7, 3) := by decide +kernel
theorem dX8_conflicts_164 : decode cX8_conflicts 164 = .ok (.iconst 1, 1) := by decide +kernel
theorem dX8_conflicts_165 : decode cX8_conflicts 165 = .ok (.goto 4, 3) := by decide +kernel
theorem dX8_conflicts_168 : decode cX8_conflicts 168 = .ok (.iconst 0, 1) := by decide +kernel
theorem dX8_conflicts_169 : decode cX8_conflicts 169 = .ok (.iadd, 1) := by decide +kernel
theorem dX8_conflicts_170 : decode cX8_conflicts 170 = .ok (.istore_n 2, 1) := by decide +kernel
theorem dX8_conflicts_171 : decode cX8_conflicts 171 = .ok (.iinc 4 1, 3) := by decide +kernel
theorem dX8_conflicts_174 : decode cX8_conflicts 174 = .ok (.goto (-119), 3) := by decide +kernel
theorem dX8_conflicts_177 : decode cX8_conflicts 177 = .ok (.iinc 3 1, 3) := by decide +kernel
theorem dX8_conflicts_180 : decode cX8_conflicts 180 = .ok (.goto (-138), 3) := by decide +kernel
theorem dX8_conflicts_183 : decode cX8_conflicts 183 = .ok (.iload_n 2, 1) := by decide +kernel
theorem dX8_conflicts_184 : decode cX8_conflicts 184 = .ok (.ireturn, 1) := by decide +kernel
theorem dX8_finishedAfter_0 : decode cX8_finishedAfter 0 = .ok (.aload_n 0, 1) := by decide +kernel
theorem dX8_finishedAfter_1 : decode cX8_finishedAfter 1 = .ok (.iload_n 1, 1) := by decide +kernel
theorem dX8_finishedAfter_2 : decode cX8_finishedAfter 2 = .ok (.i2l, 1) := by decide +kernel
theorem dX8_finishedAfter_3 : decode cX8_finishedAfter 3 = .ok (.lconst 0, 1) := by decide +kernel
theorem dX8_finishedAfter_4 : decode cX8_finishedAfter 4 = .ok (.ldc2_w 216, 3) := by decide +kernel
theorem dX8_finishedAfter_7 : decode cX8_finishedAfter 7 = .ok (.invokestatic 57, 3) := by decide +kernel
theorem dX8_finishedAfter_10 : decode cX8_finishedAfter 10 = .ok (.ifCond .eq 7, 3) := by decide +kernel
theorem dX8_finishedAfter_13 : decode cX8_finishedAfter 13 = .ok (.iconst 0, 1) := by decide +kernel
theorem dX8_finishedAfter_14 : decode cX8_finishedAfter 14 = .ok (.goto 4, 3) := by decide +kernel
theorem dX8_finishedAfter_17 : decode cX8_finishedAfter 17 = .ok (.iconst 1, 1) := by decide +kernel
theorem dX8_finishedAfter_18 : decode cX8_finishedAfter 18 = .ok (.invokevirtual 126, 3) := by decide +kernel
theorem dX8_finishedAfter_21 : decode cX8_finishedAfter 21 = .ok (.ifCond .eq 5, 3) := by decide +kernel
theorem dX8_finishedAfter_24 : decode cX8_finishedAfter 24 = .ok (.iconst 0, 1) := by decide +kernel
theorem dX8_finishedAfter_25 : decode cX8_finishedAfter 25 = .ok (.ireturn, 1) := by decide +kernel
theorem dX8_finishedAfter_26 : decode cX8_finishedAfter 26 = .ok (.aload_n 0, 1) := by decide +kernel
theorem dX8_finishedAfter_27 : decode cX8_finishedAfter 27 = .ok (.getfield 16, 3) := by decide +kernel
theorem dX8_finishedAfter_30 : decode cX8_finishedAfter 30 = .ok (.iconst 0, 1) := by decide +kernel
theorem dX8_finishedAfter_31 : decode cX8_finishedAfter 31 = .ok (.aload_n 0, 1) := by decide +kernel
theorem dX8_finishedAfter_32 : decode cX8_finishedAfter 32 = .ok (.getfield 19, 3) := by decide +kernel
theorem dX8_finishedAfter_35 : decode cX8_finishedAfter 35 = .ok (.iconst 0, 1) := by decide +kernel
theorem dX8_finishedAfter_36 : decode cX8_finishedAfter 36 = .ok (.sipush 264, 3) := by decide +kernel
theorem dX8_finishedAfter_39 : decode cX8_finishedAfter 39 = .ok (.invokestatic 53, 3) := by decide +kernel
theorem dX8_finishedAfter_42 : decode cX8_finishedAfter 42 = .ok (.iconst 0, 1) := by decide +kernel
theorem dX8_finishedAfter_43 : decode cX8_finishedAfter 43 = .ok (.istore_n 2, 1) := by decide +kernel
theorem dX8_finishedAfter_44 : decode cX8_finishedAfter 44 = .ok (.iload_n 2, 1) := by decide +kernel
theorem dX8_finishedAfter_45 : decode cX8_finishedAfter 45 = .ok (.sipush 150, 3) := by decide +kernel
theorem dX8_finishedAfter_48 : decode cX8_finishedAfter 48 = .ok (.if_icmp .gt 30, 3) := by decide +kernel
theorem dX8_finishedAfter_51 : decode cX8_finishedAfter 51 = .ok (.aload_n 0, 1) := by decide +kernel
theorem dX8_finishedAfter_52 : decode cX8_finishedAfter 52 = .ok (.getfield 19, 3) := by decide +kernel
theorem dX8_finishedAfter_55 : decode cX8_finishedAfter 55 = .ok (.invokestatic 152, 3) := by decide +kernel
theorem dX8_finishedAfter_58 : decode cX8_finishedAfter 58 = .ok (.iload_n 1, 1) := by decide +kernel
theorem dX8_finishedAfter_59 : decode cX8_finishedAfter 59 = .ok (.if_icmp .lt 5, 3) := by decide +kernel
theorem dX8_finishedAfter_62 : decode cX8_finishedAfter 62 = .ok (.iload_n 2, 1) := by decide +kernel
theorem dX8_finishedAfter_63 : decode cX8_finishedAfter 63 = .ok (.ireturn, 1) := by decide +kernel
theorem dX8_finishedAfter_64 : decode cX8_finishedAfter 64 = .ok (.aload_n 0, 1) := by decide +kernel
theorem dX8_finishedAfter_65 : decode cX8_finishedAfter 65 = .ok (.aload_n 0, 1) := by decide +kernel
theorem dX8_finishedAfter_66 : decode cX8_finishedAfter 66 = .ok (.getfield 19, 3) := by decide +kernel
theorem dX8_finishedAfter_69 : decode cX8_finishedAfter 69 = .ok (.invokevirtual 177, 3) := by decide +kernel
theorem dX8_finishedAfter_72 : decode cX8_finishedAfter 72 = .ok (.iinc 2 1, 3) := by decide +kernel
theorem dX8_finishedAfter_75 : decode cX8_finishedAfter 75 = .ok (.goto (-31), 3) := by decide +kernel
theorem dX8_finishedAfter_78 : decode cX8_finishedAfter 78 = .ok (.bipush (-9), 2) := by decide +kernel
theorem dX8_finishedAfter_80 : decode cX8_finishedAfter 80 = .ok (.ireturn, 1) := by decide +kernel
theorem dX8_isKnown_0 : decode cX8_isKnown 0 = .ok (.iconst 1, 1) := by decide +kernel
theorem dX8_isKnown_1 : decode cX8_isKnown 1 = .ok (.istore_n 2, 1) := by decide +kernel
theorem dX8_isKnown_2 : decode cX8_isKnown 2 = .ok (.iconst 0, 1) := by decide +kernel
theorem dX8_isKnown_3 : decode cX8_isKnown 3 = .ok (.istore_n 3, 1) := by decide +kernel
theorem dX8_isKnown_4 : decode cX8_isKnown 4 = .ok (.iload_n 3, 1) := by decide +kernel
theorem dX8_isKnown_5 : decode cX8_isKnown 5 = .ok (.aload_n 0, 1) := by decide +kernel
theorem dX8_isKnown_6 : decode cX8_isKnown 6 = .ok (.iconst 0, 1) := by decide +kernel
theorem dX8_isKnown_7 : decode cX8_isKnown 7 = .ok (.iaload, 1) := by decide +kernel
theorem dX8_isKnown_8 : decode cX8_isKnown 8 = .ok (.if_icmp .ge 40, 3) := by decide +kernel
theorem dX8_isKnown_11 : decode cX8_isKnown 11 = .ok (.iload_n 2, 1) := by decide +kernel
theorem dX8_isKnown_12 : decode cX8_isKnown 12 = .ok (.ifCond .eq 28, 3) := by decide +kernel
theorem dX8_isKnown_15 : decode cX8_isKnown 15 = .ok (.aload_n 0, 1) := by decide +kernel
theorem dX8_isKnown_16 : decode cX8_isKnown 16 = .ok (.iload_n 3, 1) := by decide +kernel
theorem dX8_isKnown_17 : decode cX8_isKnown 17 = .ok (.invokestatic 71, 3) := by decide +kernel
theorem dX8_isKnown_20 : decode cX8_isKnown 20 = .ok (.ifCond .eq 16, 3) := by decide +kernel
theorem dX8_isKnown_23 : decode cX8_isKnown 23 = .ok (.aload_n 0, 1) := by decide +kernel
theorem dX8_isKnown_24 : decode cX8_isKnown 24 = .ok (.iload_n 3, 1) := by decide +kernel
theorem dX8_isKnown_25 : decode cX8_isKnown 25 = .ok (.iload_n 1, 1) := by decide +kernel
theorem dX8_isKnown_26 : decode cX8_isKnown 26 = .ok (.invokestatic 83, 3) := by decide +kernel
theorem dX8_isKnown_29 : decode cX8_isKnown 29 = .ok (.iconst 0, 1) := by decide +kernel
theorem dX8_isKnown_30 : decode cX8_isKnown 30 = .ok (.iadd, 1) := by decide +kernel
theorem dX8_isKnown_31 : decode cX8_isKnown 31 = .ok (.iaload, 1) := by decide +kernel
theorem dX8_isKnown_32 : decode cX8_isKnown 32 = .ok (.iconst 2, 1) := by decide +kernel
theorem dX8_isKnown_33 : decode cX8_isKnown 33 = .ok (.if_icmp .ne 7, 3) := by decide +kernel
theorem dX8_isKnown_36 : decode cX8_isKnown 36 = .ok (.iconst 1, 1) := by decide +kernel
theorem dX8_isKnown_37 : decode cX8_isKnown 37 = .ok (.goto 4, 3) := by decide +kernel
theorem dX8_isKnown_40 : decode cX8_isKnown 40 = .ok (.iconst 0, 1) := by decide +kernel
theorem dX8_isKnown_41 : decode cX8_isKnown 41 = .ok (.istore_n 2, 1) := by decide +kernel
theorem dX8_isKnown_42 : decode cX8_isKnown 42 = .ok (.iinc 3 1, 3) := by decide +kernel
theorem dX8_isKnown_45 : decode cX8_isKnown 45 = .ok (.goto (-41), 3) := by decide +kernel
theorem dX8_isKnown_48 : decode cX8_isKnown 48 = .ok (.iload_n 2, 1) := by decide +kernel
theorem dX8_isKnown_49 : decode cX8_isKnown 49 = .ok (.ireturn, 1) := by decide +kernel
theorem dX8_knownAfter_0 : decode cX8_knownAfter 0 = .ok (.aload_n 0, 1) := by decide +kernel
theorem dX8_knownAfter_1 : decode cX8_knownAfter 1 = .ok (.aload_n 0, 1) := by decide +kernel
theorem dX8_knownAfter_2 : decode cX8_knownAfter 2 = .ok (.iload_n 1, 1) := by decide +kernel
theorem dX8_knownAfter_3 : decode cX8_knownAfter 3 = .ok (.invokevirtual 162, 3) := by decide +kernel
theorem dX8_knownAfter_6 : decode cX8_knownAfter 6 = .ok (.ifCond .eq 7, 3) := by decide +kernel
theorem dX8_knownAfter_9 : decode cX8_knownAfter 9 = .ok (.iconst 0, 1) := by decide +kernel
theorem dX8_knownAfter_10 : decode cX8_knownAfter 10 = .ok (.goto 4, 3) := by decide +kernel
theorem dX8_knownAfter_13 : decode cX8_knownAfter 13 = .ok (.iconst 1, 1) := by decide +kernel
theorem dX8_knownAfter_14 : decode cX8_knownAfter 14 = .ok (.invokevirtual 126, 3) := by decide +kernel
theorem dX8_knownAfter_17 : decode cX8_knownAfter 17 = .ok (.ifCond .eq 5, 3) := by decide +kernel
theorem dX8_knownAfter_20 : decode cX8_knownAfter 20 = .ok (.iconst 0, 1) := by decide +kernel
theorem dX8_knownAfter_21 : decode cX8_knownAfter 21 = .ok (.ireturn, 1) := by decide +kernel
theorem dX8_knownAfter_22 : decode cX8_knownAfter 22 = .ok (.aload_n 0, 1) := by decide +kernel
theorem dX8_knownAfter_23 : decode cX8_knownAfter 23 = .ok (.getfield 16, 3) := by decide +kernel
theorem dX8_knownAfter_26 : decode cX8_knownAfter 26 = .ok (.iconst 0, 1) := by decide +kernel
theorem dX8_knownAfter_27 : decode cX8_knownAfter 27 = .ok (.aload_n 0, 1) := by decide +kernel
theorem dX8_knownAfter_28 : decode cX8_knownAfter 28 = .ok (.getfield 19, 3) := by decide +kernel
theorem dX8_knownAfter_31 : decode cX8_knownAfter 31 = .ok (.iconst 0, 1) := by decide +kernel
theorem dX8_knownAfter_32 : decode cX8_knownAfter 32 = .ok (.sipush 264, 3) := by decide +kernel
theorem dX8_knownAfter_35 : decode cX8_knownAfter 35 = .ok (.invokestatic 53, 3) := by decide +kernel
theorem dX8_knownAfter_38 : decode cX8_knownAfter 38 = .ok (.iconst 0, 1) := by decide +kernel
theorem dX8_knownAfter_39 : decode cX8_knownAfter 39 = .ok (.istore_n 2, 1) := by decide +kernel
theorem dX8_knownAfter_40 : decode cX8_knownAfter 40 = .ok (.iload_n 2, 1) := by decide +kernel
theorem dX8_knownAfter_41 : decode cX8_knownAfter 41 = .ok (.sipush 150, 3) := by decide +kernel
theorem dX8_knownAfter_44 : decode cX8_knownAfter 44 = .ok (.if_icmp .gt 30, 3) := by decide +kernel
theorem dX8_knownAfter_47 : decode cX8_knownAfter 47 = .ok (.aload_n 0, 1) := by decide +kernel
theorem dX8_knownAfter_48 : decode cX8_knownAfter 48 = .ok (.getfield 19, 3) := by decide +kernel
theorem dX8_knownAfter_51 : decode cX8_knownAfter 51 = .ok (.iload_n 1, 1) := by decide +kernel
theorem dX8_knownAfter_52 : decode cX8_knownAfter 52 = .ok (.invokestatic 218, 3) := by decide +kernel
theorem dX8_knownAfter_55 : decode cX8_knownAfter 55 = .ok (.ifCond .eq 5, 3) := by decide +kernel
theorem dX8_knownAfter_58 : decode cX8_knownAfter 58 = .ok (.iload_n 2, 1) := by decide +kernel
theorem dX8_knownAfter_59 : decode cX8_knownAfter 59 = .ok (.ireturn, 1) := by decide +kernel
theorem dX8_knownAfter_60 : decode cX8_knownAfter 60 = .ok (.aload_n 0, 1) := by decide +kernel
theorem dX8_knownAfter_61 : decode cX8_knownAfter 61 = .ok (.aload_n 0, 1) := by decide +kernel
theorem dX8_knownAfter_62 : decode cX8_knownAfter 62 = .ok (.getfield 19, 3) := by decide +kernel
theorem dX8_knownAfter_65 : decode cX8_knownAfter 65 = .ok (.invokevirtual 177, 3) := by decide +kernel
theorem dX8_knownAfter_68 : decode cX8_knownAfter 68 = .ok (.iinc 2 1, 3) := by decide +kernel
theorem dX8_knownAfter_71 : decode cX8_knownAfter 71 = .ok (.goto (-31), 3) := by decide +kernel
theorem dX8_knownAfter_74 : decode cX8_knownAfter 74 = .ok (.bipush (-9), 2) := by decide +kernel
theorem dX8_knownAfter_76 : decode cX8_knownAfter 76 = .ok (.ireturn, 1) := by decide +kernel
theorem dX8_wastedIf_0 : decode cX8_wastedIf 0 = .ok (.aload_n 0, 1) := by decide +kernel
theorem dX8_wastedIf_1 : decode cX8_wastedIf 1 = .ok (.iload_n 1, 1) := by decide +kernel
theorem dX8_wastedIf_2 : decode cX8_wastedIf 2 = .ok (.i2l, 1) := by decide +kernel
theorem dX8_wastedIf_3 : decode cX8_wastedIf 3 = .ok (.lconst 0, 1) := by decide +kernel
theorem dX8_wastedIf_4 : decode cX8_wastedIf 4 = .ok (.ldc2_w 180, 3) := by decide +kernel
theorem dX8_wastedIf_7 : decode cX8_wastedIf 7 = .ok (.invokestatic 57, 3) := by decide +kernel
theorem dX8_wastedIf_10 : decode cX8_wastedIf 10 = .ok (.ifCond .eq 19, 3) := by decide +kernel
theorem dX8_wastedIf_13 : decode cX8_wastedIf 13 = .ok (.iload_n 2, 1) := by decide +kernel
theorem dX8_wastedIf_14 : decode cX8_wastedIf 14 = .ok (.i2l, 1) := by decide +kernel
theorem dX8_wastedIf_15 : decode cX8_wastedIf 15 = .ok (.lconst 1, 1) := by decide +kernel
theorem dX8_wastedIf_16 : decode cX8_wastedIf 16 = .ok (.ldc2_w 172, 3) := by decide +kernel
theorem dX8_wastedIf_19 : decode cX8_wastedIf 19 = .ok (.invokestatic 57, 3) := by decide +kernel
theorem dX8_wastedIf_22 : decode cX8_wastedIf 22 = .ok (.ifCond .eq 7, 3) := by decide +kernel
theorem dX8_wastedIf_25 : decode cX8_wastedIf 25 = .ok (.iconst 0, 1) := by decide +kernel
theorem dX8_wastedIf_26 : decode cX8_wastedIf 26 = .ok (.goto 4, 3) := by decide +kernel
theorem dX8_wastedIf_29 : decode cX8_wastedIf 29 = .ok (.iconst 1, 1) := by decide +kernel
theorem dX8_wastedIf_30 : decode cX8_wastedIf 30 = .ok (.invokevirtual 126, 3) := by decide +kernel
theorem dX8_wastedIf_33 : decode cX8_wastedIf 33 = .ok (.ifCond .eq 5, 3) := by decide +kernel
theorem dX8_wastedIf_36 : decode cX8_wastedIf 36 = .ok (.iconst 0, 1) := by decide +kernel
theorem dX8_wastedIf_37 : decode cX8_wastedIf 37 = .ok (.ireturn, 1) := by decide +kernel
theorem dX8_wastedIf_38 : decode cX8_wastedIf 38 = .ok (.aload_n 0, 1) := by decide +kernel
theorem dX8_wastedIf_39 : decode cX8_wastedIf 39 = .ok (.getfield 16, 3) := by decide +kernel
theorem dX8_wastedIf_42 : decode cX8_wastedIf 42 = .ok (.iconst 0, 1) := by decide +kernel
theorem dX8_wastedIf_43 : decode cX8_wastedIf 43 = .ok (.aload_n 0, 1) := by decide +kernel
theorem dX8_wastedIf_44 : decode cX8_wastedIf 44 = .ok (.getfield 19, 3) := by decide +kernel
theorem dX8_wastedIf_47 : decode cX8_wastedIf 47 = .ok (.iconst 0, 1) := by decide +kernel
theorem dX8_wastedIf_48 : decode cX8_wastedIf 48 = .ok (.sipush 264, 3) := by decide +kernel
theorem dX8_wastedIf_51 : decode cX8_wastedIf 51 = .ok (.invokestatic 53, 3) := by decide +kernel
theorem dX8_wastedIf_54 : decode cX8_wastedIf 54 = .ok (.aload_n 0, 1) := by decide +kernel
theorem dX8_wastedIf_55 : decode cX8_wastedIf 55 = .ok (.aload_n 0, 1) := by decide +kernel
theorem dX8_wastedIf_56 : decode cX8_wastedIf 56 = .ok (.getfield 19, 3) := by decide +kernel
theorem dX8_wastedIf_59 : decode cX8_wastedIf 59 = .ok (.iload_n 1, 1) := by decide +kernel
theorem dX8_wastedIf_60 : decode cX8_wastedIf 60 = .ok (.invokevirtual 208, 3) := by decide +kernel
theorem dX8_wastedIf_63 : decode cX8_wastedIf 63 = .ok (.iconst 0, 1) := by decide +kernel
theorem dX8_wastedIf_64 : decode cX8_wastedIf 64 = .ok (.istore_n 3, 1) := by decide +kernel
theorem dX8_wastedIf_65 : decode cX8_wastedIf 65 = .ok (.iload_n 3, 1) := by decide +kernel
theorem dX8_wastedIf_66 : decode cX8_wastedIf 66 = .ok (.iload_n 2, 1) := by decide +kernel
theorem dX8_wastedIf_67 : decode cX8_wastedIf 67 = .ok (.if_icmp .ge 17, 3) := by decide +kernel
theorem dX8_wastedIf_70 : decode cX8_wastedIf 70 = .ok (.aload_n 0, 1) := by decide +kernel
theorem dX8_wastedIf_71 : decode cX8_wastedIf 71 = .ok (.aload_n 0, 1) := by decide +kernel
theorem dX8_wastedIf_72 : decode cX8_wastedIf 72 = .ok (.getfield 19, 3) := by decide +kernel
theorem dX8_wastedIf_75 : decode cX8_wastedIf 75 = .ok (.invokevirtual 177, 3) := by decide +kernel
theorem dX8_wastedIf_78 : decode cX8_wastedIf 78 = .ok (.iinc 3 1, 3) := by decide +kernel
theorem dX8_wastedIf_81 : decode cX8_wastedIf 81 = .ok (.goto (-16), 3) := by decide +kernel
theorem dX8_wastedIf_84 : decode cX8_wastedIf 84 = .ok (.aload_n 0, 1) := by decide +kernel
theorem dX8_wastedIf_85 : decode cX8_wastedIf 85 = .ok (.getfield 19, 3) := by decide +kernel
theorem dX8_wastedIf_88 : decode cX8_wastedIf 88 = .ok (.iconst 5, 1) := by decide +kernel
theorem dX8_wastedIf_89 : decode cX8_wastedIf 89 = .ok (.invokestatic 156, 3) := by decide +kernel
theorem dX8_wastedIf_92 : decode cX8_wastedIf 92 = .ok (.ireturn, 1) := by decide +kernel
theorem dX8_worstLoss_0 : decode cX8_worstLoss 0 = .ok (.aload_n 0, 1) := by decide +kernel
theorem dX8_worstLoss_1 : decode cX8_worstLoss 1 = .ok (.iload_n 1, 1) := by decide +kernel
theorem dX8_worstLoss_2 : decode cX8_worstLoss 2 = .ok (.i2l, 1) := by decide +kernel
theorem dX8_worstLoss_3 : decode cX8_worstLoss 3 = .ok (.lconst 1, 1) := by decide +kernel
theorem dX8_worstLoss_4 : decode cX8_worstLoss 4 = .ok (.ldc2_w 172, 3) := by decide +kernel
theorem dX8_worstLoss_7 : decode cX8_worstLoss 7 = .ok (.invokestatic 57, 3) := by decide +kernel
theorem dX8_worstLoss_10 : decode cX8_worstLoss 10 = .ok (.ifCond .eq 7, 3) := by decide +kernel
theorem dX8_worstLoss_13 : decode cX8_worstLoss 13 = .ok (.iconst 0, 1) := by decide +kernel
theorem dX8_worstLoss_14 : decode cX8_worstLoss 14 = .ok (.goto 4, 3) := by decide +kernel
theorem dX8_worstLoss_17 : decode cX8_worstLoss 17 = .ok (.iconst 1, 1) := by decide +kernel
theorem dX8_worstLoss_18 : decode cX8_worstLoss 18 = .ok (.invokevirtual 126, 3) := by decide +kernel
theorem dX8_worstLoss_21 : decode cX8_worstLoss 21 = .ok (.ifCond .eq 5, 3) := by decide +kernel
theorem dX8_worstLoss_24 : decode cX8_worstLoss 24 = .ok (.iconst 0, 1) := by decide +kernel
theorem dX8_worstLoss_25 : decode cX8_worstLoss 25 = .ok (.ireturn, 1) := by decide +kernel
theorem dX8_worstLoss_26 : decode cX8_worstLoss 26 = .ok (.bipush (-9), 2) := by decide +kernel
theorem dX8_worstLoss_28 : decode cX8_worstLoss 28 = .ok (.istore_n 2, 1) := by decide +kernel
theorem dX8_worstLoss_29 : decode cX8_worstLoss 29 = .ok (.iconst 0, 1) := by decide +kernel
theorem dX8_worstLoss_30 : decode cX8_worstLoss 30 = .ok (.istore_n 3, 1) := by decide +kernel
theorem dX8_worstLoss_31 : decode cX8_worstLoss 31 = .ok (.iconst 0, 1) := by decide +kernel
theorem dX8_worstLoss_32 : decode cX8_worstLoss 32 = .ok (.istore 4, 2) := by decide +kernel
theorem dX8_worstLoss_34 : decode cX8_worstLoss 34 = .ok (.iload 4, 2) := by decide +kernel
theorem dX8_worstLoss_36 : decode cX8_worstLoss 36 = .ok (.aload_n 0, 1) := by decide +kernel
theorem dX8_worstLoss_37 : decode cX8_worstLoss 37 = .ok (.getfield 16, 3) := by decide +kernel
theorem dX8_worstLoss_40 : decode cX8_worstLoss 40 = .ok (.iconst 0, 1) := by decide +kernel
theorem dX8_worstLoss_41 : decode cX8_worstLoss 41 = .ok (.iaload, 1) := by decide +kernel
theorem dX8_worstLoss_42 : decode cX8_worstLoss 42 = .ok (.if_icmp .ge 101, 3) := by decide +kernel
theorem dX8_worstLoss_45 : decode cX8_worstLoss 45 = .ok (.aload_n 0, 1) := by decide +kernel
theorem dX8_worstLoss_46 : decode cX8_worstLoss 46 = .ok (.getfield 16, 3) := by decide +kernel
theorem dX8_worstLoss_49 : decode cX8_worstLoss 49 = .ok (.iload 4, 2) := by decide +kernel
theorem dX8_worstLoss_51 : decode cX8_worstLoss 51 = .ok (.invokestatic 71, 3) := by decide +kernel
theorem dX8_worstLoss_54 : decode cX8_worstLoss 54 = .ok (.ifCond .eq 83, 3) := by decide +kernel
theorem dX8_worstLoss_57 : decode cX8_worstLoss 57 = .ok (.aload_n 0, 1) := by decide +kernel
theorem dX8_worstLoss_58 : decode cX8_worstLoss 58 = .ok (.getfield 16, 3) := by decide +kernel
theorem dX8_worstLoss_61 : decode cX8_worstLoss 61 = .ok (.iconst 0, 1) := by decide +kernel
theorem dX8_worstLoss_62 : decode cX8_worstLoss 62 = .ok (.aload_n 0, 1) := by decide +kernel
theorem dX8_worstLoss_63 : decode cX8_worstLoss 63 = .ok (.getfield 19, 3) := by decide +kernel
theorem dX8_worstLoss_66 : decode cX8_worstLoss 66 = .ok (.iconst 0, 1) := by decide +kernel
theorem dX8_worstLoss_67 : decode cX8_worstLoss 67 = .ok (.sipush 264, 3) := by decide +kernel
theorem dX8_worstLoss_70 : decode cX8_worstLoss 70 = .ok (.invokestatic 53, 3) := by decide +kernel
theorem dX8_worstLoss_73 : decode cX8_worstLoss 73 = .ok (.aload_n 0, 1) := by decide +kernel
theorem dX8_worstLoss_74 : decode cX8_worstLoss 74 = .ok (.getfield 19, 3) := by decide +kernel
theorem dX8_worstLoss_77 : decode cX8_worstLoss 77 = .ok (.iload 4, 2) := by decide +kernel
theorem dX8_worstLoss_79 : decode cX8_worstLoss 79 = .ok (.invokestatic 61, 3) := by decide +kernel
theorem dX8_worstLoss_82 : decode cX8_worstLoss 82 = .ok (.iconst 3, 1) := by decide +kernel
theorem dX8_worstLoss_83 : decode cX8_worstLoss 83 = .ok (.iadd, 1) := by decide +kernel
theorem dX8_worstLoss_84 : decode cX8_worstLoss 84 = .ok (.iconst 0, 1) := by decide +kernel
theorem dX8_worstLoss_85 : decode cX8_worstLoss 85 = .ok (.iastore, 1) := by decide +kernel
theorem dX8_worstLoss_86 : decode cX8_worstLoss 86 = .ok (.iconst 0, 1) := by decide +kernel
theorem dX8_worstLoss_87 : decode cX8_worstLoss 87 = .ok (.istore 5, 2) := by decide +kernel
theorem dX8_worstLoss_89 : decode cX8_worstLoss 89 = .ok (.iload 5, 2) := by decide +kernel
theorem dX8_worstLoss_91 : decode cX8_worstLoss 91 = .ok (.iload_n 1, 1) := by decide +kernel
theorem dX8_worstLoss_92 : decode cX8_worstLoss 92 = .ok (.if_icmp .ge 17, 3) := by decide +kernel
theorem dX8_worstLoss_95 : decode cX8_worstLoss 95 = .ok (.aload_n 0, 1) := by decide +kernel
theorem dX8_worstLoss_96 : decode cX8_worstLoss 96 = .ok (.aload_n 0, 1) := by decide +kernel
theorem dX8_worstLoss_97 : decode cX8_worstLoss 97 = .ok (.getfield 19, 3) := by decide +kernel
theorem dX8_worstLoss_100 : decode cX8_worstLoss 100 = .ok (.invokevirtual 177, 3) := by decide +kernel
theorem dX8_worstLoss_103 : decode cX8_worstLoss 103 = .ok (.iinc 5 1, 3) := by decide +kernel
theorem dX8_worstLoss_106 : decode cX8_worstLoss 106 = .ok (.goto (-17), 3) := by decide +kernel
theorem dX8_worstLoss_109 : decode cX8_worstLoss 109 = .ok (.iload_n 2, 1) := by decide +kernel
theorem dX8_worstLoss_110 : decode cX8_worstLoss 110 = .ok (.bipush (-9), 2) := by decide +kernel
theorem dX8_worstLoss_112 : decode cX8_worstLoss 112 = .ok (.if_icmp .eq 14, 3) := by decide +kernel
theorem dX8_worstLoss_115 : decode cX8_worstLoss 115 = .ok (.aload_n 0, 1) := by decide +kernel
theorem dX8_worstLoss_116 : decode cX8_worstLoss 116 = .ok (.getfield 19, 3) := by decide +kernel
theorem dX8_worstLoss_119 : decode cX8_worstLoss 119 = .ok (.invokestatic 221, 3) := by decide +kernel
theorem dX8_worstLoss_122 : decode cX8_worstLoss 122 = .ok (.iload_n 3, 1) := by decide +kernel
theorem dX8_worstLoss_123 : decode cX8_worstLoss 123 = .ok (.if_icmp .ge 14, 3) := by decide +kernel
theorem dX8_worstLoss_126 : decode cX8_worstLoss 126 = .ok (.iload 4, 2) := by decide +kernel
theorem dX8_worstLoss_128 : decode cX8_worstLoss 128 = .ok (.istore_n 2, 1) := by decide +kernel
theorem dX8_worstLoss_129 : decode cX8_worstLoss 129 = .ok (.aload_n 0, 1) := by decide +kernel
theorem dX8_worstLoss_130 : decode cX8_worstLoss 130 = .ok (.getfield 19, 3) := by decide +kernel
theorem dX8_worstLoss_133 : decode cX8_worstLoss 133 = .ok (.invokestatic 221, 3) := by decide +kernel
theorem dX8_worstLoss_136 : decode cX8_worstLoss 136 = .ok (.istore_n 3, 1) := by decide +kernel
theorem dX8_worstLoss_137 : decode cX8_worstLoss 137 = .ok (.iinc 4 1, 3) := by decide +kernel
theorem dX8_worstLoss_140 : decode cX8_worstLoss 140 = .ok (.goto (-106), 3) := by decide +kernel
theorem dX8_worstLoss_143 : decode cX8_worstLoss 143 = .ok (.iload_n 2, 1) := by decide +kernel
theorem dX8_worstLoss_144 : decode cX8_worstLoss 144 = .ok (.ireturn, 1) := by decide +kernel
theorem dX8_share_0 : decode cX8_share 0 = .ok (.iconst (-1), 1) := by decide +kernel
theorem dX8_share_1 : decode cX8_share 1 = .ok (.istore_n 1, 1) := by decide +kernel
theorem dX8_share_2 : decode cX8_share 2 = .ok (.iconst 0, 1) := by decide +kernel
theorem dX8_share_3 : decode cX8_share 3 = .ok (.istore_n 2, 1) := by decide +kernel
theorem dX8_share_4 : decode cX8_share 4 = .ok (.iconst 0, 1) := by decide +kernel
theorem dX8_share_5 : decode cX8_share 5 = .ok (.istore_n 3, 1) := by decide +kernel
theorem dX8_share_6 : decode cX8_share 6 = .ok (.iload_n 3, 1) := by decide +kernel
theorem dX8_share_7 : decode cX8_share 7 = .ok (.bipush 6, 2) := by decide +kernel
theorem dX8_share_9 : decode cX8_share 9 = .ok (.if_icmp .ge 16, 3) := by decide +kernel
theorem dX8_share_12 : decode cX8_share 12 = .ok (.aload_n 0, 1) := by decide +kernel
theorem dX8_share_13 : decode cX8_share 13 = .ok (.getfield 38, 3) := by decide +kernel
theorem dX8_share_16 : decode cX8_share 16 = .ok (.iload_n 3, 1) := by decide +kernel
theorem dX8_share_17 : decode cX8_share 17 = .ok (.iconst (-1), 1) := by decide +kernel
theorem dX8_share_18 : decode cX8_share 18 = .ok (.iastore, 1) := by decide +kernel
theorem dX8_share_19 : decode cX8_share 19 = .ok (.iinc 3 1, 3) := by decide +kernel
theorem dX8_share_22 : decode cX8_share 22 = .ok (.goto (-16), 3) := by decide +kernel
theorem dX8_share_25 : decode cX8_share 25 = .ok (.iconst 0, 1) := by decide +kernel
theorem dX8_share_26 : decode cX8_share 26 = .ok (.istore_n 3, 1) := by decide +kernel
theorem dX8_share_27 : decode cX8_share 27 = .ok (.iconst 0, 1) := by decide +kernel
theorem dX8_share_28 : decode cX8_share 28 = .ok (.istore 4, 2) := by decide +kernel
theorem dX8_share_30 : decode cX8_share 30 = .ok (.iconst 0, 1) := by decide +kernel
theorem dX8_share_31 : decode cX8_share 31 = .ok (.istore 5, 2) := by decide +kernel
theorem dX8_share_33 : decode cX8_share 33 = .ok (.iconst 0, 1) := by decide +kernel
theorem dX8_share_34 : decode cX8_share 34 = .ok (.istore 6, 2) := by decide +kernel
theorem dX8_share_36 : decode cX8_share 36 = .ok (.iload_n 3, 1) := by decide +kernel
theorem dX8_share_37 : decode cX8_share 37 = .ok (.ifCond .lt 238, 3) := by decide +kernel
theorem dX8_share_40 : decode cX8_share 40 = .ok (.iload_n 3, 1) := by decide +kernel
theorem dX8_share_41 : decode cX8_share 41 = .ok (.aload_n 0, 1) := by decide +kernel
theorem dX8_share_42 : decode cX8_share 42 = .ok (.getfield 16, 3) := by decide +kernel
theorem dX8_share_45 : decode cX8_share 45 = .ok (.iconst 0, 1) := by decide +kernel
theorem dX8_share_46 : decode cX8_share 46 = .ok (.iaload, 1) := by decide +kernel
theorem dX8_share_47 : decode cX8_share 47 = .ok (.if_icmp .ne 48, 3) := by decide +kernel
theorem dX8_share_50 : decode cX8_share 50 = .ok (.iload 5, 2) := by decide +kernel
theorem dX8_share_52 : decode cX8_share 52 = .ok (.iload_n 1, 1) := by decide +kernel
theorem dX8_share_53 : decode cX8_share 53 = .ok (.if_icmp .gt 15, 3) := by decide +kernel
theorem dX8_share_56 : decode cX8_share 56 = .ok (.iload 5, 2) := by decide +kernel
theorem dX8_share_58 : decode cX8_share 58 = .ok (.iload_n 1, 1) := by decide +kernel
theorem dX8_share_59 : decode cX8_share 59 = .ok (.if_icmp .ne 30, 3) := by decide +kernel
theorem dX8_share_62 : decode cX8_share 62 = .ok (.iload 6, 2) := by decide +kernel
theorem dX8_share_64 : decode cX8_share 64 = .ok (.iload_n 2, 1) := by decide +kernel
theorem dX8_share_65 : decode cX8_share 65 = .ok (.if_icmp .ge 24, 3) := by decide +kernel
theorem dX8_share_68 : decode cX8_share 68 = .ok (.iload 5, 2) := by decide +kernel
theorem dX8_share_70 : decode cX8_share 70 = .ok (.istore_n 1, 1) := by decide +kernel
theorem dX8_share_71 : decode cX8_share 71 = .ok (.iload 6, 2) := by decide +kernel
theorem dX8_share_73 : decode cX8_share 73 = .ok (.istore_n 2, 1) := by decide +kernel
theorem dX8_share_74 : decode cX8_share 74 = .ok (.aload_n 0, 1) := by decide +kernel
theorem dX8_share_75 : decode cX8_share 75 = .ok (.getfield 38, 3) := by decide +kernel
theorem dX8_share_78 : decode cX8_share 78 = .ok (.iconst 0, 1) := by decide +kernel
theorem dX8_share_79 : decode cX8_share 79 = .ok (.aload_n 0, 1) := by decide +kernel
theorem dX8_share_80 : decode cX8_share 80 = .ok (.getfield 41, 3) := by decide +kernel
theorem dX8_share_83 : decode cX8_share 83 = .ok (.iconst 0, 1) := by decide +kernel
theorem dX8_share_84 : decode cX8_share 84 = .ok (.bipush 6, 2) := by decide +kernel
theorem dX8_share_86 : decode cX8_share 86 = .ok (.invokestatic 53, 3) := by decide +kernel
theorem dX8_share_89 : decode cX8_share 89 = .ok (.iinc 3 (-1), 3) := by decide +kernel
theorem dX8_share_92 : decode cX8_share 92 = .ok (.goto (-56), 3) := by decide +kernel
theorem dX8_share_95 : decode cX8_share 95 = .ok (.aload_n 0, 1) := by decide +kernel
theorem dX8_share_96 : decode cX8_share 96 = .ok (.getfield 38, 3) := by decide +kernel
theorem dX8_share_99 : decode cX8_share 99 = .ok (.iload_n 3, 1) := by decide +kernel
theorem dX8_share_100 : decode cX8_share 100 = .ok (.iaload, 1) := by decide +kernel
theorem dX8_share_101 : decode cX8_share 101 = .ok (.i2l, 1) := by decide +kernel
theorem dX8_share_102 : decode cX8_share 102 = .ok (.lconst 0, 1) := by decide +kernel
theorem dX8_share_103 : decode cX8_share 103 = .ok (.ldc2_w 150, 3) := by decide +kernel
theorem dX8_share_106 : decode cX8_share 106 = .ok (.invokestatic 57, 3) := by decide +kernel
theorem dX8_share_109 : decode cX8_share 109 = .ok (.ifCond .eq 40, 3) := by decide +kernel
theorem dX8_share_112 : decode cX8_share 112 = .ok (.iload 4, 2) := by decide +kernel
theorem dX8_share_114 : decode cX8_share 114 = .ok (.iconst 1, 1) := by decide +kernel
theorem dX8_share_115 : decode cX8_share 115 = .ok (.aload_n 0, 1) := by decide +kernel
theorem dX8_share_116 : decode cX8_share 116 = .ok (.getfield 38, 3) := by decide +kernel
theorem dX8_share_119 : decode cX8_share 119 = .ok (.iload_n 3, 1) := by decide +kernel
theorem dX8_share_120 : decode cX8_share 120 = .ok (.iaload, 1) := by decide +kernel
theorem dX8_share_121 : decode cX8_share 121 = .ok (.ishl, 1) := by decide +kernel
theorem dX8_share_122 : decode cX8_share 122 = .ok (.iconst (-1), 1) := by decide +kernel
theorem dX8_share_123 : decode cX8_share 123 = .ok (.ixor, 1) := by decide +kernel
theorem dX8_share_124 : decode cX8_share 124 = .ok (.iand, 1) := by decide +kernel
theorem dX8_share_125 : decode cX8_share 125 = .ok (.istore 4, 2) := by decide +kernel
theorem dX8_share_127 : decode cX8_share 127 = .ok (.iinc 5 (-1), 3) := by decide +kernel
theorem dX8_share_130 : decode cX8_share 130 = .ok (.iload 6, 2) := by decide +kernel
theorem dX8_share_132 : decode cX8_share 132 = .ok (.aload_n 0, 1) := by decide +kernel
theorem dX8_share_133 : decode cX8_share 133 = .ok (.getfield 16, 3) := by decide +kernel
theorem dX8_share_136 : decode cX8_share 136 = .ok (.iload_n 3, 1) := by decide +kernel
theorem dX8_share_137 : decode cX8_share 137 = .ok (.aload_n 0, 1) := by decide +kernel
theorem dX8_share_138 : decode cX8_share 138 = .ok (.getfield 38, 3) := by decide +kernel
theorem dX8_share_141 : decode cX8_share 141 = .ok (.iload_n 3, 1) := by decide +kernel
theorem dX8_share_142 : decode cX8_share 142 = .ok (.iaload, 1) := by decide +kernel
theorem dX8_share_143 : decode cX8_share 143 = .ok (.invokestatic 100, 3) := by decide +kernel
theorem dX8_share_146 : decode cX8_share 146 = .ok (.isub, 1) := by decide +kernel
theorem dX8_share_147 : decode cX8_share 147 = .ok (.istore 6, 2) := by decide +kernel
theorem dX8_share_149 : decode cX8_share 149 = .ok (.aload_n 0, 1) := by decide +kernel
theorem dX8_share_150 : decode cX8_share 150 = .ok (.getfield 38, 3) := by decide +kernel
theorem dX8_share_153 : decode cX8_share 153 = .ok (.iload_n 3, 1) := by decide +kernel
theorem dX8_share_154 : decode cX8_share 154 = .ok (.dup2, 1) := by decide +kernel
theorem dX8_share_155 : decode cX8_share 155 = .ok (.iaload, 1) := by decide +kernel
theorem dX8_share_156 : decode cX8_share 156 = .ok (.iconst 1, 1) := by decide +kernel
theorem dX8_share_157 : decode cX8_share 157 = .ok (.iadd, 1) := by decide +kernel
theorem dX8_share_158 : decode cX8_share 158 = .ok (.iastore, 1) := by decide +kernel
theorem dX8_share_159 : decode cX8_share 159 = .ok (.aload_n 0, 1) := by decide +kernel
theorem dX8_share_160 : decode cX8_share 160 = .ok (.getfield 38, 3) := by decide +kernel
theorem dX8_share_163 : decode cX8_share 163 = .ok (.iload_n 3, 1) := by decide +kernel
theorem dX8_share_164 : decode cX8_share 164 = .ok (.iaload, 1) := by decide +kernel
theorem dX8_share_165 : decode cX8_share 165 = .ok (.bipush 8, 2) := by decide +kernel
theorem dX8_share_167 : decode cX8_share 167 = .ok (.if_icmp .ge 32, 3) := by decide +kernel
theorem dX8_share_170 : decode cX8_share 170 = .ok (.aload_n 0, 1) := by decide +kernel
theorem dX8_share_171 : decode cX8_share 171 = .ok (.iload_n 3, 1) := by decide +kernel
theorem dX8_share_172 : decode cX8_share 172 = .ok (.aload_n 0, 1) := by decide +kernel
theorem dX8_share_173 : decode cX8_share 173 = .ok (.getfield 38, 3) := by decide +kernel
theorem dX8_share_176 : decode cX8_share 176 = .ok (.iload_n 3, 1) := by decide +kernel
theorem dX8_share_177 : decode cX8_share 177 = .ok (.iaload, 1) := by decide +kernel
theorem dX8_share_178 : decode cX8_share 178 = .ok (.iload 4, 2) := by decide +kernel
theorem dX8_share_180 : decode cX8_share 180 = .ok (.invokevirtual 224, 3) := by decide +kernel
theorem dX8_share_183 : decode cX8_share 183 = .ok (.ifCond .ne 16, 3) := by decide +kernel
theorem dX8_share_186 : decode cX8_share 186 = .ok (.aload_n 0, 1) := by decide +kernel
theorem dX8_share_187 : decode cX8_share 187 = .ok (.getfield 38, 3) := by decide +kernel
theorem dX8_share_190 : decode cX8_share 190 = .ok (.iload_n 3, 1) := by decide +kernel
theorem dX8_share_191 : decode cX8_share 191 = .ok (.dup2, 1) := by decide +kernel
theorem dX8_share_192 : decode cX8_share 192 = .ok (.iaload, 1) := by decide +kernel
theorem dX8_share_193 : decode cX8_share 193 = .ok (.iconst 1, 1) := by decide +kernel
theorem dX8_share_194 : decode cX8_share 194 = .ok (.iadd, 1) := by decide +kernel
theorem dX8_share_195 : decode cX8_share 195 = .ok (.iastore, 1) := by decide +kernel
theorem dX8_share_196 : decode cX8_share 196 = .ok (.goto (-37), 3) := by decide +kernel
theorem dX8_share_199 : decode cX8_share 199 = .ok (.aload_n 0, 1) := by decide +kernel
theorem dX8_share_200 : decode cX8_share 200 = .ok (.getfield 38, 3) := by decide +kernel
theorem dX8_share_203 : decode cX8_share 203 = .ok (.iload_n 3, 1) := by decide +kernel
theorem dX8_share_204 : decode cX8_share 204 = .ok (.iaload, 1) := by decide +kernel
theorem dX8_share_205 : decode cX8_share 205 = .ok (.bipush 8, 2) := by decide +kernel
theorem dX8_share_207 : decode cX8_share 207 = .ok (.if_icmp .le 16, 3) := by decide +kernel
theorem dX8_share_210 : decode cX8_share 210 = .ok (.aload_n 0, 1) := by decide +kernel
theorem dX8_share_211 : decode cX8_share 211 = .ok (.getfield 38, 3) := by decide +kernel
theorem dX8_share_214 : decode cX8_share 214 = .ok (.iload_n 3, 1) := by decide +kernel
theorem dX8_share_215 : decode cX8_share 215 = .ok (.iconst (-1), 1) := by decide +kernel
theorem dX8_share_216 : decode cX8_share 216 = .ok (.iastore, 1) := by decide +kernel
theorem dX8_share_217 : decode cX8_share 217 = .ok (.iinc 3 (-1), 3) := by decide +kernel
theorem dX8_share_220 : decode cX8_share 220 = .ok (.goto (-184), 3) := by decide +kernel
theorem dX8_share_223 : decode cX8_share 223 = .ok (.aload_n 0, 1) := by decide +kernel
theorem dX8_share_224 : decode cX8_share 224 = .ok (.getfield 38, 3) := by decide +kernel
theorem dX8_share_227 : decode cX8_share 227 = .ok (.iload_n 3, 1) := by decide +kernel
theorem dX8_share_228 : decode cX8_share 228 = .ok (.iaload, 1) := by decide +kernel
theorem dX8_share_229 : decode cX8_share 229 = .ok (.bipush 8, 2) := by decide +kernel
theorem dX8_share_231 : decode cX8_share 231 = .ok (.if_icmp .ge 38, 3) := by decide +kernel
theorem dX8_share_234 : decode cX8_share 234 = .ok (.iload 4, 2) := by decide +kernel
theorem dX8_share_236 : decode cX8_share 236 = .ok (.iconst 1, 1) := by decide +kernel
theorem dX8_share_237 : decode cX8_share 237 = .ok (.aload_n 0, 1) := by decide +kernel
theorem dX8_share_238 : decode cX8_share 238 = .ok (.getfield 38, 3) := by decide +kernel
theorem dX8_share_241 : decode cX8_share 241 = .ok (.iload_n 3, 1) := by decide +kernel
theorem dX8_share_242 : decode cX8_share 242 = .ok (.iaload, 1) := by decide +kernel
theorem dX8_share_243 : decode cX8_share 243 = .ok (.ishl, 1) := by decide +kernel
theorem dX8_share_244 : decode cX8_share 244 = .ok (.ior, 1) := by decide +kernel
theorem dX8_share_245 : decode cX8_share 245 = .ok (.istore 4, 2) := by decide +kernel
theorem dX8_share_247 : decode cX8_share 247 = .ok (.iinc 5 1, 3) := by decide +kernel
theorem dX8_share_250 : decode cX8_share 250 = .ok (.iload 6, 2) := by decide +kernel
theorem dX8_share_252 : decode cX8_share 252 = .ok (.aload_n 0, 1) := by decide +kernel
theorem dX8_share_253 : decode cX8_share 253 = .ok (.getfield 16, 3) := by decide +kernel
theorem dX8_share_256 : decode cX8_share 256 = .ok (.iload_n 3, 1) := by decide +kernel
theorem dX8_share_257 : decode cX8_share 257 = .ok (.aload_n 0, 1) := by decide +kernel
theorem dX8_share_258 : decode cX8_share 258 = .ok (.getfield 38, 3) := by decide +kernel
theorem dX8_share_261 : decode cX8_share 261 = .ok (.iload_n 3, 1) := by decide +kernel
theorem dX8_share_262 : decode cX8_share 262 = .ok (.iaload, 1) := by decide +kernel
theorem dX8_share_263 : decode cX8_share 263 = .ok (.invokestatic 100, 3) := by decide +kernel
theorem dX8_share_266 : decode cX8_share 266 = .ok (.iadd, 1) := by decide +kernel
theorem dX8_share_267 : decode cX8_share 267 = .ok (.istore 6, 2) := by decide +kernel
theorem dX8_share_269 : decode cX8_share 269 = .ok (.iinc 3 1, 3) := by decide +kernel
theorem dX8_share_272 : decode cX8_share 272 = .ok (.goto (-236), 3) := by decide +kernel
theorem dX8_share_275 : decode cX8_share 275 = .ok (.iload_n 2, 1) := by decide +kernel
theorem dX8_share_276 : decode cX8_share 276 = .ok (.ireturn, 1) := by decide +kernel
theorem dX8_canGet_0 : decode cX8_canGet 0 = .ok (.aload_n 0, 1) := by decide +kernel
theorem dX8_canGet_1 : decode cX8_canGet 1 = .ok (.getfield 16, 3) := by decide +kernel
theorem dX8_canGet_4 : decode cX8_canGet 4 = .ok (.iload_n 1, 1) := by decide +kernel
theorem dX8_canGet_5 : decode cX8_canGet 5 = .ok (.invokestatic 71, 3) := by decide +kernel
theorem dX8_canGet_8 : decode cX8_canGet 8 = .ok (.ifCond .eq 36, 3) := by decide +kernel
theorem dX8_canGet_11 : decode cX8_canGet 11 = .ok (.iload_n 2, 1) := by decide +kernel
theorem dX8_canGet_12 : decode cX8_canGet 12 = .ok (.aload_n 0, 1) := by decide +kernel
theorem dX8_canGet_13 : decode cX8_canGet 13 = .ok (.getfield 16, 3) := by decide +kernel
theorem dX8_canGet_16 : decode cX8_canGet 16 = .ok (.iconst 1, 1) := by decide +kernel
theorem dX8_canGet_17 : decode cX8_canGet 17 = .ok (.iaload, 1) := by decide +kernel
theorem dX8_canGet_18 : decode cX8_canGet 18 = .ok (.if_icmp .ge 26, 3) := by decide +kernel
theorem dX8_canGet_21 : decode cX8_canGet 21 = .ok (.aload_n 0, 1) := by decide +kernel
theorem dX8_canGet_22 : decode cX8_canGet 22 = .ok (.getfield 16, 3) := by decide +kernel
theorem dX8_canGet_25 : decode cX8_canGet 25 = .ok (.iload_n 2, 1) := by decide +kernel
theorem dX8_canGet_26 : decode cX8_canGet 26 = .ok (.invokestatic 107, 3) := by decide +kernel
theorem dX8_canGet_29 : decode cX8_canGet 29 = .ok (.ifCond .ne 15, 3) := by decide +kernel
theorem dX8_canGet_32 : decode cX8_canGet 32 = .ok (.iload_n 3, 1) := by decide +kernel
theorem dX8_canGet_33 : decode cX8_canGet 33 = .ok (.iload_n 2, 1) := by decide +kernel
theorem dX8_canGet_34 : decode cX8_canGet 34 = .ok (.ishr, 1) := by decide +kernel
theorem dX8_canGet_35 : decode cX8_canGet 35 = .ok (.iconst 1, 1) := by decide +kernel
theorem dX8_canGet_36 : decode cX8_canGet 36 = .ok (.iand, 1) := by decide +kernel
theorem dX8_canGet_37 : decode cX8_canGet 37 = .ok (.ifCond .ne 7, 3) := by decide +kernel
theorem dX8_canGet_40 : decode cX8_canGet 40 = .ok (.iconst 1, 1) := by decide +kernel
theorem dX8_canGet_41 : decode cX8_canGet 41 = .ok (.goto 4, 3) := by decide +kernel
theorem dX8_canGet_44 : decode cX8_canGet 44 = .ok (.iconst 0, 1) := by decide +kernel
theorem dX8_canGet_45 : decode cX8_canGet 45 = .ok (.ireturn, 1) := by decide +kernel
theorem dX8_bestShare_0 : decode cX8_bestShare 0 = .ok (.aload_n 0, 1) := by decide +kernel
theorem dX8_bestShare_1 : decode cX8_bestShare 1 = .ok (.iload_n 1, 1) := by decide +kernel
theorem dX8_bestShare_2 : decode cX8_bestShare 2 = .ok (.iconst (-1), 1) := by decide +kernel
theorem dX8_bestShare_3 : decode cX8_bestShare 3 = .ok (.if_icmp .eq 11, 3) := by decide +kernel
theorem dX8_bestShare_6 : decode cX8_bestShare 6 = .ok (.aload_n 0, 1) := by decide +kernel
theorem dX8_bestShare_7 : decode cX8_bestShare 7 = .ok (.iload_n 1, 1) := by decide +kernel
theorem dX8_bestShare_8 : decode cX8_bestShare 8 = .ok (.invokevirtual 159, 3) := by decide +kernel
theorem dX8_bestShare_11 : decode cX8_bestShare 11 = .ok (.ifCond .eq 7, 3) := by decide +kernel
theorem dX8_bestShare_14 : decode cX8_bestShare 14 = .ok (.iconst 0, 1) := by decide +kernel
theorem dX8_bestShare_15 : decode cX8_bestShare 15 = .ok (.goto 4, 3) := by decide +kernel
theorem dX8_bestShare_18 : decode cX8_bestShare 18 = .ok (.iconst 1, 1) := by decide +kernel
theorem dX8_bestShare_19 : decode cX8_bestShare 19 = .ok (.invokevirtual 126, 3) := by decide +kernel
theorem dX8_bestShare_22 : decode cX8_bestShare 22 = .ok (.ifCond .eq 5, 3) := by decide +kernel
theorem dX8_bestShare_25 : decode cX8_bestShare 25 = .ok (.iconst 0, 1) := by decide +kernel
theorem dX8_bestShare_26 : decode cX8_bestShare 26 = .ok (.ireturn, 1) := by decide +kernel
theorem dX8_bestShare_27 : decode cX8_bestShare 27 = .ok (.aload_n 0, 1) := by decide +kernel
theorem dX8_bestShare_28 : decode cX8_bestShare 28 = .ok (.invokevirtual 228, 3) := by decide +kernel
theorem dX8_bestShare_31 : decode cX8_bestShare 31 = .ok (.istore_n 2, 1) := by decide +kernel
theorem dX8_bestShare_32 : decode cX8_bestShare 32 = .ok (.iload_n 1, 1) := by decide +kernel
theorem dX8_bestShare_33 : decode cX8_bestShare 33 = .ok (.iconst (-1), 1) := by decide +kernel
theorem dX8_bestShare_34 : decode cX8_bestShare 34 = .ok (.if_icmp .ne 7, 3) := by decide +kernel
theorem dX8_bestShare_37 : decode cX8_bestShare 37 = .ok (.iload_n 2, 1) := by decide +kernel
theorem dX8_bestShare_38 : decode cX8_bestShare 38 = .ok (.goto 25, 3) := by decide +kernel
theorem dX8_bestShare_41 : decode cX8_bestShare 41 = .ok (.aload_n 0, 1) := by decide +kernel
theorem dX8_bestShare_42 : decode cX8_bestShare 42 = .ok (.getfield 41, 3) := by decide +kernel
theorem dX8_bestShare_45 : decode cX8_bestShare 45 = .ok (.iload_n 1, 1) := by decide +kernel
theorem dX8_bestShare_46 : decode cX8_bestShare 46 = .ok (.iaload, 1) := by decide +kernel
theorem dX8_bestShare_47 : decode cX8_bestShare 47 = .ok (.bipush 8, 2) := by decide +kernel
theorem dX8_bestShare_49 : decode cX8_bestShare 49 = .ok (.if_icmp .ne 8, 3) := by decide +kernel
theorem dX8_bestShare_52 : decode cX8_bestShare 52 = .ok (.bipush (-9), 2) := by decide +kernel
theorem dX8_bestShare_54 : decode cX8_bestShare 54 = .ok (.goto 9, 3) := by decide +kernel
theorem dX8_bestShare_57 : decode cX8_bestShare 57 = .ok (.aload_n 0, 1) := by decide +kernel
theorem dX8_bestShare_58 : decode cX8_bestShare 58 = .ok (.getfield 41, 3) := by decide +kernel
theorem dX8_bestShare_61 : decode cX8_bestShare 61 = .ok (.iload_n 1, 1) := by decide +kernel
theorem dX8_bestShare_62 : decode cX8_bestShare 62 = .ok (.iaload, 1) := by decide +kernel
theorem dX8_bestShare_63 : decode cX8_bestShare 63 = .ok (.ireturn, 1) := by decide +kernel
theorem dX8_command_0 : decode cX8_command 0 = .ok (.iload_n 1, 1) := by decide +kernel
theorem dX8_command_1 : decode cX8_command 1 = .ok (.sipush 10000, 3) := by decide +kernel
theorem dX8_command_4 : decode cX8_command 4 = .ok (.idiv, 1) := by decide +kernel
theorem dX8_command_5 : decode cX8_command 5 = .ok (.istore_n 2, 1) := by decide +kernel
theorem dX8_command_6 : decode cX8_command 6 = .ok (.iload_n 1, 1) := by decide +kernel
theorem dX8_command_7 : decode cX8_command 7 = .ok (.sipush 1000, 3) := by decide +kernel
theorem dX8_command_10 : decode cX8_command 10 = .ok (.idiv, 1) := by decide +kernel
theorem dX8_command_11 : decode cX8_command 11 = .ok (.bipush 10, 2) := by decide +kernel
theorem dX8_command_13 : decode cX8_command 13 = .ok (.irem, 1) := by decide +kernel
theorem dX8_command_14 : decode cX8_command 14 = .ok (.istore_n 3, 1) := by decide +kernel
theorem dX8_command_15 : decode cX8_command 15 = .ok (.iload_n 1, 1) := by decide +kernel
theorem dX8_command_16 : decode cX8_command 16 = .ok (.bipush 100, 2) := by decide +kernel
theorem dX8_command_18 : decode cX8_command 18 = .ok (.idiv, 1) := by decide +kernel
theorem dX8_command_19 : decode cX8_command 19 = .ok (.bipush 10, 2) := by decide +kernel
theorem dX8_command_21 : decode cX8_command 21 = .ok (.irem, 1) := by decide +kernel
theorem dX8_command_22 : decode cX8_command 22 = .ok (.istore 4, 2) := by decide +kernel
theorem dX8_command_24 : decode cX8_command 24 = .ok (.iload_n 1, 1) := by decide +kernel
theorem dX8_command_25 : decode cX8_command 25 = .ok (.sipush 1000, 3) := by decide +kernel
theorem dX8_command_28 : decode cX8_command 28 = .ok (.irem, 1) := by decide +kernel
theorem dX8_command_29 : decode cX8_command 29 = .ok (.istore 5, 2) := by decide +kernel
theorem dX8_command_31 : decode cX8_command 31 = .ok (.iload_n 1, 1) := by decide +kernel
theorem dX8_command_32 : decode cX8_command 32 = .ok (.bipush 100, 2) := by decide +kernel
theorem dX8_command_34 : decode cX8_command 34 = .ok (.irem, 1) := by decide +kernel
theorem dX8_command_35 : decode cX8_command 35 = .ok (.istore 6, 2) := by decide +kernel
theorem dX8_command_37 : decode cX8_command 37 = .ok (.iload_n 2, 1) := by decide +kernel
theorem dX8_command_38 : decode cX8_command 38 = .ok (.tableswitch 372 1 9 #[50, 92, 129, 170, 226, 252, 281, 315, 344], 50) := by decide +kernel
theorem dX8_command_88 : decode cX8_command 88 = .ok (.iload_n 3, 1) := by decide +kernel
theorem dX8_command_89 : decode cX8_command 89 = .ok (.ifCond .ne 13, 3) := by decide +kernel
theorem dX8_command_92 : decode cX8_command 92 = .ok (.iload 4, 2) := by decide +kernel
theorem dX8_command_94 : decode cX8_command 94 = .ok (.ifCond .ne 8, 3) := by decide +kernel
theorem dX8_command_97 : decode cX8_command 97 = .ok (.iload 6, 2) := by decide +kernel
theorem dX8_command_99 : decode cX8_command 99 = .ok (.ifCond .ne 5, 3) := by decide +kernel
theorem dX8_command_102 : decode cX8_command 102 = .ok (.iconst 0, 1) := by decide +kernel
theorem dX8_command_103 : decode cX8_command 103 = .ok (.ireturn, 1) := by decide +kernel
theorem dX8_command_104 : decode cX8_command 104 = .ok (.iconst 0, 1) := by decide +kernel
theorem dX8_command_105 : decode cX8_command 105 = .ok (.istore 7, 2) := by decide +kernel
theorem dX8_command_107 : decode cX8_command 107 = .ok (.iload 7, 2) := by decide +kernel
theorem dX8_command_109 : decode cX8_command 109 = .ok (.iload 6, 2) := by decide +kernel
theorem dX8_command_111 : decode cX8_command 111 = .ok (.if_icmp .ge 17, 3) := by decide +kernel
theorem dX8_command_114 : decode cX8_command 114 = .ok (.aload_n 0, 1) := by decide +kernel
theorem dX8_command_115 : decode cX8_command 115 = .ok (.aload_n 0, 1) := by decide +kernel
theorem dX8_command_116 : decode cX8_command 116 = .ok (.getfield 19, 3) := by decide +kernel
theorem dX8_command_119 : decode cX8_command 119 = .ok (.invokevirtual 177, 3) := by decide +kernel
theorem dX8_command_122 : decode cX8_command 122 = .ok (.iinc 7 1, 3) := by decide +kernel
theorem dX8_command_125 : decode cX8_command 125 = .ok (.goto (-18), 3) := by decide +kernel
theorem dX8_command_128 : decode cX8_command 128 = .ok (.iconst 1, 1) := by decide +kernel
theorem dX8_command_129 : decode cX8_command 129 = .ok (.ireturn, 1) := by decide +kernel
theorem dX8_command_130 : decode cX8_command 130 = .ok (.aload_n 0, 1) := by decide +kernel
theorem dX8_command_131 : decode cX8_command 131 = .ok (.iload_n 3, 1) := by decide +kernel
theorem dX8_command_132 : decode cX8_command 132 = .ok (.invokevirtual 159, 3) := by decide +kernel
theorem dX8_command_135 : decode cX8_command 135 = .ok (.ifCond .eq 15, 3) := by decide +kernel
theorem dX8_command_138 : decode cX8_command 138 = .ok (.iload 4, 2) := by decide +kernel
theorem dX8_command_140 : decode cX8_command 140 = .ok (.ifCond .ne 10, 3) := by decide +kernel
theorem dX8_command_143 : decode cX8_command 143 = .ok (.iload 6, 2) := by decide +kernel
theorem dX8_command_145 : decode cX8_command 145 = .ok (.bipush 22, 2) := by decide +kernel
theorem dX8_command_147 : decode cX8_command 147 = .ok (.if_icmp .le 5, 3) := by decide +kernel
theorem dX8_command_150 : decode cX8_command 150 = .ok (.iconst 0, 1) := by decide +kernel
theorem dX8_command_151 : decode cX8_command 151 = .ok (.ireturn, 1) := by decide +kernel
theorem dX8_command_152 : decode cX8_command 152 = .ok (.aload_n 0, 1) := by decide +kernel
theorem dX8_command_153 : decode cX8_command 153 = .ok (.getfield 19, 3) := by decide +kernel
theorem dX8_command_156 : decode cX8_command 156 = .ok (.iload_n 3, 1) := by decide +kernel
theorem dX8_command_157 : decode cX8_command 157 = .ok (.invokestatic 61, 3) := by decide +kernel
theorem dX8_command_160 : decode cX8_command 160 = .ok (.iconst 2, 1) := by decide +kernel
theorem dX8_command_161 : decode cX8_command 161 = .ok (.iadd, 1) := by decide +kernel
theorem dX8_command_162 : decode cX8_command 162 = .ok (.iload 6, 2) := by decide +kernel
theorem dX8_command_164 : decode cX8_command 164 = .ok (.iastore, 1) := by decide +kernel
theorem dX8_command_165 : decode cX8_command 165 = .ok (.iconst 1, 1) := by decide +kernel
theorem dX8_command_166 : decode cX8_command 166 = .ok (.ireturn, 1) := by decide +kernel
theorem dX8_command_167 : decode cX8_command 167 = .ok (.aload_n 0, 1) := by decide +kernel
theorem dX8_command_168 : decode cX8_command 168 = .ok (.iload_n 3, 1) := by decide +kernel
theorem dX8_command_169 : decode cX8_command 169 = .ok (.invokevirtual 159, 3) := by decide +kernel
theorem dX8_command_172 : decode cX8_command 172 = .ok (.ifCond .eq 8, 3) := by decide +kernel
theorem dX8_command_175 : decode cX8_command 175 = .ok (.iload 5, 2) := by decide +kernel
theorem dX8_command_177 : decode cX8_command 177 = .ok (.ifCond .eq 5, 3) := by decide +kernel
theorem dX8_command_180 : decode cX8_command 180 = .ok (.iconst 0, 1) := by decide +kernel
theorem dX8_command_181 : decode cX8_command 181 = .ok (.ireturn, 1) := by decide +kernel
theorem dX8_command_182 : decode cX8_command 182 = .ok (.aload_n 0, 1) := by decide +kernel
theorem dX8_command_183 : decode cX8_command 183 = .ok (.getfield 19, 3) := by decide +kernel
theorem dX8_command_186 : decode cX8_command 186 = .ok (.iload_n 3, 1) := by decide +kernel
theorem dX8_command_187 : decode cX8_command 187 = .ok (.invokestatic 61, 3) := by decide +kernel
theorem dX8_command_190 : decode cX8_command 190 = .ok (.iconst 3, 1) := by decide +kernel
theorem dX8_command_191 : decode cX8_command 191 = .ok (.iadd, 1) := by decide +kernel
theorem dX8_command_192 : decode cX8_command 192 = .ok (.iconst 1, 1) := by decide +kernel
theorem dX8_command_193 : decode cX8_command 193 = .ok (.aload_n 0, 1) := by decide +kernel
theorem dX8_command_194 : decode cX8_command 194 = .ok (.getfield 19, 3) := by decide +kernel
theorem dX8_command_197 : decode cX8_command 197 = .ok (.iload_n 3, 1) := by decide +kernel
theorem dX8_command_198 : decode cX8_command 198 = .ok (.invokestatic 61, 3) := by decide +kernel
theorem dX8_command_201 : decode cX8_command 201 = .ok (.iconst 3, 1) := by decide +kernel
theorem dX8_command_202 : decode cX8_command 202 = .ok (.iadd, 1) := by decide +kernel
theorem dX8_command_203 : decode cX8_command 203 = .ok (.iaload, 1) := by decide +kernel
theorem dX8_command_204 : decode cX8_command 204 = .ok (.isub, 1) := by decide +kernel
theorem dX8_command_205 : decode cX8_command 205 = .ok (.iastore, 1) := by decide +kernel
theorem dX8_command_206 : decode cX8_command 206 = .ok (.iconst 1, 1) := by decide +kernel
theorem dX8_command_207 : decode cX8_command 207 = .ok (.ireturn, 1) := by decide +kernel
theorem dX8_command_208 : decode cX8_command 208 = .ok (.aload_n 0, 1) := by decide +kernel
theorem dX8_command_209 : decode cX8_command 209 = .ok (.iload_n 3, 1) := by decide +kernel
theorem dX8_command_210 : decode cX8_command 210 = .ok (.invokevirtual 159, 3) := by decide +kernel
theorem dX8_command_213 : decode cX8_command 213 = .ok (.ifCond .eq 36, 3) := by decide +kernel
theorem dX8_command_216 : decode cX8_command 216 = .ok (.aload_n 0, 1) := by decide +kernel
theorem dX8_command_217 : decode cX8_command 217 = .ok (.iload 4, 2) := by decide +kernel
theorem dX8_command_219 : decode cX8_command 219 = .ok (.invokevirtual 159, 3) := by decide +kernel
theorem dX8_command_222 : decode cX8_command 222 = .ok (.ifCond .eq 27, 3) := by decide +kernel
theorem dX8_command_225 : decode cX8_command 225 = .ok (.iload_n 3, 1) := by decide +kernel
theorem dX8_command_226 : decode cX8_command 226 = .ok (.iload 4, 2) := by decide +kernel
theorem dX8_command_228 : decode cX8_command 228 = .ok (.if_icmp .eq 21, 3) := by decide +kernel
theorem dX8_command_231 : decode cX8_command 231 = .ok (.iload 6, 2) := by decide +kernel
theorem dX8_command_233 : decode cX8_command 233 = .ok (.ifCond .ne 16, 3) := by decide +kernel
theorem dX8_command_236 : decode cX8_command 236 = .ok (.aload_n 0, 1) := by decide +kernel
theorem dX8_command_237 : decode cX8_command 237 = .ok (.getfield 19, 3) := by decide +kernel
theorem dX8_command_240 : decode cX8_command 240 = .ok (.iload_n 3, 1) := by decide +kernel
theorem dX8_command_241 : decode cX8_command 241 = .ok (.iload 4, 2) := by decide +kernel
theorem dX8_command_243 : decode cX8_command 243 = .ok (.invokestatic 191, 3) := by decide +kernel
theorem dX8_command_246 : decode cX8_command 246 = .ok (.ifCond .ne 5, 3) := by decide +kernel
theorem dX8_command_249 : decode cX8_command 249 = .ok (.iconst 0, 1) := by decide +kernel
theorem dX8_command_250 : decode cX8_command 250 = .ok (.ireturn, 1) := by decide +kernel
theorem dX8_command_251 : decode cX8_command 251 = .ok (.aload_n 0, 1) := by decide +kernel
theorem dX8_command_252 : decode cX8_command 252 = .ok (.getfield 19, 3) := by decide +kernel
theorem dX8_command_255 : decode cX8_command 255 = .ok (.iload_n 3, 1) := by decide +kernel
theorem dX8_command_256 : decode cX8_command 256 = .ok (.iload 4, 2) := by decide +kernel
theorem dX8_command_258 : decode cX8_command 258 = .ok (.invokestatic 194, 3) := by decide +kernel
theorem dX8_command_261 : decode cX8_command 261 = .ok (.pop, 1) := by decide +kernel
theorem dX8_command_262 : decode cX8_command 262 = .ok (.iconst 1, 1) := by decide +kernel
theorem dX8_command_263 : decode cX8_command 263 = .ok (.ireturn, 1) := by decide +kernel
theorem dX8_command_264 : decode cX8_command 264 = .ok (.aload_n 0, 1) := by decide +kernel
theorem dX8_command_265 : decode cX8_command 265 = .ok (.iload_n 3, 1) := by decide +kernel
theorem dX8_command_266 : decode cX8_command 266 = .ok (.invokevirtual 159, 3) := by decide +kernel
theorem dX8_command_269 : decode cX8_command 269 = .ok (.ifCond .eq 8, 3) := by decide +kernel
theorem dX8_command_272 : decode cX8_command 272 = .ok (.iload 5, 2) := by decide +kernel
theorem dX8_command_274 : decode cX8_command 274 = .ok (.ifCond .eq 5, 3) := by decide +kernel
theorem dX8_command_277 : decode cX8_command 277 = .ok (.iconst 0, 1) := by decide +kernel
theorem dX8_command_278 : decode cX8_command 278 = .ok (.ireturn, 1) := by decide +kernel
theorem dX8_command_279 : decode cX8_command 279 = .ok (.aload_n 0, 1) := by decide +kernel
theorem dX8_command_280 : decode cX8_command 280 = .ok (.getfield 19, 3) := by decide +kernel
theorem dX8_command_283 : decode cX8_command 283 = .ok (.iload_n 3, 1) := by decide +kernel
theorem dX8_command_284 : decode cX8_command 284 = .ok (.invokestatic 197, 3) := by decide +kernel
theorem dX8_command_287 : decode cX8_command 287 = .ok (.pop, 1) := by decide +kernel
theorem dX8_command_288 : decode cX8_command 288 = .ok (.iconst 1, 1) := by decide +kernel
theorem dX8_command_289 : decode cX8_command 289 = .ok (.ireturn, 1) := by decide +kernel
theorem dX8_command_290 : decode cX8_command 290 = .ok (.iload_n 3, 1) := by decide +kernel
theorem dX8_command_291 : decode cX8_command 291 = .ok (.ifCond .ne 26, 3) := by decide +kernel
theorem dX8_command_294 : decode cX8_command 294 = .ok (.iload 5, 2) := by decide +kernel
theorem dX8_command_296 : decode cX8_command 296 = .ok (.bipush 10, 2) := by decide +kernel
theorem dX8_command_298 : decode cX8_command 298 = .ok (.if_icmp .ge 19, 3) := by decide +kernel
theorem dX8_command_301 : decode cX8_command 301 = .ok (.aload_n 0, 1) := by decide +kernel
theorem dX8_command_302 : decode cX8_command 302 = .ok (.getfield 19, 3) := by decide +kernel
theorem dX8_command_305 : decode cX8_command 305 = .ok (.invokestatic 152, 3) := by decide +kernel
theorem dX8_command_308 : decode cX8_command 308 = .ok (.iload 5, 2) := by decide +kernel
theorem dX8_command_310 : decode cX8_command 310 = .ok (.if_icmp .ne 7, 3) := by decide +kernel
theorem dX8_command_313 : decode cX8_command 313 = .ok (.iconst 1, 1) := by decide +kernel
theorem dX8_command_314 : decode cX8_command 314 = .ok (.goto 4, 3) := by decide +kernel
theorem dX8_command_317 : decode cX8_command 317 = .ok (.iconst 0, 1) := by decide +kernel
theorem dX8_command_318 : decode cX8_command 318 = .ok (.ireturn, 1) := by decide +kernel
theorem dX8_command_319 : decode cX8_command 319 = .ok (.aload_n 0, 1) := by decide +kernel
theorem dX8_command_320 : decode cX8_command 320 = .ok (.iload_n 3, 1) := by decide +kernel
theorem dX8_command_321 : decode cX8_command 321 = .ok (.invokevirtual 159, 3) := by decide +kernel
theorem dX8_command_324 : decode cX8_command 324 = .ok (.ifCond .eq 27, 3) := by decide +kernel
theorem dX8_command_327 : decode cX8_command 327 = .ok (.iload 5, 2) := by decide +kernel
theorem dX8_command_329 : decode cX8_command 329 = .ok (.bipush 10, 2) := by decide +kernel
theorem dX8_command_331 : decode cX8_command 331 = .ok (.if_icmp .ge 20, 3) := by decide +kernel
theorem dX8_command_334 : decode cX8_command 334 = .ok (.aload_n 0, 1) := by decide +kernel
theorem dX8_command_335 : decode cX8_command 335 = .ok (.getfield 19, 3) := by decide +kernel
theorem dX8_command_338 : decode cX8_command 338 = .ok (.iload_n 3, 1) := by decide +kernel
theorem dX8_command_339 : decode cX8_command 339 = .ok (.invokestatic 103, 3) := by decide +kernel
theorem dX8_command_342 : decode cX8_command 342 = .ok (.iload 5, 2) := by decide +kernel
theorem dX8_command_344 : decode cX8_command 344 = .ok (.if_icmp .ne 7, 3) := by decide +kernel
theorem dX8_command_347 : decode cX8_command 347 = .ok (.iconst 1, 1) := by decide +kernel
theorem dX8_command_348 : decode cX8_command 348 = .ok (.goto 4, 3) := by decide +kernel
theorem dX8_command_351 : decode cX8_command 351 = .ok (.iconst 0, 1) := by decide +kernel
theorem dX8_command_352 : decode cX8_command 352 = .ok (.ireturn, 1) := by decide +kernel
theorem dX8_command_353 : decode cX8_command 353 = .ok (.iload_n 3, 1) := by decide +kernel
theorem dX8_command_354 : decode cX8_command 354 = .ok (.ifCond .ne 26, 3) := by decide +kernel
theorem dX8_command_357 : decode cX8_command 357 = .ok (.iload 5, 2) := by decide +kernel
theorem dX8_command_359 : decode cX8_command 359 = .ok (.bipush 10, 2) := by decide +kernel
theorem dX8_command_361 : decode cX8_command 361 = .ok (.if_icmp .ge 19, 3) := by decide +kernel
theorem dX8_command_364 : decode cX8_command 364 = .ok (.aload_n 0, 1) := by decide +kernel
theorem dX8_command_365 : decode cX8_command 365 = .ok (.getfield 19, 3) := by decide +kernel
theorem dX8_command_368 : decode cX8_command 368 = .ok (.invokestatic 213, 3) := by decide +kernel
theorem dX8_command_371 : decode cX8_command 371 = .ok (.iload 5, 2) := by decide +kernel
theorem dX8_command_373 : decode cX8_command 373 = .ok (.if_icmp .ne 7, 3) := by decide +kernel
theorem dX8_command_376 : decode cX8_command 376 = .ok (.iconst 1, 1) := by decide +kernel
theorem dX8_command_377 : decode cX8_command 377 = .ok (.goto 4, 3) := by decide +kernel
theorem dX8_command_380 : decode cX8_command 380 = .ok (.iconst 0, 1) := by decide +kernel
theorem dX8_command_381 : decode cX8_command 381 = .ok (.ireturn, 1) := by decide +kernel
theorem dX8_command_382 : decode cX8_command 382 = .ok (.iload_n 3, 1) := by decide +kernel
theorem dX8_command_383 : decode cX8_command 383 = .ok (.ifCond .ne 25, 3) := by decide +kernel
theorem dX8_command_386 : decode cX8_command 386 = .ok (.iload 4, 2) := by decide +kernel
theorem dX8_command_388 : decode cX8_command 388 = .ok (.ifCond .ne 20, 3) := by decide +kernel
theorem dX8_command_391 : decode cX8_command 391 = .ok (.aload_n 0, 1) := by decide +kernel
theorem dX8_command_392 : decode cX8_command 392 = .ok (.getfield 19, 3) := by decide +kernel
theorem dX8_command_395 : decode cX8_command 395 = .ok (.iconst 5, 1) := by decide +kernel
theorem dX8_command_396 : decode cX8_command 396 = .ok (.invokestatic 156, 3) := by decide +kernel
theorem dX8_command_399 : decode cX8_command 399 = .ok (.iload 6, 2) := by decide +kernel
theorem dX8_command_401 : decode cX8_command 401 = .ok (.if_icmp .gt 7, 3) := by decide +kernel
theorem dX8_command_404 : decode cX8_command 404 = .ok (.iconst 1, 1) := by decide +kernel
theorem dX8_command_405 : decode cX8_command 405 = .ok (.goto 4, 3) := by decide +kernel
theorem dX8_command_408 : decode cX8_command 408 = .ok (.iconst 0, 1) := by decide +kernel
theorem dX8_command_409 : decode cX8_command 409 = .ok (.ireturn, 1) := by decide +kernel
theorem dX8_command_410 : decode cX8_command 410 = .ok (.iconst 0, 1) := by decide +kernel
theorem dX8_command_411 : decode cX8_command 411 = .ok (.ireturn, 1) := by decide +kernel
theorem dX8_runScript_0 : decode cX8_runScript 0 = .ok (.aload_n 0, 1) := by decide +kernel
theorem dX8_runScript_1 : decode cX8_runScript 1 = .ok (.iload_n 1, 1) := by decide +kernel
theorem dX8_runScript_2 : decode cX8_runScript 2 = .ok (.i2l, 1) := by decide +kernel
theorem dX8_runScript_3 : decode cX8_runScript 3 = .ok (.lconst 1, 1) := by decide +kernel
theorem dX8_runScript_4 : decode cX8_runScript 4 = .ok (.ldc2_w 170, 3) := by decide +kernel
theorem dX8_runScript_7 : decode cX8_runScript 7 = .ok (.invokestatic 57, 3) := by decide +kernel
theorem dX8_runScript_10 : decode cX8_runScript 10 = .ok (.ifCond .eq 23, 3) := by decide +kernel
theorem dX8_runScript_13 : decode cX8_runScript 13 = .ok (.lload_n 2, 1) := by decide +kernel
theorem dX8_runScript_14 : decode cX8_runScript 14 = .ok (.lconst 0, 1) := by decide +kernel
theorem dX8_runScript_15 : decode cX8_runScript 15 = .ok (.iconst 5, 1) := by decide +kernel
theorem dX8_runScript_16 : decode cX8_runScript 16 = .ok (.iload_n 1, 1) := by decide +kernel
theorem dX8_runScript_17 : decode cX8_runScript 17 = .ok (.imul, 1) := by decide +kernel
theorem dX8_runScript_18 : decode cX8_runScript 18 = .ok (.invokestatic 231, 3) := by decide +kernel
theorem dX8_runScript_21 : decode cX8_runScript 21 = .ok (.lconst 1, 1) := by decide +kernel
theorem dX8_runScript_22 : decode cX8_runScript 22 = .ok (.lsub, 1) := by decide +kernel
theorem dX8_runScript_23 : decode cX8_runScript 23 = .ok (.invokestatic 57, 3) := by decide +kernel
theorem dX8_runScript_26 : decode cX8_runScript 26 = .ok (.ifCond .eq 7, 3) := by decide +kernel
theorem dX8_runScript_29 : decode cX8_runScript 29 = .ok (.iconst 0, 1) := by decide +kernel
theorem dX8_runScript_30 : decode cX8_runScript 30 = .ok (.goto 4, 3) := by decide +kernel
theorem dX8_runScript_33 : decode cX8_runScript 33 = .ok (.iconst 1, 1) := by decide +kernel
theorem dX8_runScript_34 : decode cX8_runScript 34 = .ok (.invokevirtual 126, 3) := by decide +kernel
theorem dX8_runScript_37 : decode cX8_runScript 37 = .ok (.ifCond .eq 5, 3) := by decide +kernel
theorem dX8_runScript_40 : decode cX8_runScript 40 = .ok (.iconst 0, 1) := by decide +kernel
theorem dX8_runScript_41 : decode cX8_runScript 41 = .ok (.ireturn, 1) := by decide +kernel
theorem dX8_runScript_42 : decode cX8_runScript 42 = .ok (.aload_n 0, 1) := by decide +kernel
theorem dX8_runScript_43 : decode cX8_runScript 43 = .ok (.getfield 16, 3) := by decide +kernel
theorem dX8_runScript_46 : decode cX8_runScript 46 = .ok (.iconst 0, 1) := by decide +kernel
theorem dX8_runScript_47 : decode cX8_runScript 47 = .ok (.aload_n 0, 1) := by decide +kernel
theorem dX8_runScript_48 : decode cX8_runScript 48 = .ok (.getfield 19, 3) := by decide +kernel
theorem dX8_runScript_51 : decode cX8_runScript 51 = .ok (.iconst 0, 1) := by decide +kernel
theorem dX8_runScript_52 : decode cX8_runScript 52 = .ok (.sipush 264, 3) := by decide +kernel
theorem dX8_runScript_55 : decode cX8_runScript 55 = .ok (.invokestatic 53, 3) := by decide +kernel
theorem dX8_runScript_58 : decode cX8_runScript 58 = .ok (.iconst 0, 1) := by decide +kernel
theorem dX8_runScript_59 : decode cX8_runScript 59 = .ok (.istore 4, 2) := by decide +kernel
theorem dX8_runScript_61 : decode cX8_runScript 61 = .ok (.iload 4, 2) := by decide +kernel
theorem dX8_runScript_63 : decode cX8_runScript 63 = .ok (.iload_n 1, 1) := by decide +kernel
theorem dX8_runScript_64 : decode cX8_runScript 64 = .ok (.if_icmp .ge 37, 3) := by decide +kernel
theorem dX8_runScript_67 : decode cX8_runScript 67 = .ok (.aload_n 0, 1) := by decide +kernel
theorem dX8_runScript_68 : decode cX8_runScript 68 = .ok (.lload_n 2, 1) := by decide +kernel
theorem dX8_runScript_69 : decode cX8_runScript 69 = .ok (.iconst 5, 1) := by decide +kernel
theorem dX8_runScript_70 : decode cX8_runScript 70 = .ok (.iload_n 1, 1) := by decide +kernel
theorem dX8_runScript_71 : decode cX8_runScript 71 = .ok (.iconst 1, 1) := by decide +kernel
theorem dX8_runScript_72 : decode cX8_runScript 72 = .ok (.isub, 1) := by decide +kernel
theorem dX8_runScript_73 : decode cX8_runScript 73 = .ok (.iload 4, 2) := by decide +kernel
theorem dX8_runScript_75 : decode cX8_runScript 75 = .ok (.isub, 1) := by decide +kernel
theorem dX8_runScript_76 : decode cX8_runScript 76 = .ok (.imul, 1) := by decide +kernel
theorem dX8_runScript_77 : decode cX8_runScript 77 = .ok (.invokestatic 231, 3) := by decide +kernel
theorem dX8_runScript_80 : decode cX8_runScript 80 = .ok (.ldiv, 1) := by decide +kernel
theorem dX8_runScript_81 : decode cX8_runScript 81 = .ok (.ldc2_w 235, 3) := by decide +kernel
theorem dX8_runScript_84 : decode cX8_runScript 84 = .ok (.lrem, 1) := by decide +kernel
theorem dX8_runScript_85 : decode cX8_runScript 85 = .ok (.l2i, 1) := by decide +kernel
theorem dX8_runScript_86 : decode cX8_runScript 86 = .ok (.invokevirtual 237, 3) := by decide +kernel
theorem dX8_runScript_89 : decode cX8_runScript 89 = .ok (.ifCond .ne 6, 3) := by decide +kernel
theorem dX8_runScript_92 : decode cX8_runScript 92 = .ok (.iload 4, 2) := by decide +kernel
theorem dX8_runScript_94 : decode cX8_runScript 94 = .ok (.ireturn, 1) := by decide +kernel
theorem dX8_runScript_95 : decode cX8_runScript 95 = .ok (.iinc 4 1, 3) := by decide +kernel
theorem dX8_runScript_98 : decode cX8_runScript 98 = .ok (.goto (-37), 3) := by decide +kernel
theorem dX8_runScript_101 : decode cX8_runScript 101 = .ok (.bipush (-9), 2) := by decide +kernel
theorem dX8_runScript_103 : decode cX8_runScript 103 = .ok (.ireturn, 1) := by decide +kernel
theorem dX8_simulate_0 : decode cX8_simulate 0 = .ok (.aload_n 0, 1) := by decide +kernel
theorem dX8_simulate_1 : decode cX8_simulate 1 = .ok (.iload_n 3, 1) := by decide +kernel
theorem dX8_simulate_2 : decode cX8_simulate 2 = .ok (.i2l, 1) := by decide +kernel
theorem dX8_simulate_3 : decode cX8_simulate 3 = .ok (.lconst 1, 1) := by decide +kernel
theorem dX8_simulate_4 : decode cX8_simulate 4 = .ok (.ldc2_w 240, 3) := by decide +kernel
theorem dX8_simulate_7 : decode cX8_simulate 7 = .ok (.invokestatic 57, 3) := by decide +kernel
theorem dX8_simulate_10 : decode cX8_simulate 10 = .ok (.ifCond .eq 7, 3) := by decide +kernel
theorem dX8_simulate_13 : decode cX8_simulate 13 = .ok (.iconst 0, 1) := by decide +kernel
theorem dX8_simulate_14 : decode cX8_simulate 14 = .ok (.goto 4, 3) := by decide +kernel
theorem dX8_simulate_17 : decode cX8_simulate 17 = .ok (.iconst 1, 1) := by decide +kernel
theorem dX8_simulate_18 : decode cX8_simulate 18 = .ok (.invokevirtual 126, 3) := by decide +kernel
theorem dX8_simulate_21 : decode cX8_simulate 21 = .ok (.ifCond .eq 5, 3) := by decide +kernel
theorem dX8_simulate_24 : decode cX8_simulate 24 = .ok (.iconst 0, 1) := by decide +kernel
theorem dX8_simulate_25 : decode cX8_simulate 25 = .ok (.ireturn, 1) := by decide +kernel
theorem dX8_simulate_26 : decode cX8_simulate 26 = .ok (.aload_n 0, 1) := by decide +kernel
theorem dX8_simulate_27 : decode cX8_simulate 27 = .ok (.getfield 16, 3) := by decide +kernel
theorem dX8_simulate_30 : decode cX8_simulate 30 = .ok (.iconst 0, 1) := by decide +kernel
theorem dX8_simulate_31 : decode cX8_simulate 31 = .ok (.aload_n 0, 1) := by decide +kernel
theorem dX8_simulate_32 : decode cX8_simulate 32 = .ok (.getfield 19, 3) := by decide +kernel
theorem dX8_simulate_35 : decode cX8_simulate 35 = .ok (.iconst 0, 1) := by decide +kernel
theorem dX8_simulate_36 : decode cX8_simulate 36 = .ok (.sipush 264, 3) := by decide +kernel
theorem dX8_simulate_39 : decode cX8_simulate 39 = .ok (.invokestatic 53, 3) := by decide +kernel
theorem dX8_simulate_42 : decode cX8_simulate 42 = .ok (.lload_n 1, 1) := by decide +kernel
theorem dX8_simulate_43 : decode cX8_simulate 43 = .ok (.lstore 4, 2) := by decide +kernel
theorem dX8_simulate_45 : decode cX8_simulate 45 = .ok (.iconst 0, 1) := by decide +kernel
theorem dX8_simulate_46 : decode cX8_simulate 46 = .ok (.istore 6, 2) := by decide +kernel
theorem dX8_simulate_48 : decode cX8_simulate 48 = .ok (.iload 6, 2) := by decide +kernel
theorem dX8_simulate_50 : decode cX8_simulate 50 = .ok (.iload_n 3, 1) := by decide +kernel
theorem dX8_simulate_51 : decode cX8_simulate 51 = .ok (.if_icmp .ge 167, 3) := by decide +kernel
theorem dX8_simulate_54 : decode cX8_simulate 54 = .ok (.lload 4, 2) := by decide +kernel
theorem dX8_simulate_56 : decode cX8_simulate 56 = .ok (.ldc2_w 242, 3) := by decide +kernel
theorem dX8_simulate_59 : decode cX8_simulate 59 = .ok (.lmul, 1) := by decide +kernel
theorem dX8_simulate_60 : decode cX8_simulate 60 = .ok (.ldc2_w 244, 3) := by decide +kernel
theorem dX8_simulate_63 : decode cX8_simulate 63 = .ok (.ladd, 1) := by decide +kernel
theorem dX8_simulate_64 : decode cX8_simulate 64 = .ok (.lstore 4, 2) := by decide +kernel
theorem dX8_simulate_66 : decode cX8_simulate 66 = .ok (.lload 4, 2) := by decide +kernel
theorem dX8_simulate_68 : decode cX8_simulate 68 = .ok (.bipush 33, 2) := by decide +kernel
theorem dX8_simulate_70 : decode cX8_simulate 70 = .ok (.lushr, 1) := by decide +kernel
theorem dX8_simulate_71 : decode cX8_simulate 71 = .ok (.l2i, 1) := by decide +kernel
theorem dX8_simulate_72 : decode cX8_simulate 72 = .ok (.istore 7, 2) := by decide +kernel
theorem dX8_simulate_74 : decode cX8_simulate 74 = .ok (.aload_n 0, 1) := by decide +kernel
theorem dX8_simulate_75 : decode cX8_simulate 75 = .ok (.getfield 19, 3) := by decide +kernel
theorem dX8_simulate_78 : decode cX8_simulate 78 = .ok (.iconst 0, 1) := by decide +kernel
theorem dX8_simulate_79 : decode cX8_simulate 79 = .ok (.iaload, 1) := by decide +kernel
theorem dX8_simulate_80 : decode cX8_simulate 80 = .ok (.ifCond .le 124, 3) := by decide +kernel
theorem dX8_simulate_83 : decode cX8_simulate 83 = .ok (.iload 7, 2) := by decide +kernel
theorem dX8_simulate_85 : decode cX8_simulate 85 = .ok (.bipush 8, 2) := by decide +kernel
theorem dX8_simulate_87 : decode cX8_simulate 87 = .ok (.idiv, 1) := by decide +kernel
theorem dX8_simulate_88 : decode cX8_simulate 88 = .ok (.aload_n 0, 1) := by decide +kernel
theorem dX8_simulate_89 : decode cX8_simulate 89 = .ok (.getfield 19, 3) := by decide +kernel
theorem dX8_simulate_92 : decode cX8_simulate 92 = .ok (.iconst 0, 1) := by decide +kernel
theorem dX8_simulate_93 : decode cX8_simulate 93 = .ok (.iaload, 1) := by decide +kernel
theorem dX8_simulate_94 : decode cX8_simulate 94 = .ok (.irem, 1) := by decide +kernel
theorem dX8_simulate_95 : decode cX8_simulate 95 = .ok (.invokestatic 61, 3) := by decide +kernel
theorem dX8_simulate_98 : decode cX8_simulate 98 = .ok (.istore 8, 2) := by decide +kernel
theorem dX8_simulate_100 : decode cX8_simulate 100 = .ok (.iload 7, 2) := by decide +kernel
theorem dX8_simulate_102 : decode cX8_simulate 102 = .ok (.bipush 8, 2) := by decide +kernel
theorem dX8_simulate_104 : decode cX8_simulate 104 = .ok (.irem, 1) := by decide +kernel
theorem dX8_simulate_105 : decode cX8_simulate 105 = .ok (.ifCond .ne 26, 3) := by decide +kernel
theorem dX8_simulate_108 : decode cX8_simulate 108 = .ok (.aload_n 0, 1) := by decide +kernel
theorem dX8_simulate_109 : decode cX8_simulate 109 = .ok (.getfield 19, 3) := by decide +kernel
theorem dX8_simulate_112 : decode cX8_simulate 112 = .ok (.iload 8, 2) := by decide +kernel
theorem dX8_simulate_114 : decode cX8_simulate 114 = .ok (.iconst 3, 1) := by decide +kernel
theorem dX8_simulate_115 : decode cX8_simulate 115 = .ok (.iadd, 1) := by decide +kernel
theorem dX8_simulate_116 : decode cX8_simulate 116 = .ok (.iconst 1, 1) := by decide +kernel
theorem dX8_simulate_117 : decode cX8_simulate 117 = .ok (.aload_n 0, 1) := by decide +kernel
theorem dX8_simulate_118 : decode cX8_simulate 118 = .ok (.getfield 19, 3) := by decide +kernel
theorem dX8_simulate_121 : decode cX8_simulate 121 = .ok (.iload 8, 2) := by decide +kernel
theorem dX8_simulate_123 : decode cX8_simulate 123 = .ok (.iconst 3, 1) := by decide +kernel
theorem dX8_simulate_124 : decode cX8_simulate 124 = .ok (.iadd, 1) := by decide +kernel
theorem dX8_simulate_125 : decode cX8_simulate 125 = .ok (.iaload, 1) := by decide +kernel
theorem dX8_simulate_126 : decode cX8_simulate 126 = .ok (.isub, 1) := by decide +kernel
theorem dX8_simulate_127 : decode cX8_simulate 127 = .ok (.iastore, 1) := by decide +kernel
theorem dX8_simulate_128 : decode cX8_simulate 128 = .ok (.goto 76, 3) := by decide +kernel
theorem dX8_simulate_131 : decode cX8_simulate 131 = .ok (.iload 7, 2) := by decide +kernel
theorem dX8_simulate_133 : decode cX8_simulate 133 = .ok (.bipush 8, 2) := by decide +kernel
theorem dX8_simulate_135 : decode cX8_simulate 135 = .ok (.irem, 1) := by decide +kernel
theorem dX8_simulate_136 : decode cX8_simulate 136 = .ok (.iconst 1, 1) := by decide +kernel
theorem dX8_simulate_137 : decode cX8_simulate 137 = .ok (.if_icmp .ne 23, 3) := by decide +kernel
theorem dX8_simulate_140 : decode cX8_simulate 140 = .ok (.aload_n 0, 1) := by decide +kernel
theorem dX8_simulate_141 : decode cX8_simulate 141 = .ok (.getfield 19, 3) := by decide +kernel
theorem dX8_simulate_144 : decode cX8_simulate 144 = .ok (.iload 8, 2) := by decide +kernel
theorem dX8_simulate_146 : decode cX8_simulate 146 = .ok (.iconst 2, 1) := by decide +kernel
theorem dX8_simulate_147 : decode cX8_simulate 147 = .ok (.iadd, 1) := by decide +kernel
theorem dX8_simulate_148 : decode cX8_simulate 148 = .ok (.iload 7, 2) := by decide +kernel
theorem dX8_simulate_150 : decode cX8_simulate 150 = .ok (.bipush 64, 2) := by decide +kernel
theorem dX8_simulate_152 : decode cX8_simulate 152 = .ok (.idiv, 1) := by decide +kernel
theorem dX8_simulate_153 : decode cX8_simulate 153 = .ok (.bipush 23, 2) := by decide +kernel
theorem dX8_simulate_155 : decode cX8_simulate 155 = .ok (.irem, 1) := by decide +kernel
theorem dX8_simulate_156 : decode cX8_simulate 156 = .ok (.iastore, 1) := by decide +kernel
theorem dX8_simulate_157 : decode cX8_simulate 157 = .ok (.goto 47, 3) := by decide +kernel
theorem dX8_simulate_160 : decode cX8_simulate 160 = .ok (.iload 7, 2) := by decide +kernel
theorem dX8_simulate_162 : decode cX8_simulate 162 = .ok (.bipush 8, 2) := by decide +kernel
theorem dX8_simulate_164 : decode cX8_simulate 164 = .ok (.irem, 1) := by decide +kernel
theorem dX8_simulate_165 : decode cX8_simulate 165 = .ok (.iconst 2, 1) := by decide +kernel
theorem dX8_simulate_166 : decode cX8_simulate 166 = .ok (.if_icmp .ne 38, 3) := by decide +kernel
theorem dX8_simulate_169 : decode cX8_simulate 169 = .ok (.aload_n 0, 1) := by decide +kernel
theorem dX8_simulate_170 : decode cX8_simulate 170 = .ok (.getfield 19, 3) := by decide +kernel
theorem dX8_simulate_173 : decode cX8_simulate 173 = .ok (.iload 8, 2) := by decide +kernel
theorem dX8_simulate_175 : decode cX8_simulate 175 = .ok (.iconst 0, 1) := by decide +kernel
theorem dX8_simulate_176 : decode cX8_simulate 176 = .ok (.iadd, 1) := by decide +kernel
theorem dX8_simulate_177 : decode cX8_simulate 177 = .ok (.iload 7, 2) := by decide +kernel
theorem dX8_simulate_179 : decode cX8_simulate 179 = .ok (.bipush 64, 2) := by decide +kernel
theorem dX8_simulate_181 : decode cX8_simulate 181 = .ok (.idiv, 1) := by decide +kernel
theorem dX8_simulate_182 : decode cX8_simulate 182 = .ok (.bipush 12, 2) := by decide +kernel
theorem dX8_simulate_184 : decode cX8_simulate 184 = .ok (.irem, 1) := by decide +kernel
theorem dX8_simulate_185 : decode cX8_simulate 185 = .ok (.iastore, 1) := by decide +kernel
theorem dX8_simulate_186 : decode cX8_simulate 186 = .ok (.aload_n 0, 1) := by decide +kernel
theorem dX8_simulate_187 : decode cX8_simulate 187 = .ok (.getfield 19, 3) := by decide +kernel
theorem dX8_simulate_190 : decode cX8_simulate 190 = .ok (.iload 8, 2) := by decide +kernel
theorem dX8_simulate_192 : decode cX8_simulate 192 = .ok (.iconst 1, 1) := by decide +kernel
theorem dX8_simulate_193 : decode cX8_simulate 193 = .ok (.iadd, 1) := by decide +kernel
theorem dX8_simulate_194 : decode cX8_simulate 194 = .ok (.iload 7, 2) := by decide +kernel
theorem dX8_simulate_196 : decode cX8_simulate 196 = .ok (.sipush 1024, 3) := by decide +kernel
theorem dX8_simulate_199 : decode cX8_simulate 199 = .ok (.idiv, 1) := by decide +kernel
theorem dX8_simulate_200 : decode cX8_simulate 200 = .ok (.bipush 12, 2) := by decide +kernel
theorem dX8_simulate_202 : decode cX8_simulate 202 = .ok (.irem, 1) := by decide +kernel
theorem dX8_simulate_203 : decode cX8_simulate 203 = .ok (.iastore, 1) := by decide +kernel
theorem dX8_simulate_204 : decode cX8_simulate 204 = .ok (.aload_n 0, 1) := by decide +kernel
theorem dX8_simulate_205 : decode cX8_simulate 205 = .ok (.aload_n 0, 1) := by decide +kernel
theorem dX8_simulate_206 : decode cX8_simulate 206 = .ok (.getfield 19, 3) := by decide +kernel
theorem dX8_simulate_209 : decode cX8_simulate 209 = .ok (.invokevirtual 177, 3) := by decide +kernel
theorem dX8_simulate_212 : decode cX8_simulate 212 = .ok (.iinc 6 1, 3) := by decide +kernel
theorem dX8_simulate_215 : decode cX8_simulate 215 = .ok (.goto (-167), 3) := by decide +kernel
theorem dX8_simulate_218 : decode cX8_simulate 218 = .ok (.aload_n 0, 1) := by decide +kernel
theorem dX8_simulate_219 : decode cX8_simulate 219 = .ok (.getfield 19, 3) := by decide +kernel
theorem dX8_simulate_222 : decode cX8_simulate 222 = .ok (.invokestatic 221, 3) := by decide +kernel
theorem dX8_simulate_225 : decode cX8_simulate 225 = .ok (.bipush 100, 2) := by decide +kernel
theorem dX8_simulate_227 : decode cX8_simulate 227 = .ok (.aload_n 0, 1) := by decide +kernel
theorem dX8_simulate_228 : decode cX8_simulate 228 = .ok (.getfield 19, 3) := by decide +kernel
theorem dX8_simulate_231 : decode cX8_simulate 231 = .ok (.iconst 5, 1) := by decide +kernel
theorem dX8_simulate_232 : decode cX8_simulate 232 = .ok (.invokestatic 156, 3) := by decide +kernel
theorem dX8_simulate_235 : decode cX8_simulate 235 = .ok (.imul, 1) := by decide +kernel
theorem dX8_simulate_236 : decode cX8_simulate 236 = .ok (.iadd, 1) := by decide +kernel
theorem dX8_simulate_237 : decode cX8_simulate 237 = .ok (.ireturn, 1) := by decide +kernel
theorem dX8_save_0 : decode cX8_save 0 = .ok (.aload_n 0, 1) := by decide +kernel
theorem dX8_save_1 : decode cX8_save 1 = .ok (.iload_n 1, 1) := by decide +kernel
theorem dX8_save_2 : decode cX8_save 2 = .ok (.i2l, 1) := by decide +kernel
theorem dX8_save_3 : decode cX8_save 3 = .ok (.lconst 0, 1) := by decide +kernel
theorem dX8_save_4 : decode cX8_save 4 = .ok (.lconst 1, 1) := by decide +kernel
theorem dX8_save_5 : decode cX8_save 5 = .ok (.invokestatic 57, 3) := by decide +kernel
theorem dX8_save_8 : decode cX8_save 8 = .ok (.ifCond .eq 7, 3) := by decide +kernel
theorem dX8_save_11 : decode cX8_save 11 = .ok (.iconst 0, 1) := by decide +kernel
theorem dX8_save_12 : decode cX8_save 12 = .ok (.goto 4, 3) := by decide +kernel
theorem dX8_save_15 : decode cX8_save 15 = .ok (.iconst 1, 1) := by decide +kernel
theorem dX8_save_16 : decode cX8_save 16 = .ok (.invokevirtual 126, 3) := by decide +kernel
theorem dX8_save_19 : decode cX8_save 19 = .ok (.ifCond .eq 5, 3) := by decide +kernel
theorem dX8_save_22 : decode cX8_save 22 = .ok (.iconst 0, 1) := by decide +kernel
theorem dX8_save_23 : decode cX8_save 23 = .ok (.ireturn, 1) := by decide +kernel
theorem dX8_save_24 : decode cX8_save 24 = .ok (.aload_n 0, 1) := by decide +kernel
theorem dX8_save_25 : decode cX8_save 25 = .ok (.getfield 31, 3) := by decide +kernel
theorem dX8_save_28 : decode cX8_save 28 = .ok (.iload_n 1, 1) := by decide +kernel
theorem dX8_save_29 : decode cX8_save 29 = .ok (.iconst 1, 1) := by decide +kernel
theorem dX8_save_30 : decode cX8_save 30 = .ok (.bastore, 1) := by decide +kernel
theorem dX8_save_31 : decode cX8_save 31 = .ok (.aload_n 0, 1) := by decide +kernel
theorem dX8_save_32 : decode cX8_save 32 = .ok (.getfield 16, 3) := by decide +kernel
theorem dX8_save_35 : decode cX8_save 35 = .ok (.iconst 0, 1) := by decide +kernel
theorem dX8_save_36 : decode cX8_save 36 = .ok (.aload_n 0, 1) := by decide +kernel
theorem dX8_save_37 : decode cX8_save 37 = .ok (.getfield 28, 3) := by decide +kernel
theorem dX8_save_40 : decode cX8_save 40 = .ok (.sipush 264, 3) := by decide +kernel
theorem dX8_save_43 : decode cX8_save 43 = .ok (.iload_n 1, 1) := by decide +kernel
theorem dX8_save_44 : decode cX8_save 44 = .ok (.imul, 1) := by decide +kernel
theorem dX8_save_45 : decode cX8_save 45 = .ok (.sipush 264, 3) := by decide +kernel
theorem dX8_save_48 : decode cX8_save 48 = .ok (.invokestatic 53, 3) := by decide +kernel
theorem dX8_save_51 : decode cX8_save 51 = .ok (.aload_n 0, 1) := by decide +kernel
theorem dX8_save_52 : decode cX8_save 52 = .ok (.getfield 16, 3) := by decide +kernel
theorem dX8_save_55 : decode cX8_save 55 = .ok (.iconst 2, 1) := by decide +kernel
theorem dX8_save_56 : decode cX8_save 56 = .ok (.iaload, 1) := by decide +kernel
theorem dX8_save_57 : decode cX8_save 57 = .ok (.ireturn, 1) := by decide +kernel
theorem dX8_restore_0 : decode cX8_restore 0 = .ok (.aload_n 0, 1) := by decide +kernel
theorem dX8_restore_1 : decode cX8_restore 1 = .ok (.iload_n 1, 1) := by decide +kernel
theorem dX8_restore_2 : decode cX8_restore 2 = .ok (.i2l, 1) := by decide +kernel
theorem dX8_restore_3 : decode cX8_restore 3 = .ok (.lconst 0, 1) := by decide +kernel
theorem dX8_restore_4 : decode cX8_restore 4 = .ok (.lconst 1, 1) := by decide +kernel
theorem dX8_restore_5 : decode cX8_restore 5 = .ok (.invokestatic 57, 3) := by decide +kernel
theorem dX8_restore_8 : decode cX8_restore 8 = .ok (.ifCond .ne 7, 3) := by decide +kernel
theorem dX8_restore_11 : decode cX8_restore 11 = .ok (.iconst 1, 1) := by decide +kernel
theorem dX8_restore_12 : decode cX8_restore 12 = .ok (.goto 17, 3) := by decide +kernel
theorem dX8_restore_15 : decode cX8_restore 15 = .ok (.aload_n 0, 1) := by decide +kernel
theorem dX8_restore_16 : decode cX8_restore 16 = .ok (.getfield 31, 3) := by decide +kernel
theorem dX8_restore_19 : decode cX8_restore 19 = .ok (.iload_n 1, 1) := by decide +kernel
theorem dX8_restore_20 : decode cX8_restore 20 = .ok (.baload, 1) := by decide +kernel
theorem dX8_restore_21 : decode cX8_restore 21 = .ok (.ifCond .ne 7, 3) := by decide +kernel
theorem dX8_restore_24 : decode cX8_restore 24 = .ok (.iconst 2, 1) := by decide +kernel
theorem dX8_restore_25 : decode cX8_restore 25 = .ok (.goto 4, 3) := by decide +kernel
theorem dX8_restore_28 : decode cX8_restore 28 = .ok (.iconst 0, 1) := by decide +kernel
theorem dX8_restore_29 : decode cX8_restore 29 = .ok (.invokevirtual 126, 3) := by decide +kernel
theorem dX8_restore_32 : decode cX8_restore 32 = .ok (.ifCond .eq 5, 3) := by decide +kernel
theorem dX8_restore_35 : decode cX8_restore 35 = .ok (.iconst 0, 1) := by decide +kernel
theorem dX8_restore_36 : decode cX8_restore 36 = .ok (.ireturn, 1) := by decide +kernel
theorem dX8_restore_37 : decode cX8_restore 37 = .ok (.aload_n 0, 1) := by decide +kernel
theorem dX8_restore_38 : decode cX8_restore 38 = .ok (.getfield 28, 3) := by decide +kernel
theorem dX8_restore_41 : decode cX8_restore 41 = .ok (.sipush 264, 3) := by decide +kernel
theorem dX8_restore_44 : decode cX8_restore 44 = .ok (.iload_n 1, 1) := by decide +kernel
theorem dX8_restore_45 : decode cX8_restore 45 = .ok (.imul, 1) := by decide +kernel
theorem dX8_restore_46 : decode cX8_restore 46 = .ok (.aload_n 0, 1) := by decide +kernel
theorem dX8_restore_47 : decode cX8_restore 47 = .ok (.getfield 16, 3) := by decide +kernel
theorem dX8_restore_50 : decode cX8_restore 50 = .ok (.iconst 0, 1) := by decide +kernel
theorem dX8_restore_51 : decode cX8_restore 51 = .ok (.sipush 264, 3) := by decide +kernel
theorem dX8_restore_54 : decode cX8_restore 54 = .ok (.invokestatic 53, 3) := by decide +kernel
theorem dX8_restore_57 : decode cX8_restore 57 = .ok (.aload_n 0, 1) := by decide +kernel
theorem dX8_restore_58 : decode cX8_restore 58 = .ok (.iconst 0, 1) := by decide +kernel
theorem dX8_restore_59 : decode cX8_restore 59 = .ok (.putfield 50, 3) := by decide +kernel
theorem dX8_restore_62 : decode cX8_restore 62 = .ok (.aload_n 0, 1) := by decide +kernel
theorem dX8_restore_63 : decode cX8_restore 63 = .ok (.getfield 16, 3) := by decide +kernel
theorem dX8_restore_66 : decode cX8_restore 66 = .ok (.iconst 2, 1) := by decide +kernel
theorem dX8_restore_67 : decode cX8_restore 67 = .ok (.iaload, 1) := by decide +kernel
theorem dX8_restore_68 : decode cX8_restore 68 = .ok (.ireturn, 1) := by decide +kernel
end
section
/-! ===== the machine in short: an abstract heap, a contract over it, a row an instruction ===== -/
/-- an abstract heap: what is known of the cells; the size where it is known -/
abbrev zHp : Type := (Nat → Option va_E) × Option Nat
/-- what stays the same in a run: launch, classes and slots, the classes of int[], boolean[], long[], World[]; the first free address; the addresses of three texts -/
abbrev zGl : Type := Launch × va_G × (ClassId × ClassId × ClassId × ClassId) × Nat × (Nat × Nat × Nat)
/-- a method: name, code, locals, result, frames and words that it nests -/
abbrev zMt : Type := MethodName × ByteArray × Nat × Option FieldType × Nat × Nat
def zgD (g : zGl) : va_G := g.2.1
def zgI (g : zGl) : ClassId := g.2.2.1.1
def zgZ (g : zGl) : ClassId := g.2.2.1.2.1
def zgJ (g : zGl) : ClassId := g.2.2.1.2.2.1
def zgW (g : zGl) : ClassId := g.2.2.1.2.2.2
def zgB (g : zGl) : Nat := g.2.2.2.1
def zTy (g : zGl) : List (ClassId × FieldType) := [(zgI g, .int), (zgZ g, .boolean), (zgJ g, .long), (zgW g, .object "ClaimedTasks$World")]
def zFr (g : zGl) : Nat → Prop := fun q => zgB g ≤ q
def zTb : List Cond := lw_tbl.filter goodWord
def zIsN : Cond → Bool
  | .methodLinkNest _ _ _ _ => true
  | .castable _ _ => true
  | .declares _ => true
  | _ => false
def zNs : List Cond := lw_tbl.filter zIsN
/-- what holds all along: the tables, the statics of Throwable, the texts -/
def zIv (g : zGl) (U : State) : Prop :=
  va_K (zgD g) vwCl (zTy g) U ∧ (∀ w ∈ zNs, va_Nw w U) ∧ va_AO "ClaimedTasks$World" U ∧
  vx_Zq Bundle.tN "UNASSIGNED_STACK" Bundle.steD (zFr g) U U.heap ∧ vx_Zq Bundle.tN "SUPPRESSED_SENTINEL" Bundle.listD (zFr g) U U.heap ∧
  (vk_R "ClaimedTasks" 294 "there is no such agent, task or slot" g.2.2.2.2.1 U ∧ vk_R "ClaimedTasks" 301 "an argument is out of its range" g.2.2.2.2.2.1 U ∧ vk_R "ClaimedTasks" 306 "the present state does not allow this call" g.2.2.2.2.2.2 U) ∧
  zgB g ≤ U.heap.size ∧ g.1.stackTraces = false
theorem zIv_moved {g : zGl} {s U : State} (hW : s.WarmedH U.vm) (hz : s.heap.size ≤ U.heap.size) (hk : ∀ q : Nat, q < s.heap.size → ¬ zFr g q → U.heap[q]? = s.heap[q]?) (h : zIv g s) : zIv g U := by
  obtain ⟨h1, h2, h3, h4, h5, ⟨h6, h7, h8⟩, h9, h10⟩ := h
  refine ⟨va_K.moved hW.alike h1, fun w hw => ?_, va_AO.moved hW.alike h3, vx_Zq.moved hW.alike (h4.kept hk), vx_Zq.moved hW.alike (h5.kept hk), ⟨vk_R.warm hW h6, vk_R.warm hW h7, vk_R.warm hW h8⟩, Nat.le_trans h9 hz, h10⟩
  have hn : zIsN w = true := (List.mem_filter.mp hw).2
  have hz := h2 w hw
  cases w <;> first | exact va_Nw.warmM hW hz | exact va_Nw.warmC hW hz | exact va_Nw.warmD hW hz | (simp [zIsN] at hn)
/-- the real heap holds what the abstract one says -/
def zRp (g : zGl) (h : zHp) (H : Heap) : Prop := (∀ (q : Nat) (c : va_E), h.1 q = some c → zFr g q ∧ va_at (zgD g) vwCl (q, c) H) ∧ ∀ n : Nat, h.2 = some n → H.size = n
def zPr (g : zGl) (h : zHp) (U : State) : Prop := zRp g h U.heap ∧ zIv g U
def zWs (M : zMt) : List Cond := Cond.code M.1 M.2.1 M.2.2.1 M.2.2.2.1 :: zTb
def zRm (M : zMt) (k n : Nat) : Room := { frames := M.2.2.2.2.1, cells := k, slots := n, locals := M.2.2.2.2.2 }
def zQ (g : zGl) (P : Option Value → zHp → Prop) : Array Value → State → Outcome → State → Prop := fun _ st o t => (∃ (v : Option Value) (h' : zHp), o = .returned v ∧ zRp g h' t.heap ∧ P v h') ∧ va_F (zFr g) st t
def zQX (g : zGl) (E : String) (P : zHp → Prop) : String → State → State → Prop := fun E' st t => E' = E ∧ (∃ h' : zHp, zRp g h' t.heap ∧ P h') ∧ va_F (zFr g) st t
/-- method M, called with av over the heap h: it returns; of answer and heap then P; at most k cells of n slots are new -/
def zC (g : zGl) (M : zMt) (av : List Value) (h : zHp) (P : Option Value → zHp → Prop) (k n : Nat) : Prop :=
  Met g.1 M.1 (zWs M) (zRm M k n) (va_Pc av (zPr g h)) (zQ g P) k n (zFr g)
/-- method M, called with av over the heap h: it throws an E; of the heap then P -/
def zX (g : zGl) (M : zMt) (av : List Value) (h : zHp) (E : String) (P : zHp → Prop) (k n : Nat) : Prop :=
  vx_Met g.1 M.1 (zWs M) (zRm M k n) (va_Pc av (zPr g h)) (fun _ _ _ _ => False) (zQX g E P) k n (zFr g)
theorem zPr_blind {g : zGl} {h : zHp} {av : List Value} : FrameBlind (va_Pc av (zPr g h)) := by
  intro a U gf mk q
  obtain ⟨q0, q1, q2⟩ := q
  exact ⟨q0, q1, zIv_moved (s := U) (U := U.calling gf mk a) (State.WarmedH.refl U) (Nat.le_refl _) (fun _ _ _ => rfl) q2⟩
/-- what a body stands on -/
def zCx (g : zGl) (M : zMt) (p : Program) (s : State) (m : MethodId) (args : Array Value) (meth : Method) (c : Code) : Prop :=
  p.tables.exec = Jvm.exec ∧ c.code = M.2.1 ∧ meth.sig.returnType = M.2.2.2.1 ∧ c.maxLocals = M.2.2.1 ∧ s.vm.findClass M.1.cls = some m.cls ∧ (∀ w ∈ zTb, w.before args s = true) ∧ meth.locks = false ∧ meth.name = M.1.name ∧ zIv g s
/-- the locals -/
def zL (N : Nat) (lv : List (Option Value)) (ls : Array Slot) : Prop := ls.size = N ∧ lv.length = N ∧ lv_wf ls ∧ ∀ (i : Nat) (v : Value), lv[i]? = some (some v) → ls[i]? = some (.val v)
/-- a method under way: the method, what else is known of its start, its room, what it owes -/
abbrev zZt : Type := zMt × (Array Value → State → Code → Prop) × Room × (List Frame → Array Value → State → State → Prop)
def zA (g : zGl) (Z : zZt) (k n pc : Nat) (lv : List (Option Value)) (st : List Value) (h : zHp) : Prop :=
  ∀ (p : Program) (e : Env) (s : State) (m : MethodId) (args : Array Value) (below : List Frame) (meth : Method) (c : Code) (ls : Array Slot) (H : Heap) (locs : List Loc) (cells slots : Nat),
    zCx g Z.1 p s m args meth c → Z.2.1 args s c → zL Z.1.2.2.1 lv ls → zRp g h H → va_S (zFr g) s.heap H locs → cells + k ≤ Z.2.2.1.cells → slots + n ≤ Z.2.2.1.slots →
    W p g.1 e Z.2.2.1 s m args below meth c H locs cells slots (Z.2.2.2 below args s) (F0 m pc ls st)
def zZc (g : zGl) (M : zMt) (P : Option Value → zHp → Prop) (k n : Nat) : zZt :=
  (M, fun _ _ c => ∀ x ∈ c.exceptionTable.toList, False, zRm M k n, fun below args s => MQ below (zQ g P) args s k n (zFr g))
def zZx (g : zGl) (M : zMt) (E : String) (P : zHp → Prop) (k n : Nat) : zZt :=
  (M, fun _ _ c => ∀ x ∈ c.exceptionTable.toList, False, zRm M k n, fun below args s => vx_MQ below (fun _ _ _ _ => False) (zQX g E P) args s k n (zFr g))
def zlv (n : Nat) (l : List (Nat × Value)) : List (Option Value) := (List.range n).map fun i => (l.find? (fun q => q.1 == i)).map (fun q => q.2)
theorem zL_of {ls : Array Slot} {n : Nat} {l : List (Nat × Value)} (h : lv_has ls n l) : zL n (zlv n l) ls := by
  obtain ⟨h1, h2, h3⟩ := h
  refine ⟨h1, by simp [zlv], h2, fun i v hi => ?_⟩
  simp only [zlv, List.getElem?_map, Option.map_eq_some_iff] at hi
  obtain ⟨j, hj, q, hq, rfl⟩ := hi
  have hji : j = i := by
    rw [List.getElem?_range] at hj
    · exact (Option.some.inj hj).symm
    · exact (by simpa using (List.getElem?_eq_some_iff.mp hj).1)
  have h5 := List.find?_some hq
  have h6 := h3 q (List.mem_of_find?_eq_some hq)
  simp only [beq_iff_eq] at h5
  rw [← hji, ← h5]
  exact h6
theorem zIv_body {g : zGl} {s U : State} {H : Heap} {locs : List Loc} (hI : zIv g s) (hS : va_S (zFr g) s.heap H locs) (hU : U.heap = H) (hW : s.WarmedH U.vm) : zIv g U := by
  subst hU
  exact zIv_moved hW hS.1 hS.2.1 hI
theorem zC_ofA {g : zGl} {M : zMt} {av : List Value} {h : zHp} {P : Option Value → zHp → Prop} {k n : Nat} {lv : List (Option Value)} (hy : plainName M.1.cls = true) (hlv : zlv M.2.2.1 (lv_args 0 av) = lv) (hn : (lg_sl av).length ≤ M.2.2.1)
    (kk : zA g (zZc g M P k n) k n 0 lv [] h) : zC g M av h P k n := by
  have hm : vx_Met g.1 M.1 (zWs M) (zRm M k n) (va_Pc av (zPr g h)) (zQ g P) (fun _ _ _ => False) k n (zFr g) := by
    refine vx_ofW (cc := M.2.1) (maxL := M.2.2.1) (ret := M.2.2.2.1) hy rfl ?_
    intro p e s m args below meth c s₁ B hml hx hv
    obtain ⟨rfl, hR, hI⟩ := hv
    have hts := atoms_spec (ws := zWs M) B.pre
    have hl := lv_entry av (n := M.2.2.1) hn
    rw [lg_entry_eq]
    refine vx_ret ?_
    refine kk p e s m _ below meth c _ s.heap [] 0 0 ⟨B.exec, B.bytes, B.returns, hml, findClass_of_methodNamed B.named, fun w hw => hts w (List.mem_cons_of_mem _ hw), B.notSynchronized, (name_of_methodNamed B.named B.method).1, hI⟩ hx ?_ hR va_S.rf ?_ ?_
    · rw [← hlv]
      exact zL_of hl
    · show 0 + k ≤ k
      omega
    · show 0 + n ≤ n
      omega
  intro p e ha hc hk s m args below hf happ hP hT
  obtain ⟨kk2, o, h1, h2, h3, hq⟩ := hm p e ha hc hk s m args below hf happ hP hT
  refine ⟨kk2, o, h1, h2, h3, ?_⟩
  rcases hq with hq | ⟨q, -, E, ce, L, hx, -⟩
  · exact hq
  · exact hx.elim
theorem zX_ofA {g : zGl} {M : zMt} {av : List Value} {h : zHp} {E : String} {P : zHp → Prop} {k n : Nat} {lv : List (Option Value)} (hy : plainName M.1.cls = true) (hlv : zlv M.2.2.1 (lv_args 0 av) = lv) (hn : (lg_sl av).length ≤ M.2.2.1)
    (kk : zA g (zZx g M E P k n) k n 0 lv [] h) : zX g M av h E P k n := by
  refine vx_ofW (cc := M.2.1) (maxL := M.2.2.1) (ret := M.2.2.2.1) hy rfl ?_
  intro p e s m args below meth c s₁ B hml hx hv
  obtain ⟨rfl, hR, hI⟩ := hv
  have hts := atoms_spec (ws := zWs M) B.pre
  have hl := lv_entry av (n := M.2.2.1) hn
  rw [lg_entry_eq]
  refine kk p e s m _ below meth c _ s.heap [] 0 0 ⟨B.exec, B.bytes, B.returns, hml, findClass_of_methodNamed B.named, fun w hw => hts w (List.mem_cons_of_mem _ hw), B.notSynchronized, (name_of_methodNamed B.named B.method).1, hI⟩ hx ?_ hR va_S.rf ?_ ?_
  · rw [← hlv]
    exact zL_of hl
  · show 0 + k ≤ k
    omega
  · show 0 + n ≤ n
    omega
def zl (lv : List (Option Value)) : List (Nat × Value) := (List.range lv.length).filterMap fun i => match lv[i]? with
  | some (some v) => some (i, v)
  | _ => none
theorem zl_mem {lv : List (Option Value)} {i : Nat} {v : Value} : (i, v) ∈ zl lv ↔ lv[i]? = some (some v) := by
  constructor
  · intro h
    obtain ⟨j, -, hj⟩ := List.mem_filterMap.mp h
    split at hj
    · next w hw =>
      cases hj
      exact hw
    · cases hj
  · intro h
    refine List.mem_filterMap.mpr ⟨i, List.mem_range.mpr (List.getElem?_eq_some_iff.mp h).1, ?_⟩
    rw [h]
theorem zL_has {N : Nat} {lv : List (Option Value)} {ls : Array Slot} (h : zL N lv ls) : lv_has ls N (zl lv) := ⟨h.1, h.2.2.1, fun q hq => h.2.2.2 q.1 q.2 (zl_mem.mp hq)⟩
/-- nothing of two slots ends at i -/
def zok (lv : List (Option Value)) (i : Nat) : Bool := match i with
  | 0 => true
  | j + 1 => match lv[j]? with
    | some (some v) => v.category != 2
    | _ => true
theorem zL_set {N : Nat} {lv : List (Option Value)} {ls' : Array Slot} {i : Nat} {v : Value} (hN : lv.length = N) (hk : zok lv i = true)
    (h : lv_has ls' N ((i, v) :: (zl lv).filter (fun q => !(q.1 == i) && !(q.1 + 1 == i && q.2.category == 2)))) : zL N (lv.set i (some v)) ls' := by
  obtain ⟨h1, h2, h3⟩ := h
  refine ⟨h1, by simp [hN], h2, fun j x hj => ?_⟩
  by_cases hji : j = i
  · subst hji
    rw [List.getElem?_set] at hj
    simp only [if_true] at hj
    split at hj
    · cases hj
      exact h3 (j, v) List.mem_cons_self
    · cases hj
  · rw [List.getElem?_set_ne (Ne.symm hji)] at hj
    refine h3 (j, x) (List.mem_cons_of_mem _ (List.mem_filter.mpr ⟨zl_mem.mpr hj, ?_⟩))
    simp only [Bool.and_eq_true, Bool.not_eq_true', beq_eq_false_iff_ne, ne_eq, Bool.and_eq_false_iff]
    refine ⟨hji, ?_⟩
    by_cases h9 : j + 1 = i
    · subst h9
      right
      simp only [zok, hj, bne_iff_ne, ne_eq] at hk
      simpa using hk
    · left
      simpa using h9
theorem zL_set2 {N : Nat} {lv : List (Option Value)} {ls' : Array Slot} {i : Nat} {v : Value} (hN : lv.length = N) (hk : zok lv i = true)
    (h : lv_has ls' N ((i, v) :: (zl lv).filter (fun q => !(q.1 == i) && (!(q.1 == i + 1) && !(q.1 + 1 == i && q.2.category == 2))))) : zL N ((lv.set i (some v)).set (i + 1) none) ls' := by
  obtain ⟨h1, h2, h3⟩ := h
  refine ⟨h1, by simp [hN], h2, fun j x hj => ?_⟩
  by_cases hj1 : j = i + 1
  · subst hj1
    rw [List.getElem?_set] at hj
    simp only [if_true] at hj
    split at hj <;> cases hj
  · rw [List.getElem?_set_ne (Ne.symm hj1)] at hj
    by_cases hji : j = i
    · subst hji
      rw [List.getElem?_set] at hj
      simp only [if_true] at hj
      split at hj
      · cases hj
        exact h3 (j, v) List.mem_cons_self
      · cases hj
    · rw [List.getElem?_set_ne (Ne.symm hji)] at hj
      refine h3 (j, x) (List.mem_cons_of_mem _ (List.mem_filter.mpr ⟨zl_mem.mpr hj, ?_⟩))
      simp only [Bool.and_eq_true, Bool.not_eq_true', beq_eq_false_iff_ne, ne_eq, Bool.and_eq_false_iff]
      refine ⟨hji, hj1, ?_⟩
      by_cases h9 : j + 1 = i
      · subst h9
        right
        simp only [zok, hj, bne_iff_ne, ne_eq] at hk
        simpa using hk
      · left
        simpa using h9
theorem nI_mul (a b : Nat) : nI a * nI b = nI (a * b) := (Int32.ofNat_mul a b).symm

theorem z_iconst {g : zGl} {Z : zZt} {k n pc q : Nat} {lv : List (Option Value)} {st : List Value} {h : zHp} {i : Int} {v : Int32} (hd : decode Z.1.2.1 pc = .ok (.iconst i, 1)) (hv : Int32.ofInt i = v) (hp : pc + 1 = q) (kk : zA g Z k n q lv (.int v :: st) h) : zA g Z k n pc lv st h := by
  intro p e s m args below meth c ls H locs cells slots C E hL hR hS hk hn
  subst hp
  exact lv_iconst C.1 C.2.1 hd hv (kk p e s m args below meth c ls H locs cells slots C E hL hR hS hk hn)
theorem z_bipush {g : zGl} {Z : zZt} {k n pc q : Nat} {lv : List (Option Value)} {st : List Value} {h : zHp} {i : Int} {v : Int32} (hd : decode Z.1.2.1 pc = .ok (.bipush i, 2)) (hv : (Int8.ofInt i).toInt32 = v) (hp : pc + 2 = q) (kk : zA g Z k n q lv (.int v :: st) h) : zA g Z k n pc lv st h := by
  intro p e s m args below meth c ls H locs cells slots C E hL hR hS hk hn
  subst hp
  exact lv_bipush C.1 C.2.1 hd hv (kk p e s m args below meth c ls H locs cells slots C E hL hR hS hk hn)
theorem z_sipush {g : zGl} {Z : zZt} {k n pc q : Nat} {lv : List (Option Value)} {st : List Value} {h : zHp} {i : Int} {v : Int32} (hd : decode Z.1.2.1 pc = .ok (.sipush i, 3)) (hv : (Int16.ofInt i).toInt32 = v) (hp : pc + 3 = q) (kk : zA g Z k n q lv (.int v :: st) h) : zA g Z k n pc lv st h := by
  intro p e s m args below meth c ls H locs cells slots C E hL hR hS hk hn
  subst hp
  exact lv_sipush C.1 C.2.1 hd hv (kk p e s m args below meth c ls H locs cells slots C E hL hR hS hk hn)
theorem z_lconst {g : zGl} {Z : zZt} {k n pc q : Nat} {lv : List (Option Value)} {st : List Value} {h : zHp} {i : Fin 2} {v : Int64} (hd : decode Z.1.2.1 pc = .ok (.lconst i, 1)) (hv : Int64.ofNat (i : Nat) = v) (hp : pc + 1 = q) (kk : zA g Z k n q lv (.long v :: st) h) : zA g Z k n pc lv st h := by
  intro p e s m args below meth c ls H locs cells slots C E hL hR hS hk hn
  subst hp
  exact lv_lconst C.1 C.2.1 hd hv (kk p e s m args below meth c ls H locs cells slots C E hL hR hS hk hn)
theorem z_ldc2 {g : zGl} {Z : zZt} {k n pc q : Nat} {lv : List (Option Value)} {st : List Value} {h : zHp} {i : Nat} {v : Int64} (hd : decode Z.1.2.1 pc = .ok (.ldc2_w i, 3)) (hc : Cond.constantLong Z.1.1.cls i v ∈ zTb) (hp : pc + 3 = q) (kk : zA g Z k n q lv (.long v :: st) h) : zA g Z k n pc lv st h := by
  intro p e s m args below meth c ls H locs cells slots C E hL hR hS hk hn
  subst hp
  exact lv_ldc2 C.1 C.2.1 C.2.2.2.2.1 (C.2.2.2.2.2.1 _ hc) hd (kk p e s m args below meth c ls H locs cells slots C E hL hR hS hk hn)
theorem z_ldcw {g : zGl} {Z : zZt} {k n pc q : Nat} {lv : List (Option Value)} {st : List Value} {h : zHp} {i : Nat} {v : Int32} (hd : decode Z.1.2.1 pc = .ok (.ldc_w i, 3)) (hc : Cond.constant Z.1.1.cls i v ∈ zTb) (hp : pc + 3 = q) (kk : zA g Z k n q lv (.int v :: st) h) : zA g Z k n pc lv st h := by
  intro p e s m args below meth c ls H locs cells slots C E hL hR hS hk hn
  subst hp
  exact lv_ldcw C.1 C.2.1 C.2.2.2.2.1 (C.2.2.2.2.2.1 _ hc) hd (kk p e s m args below meth c ls H locs cells slots C E hL hR hS hk hn)
theorem z_iload_n {g : zGl} {Z : zZt} {k n pc q : Nat} {lv : List (Option Value)} {st : List Value} {h : zHp} {i : Fin 4} {x : Int32} (hd : decode Z.1.2.1 pc = .ok (.iload_n i, 1)) (hl : lv[(i : Nat)]? = some (some (.int x))) (hp : pc + 1 = q) (kk : zA g Z k n q lv (.int x :: st) h) : zA g Z k n pc lv st h := by
  intro p e s m args below meth c ls H locs cells slots C E hL hR hS hk hn
  subst hp
  exact lv_iload_n C.1 C.2.1 hd rfl (hL.2.2.2 _ _ hl) (kk p e s m args below meth c ls H locs cells slots C E hL hR hS hk hn)
theorem z_iload {g : zGl} {Z : zZt} {k n pc q : Nat} {lv : List (Option Value)} {st : List Value} {h : zHp} {i : Nat} {x : Int32} (hd : decode Z.1.2.1 pc = .ok (.iload i, 2)) (hl : lv[i]? = some (some (.int x))) (hp : pc + 2 = q) (kk : zA g Z k n q lv (.int x :: st) h) : zA g Z k n pc lv st h := by
  intro p e s m args below meth c ls H locs cells slots C E hL hR hS hk hn
  subst hp
  exact lv_iload C.1 C.2.1 hd (hL.2.2.2 _ _ hl) (kk p e s m args below meth c ls H locs cells slots C E hL hR hS hk hn)
theorem z_lload_n {g : zGl} {Z : zZt} {k n pc q : Nat} {lv : List (Option Value)} {st : List Value} {h : zHp} {i : Fin 4} {x : Int64} (hd : decode Z.1.2.1 pc = .ok (.lload_n i, 1)) (hl : lv[(i : Nat)]? = some (some (.long x))) (hp : pc + 1 = q) (kk : zA g Z k n q lv (.long x :: st) h) : zA g Z k n pc lv st h := by
  intro p e s m args below meth c ls H locs cells slots C E hL hR hS hk hn
  subst hp
  exact lv_lload_n C.1 C.2.1 hd rfl (hL.2.2.2 _ _ hl) (kk p e s m args below meth c ls H locs cells slots C E hL hR hS hk hn)
theorem z_lload {g : zGl} {Z : zZt} {k n pc q : Nat} {lv : List (Option Value)} {st : List Value} {h : zHp} {i : Nat} {x : Int64} (hd : decode Z.1.2.1 pc = .ok (.lload i, 2)) (hl : lv[i]? = some (some (.long x))) (hp : pc + 2 = q) (kk : zA g Z k n q lv (.long x :: st) h) : zA g Z k n pc lv st h := by
  intro p e s m args below meth c ls H locs cells slots C E hL hR hS hk hn
  subst hp
  exact lv_lload C.1 C.2.1 hd (hL.2.2.2 _ _ hl) (kk p e s m args below meth c ls H locs cells slots C E hL hR hS hk hn)
theorem z_aload_n {g : zGl} {Z : zZt} {k n pc q : Nat} {lv : List (Option Value)} {st : List Value} {h : zHp} {i : Fin 4} {x : Nat} (hd : decode Z.1.2.1 pc = .ok (.aload_n i, 1)) (hl : lv[(i : Nat)]? = some (some (.ref x))) (hp : pc + 1 = q) (kk : zA g Z k n q lv (.ref x :: st) h) : zA g Z k n pc lv st h := by
  intro p e s m args below meth c ls H locs cells slots C E hL hR hS hk hn
  subst hp
  exact lv_aload_n C.1 C.2.1 hd rfl (hL.2.2.2 _ _ hl) (kk p e s m args below meth c ls H locs cells slots C E hL hR hS hk hn)
theorem z_aload {g : zGl} {Z : zZt} {k n pc q : Nat} {lv : List (Option Value)} {st : List Value} {h : zHp} {i : Nat} {x : Nat} (hd : decode Z.1.2.1 pc = .ok (.aload i, 2)) (hl : lv[i]? = some (some (.ref x))) (hp : pc + 2 = q) (kk : zA g Z k n q lv (.ref x :: st) h) : zA g Z k n pc lv st h := by
  intro p e s m args below meth c ls H locs cells slots C E hL hR hS hk hn
  subst hp
  exact lv_aload C.1 C.2.1 hd (hL.2.2.2 _ _ hl) (kk p e s m args below meth c ls H locs cells slots C E hL hR hS hk hn)
theorem z_istore_n {g : zGl} {Z : zZt} {k n pc q : Nat} {lv : List (Option Value)} {st : List Value} {h : zHp} {i : Fin 4} {x : Int32} (hd : decode Z.1.2.1 pc = .ok (.istore_n i, 1)) (hi : (i : Nat) < lv.length) (ho : zok lv (i : Nat) = true) (hp : pc + 1 = q) (kk : zA g Z k n q (lv.set (i : Nat) (some (.int x))) st h) : zA g Z k n pc lv (.int x :: st) h := by
  intro p e s m args below meth c ls H locs cells slots C E hL hR hS hk hn
  subst hp
  exact lv_istore_n C.1 C.2.1 hd rfl (zL_has hL) (by rw [← hL.2.1]; exact hi) rfl (fun ls' hl' => kk p e s m args below meth c ls' H locs cells slots C E (zL_set hL.2.1 ho hl') hR hS hk hn)
theorem z_istore {g : zGl} {Z : zZt} {k n pc q : Nat} {lv : List (Option Value)} {st : List Value} {h : zHp} {i : Nat} {x : Int32} (hd : decode Z.1.2.1 pc = .ok (.istore i, 2)) (hi : i < lv.length) (ho : zok lv i = true) (hp : pc + 2 = q) (kk : zA g Z k n q (lv.set i (some (.int x))) st h) : zA g Z k n pc lv (.int x :: st) h := by
  intro p e s m args below meth c ls H locs cells slots C E hL hR hS hk hn
  subst hp
  exact lv_istore C.1 C.2.1 hd (zL_has hL) (by rw [← hL.2.1]; exact hi) rfl (fun ls' hl' => kk p e s m args below meth c ls' H locs cells slots C E (zL_set hL.2.1 ho hl') hR hS hk hn)
theorem z_astore_n {g : zGl} {Z : zZt} {k n pc q : Nat} {lv : List (Option Value)} {st : List Value} {h : zHp} {i : Fin 4} {x : Nat} (hd : decode Z.1.2.1 pc = .ok (.astore_n i, 1)) (hi : (i : Nat) < lv.length) (ho : zok lv (i : Nat) = true) (hp : pc + 1 = q) (kk : zA g Z k n q (lv.set (i : Nat) (some (.ref x))) st h) : zA g Z k n pc lv (.ref x :: st) h := by
  intro p e s m args below meth c ls H locs cells slots C E hL hR hS hk hn
  subst hp
  exact lv_astore_n C.1 C.2.1 hd rfl (zL_has hL) (by rw [← hL.2.1]; exact hi) rfl (fun ls' hl' => kk p e s m args below meth c ls' H locs cells slots C E (zL_set hL.2.1 ho hl') hR hS hk hn)
theorem z_astore {g : zGl} {Z : zZt} {k n pc q : Nat} {lv : List (Option Value)} {st : List Value} {h : zHp} {i : Nat} {x : Nat} (hd : decode Z.1.2.1 pc = .ok (.astore i, 2)) (hi : i < lv.length) (ho : zok lv i = true) (hp : pc + 2 = q) (kk : zA g Z k n q (lv.set i (some (.ref x))) st h) : zA g Z k n pc lv (.ref x :: st) h := by
  intro p e s m args below meth c ls H locs cells slots C E hL hR hS hk hn
  subst hp
  exact lv_astore C.1 C.2.1 hd (zL_has hL) (by rw [← hL.2.1]; exact hi) rfl (fun ls' hl' => kk p e s m args below meth c ls' H locs cells slots C E (zL_set hL.2.1 ho hl') hR hS hk hn)
theorem z_lstore_n {g : zGl} {Z : zZt} {k n pc q : Nat} {lv : List (Option Value)} {st : List Value} {h : zHp} {i : Fin 4} {x : Int64} (hd : decode Z.1.2.1 pc = .ok (.lstore_n i, 1)) (hi : (i : Nat) + 1 < lv.length) (ho : zok lv (i : Nat) = true) (hp : pc + 1 = q) (kk : zA g Z k n q ((lv.set (i : Nat) (some (.long x))).set ((i : Nat) + 1) none) st h) : zA g Z k n pc lv (.long x :: st) h := by
  intro p e s m args below meth c ls H locs cells slots C E hL hR hS hk hn
  subst hp
  exact lv_lstore_n C.1 C.2.1 hd rfl (zL_has hL) (by rw [← hL.2.1]; exact hi) rfl (fun ls' hl' => kk p e s m args below meth c ls' H locs cells slots C E (zL_set2 hL.2.1 ho hl') hR hS hk hn)
theorem z_lstore {g : zGl} {Z : zZt} {k n pc q : Nat} {lv : List (Option Value)} {st : List Value} {h : zHp} {i : Nat} {x : Int64} (hd : decode Z.1.2.1 pc = .ok (.lstore i, 2)) (hi : i + 1 < lv.length) (ho : zok lv i = true) (hp : pc + 2 = q) (kk : zA g Z k n q ((lv.set i (some (.long x))).set (i + 1) none) st h) : zA g Z k n pc lv (.long x :: st) h := by
  intro p e s m args below meth c ls H locs cells slots C E hL hR hS hk hn
  subst hp
  exact lv_lstore C.1 C.2.1 hd (zL_has hL) (by rw [← hL.2.1]; exact hi) rfl (fun ls' hl' => kk p e s m args below meth c ls' H locs cells slots C E (zL_set2 hL.2.1 ho hl') hR hS hk hn)
theorem z_iinc {g : zGl} {Z : zZt} {k n pc q : Nat} {lv : List (Option Value)} {st : List Value} {h : zHp} {i : Nat} {d : Int} {x v : Int32} (hd : decode Z.1.2.1 pc = .ok (.iinc i d, 3)) (hl : lv[i]? = some (some (.int x))) (hv : x + Int32.ofInt d = v) (ho : zok lv i = true) (hp : pc + 3 = q) (kk : zA g Z k n q (lv.set i (some (.int v))) st h) : zA g Z k n pc lv st h := by
  intro p e s m args below meth c ls H locs cells slots C E hL hR hS hk hn
  subst hp
  obtain ⟨j, hj⟩ := List.getElem?_of_mem (zl_mem.mpr hl)
  exact lv_iinc C.1 C.2.1 hd (zL_has hL) hj hv (by rw [← hL.2.1]; exact (List.getElem?_eq_some_iff.mp hl).1) rfl (fun ls' hl' => kk p e s m args below meth c ls' H locs cells slots C E (zL_set hL.2.1 ho hl') hR hS hk hn)
theorem z_iincN {g : zGl} {Z : zZt} {k n pc q : Nat} {lv : List (Option Value)} {st : List Value} {h : zHp} {i x : Nat} (hd : decode Z.1.2.1 pc = .ok (.iinc i 1, 3)) (hl : lv[i]? = some (some (.int (nI x)))) (ho : zok lv i = true) (hp : pc + 3 = q) (kk : zA g Z k n q (lv.set i (some (.int (nI (x + 1))))) st h) : zA g Z k n pc lv st h :=
  z_iinc hd hl (show nI x + Int32.ofInt 1 = nI (x + 1) from nI_1 x) ho hp kk
theorem z_dup {g : zGl} {Z : zZt} {k n pc q : Nat} {lv : List (Option Value)} {st : List Value} {h : zHp} {v : Value} (hd : decode Z.1.2.1 pc = .ok (.dup, 1)) (hc : v.category = 1) (hp : pc + 1 = q) (kk : zA g Z k n q lv (v :: v :: st) h) : zA g Z k n pc lv (v :: st) h := by
  intro p e s m args below meth c ls H locs cells slots C E hL hR hS hk hn
  subst hp
  exact lv_dup C.1 C.2.1 hd hc (kk p e s m args below meth c ls H locs cells slots C E hL hR hS hk hn)
theorem z_dup2 {g : zGl} {Z : zZt} {k n pc q : Nat} {lv : List (Option Value)} {st : List Value} {h : zHp} {v u : Value} (hd : decode Z.1.2.1 pc = .ok (.dup2, 1)) (hc : v.category = 1) (hc2 : u.category = 1) (hp : pc + 1 = q) (kk : zA g Z k n q lv (v :: u :: v :: u :: st) h) : zA g Z k n pc lv (v :: u :: st) h := by
  intro p e s m args below meth c ls H locs cells slots C E hL hR hS hk hn
  subst hp
  exact lv_dup2_11 C.1 C.2.1 hd hc hc2 (kk p e s m args below meth c ls H locs cells slots C E hL hR hS hk hn)
theorem z_pop {g : zGl} {Z : zZt} {k n pc q : Nat} {lv : List (Option Value)} {st : List Value} {h : zHp} {v : Value} (hd : decode Z.1.2.1 pc = .ok (.pop, 1)) (hc : v.category = 1) (hp : pc + 1 = q) (kk : zA g Z k n q lv st h) : zA g Z k n pc lv (v :: st) h := by
  intro p e s m args below meth c ls H locs cells slots C E hL hR hS hk hn
  subst hp
  exact lv_pop C.1 C.2.1 hd hc (kk p e s m args below meth c ls H locs cells slots C E hL hR hS hk hn)
theorem z_dup_x1 {g : zGl} {Z : zZt} {k n pc q : Nat} {lv : List (Option Value)} {st : List Value} {h : zHp} {v u : Value} (hd : decode Z.1.2.1 pc = .ok (.dup_x1, 1)) (hc : v.category = 1) (hc2 : u.category = 1) (hp : pc + 1 = q) (kk : zA g Z k n q lv (v :: u :: v :: st) h) : zA g Z k n pc lv (v :: u :: st) h := by
  intro p e s m args below meth c ls H locs cells slots C E hL hR hS hk hn
  subst hp
  exact lv_dup_x1 C.1 C.2.1 hd hc hc2 (kk p e s m args below meth c ls H locs cells slots C E hL hR hS hk hn)
theorem z_iadd {g : zGl} {Z : zZt} {k n pc q : Nat} {lv : List (Option Value)} {st : List Value} {h : zHp} {x y : Int32} (hd : decode Z.1.2.1 pc = .ok (.iadd, 1))  (hp : pc + 1 = q) (kk : zA g Z k n q lv (.int (x + y) :: st) h) : zA g Z k n pc lv (.int y :: .int x :: st) h := by
  intro p e s m args below meth c ls H locs cells slots C E hL hR hS hk hn
  subst hp
  exact lv_iadd C.1 C.2.1 hd (kk p e s m args below meth c ls H locs cells slots C E hL hR hS hk hn)
theorem z_isub {g : zGl} {Z : zZt} {k n pc q : Nat} {lv : List (Option Value)} {st : List Value} {h : zHp} {x y : Int32} (hd : decode Z.1.2.1 pc = .ok (.isub, 1))  (hp : pc + 1 = q) (kk : zA g Z k n q lv (.int (x - y) :: st) h) : zA g Z k n pc lv (.int y :: .int x :: st) h := by
  intro p e s m args below meth c ls H locs cells slots C E hL hR hS hk hn
  subst hp
  exact lv_isub C.1 C.2.1 hd (kk p e s m args below meth c ls H locs cells slots C E hL hR hS hk hn)
theorem z_imul {g : zGl} {Z : zZt} {k n pc q : Nat} {lv : List (Option Value)} {st : List Value} {h : zHp} {x y : Int32} (hd : decode Z.1.2.1 pc = .ok (.imul, 1))  (hp : pc + 1 = q) (kk : zA g Z k n q lv (.int (x * y) :: st) h) : zA g Z k n pc lv (.int y :: .int x :: st) h := by
  intro p e s m args below meth c ls H locs cells slots C E hL hR hS hk hn
  subst hp
  exact lv_imul C.1 C.2.1 hd (kk p e s m args below meth c ls H locs cells slots C E hL hR hS hk hn)
theorem z_iand {g : zGl} {Z : zZt} {k n pc q : Nat} {lv : List (Option Value)} {st : List Value} {h : zHp} {x y : Int32} (hd : decode Z.1.2.1 pc = .ok (.iand, 1))  (hp : pc + 1 = q) (kk : zA g Z k n q lv (.int (x &&& y) :: st) h) : zA g Z k n pc lv (.int y :: .int x :: st) h := by
  intro p e s m args below meth c ls H locs cells slots C E hL hR hS hk hn
  subst hp
  exact lv_iand C.1 C.2.1 hd (kk p e s m args below meth c ls H locs cells slots C E hL hR hS hk hn)
theorem z_ior {g : zGl} {Z : zZt} {k n pc q : Nat} {lv : List (Option Value)} {st : List Value} {h : zHp} {x y : Int32} (hd : decode Z.1.2.1 pc = .ok (.ior, 1))  (hp : pc + 1 = q) (kk : zA g Z k n q lv (.int (x ||| y) :: st) h) : zA g Z k n pc lv (.int y :: .int x :: st) h := by
  intro p e s m args below meth c ls H locs cells slots C E hL hR hS hk hn
  subst hp
  exact lv_ior C.1 C.2.1 hd (kk p e s m args below meth c ls H locs cells slots C E hL hR hS hk hn)
theorem z_ixor {g : zGl} {Z : zZt} {k n pc q : Nat} {lv : List (Option Value)} {st : List Value} {h : zHp} {x y : Int32} (hd : decode Z.1.2.1 pc = .ok (.ixor, 1))  (hp : pc + 1 = q) (kk : zA g Z k n q lv (.int (x ^^^ y) :: st) h) : zA g Z k n pc lv (.int y :: .int x :: st) h := by
  intro p e s m args below meth c ls H locs cells slots C E hL hR hS hk hn
  subst hp
  exact lv_ixor C.1 C.2.1 hd (kk p e s m args below meth c ls H locs cells slots C E hL hR hS hk hn)
theorem z_ishl {g : zGl} {Z : zZt} {k n pc q : Nat} {lv : List (Option Value)} {st : List Value} {h : zHp} {x y : Int32} (hd : decode Z.1.2.1 pc = .ok (.ishl, 1))  (hp : pc + 1 = q) (kk : zA g Z k n q lv (.int (x <<< (y &&& 31)) :: st) h) : zA g Z k n pc lv (.int y :: .int x :: st) h := by
  intro p e s m args below meth c ls H locs cells slots C E hL hR hS hk hn
  subst hp
  exact lv_ishl C.1 C.2.1 hd (kk p e s m args below meth c ls H locs cells slots C E hL hR hS hk hn)
theorem z_ishr {g : zGl} {Z : zZt} {k n pc q : Nat} {lv : List (Option Value)} {st : List Value} {h : zHp} {x y : Int32} (hd : decode Z.1.2.1 pc = .ok (.ishr, 1))  (hp : pc + 1 = q) (kk : zA g Z k n q lv (.int (x >>> (y &&& 31)) :: st) h) : zA g Z k n pc lv (.int y :: .int x :: st) h := by
  intro p e s m args below meth c ls H locs cells slots C E hL hR hS hk hn
  subst hp
  exact lv_ishr C.1 C.2.1 hd (kk p e s m args below meth c ls H locs cells slots C E hL hR hS hk hn)
theorem z_idiv {g : zGl} {Z : zZt} {k n pc q : Nat} {lv : List (Option Value)} {st : List Value} {h : zHp} {x y : Int32} (hd : decode Z.1.2.1 pc = .ok (.idiv, 1)) (hne : ¬ y = 0) (hp : pc + 1 = q) (kk : zA g Z k n q lv (.int (x / y) :: st) h) : zA g Z k n pc lv (.int y :: .int x :: st) h := by
  intro p e s m args below meth c ls H locs cells slots C E hL hR hS hk hn
  subst hp
  exact lv_idiv C.1 C.2.1 hd hne (kk p e s m args below meth c ls H locs cells slots C E hL hR hS hk hn)
theorem z_irem {g : zGl} {Z : zZt} {k n pc q : Nat} {lv : List (Option Value)} {st : List Value} {h : zHp} {x y : Int32} (hd : decode Z.1.2.1 pc = .ok (.irem, 1)) (hne : ¬ y = 0) (hp : pc + 1 = q) (kk : zA g Z k n q lv (.int (x - x / y * y) :: st) h) : zA g Z k n pc lv (.int y :: .int x :: st) h := by
  intro p e s m args below meth c ls H locs cells slots C E hL hR hS hk hn
  subst hp
  exact lv_irem C.1 C.2.1 hd hne (kk p e s m args below meth c ls H locs cells slots C E hL hR hS hk hn)
theorem z_ineg {g : zGl} {Z : zZt} {k n pc q : Nat} {lv : List (Option Value)} {st : List Value} {h : zHp} {x : Int32} (hd : decode Z.1.2.1 pc = .ok (.ineg, 1))  (hp : pc + 1 = q) (kk : zA g Z k n q lv (.int (-x) :: st) h) : zA g Z k n pc lv (.int x :: st) h := by
  intro p e s m args below meth c ls H locs cells slots C E hL hR hS hk hn
  subst hp
  exact lv_ineg C.1 C.2.1 hd (kk p e s m args below meth c ls H locs cells slots C E hL hR hS hk hn)
theorem z_iushr {g : zGl} {Z : zZt} {k n pc q : Nat} {lv : List (Option Value)} {st : List Value} {h : zHp} {x y v : Int32} (hd : decode Z.1.2.1 pc = .ok (.iushr, 1)) (hv : (x.toUInt32 >>> (y.toUInt32 &&& Int32.toUInt32 31)).toInt32 = v) (hp : pc + 1 = q) (kk : zA g Z k n q lv (.int v :: st) h) : zA g Z k n pc lv (.int y :: .int x :: st) h := by
  intro p e s m args below meth c ls H locs cells slots C E hL hR hS hk hn
  subst hp
  exact lv_iushr C.1 C.2.1 hd hv (kk p e s m args below meth c ls H locs cells slots C E hL hR hS hk hn)
theorem z_ladd {g : zGl} {Z : zZt} {k n pc q : Nat} {lv : List (Option Value)} {st : List Value} {h : zHp} {x y : Int64} (hd : decode Z.1.2.1 pc = .ok (.ladd, 1))  (hp : pc + 1 = q) (kk : zA g Z k n q lv (.long (x + y) :: st) h) : zA g Z k n pc lv (.long y :: .long x :: st) h := by
  intro p e s m args below meth c ls H locs cells slots C E hL hR hS hk hn
  subst hp
  exact lv_ladd C.1 C.2.1 hd (kk p e s m args below meth c ls H locs cells slots C E hL hR hS hk hn)
theorem z_lmul {g : zGl} {Z : zZt} {k n pc q : Nat} {lv : List (Option Value)} {st : List Value} {h : zHp} {x y : Int64} (hd : decode Z.1.2.1 pc = .ok (.lmul, 1))  (hp : pc + 1 = q) (kk : zA g Z k n q lv (.long (x * y) :: st) h) : zA g Z k n pc lv (.long y :: .long x :: st) h := by
  intro p e s m args below meth c ls H locs cells slots C E hL hR hS hk hn
  subst hp
  exact lv_lmul C.1 C.2.1 hd (kk p e s m args below meth c ls H locs cells slots C E hL hR hS hk hn)
theorem z_land {g : zGl} {Z : zZt} {k n pc q : Nat} {lv : List (Option Value)} {st : List Value} {h : zHp} {x y : Int64} (hd : decode Z.1.2.1 pc = .ok (.land, 1))  (hp : pc + 1 = q) (kk : zA g Z k n q lv (.long (x &&& y) :: st) h) : zA g Z k n pc lv (.long y :: .long x :: st) h := by
  intro p e s m args below meth c ls H locs cells slots C E hL hR hS hk hn
  subst hp
  exact lv_land C.1 C.2.1 hd (kk p e s m args below meth c ls H locs cells slots C E hL hR hS hk hn)
theorem z_lor {g : zGl} {Z : zZt} {k n pc q : Nat} {lv : List (Option Value)} {st : List Value} {h : zHp} {x y : Int64} (hd : decode Z.1.2.1 pc = .ok (.lor, 1))  (hp : pc + 1 = q) (kk : zA g Z k n q lv (.long (x ||| y) :: st) h) : zA g Z k n pc lv (.long y :: .long x :: st) h := by
  intro p e s m args below meth c ls H locs cells slots C E hL hR hS hk hn
  subst hp
  exact lv_lor C.1 C.2.1 hd (kk p e s m args below meth c ls H locs cells slots C E hL hR hS hk hn)
theorem z_lsub {g : zGl} {Z : zZt} {k n pc q : Nat} {lv : List (Option Value)} {st : List Value} {h : zHp} {x y : Int64} (hd : decode Z.1.2.1 pc = .ok (.lsub, 1))  (hp : pc + 1 = q) (kk : zA g Z k n q lv (.long (x - y) :: st) h) : zA g Z k n pc lv (.long y :: .long x :: st) h := by
  intro p e s m args below meth c ls H locs cells slots C E hL hR hS hk hn
  subst hp
  exact lv_lsub C.1 C.2.1 hd (kk p e s m args below meth c ls H locs cells slots C E hL hR hS hk hn)
theorem z_ldiv {g : zGl} {Z : zZt} {k n pc q : Nat} {lv : List (Option Value)} {st : List Value} {h : zHp} {x y : Int64} (hd : decode Z.1.2.1 pc = .ok (.ldiv, 1)) (hne : ¬ y = 0) (hp : pc + 1 = q) (kk : zA g Z k n q lv (.long (x / y) :: st) h) : zA g Z k n pc lv (.long y :: .long x :: st) h := by
  intro p e s m args below meth c ls H locs cells slots C E hL hR hS hk hn
  subst hp
  exact lv_ldiv C.1 C.2.1 hd hne (kk p e s m args below meth c ls H locs cells slots C E hL hR hS hk hn)
theorem z_lrem {g : zGl} {Z : zZt} {k n pc q : Nat} {lv : List (Option Value)} {st : List Value} {h : zHp} {x y : Int64} (hd : decode Z.1.2.1 pc = .ok (.lrem, 1)) (hne : ¬ y = 0) (hp : pc + 1 = q) (kk : zA g Z k n q lv (.long (x - x / y * y) :: st) h) : zA g Z k n pc lv (.long y :: .long x :: st) h := by
  intro p e s m args below meth c ls H locs cells slots C E hL hR hS hk hn
  subst hp
  exact lv_lrem C.1 C.2.1 hd hne (kk p e s m args below meth c ls H locs cells slots C E hL hR hS hk hn)
theorem z_lshl {g : zGl} {Z : zZt} {k n pc q : Nat} {lv : List (Option Value)} {st : List Value} {h : zHp} {x v : Int64} {y : Int32} (hd : decode Z.1.2.1 pc = .ok (.lshl, 1)) (hv : x <<< (y.toInt64 &&& 63) = v) (hp : pc + 1 = q) (kk : zA g Z k n q lv (.long v :: st) h) : zA g Z k n pc lv (.int y :: .long x :: st) h := by
  intro p e s m args below meth c ls H locs cells slots C E hL hR hS hk hn
  subst hp
  exact lv_lshl C.1 C.2.1 hd hv (kk p e s m args below meth c ls H locs cells slots C E hL hR hS hk hn)
theorem z_lushr {g : zGl} {Z : zZt} {k n pc q : Nat} {lv : List (Option Value)} {st : List Value} {h : zHp} {x v : Int64} {y : Int32} (hd : decode Z.1.2.1 pc = .ok (.lushr, 1)) (hv : (x.toUInt64 >>> (y.toInt64.toUInt64 &&& Int64.toUInt64 63)).toInt64 = v) (hp : pc + 1 = q) (kk : zA g Z k n q lv (.long v :: st) h) : zA g Z k n pc lv (.int y :: .long x :: st) h := by
  intro p e s m args below meth c ls H locs cells slots C E hL hR hS hk hn
  subst hp
  exact lv_lushr C.1 C.2.1 hd hv (kk p e s m args below meth c ls H locs cells slots C E hL hR hS hk hn)
theorem z_i2l {g : zGl} {Z : zZt} {k n pc q : Nat} {lv : List (Option Value)} {st : List Value} {h : zHp} {x : Int32} {v : Int64} (hd : decode Z.1.2.1 pc = .ok (.i2l, 1)) (hv : x.toInt64 = v) (hp : pc + 1 = q) (kk : zA g Z k n q lv (.long v :: st) h) : zA g Z k n pc lv (.int x :: st) h := by
  intro p e s m args below meth c ls H locs cells slots C E hL hR hS hk hn
  subst hp
  exact lv_i2l C.1 C.2.1 hd hv (kk p e s m args below meth c ls H locs cells slots C E hL hR hS hk hn)
theorem z_l2i {g : zGl} {Z : zZt} {k n pc q : Nat} {lv : List (Option Value)} {st : List Value} {h : zHp} {x : Int64} {v : Int32} (hd : decode Z.1.2.1 pc = .ok (.l2i, 1)) (hv : x.toInt32 = v) (hp : pc + 1 = q) (kk : zA g Z k n q lv (.int v :: st) h) : zA g Z k n pc lv (.long x :: st) h := by
  intro p e s m args below meth c ls H locs cells slots C E hL hR hS hk hn
  subst hp
  exact lv_l2i C.1 C.2.1 hd hv (kk p e s m args below meth c ls H locs cells slots C E hL hR hS hk hn)
theorem z_lcmp {g : zGl} {Z : zZt} {k n pc q : Nat} {lv : List (Option Value)} {st : List Value} {h : zHp} {x y : Int64} (hd : decode Z.1.2.1 pc = .ok (.lcmp, 1))  (hp : pc + 1 = q) (kk : zA g Z k n q lv (.int (lg_cmp x y) :: st) h) : zA g Z k n pc lv (.long y :: .long x :: st) h := by
  intro p e s m args below meth c ls H locs cells slots C E hL hR hS hk hn
  subst hp
  exact W.lcmp C.1 C.2.1 hd (kk p e s m args below meth c ls H locs cells slots C E hL hR hS hk hn)
theorem z_iaddN {g : zGl} {Z : zZt} {k n pc q : Nat} {lv : List (Option Value)} {st : List Value} {h : zHp} {x y : Nat} (hd : decode Z.1.2.1 pc = .ok (.iadd, 1)) (hp : pc + 1 = q) (kk : zA g Z k n q lv (.int (nI (x + y)) :: st) h) : zA g Z k n pc lv (.int (nI y) :: .int (nI x) :: st) h := z_iadd hd hp (by rw [nI_add]; exact kk)
theorem z_imulN {g : zGl} {Z : zZt} {k n pc q : Nat} {lv : List (Option Value)} {st : List Value} {h : zHp} {x y : Nat} (hd : decode Z.1.2.1 pc = .ok (.imul, 1)) (hp : pc + 1 = q) (kk : zA g Z k n q lv (.int (nI (x * y)) :: st) h) : zA g Z k n pc lv (.int (nI y) :: .int (nI x) :: st) h := z_imul hd hp (by rw [nI_mul]; exact kk)
theorem z_eqi {g : zGl} {Z : zZt} {k n pc : Nat} {lv : List (Option Value)} {st : List Value} {h : zHp} {x y : Int32} (hxy : x = y) (kk : zA g Z k n pc lv (.int y :: st) h) : zA g Z k n pc lv (.int x :: st) h := hxy ▸ kk
theorem z_eql {g : zGl} {Z : zZt} {k n pc : Nat} {lv : List (Option Value)} {st : List Value} {h : zHp} {x y : Int64} (hxy : x = y) (kk : zA g Z k n pc lv (.long y :: st) h) : zA g Z k n pc lv (.long x :: st) h := hxy ▸ kk
theorem z_icmp_eq {g : zGl} {Z : zZt} {k n pc q : Nat} {lv : List (Option Value)} {st : List Value} {h : zHp} {x y : Int32} {off : Int} {tg : Nat} (hd : decode Z.1.2.1 pc = .ok (.if_icmp .eq off, 3)) (ht : (pc : Int) + off = (tg : Int)) (hp : pc + 3 = q) (kt : x = y → zA g Z k n tg lv st h) (kf : ¬ x = y → zA g Z k n q lv st h) : zA g Z k n pc lv (.int y :: .int x :: st) h := by
  intro p e s m args below meth c ls H locs cells slots C E hL hR hS hk hn
  subst hp
  exact lv_icmp_eq C.1 C.2.1 hd ht (fun z => kt z p e s m args below meth c ls H locs cells slots C E hL hR hS hk hn) (fun z => kf z p e s m args below meth c ls H locs cells slots C E hL hR hS hk hn)
theorem z_if_eq {g : zGl} {Z : zZt} {k n pc q : Nat} {lv : List (Option Value)} {st : List Value} {h : zHp} {x : Int32} {off : Int} {tg : Nat} (hd : decode Z.1.2.1 pc = .ok (.ifCond .eq off, 3)) (ht : (pc : Int) + off = (tg : Int)) (hp : pc + 3 = q) (kt : x = 0 → zA g Z k n tg lv st h) (kf : ¬ x = 0 → zA g Z k n q lv st h) : zA g Z k n pc lv (.int x :: st) h := by
  intro p e s m args below meth c ls H locs cells slots C E hL hR hS hk hn
  subst hp
  exact lv_if_eq C.1 C.2.1 hd ht (fun z => kt z p e s m args below meth c ls H locs cells slots C E hL hR hS hk hn) (fun z => kf z p e s m args below meth c ls H locs cells slots C E hL hR hS hk hn)
theorem z_icmp_eqN {g : zGl} {Z : zZt} {k n pc q : Nat} {lv : List (Option Value)} {st : List Value} {h : zHp} {x y : Nat} {off : Int} {tg : Nat} (hd : decode Z.1.2.1 pc = .ok (.if_icmp .eq off, 3)) (ht : (pc : Int) + off = (tg : Int)) (hp : pc + 3 = q) (hx : x < 2 ^ 31) (hy : y < 2 ^ 31) (kt : x = y → zA g Z k n tg lv st h) (kf : ¬ x = y → zA g Z k n q lv st h) : zA g Z k n pc lv (.int (nI y) :: .int (nI x) :: st) h := z_icmp_eq hd ht hp (fun z => kt ((nI_eq hx hy).mp z)) (fun z => kf (fun e => z (congrArg nI e)))
theorem z_icmp_ne {g : zGl} {Z : zZt} {k n pc q : Nat} {lv : List (Option Value)} {st : List Value} {h : zHp} {x y : Int32} {off : Int} {tg : Nat} (hd : decode Z.1.2.1 pc = .ok (.if_icmp .ne off, 3)) (ht : (pc : Int) + off = (tg : Int)) (hp : pc + 3 = q) (kt : ¬ x = y → zA g Z k n tg lv st h) (kf : x = y → zA g Z k n q lv st h) : zA g Z k n pc lv (.int y :: .int x :: st) h := by
  intro p e s m args below meth c ls H locs cells slots C E hL hR hS hk hn
  subst hp
  exact lv_icmp_ne C.1 C.2.1 hd ht (fun z => kt z p e s m args below meth c ls H locs cells slots C E hL hR hS hk hn) (fun z => kf z p e s m args below meth c ls H locs cells slots C E hL hR hS hk hn)
theorem z_if_ne {g : zGl} {Z : zZt} {k n pc q : Nat} {lv : List (Option Value)} {st : List Value} {h : zHp} {x : Int32} {off : Int} {tg : Nat} (hd : decode Z.1.2.1 pc = .ok (.ifCond .ne off, 3)) (ht : (pc : Int) + off = (tg : Int)) (hp : pc + 3 = q) (kt : ¬ x = 0 → zA g Z k n tg lv st h) (kf : x = 0 → zA g Z k n q lv st h) : zA g Z k n pc lv (.int x :: st) h := by
  intro p e s m args below meth c ls H locs cells slots C E hL hR hS hk hn
  subst hp
  exact lv_if_ne C.1 C.2.1 hd ht (fun z => kt z p e s m args below meth c ls H locs cells slots C E hL hR hS hk hn) (fun z => kf z p e s m args below meth c ls H locs cells slots C E hL hR hS hk hn)
theorem z_icmp_neN {g : zGl} {Z : zZt} {k n pc q : Nat} {lv : List (Option Value)} {st : List Value} {h : zHp} {x y : Nat} {off : Int} {tg : Nat} (hd : decode Z.1.2.1 pc = .ok (.if_icmp .ne off, 3)) (ht : (pc : Int) + off = (tg : Int)) (hp : pc + 3 = q) (hx : x < 2 ^ 31) (hy : y < 2 ^ 31) (kt : ¬ x = y → zA g Z k n tg lv st h) (kf : x = y → zA g Z k n q lv st h) : zA g Z k n pc lv (.int (nI y) :: .int (nI x) :: st) h := z_icmp_ne hd ht hp (fun z => kt (fun e => z (congrArg nI e))) (fun z => kf ((nI_eq hx hy).mp z))
theorem z_icmp_lt {g : zGl} {Z : zZt} {k n pc q : Nat} {lv : List (Option Value)} {st : List Value} {h : zHp} {x y : Int32} {off : Int} {tg : Nat} (hd : decode Z.1.2.1 pc = .ok (.if_icmp .lt off, 3)) (ht : (pc : Int) + off = (tg : Int)) (hp : pc + 3 = q) (kt : x < y → zA g Z k n tg lv st h) (kf : ¬ x < y → zA g Z k n q lv st h) : zA g Z k n pc lv (.int y :: .int x :: st) h := by
  intro p e s m args below meth c ls H locs cells slots C E hL hR hS hk hn
  subst hp
  exact lv_icmp_lt C.1 C.2.1 hd ht (fun z => kt z p e s m args below meth c ls H locs cells slots C E hL hR hS hk hn) (fun z => kf z p e s m args below meth c ls H locs cells slots C E hL hR hS hk hn)
theorem z_if_lt {g : zGl} {Z : zZt} {k n pc q : Nat} {lv : List (Option Value)} {st : List Value} {h : zHp} {x : Int32} {off : Int} {tg : Nat} (hd : decode Z.1.2.1 pc = .ok (.ifCond .lt off, 3)) (ht : (pc : Int) + off = (tg : Int)) (hp : pc + 3 = q) (kt : x < 0 → zA g Z k n tg lv st h) (kf : ¬ x < 0 → zA g Z k n q lv st h) : zA g Z k n pc lv (.int x :: st) h := by
  intro p e s m args below meth c ls H locs cells slots C E hL hR hS hk hn
  subst hp
  exact lv_if_lt C.1 C.2.1 hd ht (fun z => kt z p e s m args below meth c ls H locs cells slots C E hL hR hS hk hn) (fun z => kf z p e s m args below meth c ls H locs cells slots C E hL hR hS hk hn)
theorem z_icmp_ltN {g : zGl} {Z : zZt} {k n pc q : Nat} {lv : List (Option Value)} {st : List Value} {h : zHp} {x y : Nat} {off : Int} {tg : Nat} (hd : decode Z.1.2.1 pc = .ok (.if_icmp .lt off, 3)) (ht : (pc : Int) + off = (tg : Int)) (hp : pc + 3 = q) (hx : x < 2 ^ 31) (hy : y < 2 ^ 31) (kt : x < y → zA g Z k n tg lv st h) (kf : y ≤ x → zA g Z k n q lv st h) : zA g Z k n pc lv (.int (nI y) :: .int (nI x) :: st) h := z_icmp_lt hd ht hp (fun z => kt ((nI_ltI hx hy).mp z)) (fun z => kf (Nat.not_lt.mp (fun e => z ((nI_ltI hx hy).mpr e))))
theorem z_icmp_ge {g : zGl} {Z : zZt} {k n pc q : Nat} {lv : List (Option Value)} {st : List Value} {h : zHp} {x y : Int32} {off : Int} {tg : Nat} (hd : decode Z.1.2.1 pc = .ok (.if_icmp .ge off, 3)) (ht : (pc : Int) + off = (tg : Int)) (hp : pc + 3 = q) (kt : y ≤ x → zA g Z k n tg lv st h) (kf : ¬ y ≤ x → zA g Z k n q lv st h) : zA g Z k n pc lv (.int y :: .int x :: st) h := by
  intro p e s m args below meth c ls H locs cells slots C E hL hR hS hk hn
  subst hp
  exact lv_icmp_ge C.1 C.2.1 hd ht (fun z => kt z p e s m args below meth c ls H locs cells slots C E hL hR hS hk hn) (fun z => kf z p e s m args below meth c ls H locs cells slots C E hL hR hS hk hn)
theorem z_if_ge {g : zGl} {Z : zZt} {k n pc q : Nat} {lv : List (Option Value)} {st : List Value} {h : zHp} {x : Int32} {off : Int} {tg : Nat} (hd : decode Z.1.2.1 pc = .ok (.ifCond .ge off, 3)) (ht : (pc : Int) + off = (tg : Int)) (hp : pc + 3 = q) (kt : 0 ≤ x → zA g Z k n tg lv st h) (kf : ¬ 0 ≤ x → zA g Z k n q lv st h) : zA g Z k n pc lv (.int x :: st) h := by
  intro p e s m args below meth c ls H locs cells slots C E hL hR hS hk hn
  subst hp
  exact lv_if_ge C.1 C.2.1 hd ht (fun z => kt z p e s m args below meth c ls H locs cells slots C E hL hR hS hk hn) (fun z => kf z p e s m args below meth c ls H locs cells slots C E hL hR hS hk hn)
theorem z_icmp_geN {g : zGl} {Z : zZt} {k n pc q : Nat} {lv : List (Option Value)} {st : List Value} {h : zHp} {x y : Nat} {off : Int} {tg : Nat} (hd : decode Z.1.2.1 pc = .ok (.if_icmp .ge off, 3)) (ht : (pc : Int) + off = (tg : Int)) (hp : pc + 3 = q) (hx : x < 2 ^ 31) (hy : y < 2 ^ 31) (kt : y ≤ x → zA g Z k n tg lv st h) (kf : x < y → zA g Z k n q lv st h) : zA g Z k n pc lv (.int (nI y) :: .int (nI x) :: st) h := z_icmp_ge hd ht hp (fun z => kt ((nI_leI hy hx).mp z)) (fun z => kf (Nat.not_le.mp (fun e => z ((nI_leI hy hx).mpr e))))
theorem z_icmp_gt {g : zGl} {Z : zZt} {k n pc q : Nat} {lv : List (Option Value)} {st : List Value} {h : zHp} {x y : Int32} {off : Int} {tg : Nat} (hd : decode Z.1.2.1 pc = .ok (.if_icmp .gt off, 3)) (ht : (pc : Int) + off = (tg : Int)) (hp : pc + 3 = q) (kt : y < x → zA g Z k n tg lv st h) (kf : ¬ y < x → zA g Z k n q lv st h) : zA g Z k n pc lv (.int y :: .int x :: st) h := by
  intro p e s m args below meth c ls H locs cells slots C E hL hR hS hk hn
  subst hp
  exact lv_icmp_gt C.1 C.2.1 hd ht (fun z => kt z p e s m args below meth c ls H locs cells slots C E hL hR hS hk hn) (fun z => kf z p e s m args below meth c ls H locs cells slots C E hL hR hS hk hn)
theorem z_if_gt {g : zGl} {Z : zZt} {k n pc q : Nat} {lv : List (Option Value)} {st : List Value} {h : zHp} {x : Int32} {off : Int} {tg : Nat} (hd : decode Z.1.2.1 pc = .ok (.ifCond .gt off, 3)) (ht : (pc : Int) + off = (tg : Int)) (hp : pc + 3 = q) (kt : 0 < x → zA g Z k n tg lv st h) (kf : ¬ 0 < x → zA g Z k n q lv st h) : zA g Z k n pc lv (.int x :: st) h := by
  intro p e s m args below meth c ls H locs cells slots C E hL hR hS hk hn
  subst hp
  exact lv_if_gt C.1 C.2.1 hd ht (fun z => kt z p e s m args below meth c ls H locs cells slots C E hL hR hS hk hn) (fun z => kf z p e s m args below meth c ls H locs cells slots C E hL hR hS hk hn)
theorem z_icmp_gtN {g : zGl} {Z : zZt} {k n pc q : Nat} {lv : List (Option Value)} {st : List Value} {h : zHp} {x y : Nat} {off : Int} {tg : Nat} (hd : decode Z.1.2.1 pc = .ok (.if_icmp .gt off, 3)) (ht : (pc : Int) + off = (tg : Int)) (hp : pc + 3 = q) (hx : x < 2 ^ 31) (hy : y < 2 ^ 31) (kt : y < x → zA g Z k n tg lv st h) (kf : x ≤ y → zA g Z k n q lv st h) : zA g Z k n pc lv (.int (nI y) :: .int (nI x) :: st) h := z_icmp_gt hd ht hp (fun z => kt ((nI_ltI hy hx).mp z)) (fun z => kf (Nat.not_lt.mp (fun e => z ((nI_ltI hy hx).mpr e))))
theorem z_icmp_le {g : zGl} {Z : zZt} {k n pc q : Nat} {lv : List (Option Value)} {st : List Value} {h : zHp} {x y : Int32} {off : Int} {tg : Nat} (hd : decode Z.1.2.1 pc = .ok (.if_icmp .le off, 3)) (ht : (pc : Int) + off = (tg : Int)) (hp : pc + 3 = q) (kt : x ≤ y → zA g Z k n tg lv st h) (kf : ¬ x ≤ y → zA g Z k n q lv st h) : zA g Z k n pc lv (.int y :: .int x :: st) h := by
  intro p e s m args below meth c ls H locs cells slots C E hL hR hS hk hn
  subst hp
  exact lv_icmp_le C.1 C.2.1 hd ht (fun z => kt z p e s m args below meth c ls H locs cells slots C E hL hR hS hk hn) (fun z => kf z p e s m args below meth c ls H locs cells slots C E hL hR hS hk hn)
theorem z_if_le {g : zGl} {Z : zZt} {k n pc q : Nat} {lv : List (Option Value)} {st : List Value} {h : zHp} {x : Int32} {off : Int} {tg : Nat} (hd : decode Z.1.2.1 pc = .ok (.ifCond .le off, 3)) (ht : (pc : Int) + off = (tg : Int)) (hp : pc + 3 = q) (kt : x ≤ 0 → zA g Z k n tg lv st h) (kf : ¬ x ≤ 0 → zA g Z k n q lv st h) : zA g Z k n pc lv (.int x :: st) h := by
  intro p e s m args below meth c ls H locs cells slots C E hL hR hS hk hn
  subst hp
  exact lv_if_le C.1 C.2.1 hd ht (fun z => kt z p e s m args below meth c ls H locs cells slots C E hL hR hS hk hn) (fun z => kf z p e s m args below meth c ls H locs cells slots C E hL hR hS hk hn)
theorem z_icmp_leN {g : zGl} {Z : zZt} {k n pc q : Nat} {lv : List (Option Value)} {st : List Value} {h : zHp} {x y : Nat} {off : Int} {tg : Nat} (hd : decode Z.1.2.1 pc = .ok (.if_icmp .le off, 3)) (ht : (pc : Int) + off = (tg : Int)) (hp : pc + 3 = q) (hx : x < 2 ^ 31) (hy : y < 2 ^ 31) (kt : x ≤ y → zA g Z k n tg lv st h) (kf : y < x → zA g Z k n q lv st h) : zA g Z k n pc lv (.int (nI y) :: .int (nI x) :: st) h := z_icmp_le hd ht hp (fun z => kt ((nI_leI hx hy).mp z)) (fun z => kf (Nat.not_le.mp (fun e => z ((nI_leI hx hy).mpr e))))
theorem z_goto {g : zGl} {Z : zZt} {k n pc q : Nat} {lv : List (Option Value)} {st : List Value} {h : zHp} {off : Int} {tg : Nat} (hd : decode Z.1.2.1 pc = .ok (.goto off, 3)) (ht : (pc : Int) + off = (tg : Int)) (kk : zA g Z k n tg lv st h) : zA g Z k n pc lv st h := by
  intro p e s m args below meth c ls H locs cells slots C E hL hR hS hk hn
  exact lv_goto C.1 C.2.1 hd ht (kk p e s m args below meth c ls H locs cells slots C E hL hR hS hk hn)
theorem z_tableIn {g : zGl} {Z : zZt} {k n pc q : Nat} {lv : List (Option Value)} {st : List Value} {h : zHp} {dflt lo hi : Int} {offs : Array Int} {len : Nat} {x : Int32} {off : Int} {tg : Nat} (hd : decode Z.1.2.1 pc = .ok (.tableswitch dflt lo hi offs, len)) (h1 : ¬ x.toInt < lo) (h2 : ¬ hi < x.toInt) (ho : offs[(x.toInt - lo).toNat]? = some off) (ht : (pc : Int) + off = (tg : Int)) (kk : zA g Z k n tg lv st h) : zA g Z k n pc lv (.int x :: st) h := by
  intro p e s m args below meth c ls H locs cells slots C E hL hR hS hk hn
  exact lv_tableIn C.1 C.2.1 hd h1 h2 ho ht (kk p e s m args below meth c ls H locs cells slots C E hL hR hS hk hn)
theorem z_tableOut {g : zGl} {Z : zZt} {k n pc q : Nat} {lv : List (Option Value)} {st : List Value} {h : zHp} {dflt lo hi : Int} {offs : Array Int} {len : Nat} {x : Int32} {tg : Nat} (hd : decode Z.1.2.1 pc = .ok (.tableswitch dflt lo hi offs, len)) (h1 : x.toInt < lo ∨ hi < x.toInt) (ht : (pc : Int) + dflt = (tg : Int)) (kk : zA g Z k n tg lv st h) : zA g Z k n pc lv (.int x :: st) h := by
  intro p e s m args below meth c ls H locs cells slots C E hL hR hS hk hn
  exact lv_tableOut C.1 C.2.1 hd h1 ht (kk p e s m args below meth c ls H locs cells slots C E hL hR hS hk hn)
theorem z_lookup {g : zGl} {Z : zZt} {k n pc q : Nat} {lv : List (Option Value)} {st : List Value} {h : zHp} {dflt : Int} {ps : Array (Int × Int)} {len : Nat} {x : Int32} {off : Int} {tg : Nat} (hd : decode Z.1.2.1 pc = .ok (.lookupswitch dflt ps, len)) (hps : (ps.toList.zip (ps.toList.drop 1)).all (fun (a, next) => a.1 < next.1) = true) (ho : Op.lookupswitch.offset ps.toList dflt x.toInt = off) (ht : (pc : Int) + off = (tg : Int)) (kk : zA g Z k n tg lv st h) : zA g Z k n pc lv (.int x :: st) h := by
  intro p e s m args below meth c ls H locs cells slots C E hL hR hS hk hn
  exact lv_lookup C.1 C.2.1 hd hps ho ht (kk p e s m args below meth c ls H locs cells slots C E hL hR hS hk hn)
end
section
/-! ===== rows of the heap ===== -/
def zup (h : zHp) (a : Nat) (c : va_E) : zHp := (fun q => if q = a then some c else h.1 q, h.2)
def znw (h : zHp) (a : Nat) (c : va_E) : zHp := (fun q => if q = a then some c else h.1 q, some (a + 1))
theorem zup_1 {h : zHp} {a q : Nat} {c : va_E} : (zup h a c).1 q = if q = a then some c else h.1 q := rfl
theorem zup_2 {h : zHp} {a : Nat} {c : va_E} : (zup h a c).2 = h.2 := rfl
theorem znw_1 {h : zHp} {a q : Nat} {c : va_E} : (znw h a c).1 q = if q = a then some c else h.1 q := rfl
theorem znw_2 {h : zHp} {a : Nat} {c : va_E} : (znw h a c).2 = some (a + 1) := rfl
theorem zRp_up {g : zGl} {h : zHp} {H H' : Heap} {a : Nat} {c : va_E} (hR : zRp g h H) (ha : zFr g a) (hat : va_at (zgD g) vwCl (a, c) H') (hz : H'.size = H.size) (ho : ∀ q : Nat, q ≠ a → H'[q]? = H[q]?) : zRp g (zup h a c) H' := by
  refine ⟨fun q c' hq => ?_, fun n hn => hz.trans (hR.2 n hn)⟩
  rw [zup_1] at hq
  split at hq
  · next e =>
    subst e
    cases hq
    exact ⟨ha, hat⟩
  · next e => exact ⟨(hR.1 q c' hq).1, va_at.kept (hR.1 q c' hq).2 (ho q e)⟩
theorem zRp_nw {g : zGl} {h : zHp} {H H' : Heap} {c : va_E} (hR : zRp g h H) (ha : zFr g H.size) (hat : va_at (zgD g) vwCl (H.size, c) H') (hz : H'.size = H.size + 1) (ho : ∀ q : Nat, q < H.size → H'[q]? = H[q]?) : zRp g (znw h H.size c) H' := by
  refine ⟨fun q c' hq => ?_, fun n hn => hz.trans (Option.some.inj hn)⟩
  rw [znw_1] at hq
  split at hq
  · next e =>
    subst e
    cases hq
    exact ⟨ha, hat⟩
  · next e => exact ⟨(hR.1 q c' hq).1, va_at.kept (hR.1 q c' hq).2 (ho q (hR.1 q c' hq).2.lt)⟩
theorem zP1 {D : va_G} {cl : List vw_C} {a : Nat} {c : va_E} {H : Heap} (h : va_at D cl (a, c) H) : va_P D cl [(a, c)] H := by
  intro j x hx
  cases j with
  | zero => cases hx; exact h
  | succ j => cases hx
/-- a class of ours -/
def zCl (ci : Nat) (C : String) (T : u_T) (N : Nat) (ty0 : Nat → FieldType) : Prop := vwCl[ci]? = some (C, T, N) ∧ (∀ w ∈ u_ws C T N, w ∈ zTb) ∧ (∀ k, k < N → parseFieldDescriptor (T k).2.2.1 = some (ty0 k)) ∧ (∀ a, a < N → ∀ b, b < N → a ≠ b → (T a).2.1 ≠ (T b).2.1)
/-- the entry idx of own's pool names the field kf of class ci -/
def zFld (own : String) (idx ci kf : Nat) (ty : FieldType) (fin : Bool) (C : String) : Prop := ∃ (T : u_T) (N : Nat) (ty0 : Nat → FieldType), zCl ci C T N ty0 ∧ kf < N ∧ ty0 kf = ty ∧ (T kf).2.2.2 = fin ∧ (T kf).1 = C ∧ Cond.fieldLink own idx (T kf).1 (T kf).2.1 (T kf).2.2.1 ∈ zTb
theorem z_get {g : zGl} {Z : zZt} {k n pc q : Nat} {lv : List (Option Value)} {st : List Value} {h : zHp} {idx ci kf a : Nat} {ty : FieldType} {fin : Bool} {C0 : String} {fs : List Value} {v : Value} (hd : decode Z.1.2.1 pc = .ok (.getfield idx, 3)) (hf : zFld Z.1.1.cls idx ci kf ty fin C0) (hcell : h.1 a = some (.inr (ci, fs))) (hv : fs[kf]? = some v) (hp : pc + 3 = q) (kk : zA g Z k n q lv (v :: st) h) : zA g Z k n pc lv (.ref a :: st) h := by
  intro p e s m args below meth c ls H locs cells slots C E hL hR hS hk hn
  subst hp
  obtain ⟨T, N, ty0, ⟨hc, hin, -, -⟩, hkN, -, -, -, hlk⟩ := hf
  exact va_get C.1 C.2.1 C.2.2.2.2.2.1 hin C.2.2.2.2.1 C.2.2.2.2.2.2.2.2.1 (zP1 (hR.1 a _ hcell).2) 0 rfl hc kf hkN (C.2.2.2.2.2.1 _ hlk) (fun _ z => z) hv hd (kk p e s m args below meth c ls H locs cells slots C E hL hR hS hk hn)
theorem z_put {g : zGl} {Z : zZt} {k n pc q : Nat} {lv : List (Option Value)} {st : List Value} {h : zHp} {idx ci kf a : Nat} {ty : FieldType} {C0 : String} {fs : List Value} {v : Value} (hd : decode Z.1.2.1 pc = .ok (.putfield idx, 3)) (hf : zFld Z.1.1.cls idx ci kf ty false C0) (hcell : h.1 a = some (.inr (ci, fs))) (hl : kf < fs.length) (hv1 : narrow ty v = v) (hv2 : fits ty v = true) (hp : pc + 3 = q) (kk : zA g Z k n q lv st (zup h a (.inr (ci, fs.set kf v)))) : zA g Z k n pc lv (v :: .ref a :: st) h := by
  intro p e s m args below meth c ls H locs cells slots C E hL hR hS hk hn
  subst hp
  obtain ⟨T, N, ty0, ⟨hc, hin, hty, hnm⟩, hkN, rfl, hfin, -, hlk⟩ := hf
  have hts := C.2.2.2.2.2.1
  have hK := C.2.2.2.2.2.2.2.2.1
  have hap := va_apart (own := Z.1.1.cls) hts hin ty0 hty hnm hK hc
  obtain ⟨hA, r, h1, cell, q1, q2, q3, q4⟩ := hR.1 a _ hcell
  have hr : r = (C0, T, N) := Option.some.inj (h1.symm.trans hc)
  subst hr
  obtain ⟨hS0, hfc, kC, hkC, hkind⟩ := hK.1 ci _ hc
  obtain ⟨cf, kf0, fi, f, hi, hsl⟩ := hS0 kf hkN
  have hlay := hts _ (hin _ (u_in_lay hkN))
  unfold u_lay at hlay
  rw [if_neg (by rw [hfin]; decide)] at hlay
  have hst := (u_facts hfc hkC (u_lays hts hin hkN) hi).1
  have h6 := u_store hfc hkC hkind hlay hi (hty kf hkN) hv1 hv2
  refine W.putK C.1 C.2.1 (f := f) ⟨C.2.2.2.2.1, hts _ hlk, ⟨_, _, _, hi⟩, hst⟩ (by rw [q2]; exact h6) q1 q3 (by rw [hsl]; exact k2_hasslot (q4 kf hkN)) rfl rfl hd fun H' e1 e2 e3 => ?_
  rw [hsl] at e1 ⊢
  exact kk p e s m args below meth c ls H' _ cells slots C E hL (zRp_up hR hA ⟨_, hc, t_OB.to (V := updV (vp_V fs) kf v) ⟨_, e1, q2, q3, t_set q4 hap hkN v⟩ (fun j _ => vp_updV_set hl v j)⟩ e2 e3) (hS.put e2 e3 hA) hk hn
theorem z_putF {g : zGl} {Z : zZt} {k n pc q : Nat} {lv : List (Option Value)} {st : List Value} {h : zHp} {idx ci kf a : Nat} {ty : FieldType} {C0 : String} {fs : List Value} {v : Value} (hd : decode Z.1.2.1 pc = .ok (.putfield idx, 3)) (hf : zFld Z.1.1.cls idx ci kf ty true C0) (hown : C0 = Z.1.1.cls) (hini : Z.1.1.name = "<init>") (hcell : h.1 a = some (.inr (ci, fs))) (hl : kf < fs.length) (hv1 : narrow ty v = v) (hv2 : fits ty v = true) (hp : pc + 3 = q) (kk : zA g Z k n q lv st (zup h a (.inr (ci, fs.set kf v)))) : zA g Z k n pc lv (v :: .ref a :: st) h := by
  intro p e s m args below meth c ls H locs cells slots C E hL hR hS hk hn
  subst hp
  obtain ⟨T, N, ty0, ⟨hc, hin, hty, hnm⟩, hkN, rfl, hfin, hdecl, hlk⟩ := hf
  have hts := C.2.2.2.2.2.1
  have hK := C.2.2.2.2.2.2.2.2.1
  have hap := va_apart (own := Z.1.1.cls) hts hin ty0 hty hnm hK hc
  obtain ⟨hA, r, h1, cell, q1, q2, q3, q4⟩ := hR.1 a _ hcell
  have hr : r = (C0, T, N) := Option.some.inj (h1.symm.trans hc)
  subst hr
  obtain ⟨hS0, hfc, kC, hkC, hkind⟩ := hK.1 ci _ hc
  obtain ⟨cf, kf0, fi, f, hi, hsl⟩ := hS0 kf hkN
  have hlay := hts _ (hin _ (u_in_lay hkN))
  unfold u_lay at hlay
  rw [if_pos hfin] at hlay
  have hst := (u_facts hfc hkC (u_lays hts hin hkN) hi).1
  have hcf : m.cls = cf := by
    obtain ⟨_, _, c', _, _, _, -, -, hf', -, -, -, hown2, -⟩ := Cond.laysFinal_spec hlay
    have e1 : c' = cf := by have := hi.symm.trans hf'; simp at this; exact this.1.symm
    rw [hdecl, hown] at hown2
    rw [← e1]; exact Option.some.inj (C.2.2.2.2.1.symm.trans hown2)
  have h6 := u_fits hfc hkC hkind (Or.inr hlay) hi (hty kf hkN) hv1 hv2
  refine W.putFinK C.1 C.2.1 C.2.2.2.2.1 (hts _ hlk) hi hst hcf (C.2.2.2.2.2.2.2.1.trans hini) (by rw [q2]; exact h6) q1 q3 (by rw [hsl]; exact k2_hasslot (q4 kf hkN)) rfl rfl hd fun H' e1 e2 e3 => ?_
  rw [hsl] at e1 ⊢
  exact kk p e s m args below meth c ls H' _ cells slots C E hL (zRp_up hR hA ⟨_, hc, t_OB.to (V := updV (vp_V fs) kf v) ⟨_, e1, q2, q3, t_set q4 hap hkN v⟩ (fun j _ => vp_updV_set hl v j)⟩ e2 e3) (hS.put e2 e3 hA) hk hn
/-- the cell of an int[], a boolean[], a long[], a World[] -/
abbrev zI (g : zGl) (N : Nat) (f : Nat → Int32) : va_E := .inl (zgI g, N, .inl f)
abbrev zB (g : zGl) (N : Nat) (f : Nat → Int32) : va_E := .inl (zgZ g, N, .inl f)
abbrev zJ (g : zGl) (N : Nat) (f : Nat → Int64) : va_E := .inl (zgJ g, N, .inr (.inl f))
abbrev zW (g : zGl) (N : Nat) (f : Nat → Option Nat) : va_E := .inl (zgW g, N, .inr (.inr (.inr (.inr f))))
theorem z_in {j N : Nat} (hj : j < N) (hN : N < 2 ^ 31) : vp_in (nI j) N := nI_in hj hN
theorem z_iald {g : zGl} {Z : zZt} {k n pc q : Nat} {lv : List (Option Value)} {st : List Value} {h : zHp} {a N j : Nat} {f : Nat → Int32} (hd : decode Z.1.2.1 pc = .ok (.iaload, 1)) (hcell : h.1 a = some (zI g N f)) (hN : N < 2 ^ 31) (hj : j < N) (hp : pc + 1 = q) (kk : zA g Z k n q lv (.int (f j) :: st) h) : zA g Z k n pc lv (.int (nI j) :: .ref a :: st) h := by
  intro p e s m args below meth c ls H locs cells slots C E hL hR hS hk hn
  subst hp
  refine va_iald C.1 C.2.1 C.2.2.2.2.2.2.2.2.1 (zP1 (hR.1 a _ hcell).2) 0 0 rfl rfl (z_in hj hN) hd ?_
  rw [nI_clamp (by omega)]
  exact kk p e s m args below meth c ls H locs cells slots C E hL hR hS hk hn
theorem z_zald {g : zGl} {Z : zZt} {k n pc q : Nat} {lv : List (Option Value)} {st : List Value} {h : zHp} {a N j : Nat} {f : Nat → Int32} (hd : decode Z.1.2.1 pc = .ok (.baload, 1)) (hcell : h.1 a = some (zB g N f)) (hN : N < 2 ^ 31) (hj : j < N) (hp : pc + 1 = q) (kk : zA g Z k n q lv (.int (f j) :: st) h) : zA g Z k n pc lv (.int (nI j) :: .ref a :: st) h := by
  intro p e s m args below meth c ls H locs cells slots C E hL hR hS hk hn
  subst hp
  refine va_zald C.1 C.2.1 C.2.2.2.2.2.2.2.2.1 (zP1 (hR.1 a _ hcell).2) 0 1 rfl rfl (z_in hj hN) hd ?_
  rw [nI_clamp (by omega)]
  exact kk p e s m args below meth c ls H locs cells slots C E hL hR hS hk hn
theorem z_lald {g : zGl} {Z : zZt} {k n pc q : Nat} {lv : List (Option Value)} {st : List Value} {h : zHp} {a N j : Nat} {f : Nat → Int64} (hd : decode Z.1.2.1 pc = .ok (.laload, 1)) (hcell : h.1 a = some (zJ g N f)) (hN : N < 2 ^ 31) (hj : j < N) (hp : pc + 1 = q) (kk : zA g Z k n q lv (.long (f j) :: st) h) : zA g Z k n pc lv (.int (nI j) :: .ref a :: st) h := by
  intro p e s m args below meth c ls H locs cells slots C E hL hR hS hk hn
  subst hp
  refine va_lald C.1 C.2.1 C.2.2.2.2.2.2.2.2.1 (zP1 (hR.1 a _ hcell).2) 0 2 rfl rfl (z_in hj hN) hd ?_
  rw [nI_clamp (by omega)]
  exact kk p e s m args below meth c ls H locs cells slots C E hL hR hS hk hn
theorem z_aald {g : zGl} {Z : zZt} {k n pc q : Nat} {lv : List (Option Value)} {st : List Value} {h : zHp} {a N j x : Nat} {f : Nat → Option Nat} (hd : decode Z.1.2.1 pc = .ok (.aaload, 1)) (hcell : h.1 a = some (zW g N f)) (hN : N < 2 ^ 31) (hj : j < N) (hx : f j = some x) (hp : pc + 1 = q) (kk : zA g Z k n q lv (.ref x :: st) h) : zA g Z k n pc lv (.int (nI j) :: .ref a :: st) h := by
  intro p e s m args below meth c ls H locs cells slots C E hL hR hS hk hn
  subst hp
  refine va_aldq C.1 C.2.1 C.2.2.2.2.2.2.2.2.1 (zP1 (hR.1 a _ hcell).2) 0 3 rfl rfl (z_in hj hN) hd ?_
  rw [nI_clamp (by omega), hx]
  exact kk p e s m args below meth c ls H locs cells slots C E hL hR hS hk hn
theorem z_alen {g : zGl} {Z : zZt} {k n pc q : Nat} {lv : List (Option Value)} {st : List Value} {h : zHp} {a N : Nat} {f : Nat → Int32} (hd : decode Z.1.2.1 pc = .ok (.arraylength, 1)) (hcell : h.1 a = some (zI g N f)) (hp : pc + 1 = q) (kk : zA g Z k n q lv (.int (nI N) :: st) h) : zA g Z k n pc lv (.ref a :: st) h := by
  intro p e s m args below meth c ls H locs cells slots C E hL hR hS hk hn
  subst hp
  exact va_alen C.1 C.2.1 C.2.2.2.2.2.2.2.2.1 (zP1 (hR.1 a _ hcell).2) 0 0 rfl (ty := .int) rfl rfl hd (kk p e s m args below meth c ls H locs cells slots C E hL hR hS hk hn)
theorem z_iast {g : zGl} {Z : zZt} {k n pc q : Nat} {lv : List (Option Value)} {st : List Value} {h : zHp} {a N j : Nat} {x : Int32} {f : Nat → Int32} (hd : decode Z.1.2.1 pc = .ok (.iastore, 1)) (hcell : h.1 a = some (zI g N f)) (hN : N < 2 ^ 31) (hj : j < N) (hp : pc + 1 = q) (kk : zA g Z k n q lv st (zup h a (zI g N (va_up f j x)))) : zA g Z k n pc lv (.int x :: .int (nI j) :: .ref a :: st) h := by
  intro p e s m args below meth c ls H locs cells slots C E hL hR hS hk hn
  subst hp
  obtain ⟨hA, hat⟩ := hR.1 a _ hcell
  have hK := C.2.2.2.2.2.2.2.2.1
  refine W.iast C.1 C.2.1 (show H[a]? = some (vp_cell (zgI g) (N, .inl f)) from hat) ((hK.2 0 _ rfl).1 N (fun j => .int (f j))) (fun q => by cases q) (by show ¬ (nI j < 0 ∨ (arrV _ _ _).slots.size ≤ _); rw [arrV_size]; exact z_in hj hN) rfl rfl hd fun H1 e1 z1 o1 => ?_
  rw [nI_clamp (by omega)] at e1 ⊢
  refine kk p e s m args below meth c ls H1 _ cells slots C E hL (zRp_up hR hA ?_ z1 o1) (hS.put z1 o1 hA) hk hn
  show H1[a]? = some (vp_cell _ _)
  rw [e1, vp_cell_i, vp_cell_i, arrV_store]
  congr 2
  funext z
  by_cases hz : z = j
  · subst hz
    simp [updV, va_up]
  · simp [updV, va_up, hz]
theorem z_zast {g : zGl} {Z : zZt} {k n pc q : Nat} {lv : List (Option Value)} {st : List Value} {h : zHp} {a N j : Nat} {x : Int32} {f : Nat → Int32} (hd : decode Z.1.2.1 pc = .ok (.bastore, 1)) (hcell : h.1 a = some (zB g N f)) (hN : N < 2 ^ 31) (hj : j < N) (hx : x = 0 ∨ x = 1) (hp : pc + 1 = q) (kk : zA g Z k n q lv st (zup h a (zB g N (va_up f j x)))) : zA g Z k n pc lv (.int x :: .int (nI j) :: .ref a :: st) h := by
  intro p e s m args below meth c ls H locs cells slots C E hL hR hS hk hn
  subst hp
  obtain ⟨hA, hat⟩ := hR.1 a _ hcell
  have hK := C.2.2.2.2.2.2.2.2.1
  refine W.zast C.1 C.2.1 (show H[a]? = some (vp_cell (zgZ g) (N, .inl f)) from hat) ((hK.2 1 _ rfl).1 N (fun j => .int (f j))) (fun q => by cases q) (by show ¬ (nI j < 0 ∨ (arrV _ _ _).slots.size ≤ _); rw [arrV_size]; exact z_in hj hN) rfl rfl hd fun H1 e1 z1 o1 => ?_
  rw [nI_clamp (by omega)] at e1 ⊢
  refine kk p e s m args below meth c ls H1 _ cells slots C E hL (zRp_up hR hA ?_ z1 o1) (hS.put z1 o1 hA) hk hn
  show H1[a]? = some (vp_cell _ _)
  rw [e1, vp_cell_i, vp_cell_i, arrV_store]
  congr 2
  funext z
  have hnx : narrow .boolean (.int x) = .int x := by rcases hx with rfl | rfl <;> rfl
  by_cases hz : z = j
  · subst hz
    simp [updV, va_up]
    try first | rcases hx with rfl | rfl <;> rfl | rcases hx with rfl | rfl <;> decide
  · simp [updV, va_up, hz]
theorem z_last {g : zGl} {Z : zZt} {k n pc q : Nat} {lv : List (Option Value)} {st : List Value} {h : zHp} {a N j : Nat} {x : Int64} {f : Nat → Int64} (hd : decode Z.1.2.1 pc = .ok (.lastore, 1)) (hcell : h.1 a = some (zJ g N f)) (hN : N < 2 ^ 31) (hj : j < N) (hp : pc + 1 = q) (kk : zA g Z k n q lv st (zup h a (zJ g N (va_up f j x)))) : zA g Z k n pc lv (.long x :: .int (nI j) :: .ref a :: st) h := by
  intro p e s m args below meth c ls H locs cells slots C E hL hR hS hk hn
  subst hp
  obtain ⟨hA, hat⟩ := hR.1 a _ hcell
  have hK := C.2.2.2.2.2.2.2.2.1
  refine W.last C.1 C.2.1 (show H[a]? = some (vp_cell (zgJ g) (N, .inr (.inl f))) from hat) ((hK.2 2 _ rfl).1 N (fun j => .long (f j))) (fun q => by cases q) (by show ¬ (nI j < 0 ∨ (arrV _ _ _).slots.size ≤ _); rw [arrV_size]; exact z_in hj hN) rfl rfl hd fun H1 e1 z1 o1 => ?_
  rw [nI_clamp (by omega)] at e1 ⊢
  refine kk p e s m args below meth c ls H1 _ cells slots C E hL (zRp_up hR hA ?_ z1 o1) (hS.put z1 o1 hA) hk hn
  show H1[a]? = some (vp_cell _ _)
  rw [e1, vp_cell_l, vp_cell_l, arrV_store]
  congr 2
  funext z
  by_cases hz : z = j
  · subst hz
    simp [updV, va_up]
  · simp [updV, va_up, hz]
theorem z_aast {g : zGl} {Z : zZt} {k n pc q : Nat} {lv : List (Option Value)} {st : List Value} {h : zHp} {a N j x : Nat} {f : Nat → Option Nat} {vs : List Value} (hd : decode Z.1.2.1 pc = .ok (.aastore, 1)) (hcell : h.1 a = some (zW g N f)) (hN : N < 2 ^ 31) (hj : j < N) (hx : h.1 x = some (.inr (6, vs))) (hp : pc + 1 = q) (kk : zA g Z k n q lv st (zup h a (zW g N (va_up f j (some x))))) : zA g Z k n pc lv (.ref x :: .int (nI j) :: .ref a :: st) h := by
  intro p e s m args below meth c ls H locs cells slots C E hL hR hS hk hn
  subst hp
  obtain ⟨hA, hat⟩ := hR.1 a _ hcell
  have hK := C.2.2.2.2.2.2.2.2.1
  obtain ⟨-, r', hr', cellV, g1, g2, g3, -⟩ := hR.1 x _ hx
  have hcls := (hK.1 6 (RX6, TX6, 15) rfl).2
  obtain ⟨kA, comp, k1, k2, k3, -⟩ := (hK.2 3 (zgW g, .object "ClaimedTasks$World") rfl).2
  have hcomp : comp = (zgD g).1 6 := Option.some.inj (k3.symm.trans hcls.1)
  subst hcomp
  obtain ⟨kC, hkC, -⟩ := hcls.2
  have hlt : (nI j).toNatClampNeg < N := by rw [nI_clamp (by omega)]; exact hj
  refine W.aast C.1 C.2.1 (show H[a]? = some (vp_cell (zgW g) (N, .inr (.inr (.inr (.inr f))))) from hat) (fun q h => by cases h) (fun h => by cases h) k1 k2 rfl hkC ⟨fun z => z_in hj hN (Or.inl z), by show _ < (arrV _ _ _).slots.size; rw [arrV_size]; exact hlt⟩ g1 (fun q h => by rw [g3] at h; cases h) (by rw [g2]; exact hkC) (by rw [g2]; exact va_assign hcls) rfl rfl hd fun H1 e1 z1 o1 => ?_
  rw [nI_clamp (by omega)] at e1 ⊢
  refine kk p e s m args below meth c ls H1 _ cells slots C E hL (zRp_up hR hA ?_ z1 o1) (hS.put z1 o1 hA) hk hn
  show H1[a]? = some (vp_cell _ _)
  rw [e1, vp_cell_q, vp_cell_q, arrV_store]
  congr 2
  funext z
  by_cases hz : z = j
  · subst hz
    simp [updV, va_up, va_rf]
  · simp [updV, va_up, hz]
theorem z_fresh {g : zGl} {s : State} {H : Heap} {locs : List Loc} (hI : zIv g s) (hS : va_S (zFr g) s.heap H locs) : zFr g H.size := Nat.le_trans hI.2.2.2.2.2.2.1 hS.1
theorem zS_nw {g : zGl} {H0 H H1 : Heap} {locs : List Loc} (hS : va_S (zFr g) H0 H locs) (z1 : H1.size = H.size + 1) (o1 : ∀ q : Nat, q < H.size → H1[q]? = H[q]?) : va_S (zFr g) H0 H1 locs :=
  ⟨Nat.le_trans hS.1 (by omega), fun x h1 h2 => (o1 x (Nat.lt_of_lt_of_le h1 hS.1)).trans (hS.2.1 x h1 h2), hS.2.2⟩
theorem z_new {g : zGl} {Z : zZt} {k n pc q : Nat} {lv : List (Option Value)} {st : List Value} {h : zHp} {idx ci N sz : Nat} {C0 : String} {T : u_T} {ty0 : Nat → FieldType} {fs : List Value} (hd : decode Z.1.2.1 pc = .ok (.new idx, 3)) (hcl : zCl ci C0 T N ty0) (hw1 : Cond.classLink Z.1.1.cls idx C0 ∈ zTb) (hw2 : Cond.instantiable C0 N ∈ zTb) (hw3 : Cond.initialized C0 ∈ zTb) (hsz : h.2 = some sz) (hfs : ∀ j, j < N → defaultValue (ty0 j) = vp_V fs j) (h1 : 1 ≤ k) (h2 : N ≤ n) (hp : pc + 3 = q) (kk : zA g Z (k - 1) (n - N) q lv (.ref sz :: st) (znw h sz (.inr (ci, fs)))) : zA g Z k n pc lv st h := by
  intro p e s m args below meth c ls H locs cells slots C E hL hR hS hk hn
  subst hp
  obtain ⟨hc, hin, hty, -⟩ := hcl
  have hts := C.2.2.2.2.2.1
  have hI := C.2.2.2.2.2.2.2.2
  have hKn := hI.1.1 ci _ hc
  have hs := hR.2 sz hsz
  subst hs
  refine W.newcK C.1 C.2.1 C.2.2.2.2.1 (hts _ hw1) (hts _ hw2) (hts _ hw3) rfl hd (by omega) (by omega) hKn.2.1 rfl fun H1 kC hkC e1 z1 o1 => ?_
  exact kk p e s m args below meth c ls H1 locs (cells + 1) (slots + N) C E hL (zRp_nw hR (z_fresh hI hS) ⟨_, hc, (u_born ty0 hts hin hKn hkC e1 hty).to hfs⟩ z1 o1) (zS_nw hS z1 o1) (by omega) (by omega)
theorem z_newI {g : zGl} {Z : zZt} {k n pc q : Nat} {lv : List (Option Value)} {st : List Value} {h : zHp} {sz N : Nat} (hd : decode Z.1.2.1 pc = .ok (.newarray .int, 2)) (hw : Cond.arrayClass .int ∈ zTb) (hsz : h.2 = some sz) (hN : N < 2 ^ 27) (h1 : 1 ≤ k) (h2 : N ≤ n) (hp : pc + 2 = q) (kk : zA g Z (k - 1) (n - N) q lv (.ref sz :: st) (znw h sz (zI g N (fun _ => 0)))) : zA g Z k n pc lv (.int (nI N) :: st) h := by
  intro p e s m args below meth c ls H locs cells slots C E hL hR hS hk hn
  subst hp
  have hI := C.2.2.2.2.2.2.2.2
  have hs := hR.2 sz hsz
  subst hs
  refine va_newaK C.1 C.2.1 (atype := .int) (C.2.2.2.2.2.1 _ hw) rfl hd rfl (nI_pos (by omega)) (nI_clamp (by omega)) (by show N * 4 ≤ _; omega) (by omega) (by omega) rfl fun H1 cA e1 z1 o1 hAr hNm => ?_
  have hcA : cA = zgI g := Option.some.inj (hNm.symm.trans (hI.1.2 0 (zgI g, .int) rfl).2)
  subst hcA
  refine kk p e s m args below meth c ls H1 locs (cells + 1) (slots + N) C E hL (zRp_nw hR (z_fresh hI hS) ?_ z1 o1) (zS_nw hS z1 o1) (by omega) (by omega)
  show H1[H.size]? = some (vp_cell _ _)
  rw [e1, vp_cell_i]
  rfl
theorem z_newB {g : zGl} {Z : zZt} {k n pc q : Nat} {lv : List (Option Value)} {st : List Value} {h : zHp} {sz N : Nat} (hd : decode Z.1.2.1 pc = .ok (.newarray .boolean, 2)) (hw : Cond.arrayClass .boolean ∈ zTb) (hsz : h.2 = some sz) (hN : N < 2 ^ 27) (h1 : 1 ≤ k) (h2 : N ≤ n) (hp : pc + 2 = q) (kk : zA g Z (k - 1) (n - N) q lv (.ref sz :: st) (znw h sz (zB g N (fun _ => 0)))) : zA g Z k n pc lv (.int (nI N) :: st) h := by
  intro p e s m args below meth c ls H locs cells slots C E hL hR hS hk hn
  subst hp
  have hI := C.2.2.2.2.2.2.2.2
  have hs := hR.2 sz hsz
  subst hs
  refine va_newaK C.1 C.2.1 (atype := .boolean) (C.2.2.2.2.2.1 _ hw) rfl hd rfl (nI_pos (by omega)) (nI_clamp (by omega)) (by show N * 1 ≤ _; omega) (by omega) (by omega) rfl fun H1 cA e1 z1 o1 hAr hNm => ?_
  have hcA : cA = zgZ g := Option.some.inj (hNm.symm.trans (hI.1.2 1 (zgZ g, .boolean) rfl).2)
  subst hcA
  refine kk p e s m args below meth c ls H1 locs (cells + 1) (slots + N) C E hL (zRp_nw hR (z_fresh hI hS) ?_ z1 o1) (zS_nw hS z1 o1) (by omega) (by omega)
  show H1[H.size]? = some (vp_cell _ _)
  rw [e1, vp_cell_i]
  rfl
theorem z_newJ {g : zGl} {Z : zZt} {k n pc q : Nat} {lv : List (Option Value)} {st : List Value} {h : zHp} {sz N : Nat} (hd : decode Z.1.2.1 pc = .ok (.newarray .long, 2)) (hw : Cond.arrayClass .long ∈ zTb) (hsz : h.2 = some sz) (hN : N < 2 ^ 25) (h1 : 1 ≤ k) (h2 : N ≤ n) (hp : pc + 2 = q) (kk : zA g Z (k - 1) (n - N) q lv (.ref sz :: st) (znw h sz (zJ g N (fun _ => 0)))) : zA g Z k n pc lv (.int (nI N) :: st) h := by
  intro p e s m args below meth c ls H locs cells slots C E hL hR hS hk hn
  subst hp
  have hI := C.2.2.2.2.2.2.2.2
  have hs := hR.2 sz hsz
  subst hs
  refine va_newaK C.1 C.2.1 (atype := .long) (C.2.2.2.2.2.1 _ hw) rfl hd rfl (nI_pos (by omega)) (nI_clamp (by omega)) (by show N * 8 ≤ _; omega) (by omega) (by omega) rfl fun H1 cA e1 z1 o1 hAr hNm => ?_
  have hcA : cA = zgJ g := Option.some.inj (hNm.symm.trans (hI.1.2 2 (zgJ g, .long) rfl).2)
  subst hcA
  refine kk p e s m args below meth c ls H1 locs (cells + 1) (slots + N) C E hL (zRp_nw hR (z_fresh hI hS) ?_ z1 o1) (zS_nw hS z1 o1) (by omega) (by omega)
  show H1[H.size]? = some (vp_cell _ _)
  rw [e1, vp_cell_l]
  rfl
theorem z_newW {g : zGl} {Z : zZt} {k n pc q : Nat} {lv : List (Option Value)} {st : List Value} {h : zHp} {idx sz N : Nat} (hd : decode Z.1.2.1 pc = .ok (.anewarray idx, 3)) (hw : Cond.classLink Z.1.1.cls idx "ClaimedTasks$World" ∈ zTb) (hsz : h.2 = some sz) (hN : N < 2 ^ 27) (h1 : 1 ≤ k) (h2 : N ≤ n) (hp : pc + 3 = q) (kk : zA g Z (k - 1) (n - N) q lv (.ref sz :: st) (znw h sz (zW g N (fun _ => none)))) : zA g Z k n pc lv (.int (nI N) :: st) h := by
  intro p e s m args below meth c ls H locs cells slots C E hL hR hS hk hn
  subst hp
  have hI := C.2.2.2.2.2.2.2.2
  have hs := hR.2 sz hsz
  subst hs
  refine W.anew C.1 C.2.1 C.2.2.2.2.1 (C.2.2.2.2.2.1 _ hw) (va_AO.use hI.2.2.1) rfl hd rfl (nI_pos (by omega)) (by rw [nI_clamp (by omega)]; omega) (by omega) (by rw [nI_clamp (by omega)]; omega) fun cA kA comp f1 f2 f3 f4 => ?_
  generalize hH1 : H.push ({ cls := cA, slots := Array.replicate (nI N).toNatClampNeg .null, vm := .none } : Cell) = H1
  have z1 : H1.size = H.size + 1 := by rw [← hH1, Array.size_push]
  have e1 : H1[H.size]? = some (arrV cA (nI N).toNatClampNeg (fun _ => .null)) := by rw [← hH1, Array.getElem?_push_size, ← arrV_new]
  have o1 : ∀ q : Nat, q < H.size → H1[q]? = H[q]? := fun q hq => by rw [← hH1, Array.getElem?_push, if_neg (Nat.ne_of_lt hq)]
  rw [nI_clamp (by omega)] at e1 ⊢
  obtain ⟨kA', comp', a1, a2, a3, a4⟩ := (hI.1.2 3 (zgW g, .object "ClaimedTasks$World") rfl).2
  have hcA : cA = zgW g := by first | exact Option.some.inj (f4.symm.trans a4) | exact Option.some.inj (f1.symm.trans a4)
  subst hcA
  refine kk p e s m args below meth c ls H1 locs (cells + 1) (slots + N) C E hL (zRp_nw hR (z_fresh hI hS) ?_ z1 o1) (zS_nw hS z1 o1) (by omega) (by omega)
  show H1[H.size]? = some (vp_cell _ _)
  rw [e1, vp_cell_q]
  rfl
end
section
/-! ===== calls, returns, throws ===== -/
def zLk (own : String) (idx : Nat) (M : zMt) (n : Nat) : Prop := (Cond.methodLink own idx M.1 ∈ zTb ∨ ∃ host : String, Cond.methodLinkNest own idx M.1 host ∈ zNs) ∧ Cond.code M.1 M.2.1 M.2.2.1 M.2.2.2.1 ∈ zTb ∧ Cond.initialized M.1.cls ∈ zTb ∧ (M.1.cls ≠ "java/lang/invoke/MethodHandle" ∧ M.1.cls ≠ "java/lang/invoke/VarHandle" ∧ (parseMethodDescriptor M.1.desc).map (fun d => d.parameters.length) = some n)
def zFit (R : Room) (M : zMt) : Bool := Nat.ble (M.2.2.2.2.1 + 1) R.frames && Nat.ble (8 + (M.2.2.1 + 11) + M.2.2.2.2.2) R.locals
theorem zFit_use {R : Room} {M : zMt} {kc nc : Nat} (h : zFit R M = true) : (zRm M kc nc).frames + 1 ≤ R.frames ∧ 8 + (M.2.2.1 + 11) + (zRm M kc nc).locals ≤ R.locals := by
  simp only [zFit, Bool.and_eq_true] at h
  exact ⟨Nat.le_of_ble_eq_true h.1, Nat.le_of_ble_eq_true h.2⟩
theorem zTb_good {w : Cond} (h : w ∈ zTb) : (w.onTables && w.keeps) = true ∨ ∃ ty, w = .arrayClass ty := good_of_word (List.mem_filter.mp h).2
theorem zWs_good {M : zMt} (h : Cond.code M.1 M.2.1 M.2.2.1 M.2.2.2.1 ∈ zTb) : GoodIn zTb (zWs M) := by
  intro w hw
  rcases List.mem_cons.mp hw with rfl | hw
  · exact ⟨h, zTb_good h⟩
  · exact ⟨hw, zTb_good hw⟩
theorem zPreS {g : zGl} {h : zHp} {av : List Value} {s : State} {H : Heap} {locs : List Loc} (hI : zIv g s) (hR : zRp g h H) (hS : va_S (zFr g) s.heap H locs) : PreS s H (va_Pc av (zPr g h)) av :=
  ⟨zPr_blind, fun U hU hW => ⟨rfl, by rw [hU]; exact hR, zIv_body hI hS hU hW⟩⟩
theorem z_after {p : Program} {l : Launch} {e : Env} {R : Room} {s : State} {m : MethodId} {args : Array Value} {below : List Frame} {meth : Method} {c : Code} {H : Heap} {locs : List Loc} {cells slots : Nat} {Q : State → Prop} {pc : Nat} {ls : Array Slot} {rest st0 : List Value} {a : Array Value} {mc ms : Nat} {g : zGl} {P : Option Value → zHp → Prop}
    (hr : va_Run p l e R s m args below meth c H locs cells slots mc ms (F0 m pc ls st0) rest (zQ g P a) (zFr g)) (hS : va_S (zFr g) s.heap H locs)
    (kk : ∀ (v : Option Value) (h' : zHp) (H1 : Heap) (locs1 : List Loc), P v h' → zRp g h' H1 → va_S (zFr g) s.heap H1 locs1 → W p l e R s m args below meth c H1 locs1 (cells + mc) (slots + ms) Q (F0 m (pc + 3) ls (v.toList ++ rest))) : W p l e R s m args below meth c H locs cells slots Q (F0 m pc ls st0) := by
  intro T hT X
  obtain ⟨v, st₀, t, T', L, h0, X', hL, e1, e2, ⟨⟨v', h', hv, hR1, hP⟩, hz, hk⟩, st⟩ := hr T hT X
  cases hv
  rw [h0] at hz hk
  obtain ⟨t2, a1, b1⟩ := kk v h' T'.heap (locs ++ L) hP (by rw [e1]; exact hR1)
    ⟨Nat.le_trans hS.1 (by rw [e1]; exact hz), fun q h1 h2 => by rw [e1, hk q (Nat.lt_of_lt_of_le h1 hS.1) h2]; exact hS.2.1 q h1 h2, fun q hq => by
      rcases List.mem_append.mp hq with h | h
      · exact hS.2.2 q h
      · exact hL q h⟩ T' rfl X'
  exact ⟨t2, st t2 a1, b1⟩
theorem z_cS {g : zGl} {Z : zZt} {k n pc q : Nat} {lv : List (Option Value)} {st : List Value} {h : zHp} {idx : Nat} {M : zMt} {av rest : List Value} {P : Option Value → zHp → Prop} {kc nc : Nat} (hd : decode Z.1.2.1 pc = .ok (.invokestatic idx, 3)) (hl : zLk Z.1.1.cls idx M av.length) (hs : Cond.static M.1 ∈ zTb) (hf : zFit Z.2.2.1 M = true) (hst : st = av.reverse ++ rest) (hw : (rest.map fun v => v.category).sum ≤ 8) (hc : zC g M av h P kc nc) (hkc : kc ≤ k) (hnc : nc ≤ n) (hp : pc + 3 = q) (kk : ∀ (v : Option Value) (h' : zHp), P v h' → zA g Z (k - kc) (n - nc) q lv (v.toList ++ rest) h') : zA g Z k n pc lv st h := by
  intro p e s m args below meth c ls H locs cells slots C E hL hR hS hk hn
  subst hp
  have hts := C.2.2.2.2.2.1
  have hI := C.2.2.2.2.2.2.2.2
  obtain ⟨hlk, hco, hin, hnm⟩ := hl
  have go : ∀ (v : Option Value) (h' : zHp) (H1 : Heap) (locs1 : List Loc), P v h' → zRp g h' H1 → va_S (zFr g) s.heap H1 locs1 → W p g.1 e Z.2.2.1 s m args below meth c H1 locs1 (cells + kc) (slots + nc) (Z.2.2.2 below args s) (F0 m (pc + 3) ls (v.toList ++ rest)) := fun v h' H1 locs1 a1 a2 a3 => kk v h' a1 p e s m args below meth c ls H1 locs1 _ _ C E hL a2 a3 (by omega) (by omega)
  rcases hlk with hlk | ⟨host, hlk⟩
  · exact z_after (va_runS (Ts := zTb) (own := Z.1.1.cls) ⟨C.1, C.2.1, C.2.2.2.1, C.2.2.2.2.1, hts⟩ hc ⟨callB_of av.length hts (zWs_good hco) rfl rfl rfl (hts _ hin) (hts _ hlk) hnm (zFit_use hf), hts _ hs⟩ (zPreS hI hR hS) rfl rfl hL.1 hst (lv_room hw) hd ⟨by omega, by omega⟩) hS go
  · exact z_after (va_runSN (Ts := zTb) (own := Z.1.1.cls) ⟨C.1, C.2.1, C.2.2.2.1, C.2.2.2.2.1, hts⟩ hc ⟨va_cnB av.length hts (zWs_good hco) rfl rfl rfl (hI.2.1 _ hlk) (hts _ hin) hnm (zFit_use hf), hts _ hs, trivial⟩ (zPreS hI hR hS) rfl rfl hL.1 hst (lv_room hw) hd ⟨by omega, by omega⟩) hS go
theorem zPreV {g : zGl} {h : zHp} {av : List Value} {s : State} {H : Heap} {locs : List Loc} {a ci : Nat} {fs : List Value} {C0 : String} {T : u_T} {N : Nat} (hI : zIv g s) (hR : zRp g h H) (hS : va_S (zFr g) s.heap H locs) (hcell : h.1 a = some (.inr (ci, fs))) (hc : vwCl[ci]? = some (C0, T, N)) : PreV s H C0 a (va_Pc (.ref a :: av) (zPr g h)) av :=
  ⟨zPr_blind, va_recv hI.1 (zP1 (hR.1 a _ hcell).2) hc (q0 := 0) rfl, fun U hU hW => ⟨rfl, by rw [hU]; exact hR, zIv_body hI hS hU hW⟩⟩
theorem z_cV {g : zGl} {Z : zZt} {k n pc q : Nat} {lv : List (Option Value)} {st : List Value} {h : zHp} {idx a ci : Nat} {fs : List Value} {T : u_T} {N : Nat} {M : zMt} {av rest : List Value} {P : Option Value → zHp → Prop} {kc nc : Nat} (hd : decode Z.1.2.1 pc = .ok (.invokevirtual idx, 3)) (hl : zLk Z.1.1.cls idx M av.length) (hs : Cond.instanceMethod M.1 ∈ zTb ∧ Cond.selects M.1.cls M.1 M.1 ∈ zTb) (hf : zFit Z.2.2.1 M = true) (hcell : h.1 a = some (.inr (ci, fs))) (hci : vwCl[ci]? = some (M.1.cls, T, N)) (hst : st = av.reverse ++ .ref a :: rest) (hw : (rest.map fun v => v.category).sum ≤ 8) (hc : zC g M (.ref a :: av) h P kc nc) (hkc : kc ≤ k) (hnc : nc ≤ n) (hp : pc + 3 = q) (kk : ∀ (v : Option Value) (h' : zHp), P v h' → zA g Z (k - kc) (n - nc) q lv (v.toList ++ rest) h') : zA g Z k n pc lv st h := by
  intro p e s m args below meth c ls H locs cells slots C E hL hR hS hk hn
  subst hp
  have hts := C.2.2.2.2.2.1
  have hI := C.2.2.2.2.2.2.2.2
  obtain ⟨hlk, hco, hin, hnm⟩ := hl
  have go : ∀ (v : Option Value) (h' : zHp) (H1 : Heap) (locs1 : List Loc), P v h' → zRp g h' H1 → va_S (zFr g) s.heap H1 locs1 → W p g.1 e Z.2.2.1 s m args below meth c H1 locs1 (cells + kc) (slots + nc) (Z.2.2.2 below args s) (F0 m (pc + 3) ls (v.toList ++ rest)) := fun v h' H1 locs1 a1 a2 a3 => kk v h' a1 p e s m args below meth c ls H1 locs1 _ _ C E hL a2 a3 (by omega) (by omega)
  rcases hlk with hlk | ⟨host, hlk⟩
  · exact z_after (va_runV (Ts := zTb) (own := Z.1.1.cls) (C := M.1.cls) ⟨C.1, C.2.1, C.2.2.2.1, C.2.2.2.2.1, hts⟩ hc ⟨callB_of av.length hts (zWs_good hco) rfl rfl rfl (hts _ hin) (hts _ hlk) hnm (zFit_use hf), hts _ hs.1, hts _ hs.2⟩ (zPreV hI hR hS hcell hci) rfl rfl hL.1 hst (lv_room hw) hd ⟨by omega, by omega⟩) hS go
  · exact z_after (va_runVN (Ts := zTb) (own := Z.1.1.cls) (C := M.1.cls) ⟨C.1, C.2.1, C.2.2.2.1, C.2.2.2.2.1, hts⟩ hc ⟨va_cnB av.length hts (zWs_good hco) rfl rfl rfl (hI.2.1 _ hlk) (hts _ hin) hnm (zFit_use hf), hts _ hs.1, hts _ hs.2⟩ (zPreV hI hR hS hcell hci) rfl rfl hL.1 hst (lv_room hw) hd ⟨by omega, by omega⟩) hS go
theorem z_cI {g : zGl} {Z : zZt} {k n pc q : Nat} {lv : List (Option Value)} {st : List Value} {h : zHp} {idx a : Nat} {M : zMt} {av rest : List Value} {P : Option Value → zHp → Prop} {kc nc : Nat} (hd : decode Z.1.2.1 pc = .ok (.invokespecial idx, 3)) (hl : zLk Z.1.1.cls idx M av.length) (hs : Cond.instanceMethod M.1 ∈ zTb) (hin1 : M.1.name = "<init>") (hvd : M.2.2.2.1 = none) (hf : zFit Z.2.2.1 M = true) (hst : st = av.reverse ++ .ref a :: rest) (hw : (rest.map fun v => v.category).sum ≤ 8) (hc : zC g M (.ref a :: av) h P kc nc) (hkc : kc ≤ k) (hnc : nc ≤ n) (hp : pc + 3 = q) (kk : ∀ (v : Option Value) (h' : zHp), P v h' → zA g Z (k - kc) (n - nc) q lv (v.toList ++ rest) h') : zA g Z k n pc lv st h := by
  intro p e s m args below meth c ls H locs cells slots C E hL hR hS hk hn
  subst hp
  have hts := C.2.2.2.2.2.1
  have hI := C.2.2.2.2.2.2.2.2
  obtain ⟨hlk, hco, hin, hnm⟩ := hl
  have go : ∀ (v : Option Value) (h' : zHp) (H1 : Heap) (locs1 : List Loc), P v h' → zRp g h' H1 → va_S (zFr g) s.heap H1 locs1 → W p g.1 e Z.2.2.1 s m args below meth c H1 locs1 (cells + kc) (slots + nc) (Z.2.2.2 below args s) (F0 m (pc + 3) ls (v.toList ++ rest)) := fun v h' H1 locs1 a1 a2 a3 => kk v h' a1 p e s m args below meth c ls H1 locs1 _ _ C E hL a2 a3 (by omega) (by omega)
  have hw1 : zWs M = Cond.code M.1 M.2.1 M.2.2.1 none :: zTb := by rw [← hvd]; rfl
  rcases hlk with hlk | ⟨host, hlk⟩
  · exact z_after (va_runI (Ts := zTb) (own := Z.1.1.cls) ⟨C.1, C.2.1, C.2.2.2.1, C.2.2.2.2.1, hts⟩ hc ⟨callB_of av.length hts (zWs_good hco) hw1 rfl rfl (hts _ hin) (hts _ hlk) hnm (zFit_use hf), hin1, hts _ hs⟩ (zPreS hI hR hS) rfl rfl hL.1 hst (lv_room hw) hd ⟨by omega, by omega⟩) hS go
  · exact z_after (va_runIN (Ts := zTb) (own := Z.1.1.cls) ⟨C.1, C.2.1, C.2.2.2.1, C.2.2.2.2.1, hts⟩ hc ⟨va_cnB av.length hts (zWs_good hco) hw1 rfl rfl (hI.2.1 _ hlk) (hts _ hin) hnm (zFit_use hf), hin1, hts _ hs⟩ (zPreS hI hR hS) rfl rfl hL.1 hst (lv_room hw) hd ⟨by omega, by omega⟩) hS go
/-- Object() -/
theorem z_obj {g : zGl} {Z : zZt} {k n pc q : Nat} {lv : List (Option Value)} {st : List Value} {h : zHp} {idx a : Nat} (hd : decode Z.1.2.1 pc = .ok (.invokespecial idx, 3)) (h1 : Cond.methodLink Z.1.1.cls idx Lib.objectInit ∈ zTb) (h2 : Cond.instanceMethod Lib.objectInit ∈ zTb) (h3 : Cond.code Lib.objectInit ⟨#[0xb1]⟩ 1 none ∈ zTb) (hf : 1 ≤ Z.2.2.1.frames) (hlo : (st.map fun v => v.category).sum + 12 ≤ Z.2.2.1.locals) (hp : pc + 3 = q) (kk : zA g Z k n q lv st h) : zA g Z k n pc lv (.ref a :: st) h := by
  intro p e s m args below meth c ls H locs cells slots C E hL hR hS hk hn
  subst hp
  have hts := C.2.2.2.2.2.1
  exact W.objInit C.1 C.2.1 C.2.2.2.2.1 (hts _ h1) (hts _ h2) (hts _ h3) rfl (hL.1.trans C.2.2.2.1.symm) rfl hd hf (by show 2 * 0 + _ + _ ≤ _; omega) (kk p e s m args below meth c ls H locs cells slots C E hL hR hS hk hn)
/-- returns -/
theorem z_ret {g : zGl} {M : zMt} {P : Option Value → zHp → Prop} {K N k n pc : Nat} {lv : List (Option Value)} {h : zHp} (hd : decode M.2.1 pc = .ok (.return_, 1)) (hr : M.2.2.2.1 = none) (hP : P none h) : zA g (zZc g M P K N) k n pc lv [] h := by
  intro p e s m args below meth c ls H locs cells slots C E hL hR hS hk hn
  refine W.widen (k := K) (n := N) (Nat.le_trans (Nat.le_add_right _ _) hk) (Nat.le_trans (Nat.le_add_right _ _) hn) ?_
  exact W.vret C.1 C.2.1 (C.2.2.1.trans hr) (fun t ht _ => ⟨⟨none, h, rfl, by rw [ht]; exact hR, hP⟩, hS.F ht⟩) hS.2.2 hd C.2.2.2.2.2.2.1
theorem z_reti {g : zGl} {M : zMt} {P : Option Value → zHp → Prop} {K N k n pc : Nat} {lv : List (Option Value)} {h : zHp} {x : Int32} (hd : decode M.2.1 pc = .ok (.ireturn, 1)) (hr : M.2.2.2.1 = some .int) (hP : P (some (.int x)) h) : zA g (zZc g M P K N) k n pc lv [.int x] h := by
  intro p e s m args below meth c ls H locs cells slots C E hL hR hS hk hn
  refine W.widen (k := K) (n := N) (Nat.le_trans (Nat.le_add_right _ _) hk) (Nat.le_trans (Nat.le_add_right _ _) hn) ?_
  exact W.iret C.1 C.2.1 (C.2.2.1.trans hr) (fun t ht _ => ⟨⟨some (.int x), h, rfl, by rw [ht]; exact hR, hP⟩, hS.F ht⟩) hS.2.2 hd C.2.2.2.2.2.2.1
theorem z_retz {g : zGl} {M : zMt} {P : Option Value → zHp → Prop} {K N k n pc : Nat} {lv : List (Option Value)} {h : zHp} {x : Int32} (hd : decode M.2.1 pc = .ok (.ireturn, 1)) (hr : M.2.2.2.1 = some .boolean) (hx : x = 0 ∨ x = 1) (hP : P (some (.int x)) h) : zA g (zZc g M P K N) k n pc lv [.int x] h := by
  intro p e s m args below meth c ls H locs cells slots C E hL hR hS hk hn
  refine W.widen (k := K) (n := N) (Nat.le_trans (Nat.le_add_right _ _) hk) (Nat.le_trans (Nat.le_add_right _ _) hn) ?_
  exact W.zret C.1 C.2.1 (C.2.2.1.trans hr) (by rcases hx with rfl | rfl <;> rfl) (fun t ht _ => ⟨⟨some (.int x), h, rfl, by rw [ht]; exact hR, hP⟩, hS.F ht⟩) hS.2.2 hd C.2.2.2.2.2.2.1
theorem z_retl {g : zGl} {M : zMt} {P : Option Value → zHp → Prop} {K N k n pc : Nat} {lv : List (Option Value)} {h : zHp} {x : Int64} (hd : decode M.2.1 pc = .ok (.lreturn, 1)) (hr : M.2.2.2.1 = some .long) (hP : P (some (.long x)) h) : zA g (zZc g M P K N) k n pc lv [.long x] h := by
  intro p e s m args below meth c ls H locs cells slots C E hL hR hS hk hn
  refine W.widen (k := K) (n := N) (Nat.le_trans (Nat.le_add_right _ _) hk) (Nat.le_trans (Nat.le_add_right _ _) hn) ?_
  exact W.lret C.1 C.2.1 (C.2.2.1.trans hr) (fun t ht _ => ⟨⟨some (.long x), h, rfl, by rw [ht]; exact hR, hP⟩, hS.F ht⟩) hS.2.2 hd C.2.2.2.2.2.2.1
theorem zNs_tab {w : Cond} (h : w ∈ zNs) : w.onTables = true := by
  have hn : zIsN w = true := (List.mem_filter.mp h).2
  cases w <;> first | rfl | (simp [zIsN] at hn)
theorem zRp_kept {g : zGl} {h : zHp} {H H1 : Heap} (hR : zRp g h H) (hk : ∀ q : Nat, q < H.size → H1[q]? = H[q]?) : zRp g (h.1, none) H1 :=
  ⟨fun q c hq => ⟨(hR.1 q c hq).1, va_at.kept (hR.1 q c hq).2 (hk q (hR.1 q c hq).2.lt)⟩, fun _ hn => by cases hn⟩
/-- 'throw new E("text")', the text by a wide index -/
theorem z_throw {g : zGl} {M : zMt} {X : String} {P : zHp → Prop} {K N k n pc : Nat} {lv : List (Option Value)} {h : zHp} {ik is ic : Nat} {text : String} {sa : Nat}
    (hcls : Bundle.fit X = true) (hnames : ∀ z ∈ ["java/lang/RuntimeException", "java/lang/Exception"], Bundle.fit z = true) (hk1 : Cond.classLink M.1.cls ik X ∈ zTb) (hk2 : Cond.initialized X ∈ zTb) (hstr : ∀ s : State, zIv g s → vk_R M.1.cls is text sa s)
    (hat : ∀ w ∈ vx_atS M.1.cls ic X ["java/lang/RuntimeException", "java/lang/Exception"], w ∈ zTb ∨ w ∈ zNs)
    (d0 : decode M.2.1 pc = .ok (.new ik, 3)) (d3 : decode M.2.1 (pc + 3) = .ok (.dup, 1)) (d4 : decode M.2.1 (pc + 4) = .ok (.ldc_w is, 3)) (d6 : decode M.2.1 (pc + 7) = .ok (.invokespecial ic, 3)) (d9 : decode M.2.1 (pc + 10) = .ok (.athrow, 1))
    (hfr : 5 < M.2.2.2.2.1) (hlo : 82 ≤ M.2.2.2.2.2) (h1 : 1 ≤ k) (h2 : 6 ≤ n) (hP : P (h.1, none)) : zA g (zZx g M X P K N) k n pc lv [] h := by
  intro p e s m args below meth c ls H locs cells slots C E hL hR hS hk hn
  have hts := C.2.2.2.2.2.1
  have hI := C.2.2.2.2.2.2.2.2
  have hk' : cells + k ≤ K := hk
  have hn' : slots + n ≤ N := hn
  refine vx_throwSW (A := zFr g) C.1 C.2.1 hI.2.2.2.2.2.2.2 C.2.2.2.2.1 hcls hnames (hts _ hk1) (hts _ hk2) (hstr s hI) (fun w hw => (hat w hw).elim (hts w) (fun z => va_Nw.use (zNs_tab z) (hI.2.1 w z))) (fun w hw => ?_) hI.2.2.2.1 hI.2.2.2.2.1 hS (hL.1.trans C.2.2.2.1.symm) d0 d3 d4 d6 d9 (fun x hx => (E x hx).elim) hfr (by show _ ≤ M.2.2.2.2.2; simpa using hlo) (by show cells + 1 ≤ K; omega) (by show slots + 6 ≤ N; omega) C.2.2.2.2.2.2.1 (fun t ha hz hkp => ?_) hS.2.2 (by omega) (by omega)
  · have hg : w ∈ zTb ∨ w ∈ zNs := by
      rcases List.mem_cons.mp hw with rfl | hw
      · exact Or.inl hk1
      · rcases List.mem_cons.mp hw with rfl | hw
        · exact Or.inl hk2
        · exact hat w hw
    rcases hg with hg | hg
    · have h9 := (List.mem_filter.mp hg).2
      simp [vx_ot, h9]
    · have h9 := zNs_tab hg
      simp [vx_ot, h9]
  · refine ⟨rfl, ⟨(h.1, none), zRp_kept hR hkp, hP⟩, ?_⟩
    exact ⟨Nat.le_trans hS.1 hz, fun q g1 g2 => (hkp q (Nat.lt_of_lt_of_le g1 hS.1)).trans (hS.2.1 q g1 g2)⟩
/-- a callee throws, and it isn't caught here -/
theorem z_cSX {g : zGl} {M0 : zMt} {X : String} {P0 : zHp → Prop} {K N k n pc : Nat} {lv : List (Option Value)} {st : List Value} {h : zHp} {idx : Nat} {M : zMt} {av rest : List Value} {P : zHp → Prop} {kc nc : Nat} (hd : decode M0.2.1 pc = .ok (.invokestatic idx, 3)) (hl : zLk M0.1.cls idx M av.length) (hlk : Cond.methodLink M0.1.cls idx M.1 ∈ zTb) (hs : Cond.static M.1 ∈ zTb) (hf : zFit (zRm M0 K N) M = true) (hst : st = av.reverse ++ rest) (hw : (rest.map fun v => v.category).sum ≤ 8) (hc : zX g M av h X P kc nc) (hkc : kc ≤ k) (hnc : nc ≤ n) (hP : ∀ h', P h' → P0 h') : zA g (zZx g M0 X P0 K N) k n pc lv st h := by
  intro p e s m args below meth c ls H locs cells slots C E hL hR hS hk hn
  have hts := C.2.2.2.2.2.1
  have hI := C.2.2.2.2.2.2.2.2
  have hk' : cells + k ≤ K := hk
  have hn' : slots + n ≤ N := hn
  obtain ⟨-, hco, hin, hnm⟩ := hl
  have hr := vx_runS (R := zRm M0 K N) (below := below) (meth := meth) (cells := cells) (slots := slots) (locs := locs) (e := e) (Ts := zTb) (own := M0.1.cls) (nL := M0.2.2.1) (cc := M0.2.1) ⟨C.1, C.2.1, C.2.2.2.1, C.2.2.2.2.1, hts⟩ hc ⟨callB_of av.length hts (zWs_good hco) rfl rfl rfl (hts _ hin) (hts _ hlk) hnm (zFit_use hf), hts _ hs⟩ (zPreS hI hR hS) (g := F0 m pc ls st) rfl rfl hL.1 hst (lv_room hw) hd ⟨by show cells + kc ≤ K; omega, by show slots + nc ≤ N; omega⟩
  intro T hT Y
  rcases hr T hT Y with ⟨v, st₀, t, T', L, h0, X', hL2, e1, e2, hq, st2⟩ | ⟨q, st₀, t, T', L, E2, ce, h0, X', hL2, e1, e2, ⟨rfl, ⟨h', hR', hP'⟩, hz, hkp⟩, hce, hcv, hcl, st2⟩
  · exact hq.elim
  · rw [h0] at hz hkp
    have hS' : va_S (zFr g) s.heap T'.heap (locs ++ L) := ⟨Nat.le_trans hS.1 (by rw [e1]; exact hz), fun q h1 h2 => by rw [e1, hkp q (Nat.lt_of_lt_of_le h1 hS.1) h2]; exact hS.2.1 q h1 h2, fun q hq => by
      rcases List.mem_append.mp hq with h | h
      · exact hS.2.2 q h
      · exact hL2 q h⟩
    obtain ⟨t2, a1, b1⟩ := vx_out (Qc := fun _ _ _ _ => False) (XC := zQX g E2 P0) (mc := K) (ms := N) (H := T'.heap) (free := zFr g) (ls := ls) (rest := rest) (pc := pc) (E := E2) (ce := ce) (q := q) (fun x hx => (E x hx).elim) C.2.2.2.2.2.2.1 (by rw [e1]; exact hce) hcv hcl
      (fun t9 ht9 _ => ⟨rfl, ⟨h', by rw [ht9, e1]; exact hR', hP h' hP'⟩, hS'.F ht9⟩) hS'.2.2 (by omega) (by omega) T' rfl X'
    exact ⟨t2, st2.trans a1, b1⟩

/-- the answer v, the heap as it was -/
def zV (h : zHp) (v : Value) : Option Value → zHp → Prop := fun v' h' => v' = some v ∧ h' = h

theorem z_s0 {g : zGl} {Z : zZt} {k n pc q : Nat} {lv : List (Option Value)} {st : List Value} {h : zHp} {idx : Nat} {M : zMt}  {rest : List Value} {v : Value} (hd : decode Z.1.2.1 pc = .ok (.invokestatic idx, 3)) (hl : zLk Z.1.1.cls idx M 0) (hs : Cond.static M.1 ∈ zTb) (hf : zFit Z.2.2.1 M = true) (hw : (rest.map fun v => v.category).sum ≤ 8) (hc : zC g M [] h (zV h v) 0 0) (hp : pc + 3 = q) (kk : zA g Z k n q lv (v :: rest) h) : zA g Z k n pc lv (rest) h := z_cS hd hl hs hf rfl hw hc (Nat.zero_le _) (Nat.zero_le _) hp (by rintro _ _ ⟨rfl, rfl⟩; exact kk)
theorem z_S0 {g : zGl} {Z : zZt} {k n pc q : Nat} {lv : List (Option Value)} {st : List Value} {h : zHp} {idx : Nat} {M : zMt}  {rest : List Value} {P : Option Value → zHp → Prop} {kc nc : Nat} (hd : decode Z.1.2.1 pc = .ok (.invokestatic idx, 3)) (hl : zLk Z.1.1.cls idx M 0) (hs : Cond.static M.1 ∈ zTb) (hf : zFit Z.2.2.1 M = true) (hw : (rest.map fun v => v.category).sum ≤ 8) (hc : zC g M [] h P kc nc) (hkc : kc ≤ k) (hnc : nc ≤ n) (hp : pc + 3 = q) (kk : ∀ (v : Option Value) (h' : zHp), P v h' → zA g Z (k - kc) (n - nc) q lv (v.toList ++ rest) h') : zA g Z k n pc lv (rest) h := z_cS hd hl hs hf rfl hw hc hkc hnc hp kk
theorem z_s1 {g : zGl} {Z : zZt} {k n pc q : Nat} {lv : List (Option Value)} {st : List Value} {h : zHp} {idx : Nat} {M : zMt} {x1 : Value} {rest : List Value} {v : Value} (hd : decode Z.1.2.1 pc = .ok (.invokestatic idx, 3)) (hl : zLk Z.1.1.cls idx M 1) (hs : Cond.static M.1 ∈ zTb) (hf : zFit Z.2.2.1 M = true) (hw : (rest.map fun v => v.category).sum ≤ 8) (hc : zC g M [x1] h (zV h v) 0 0) (hp : pc + 3 = q) (kk : zA g Z k n q lv (v :: rest) h) : zA g Z k n pc lv (x1 :: rest) h := z_cS hd hl hs hf rfl hw hc (Nat.zero_le _) (Nat.zero_le _) hp (by rintro _ _ ⟨rfl, rfl⟩; exact kk)
theorem z_S1 {g : zGl} {Z : zZt} {k n pc q : Nat} {lv : List (Option Value)} {st : List Value} {h : zHp} {idx : Nat} {M : zMt} {x1 : Value} {rest : List Value} {P : Option Value → zHp → Prop} {kc nc : Nat} (hd : decode Z.1.2.1 pc = .ok (.invokestatic idx, 3)) (hl : zLk Z.1.1.cls idx M 1) (hs : Cond.static M.1 ∈ zTb) (hf : zFit Z.2.2.1 M = true) (hw : (rest.map fun v => v.category).sum ≤ 8) (hc : zC g M [x1] h P kc nc) (hkc : kc ≤ k) (hnc : nc ≤ n) (hp : pc + 3 = q) (kk : ∀ (v : Option Value) (h' : zHp), P v h' → zA g Z (k - kc) (n - nc) q lv (v.toList ++ rest) h') : zA g Z k n pc lv (x1 :: rest) h := z_cS hd hl hs hf rfl hw hc hkc hnc hp kk
theorem z_s2 {g : zGl} {Z : zZt} {k n pc q : Nat} {lv : List (Option Value)} {st : List Value} {h : zHp} {idx : Nat} {M : zMt} {x1 x2 : Value} {rest : List Value} {v : Value} (hd : decode Z.1.2.1 pc = .ok (.invokestatic idx, 3)) (hl : zLk Z.1.1.cls idx M 2) (hs : Cond.static M.1 ∈ zTb) (hf : zFit Z.2.2.1 M = true) (hw : (rest.map fun v => v.category).sum ≤ 8) (hc : zC g M [x1, x2] h (zV h v) 0 0) (hp : pc + 3 = q) (kk : zA g Z k n q lv (v :: rest) h) : zA g Z k n pc lv (x2 :: x1 :: rest) h := z_cS hd hl hs hf rfl hw hc (Nat.zero_le _) (Nat.zero_le _) hp (by rintro _ _ ⟨rfl, rfl⟩; exact kk)
theorem z_S2 {g : zGl} {Z : zZt} {k n pc q : Nat} {lv : List (Option Value)} {st : List Value} {h : zHp} {idx : Nat} {M : zMt} {x1 x2 : Value} {rest : List Value} {P : Option Value → zHp → Prop} {kc nc : Nat} (hd : decode Z.1.2.1 pc = .ok (.invokestatic idx, 3)) (hl : zLk Z.1.1.cls idx M 2) (hs : Cond.static M.1 ∈ zTb) (hf : zFit Z.2.2.1 M = true) (hw : (rest.map fun v => v.category).sum ≤ 8) (hc : zC g M [x1, x2] h P kc nc) (hkc : kc ≤ k) (hnc : nc ≤ n) (hp : pc + 3 = q) (kk : ∀ (v : Option Value) (h' : zHp), P v h' → zA g Z (k - kc) (n - nc) q lv (v.toList ++ rest) h') : zA g Z k n pc lv (x2 :: x1 :: rest) h := z_cS hd hl hs hf rfl hw hc hkc hnc hp kk
theorem z_s3 {g : zGl} {Z : zZt} {k n pc q : Nat} {lv : List (Option Value)} {st : List Value} {h : zHp} {idx : Nat} {M : zMt} {x1 x2 x3 : Value} {rest : List Value} {v : Value} (hd : decode Z.1.2.1 pc = .ok (.invokestatic idx, 3)) (hl : zLk Z.1.1.cls idx M 3) (hs : Cond.static M.1 ∈ zTb) (hf : zFit Z.2.2.1 M = true) (hw : (rest.map fun v => v.category).sum ≤ 8) (hc : zC g M [x1, x2, x3] h (zV h v) 0 0) (hp : pc + 3 = q) (kk : zA g Z k n q lv (v :: rest) h) : zA g Z k n pc lv (x3 :: x2 :: x1 :: rest) h := z_cS hd hl hs hf rfl hw hc (Nat.zero_le _) (Nat.zero_le _) hp (by rintro _ _ ⟨rfl, rfl⟩; exact kk)
theorem z_S3 {g : zGl} {Z : zZt} {k n pc q : Nat} {lv : List (Option Value)} {st : List Value} {h : zHp} {idx : Nat} {M : zMt} {x1 x2 x3 : Value} {rest : List Value} {P : Option Value → zHp → Prop} {kc nc : Nat} (hd : decode Z.1.2.1 pc = .ok (.invokestatic idx, 3)) (hl : zLk Z.1.1.cls idx M 3) (hs : Cond.static M.1 ∈ zTb) (hf : zFit Z.2.2.1 M = true) (hw : (rest.map fun v => v.category).sum ≤ 8) (hc : zC g M [x1, x2, x3] h P kc nc) (hkc : kc ≤ k) (hnc : nc ≤ n) (hp : pc + 3 = q) (kk : ∀ (v : Option Value) (h' : zHp), P v h' → zA g Z (k - kc) (n - nc) q lv (v.toList ++ rest) h') : zA g Z k n pc lv (x3 :: x2 :: x1 :: rest) h := z_cS hd hl hs hf rfl hw hc hkc hnc hp kk
theorem z_s4 {g : zGl} {Z : zZt} {k n pc q : Nat} {lv : List (Option Value)} {st : List Value} {h : zHp} {idx : Nat} {M : zMt} {x1 x2 x3 x4 : Value} {rest : List Value} {v : Value} (hd : decode Z.1.2.1 pc = .ok (.invokestatic idx, 3)) (hl : zLk Z.1.1.cls idx M 4) (hs : Cond.static M.1 ∈ zTb) (hf : zFit Z.2.2.1 M = true) (hw : (rest.map fun v => v.category).sum ≤ 8) (hc : zC g M [x1, x2, x3, x4] h (zV h v) 0 0) (hp : pc + 3 = q) (kk : zA g Z k n q lv (v :: rest) h) : zA g Z k n pc lv (x4 :: x3 :: x2 :: x1 :: rest) h := z_cS hd hl hs hf rfl hw hc (Nat.zero_le _) (Nat.zero_le _) hp (by rintro _ _ ⟨rfl, rfl⟩; exact kk)
theorem z_S4 {g : zGl} {Z : zZt} {k n pc q : Nat} {lv : List (Option Value)} {st : List Value} {h : zHp} {idx : Nat} {M : zMt} {x1 x2 x3 x4 : Value} {rest : List Value} {P : Option Value → zHp → Prop} {kc nc : Nat} (hd : decode Z.1.2.1 pc = .ok (.invokestatic idx, 3)) (hl : zLk Z.1.1.cls idx M 4) (hs : Cond.static M.1 ∈ zTb) (hf : zFit Z.2.2.1 M = true) (hw : (rest.map fun v => v.category).sum ≤ 8) (hc : zC g M [x1, x2, x3, x4] h P kc nc) (hkc : kc ≤ k) (hnc : nc ≤ n) (hp : pc + 3 = q) (kk : ∀ (v : Option Value) (h' : zHp), P v h' → zA g Z (k - kc) (n - nc) q lv (v.toList ++ rest) h') : zA g Z k n pc lv (x4 :: x3 :: x2 :: x1 :: rest) h := z_cS hd hl hs hf rfl hw hc hkc hnc hp kk
theorem z_s5 {g : zGl} {Z : zZt} {k n pc q : Nat} {lv : List (Option Value)} {st : List Value} {h : zHp} {idx : Nat} {M : zMt} {x1 x2 x3 x4 x5 : Value} {rest : List Value} {v : Value} (hd : decode Z.1.2.1 pc = .ok (.invokestatic idx, 3)) (hl : zLk Z.1.1.cls idx M 5) (hs : Cond.static M.1 ∈ zTb) (hf : zFit Z.2.2.1 M = true) (hw : (rest.map fun v => v.category).sum ≤ 8) (hc : zC g M [x1, x2, x3, x4, x5] h (zV h v) 0 0) (hp : pc + 3 = q) (kk : zA g Z k n q lv (v :: rest) h) : zA g Z k n pc lv (x5 :: x4 :: x3 :: x2 :: x1 :: rest) h := z_cS hd hl hs hf rfl hw hc (Nat.zero_le _) (Nat.zero_le _) hp (by rintro _ _ ⟨rfl, rfl⟩; exact kk)
theorem z_S5 {g : zGl} {Z : zZt} {k n pc q : Nat} {lv : List (Option Value)} {st : List Value} {h : zHp} {idx : Nat} {M : zMt} {x1 x2 x3 x4 x5 : Value} {rest : List Value} {P : Option Value → zHp → Prop} {kc nc : Nat} (hd : decode Z.1.2.1 pc = .ok (.invokestatic idx, 3)) (hl : zLk Z.1.1.cls idx M 5) (hs : Cond.static M.1 ∈ zTb) (hf : zFit Z.2.2.1 M = true) (hw : (rest.map fun v => v.category).sum ≤ 8) (hc : zC g M [x1, x2, x3, x4, x5] h P kc nc) (hkc : kc ≤ k) (hnc : nc ≤ n) (hp : pc + 3 = q) (kk : ∀ (v : Option Value) (h' : zHp), P v h' → zA g Z (k - kc) (n - nc) q lv (v.toList ++ rest) h') : zA g Z k n pc lv (x5 :: x4 :: x3 :: x2 :: x1 :: rest) h := z_cS hd hl hs hf rfl hw hc hkc hnc hp kk
theorem z_s6 {g : zGl} {Z : zZt} {k n pc q : Nat} {lv : List (Option Value)} {st : List Value} {h : zHp} {idx : Nat} {M : zMt} {x1 x2 x3 x4 x5 x6 : Value} {rest : List Value} {v : Value} (hd : decode Z.1.2.1 pc = .ok (.invokestatic idx, 3)) (hl : zLk Z.1.1.cls idx M 6) (hs : Cond.static M.1 ∈ zTb) (hf : zFit Z.2.2.1 M = true) (hw : (rest.map fun v => v.category).sum ≤ 8) (hc : zC g M [x1, x2, x3, x4, x5, x6] h (zV h v) 0 0) (hp : pc + 3 = q) (kk : zA g Z k n q lv (v :: rest) h) : zA g Z k n pc lv (x6 :: x5 :: x4 :: x3 :: x2 :: x1 :: rest) h := z_cS hd hl hs hf rfl hw hc (Nat.zero_le _) (Nat.zero_le _) hp (by rintro _ _ ⟨rfl, rfl⟩; exact kk)
theorem z_S6 {g : zGl} {Z : zZt} {k n pc q : Nat} {lv : List (Option Value)} {st : List Value} {h : zHp} {idx : Nat} {M : zMt} {x1 x2 x3 x4 x5 x6 : Value} {rest : List Value} {P : Option Value → zHp → Prop} {kc nc : Nat} (hd : decode Z.1.2.1 pc = .ok (.invokestatic idx, 3)) (hl : zLk Z.1.1.cls idx M 6) (hs : Cond.static M.1 ∈ zTb) (hf : zFit Z.2.2.1 M = true) (hw : (rest.map fun v => v.category).sum ≤ 8) (hc : zC g M [x1, x2, x3, x4, x5, x6] h P kc nc) (hkc : kc ≤ k) (hnc : nc ≤ n) (hp : pc + 3 = q) (kk : ∀ (v : Option Value) (h' : zHp), P v h' → zA g Z (k - kc) (n - nc) q lv (v.toList ++ rest) h') : zA g Z k n pc lv (x6 :: x5 :: x4 :: x3 :: x2 :: x1 :: rest) h := z_cS hd hl hs hf rfl hw hc hkc hnc hp kk
theorem z_s7 {g : zGl} {Z : zZt} {k n pc q : Nat} {lv : List (Option Value)} {st : List Value} {h : zHp} {idx : Nat} {M : zMt} {x1 x2 x3 x4 x5 x6 x7 : Value} {rest : List Value} {v : Value} (hd : decode Z.1.2.1 pc = .ok (.invokestatic idx, 3)) (hl : zLk Z.1.1.cls idx M 7) (hs : Cond.static M.1 ∈ zTb) (hf : zFit Z.2.2.1 M = true) (hw : (rest.map fun v => v.category).sum ≤ 8) (hc : zC g M [x1, x2, x3, x4, x5, x6, x7] h (zV h v) 0 0) (hp : pc + 3 = q) (kk : zA g Z k n q lv (v :: rest) h) : zA g Z k n pc lv (x7 :: x6 :: x5 :: x4 :: x3 :: x2 :: x1 :: rest) h := z_cS hd hl hs hf rfl hw hc (Nat.zero_le _) (Nat.zero_le _) hp (by rintro _ _ ⟨rfl, rfl⟩; exact kk)
theorem z_S7 {g : zGl} {Z : zZt} {k n pc q : Nat} {lv : List (Option Value)} {st : List Value} {h : zHp} {idx : Nat} {M : zMt} {x1 x2 x3 x4 x5 x6 x7 : Value} {rest : List Value} {P : Option Value → zHp → Prop} {kc nc : Nat} (hd : decode Z.1.2.1 pc = .ok (.invokestatic idx, 3)) (hl : zLk Z.1.1.cls idx M 7) (hs : Cond.static M.1 ∈ zTb) (hf : zFit Z.2.2.1 M = true) (hw : (rest.map fun v => v.category).sum ≤ 8) (hc : zC g M [x1, x2, x3, x4, x5, x6, x7] h P kc nc) (hkc : kc ≤ k) (hnc : nc ≤ n) (hp : pc + 3 = q) (kk : ∀ (v : Option Value) (h' : zHp), P v h' → zA g Z (k - kc) (n - nc) q lv (v.toList ++ rest) h') : zA g Z k n pc lv (x7 :: x6 :: x5 :: x4 :: x3 :: x2 :: x1 :: rest) h := z_cS hd hl hs hf rfl hw hc hkc hnc hp kk
theorem z_v0 {g : zGl} {Z : zZt} {k n pc q : Nat} {lv : List (Option Value)} {st : List Value} {h : zHp} {idx a ci : Nat} {fs : List Value} {T : u_T} {N : Nat} {M : zMt}  {rest : List Value} {v : Value} (hd : decode Z.1.2.1 pc = .ok (.invokevirtual idx, 3)) (hl : zLk Z.1.1.cls idx M 0) (hs : Cond.instanceMethod M.1 ∈ zTb ∧ Cond.selects M.1.cls M.1 M.1 ∈ zTb) (hf : zFit Z.2.2.1 M = true) (hcell : h.1 a = some (.inr (ci, fs))) (hci : vwCl[ci]? = some (M.1.cls, T, N)) (hw : (rest.map fun v => v.category).sum ≤ 8) (hc : zC g M [.ref a] h (zV h v) 0 0) (hp : pc + 3 = q) (kk : zA g Z k n q lv (v :: rest) h) : zA g Z k n pc lv (.ref a :: rest) h := z_cV (av := []) hd hl hs hf hcell hci rfl hw hc (Nat.zero_le _) (Nat.zero_le _) hp (by rintro _ _ ⟨rfl, rfl⟩; exact kk)
theorem z_V0 {g : zGl} {Z : zZt} {k n pc q : Nat} {lv : List (Option Value)} {st : List Value} {h : zHp} {idx a ci : Nat} {fs : List Value} {T : u_T} {N : Nat} {M : zMt}  {rest : List Value} {P : Option Value → zHp → Prop} {kc nc : Nat} (hd : decode Z.1.2.1 pc = .ok (.invokevirtual idx, 3)) (hl : zLk Z.1.1.cls idx M 0) (hs : Cond.instanceMethod M.1 ∈ zTb ∧ Cond.selects M.1.cls M.1 M.1 ∈ zTb) (hf : zFit Z.2.2.1 M = true) (hcell : h.1 a = some (.inr (ci, fs))) (hci : vwCl[ci]? = some (M.1.cls, T, N)) (hw : (rest.map fun v => v.category).sum ≤ 8) (hc : zC g M [.ref a] h P kc nc) (hkc : kc ≤ k) (hnc : nc ≤ n) (hp : pc + 3 = q) (kk : ∀ (v : Option Value) (h' : zHp), P v h' → zA g Z (k - kc) (n - nc) q lv (v.toList ++ rest) h') : zA g Z k n pc lv (.ref a :: rest) h := z_cV (av := []) hd hl hs hf hcell hci rfl hw hc hkc hnc hp kk
theorem z_v1 {g : zGl} {Z : zZt} {k n pc q : Nat} {lv : List (Option Value)} {st : List Value} {h : zHp} {idx a ci : Nat} {fs : List Value} {T : u_T} {N : Nat} {M : zMt} {x1 : Value} {rest : List Value} {v : Value} (hd : decode Z.1.2.1 pc = .ok (.invokevirtual idx, 3)) (hl : zLk Z.1.1.cls idx M 1) (hs : Cond.instanceMethod M.1 ∈ zTb ∧ Cond.selects M.1.cls M.1 M.1 ∈ zTb) (hf : zFit Z.2.2.1 M = true) (hcell : h.1 a = some (.inr (ci, fs))) (hci : vwCl[ci]? = some (M.1.cls, T, N)) (hw : (rest.map fun v => v.category).sum ≤ 8) (hc : zC g M [.ref a, x1] h (zV h v) 0 0) (hp : pc + 3 = q) (kk : zA g Z k n q lv (v :: rest) h) : zA g Z k n pc lv (x1 :: .ref a :: rest) h := z_cV (av := [x1]) hd hl hs hf hcell hci rfl hw hc (Nat.zero_le _) (Nat.zero_le _) hp (by rintro _ _ ⟨rfl, rfl⟩; exact kk)
theorem z_V1 {g : zGl} {Z : zZt} {k n pc q : Nat} {lv : List (Option Value)} {st : List Value} {h : zHp} {idx a ci : Nat} {fs : List Value} {T : u_T} {N : Nat} {M : zMt} {x1 : Value} {rest : List Value} {P : Option Value → zHp → Prop} {kc nc : Nat} (hd : decode Z.1.2.1 pc = .ok (.invokevirtual idx, 3)) (hl : zLk Z.1.1.cls idx M 1) (hs : Cond.instanceMethod M.1 ∈ zTb ∧ Cond.selects M.1.cls M.1 M.1 ∈ zTb) (hf : zFit Z.2.2.1 M = true) (hcell : h.1 a = some (.inr (ci, fs))) (hci : vwCl[ci]? = some (M.1.cls, T, N)) (hw : (rest.map fun v => v.category).sum ≤ 8) (hc : zC g M [.ref a, x1] h P kc nc) (hkc : kc ≤ k) (hnc : nc ≤ n) (hp : pc + 3 = q) (kk : ∀ (v : Option Value) (h' : zHp), P v h' → zA g Z (k - kc) (n - nc) q lv (v.toList ++ rest) h') : zA g Z k n pc lv (x1 :: .ref a :: rest) h := z_cV (av := [x1]) hd hl hs hf hcell hci rfl hw hc hkc hnc hp kk
theorem z_v2 {g : zGl} {Z : zZt} {k n pc q : Nat} {lv : List (Option Value)} {st : List Value} {h : zHp} {idx a ci : Nat} {fs : List Value} {T : u_T} {N : Nat} {M : zMt} {x1 x2 : Value} {rest : List Value} {v : Value} (hd : decode Z.1.2.1 pc = .ok (.invokevirtual idx, 3)) (hl : zLk Z.1.1.cls idx M 2) (hs : Cond.instanceMethod M.1 ∈ zTb ∧ Cond.selects M.1.cls M.1 M.1 ∈ zTb) (hf : zFit Z.2.2.1 M = true) (hcell : h.1 a = some (.inr (ci, fs))) (hci : vwCl[ci]? = some (M.1.cls, T, N)) (hw : (rest.map fun v => v.category).sum ≤ 8) (hc : zC g M [.ref a, x1, x2] h (zV h v) 0 0) (hp : pc + 3 = q) (kk : zA g Z k n q lv (v :: rest) h) : zA g Z k n pc lv (x2 :: x1 :: .ref a :: rest) h := z_cV (av := [x1, x2]) hd hl hs hf hcell hci rfl hw hc (Nat.zero_le _) (Nat.zero_le _) hp (by rintro _ _ ⟨rfl, rfl⟩; exact kk)
theorem z_V2 {g : zGl} {Z : zZt} {k n pc q : Nat} {lv : List (Option Value)} {st : List Value} {h : zHp} {idx a ci : Nat} {fs : List Value} {T : u_T} {N : Nat} {M : zMt} {x1 x2 : Value} {rest : List Value} {P : Option Value → zHp → Prop} {kc nc : Nat} (hd : decode Z.1.2.1 pc = .ok (.invokevirtual idx, 3)) (hl : zLk Z.1.1.cls idx M 2) (hs : Cond.instanceMethod M.1 ∈ zTb ∧ Cond.selects M.1.cls M.1 M.1 ∈ zTb) (hf : zFit Z.2.2.1 M = true) (hcell : h.1 a = some (.inr (ci, fs))) (hci : vwCl[ci]? = some (M.1.cls, T, N)) (hw : (rest.map fun v => v.category).sum ≤ 8) (hc : zC g M [.ref a, x1, x2] h P kc nc) (hkc : kc ≤ k) (hnc : nc ≤ n) (hp : pc + 3 = q) (kk : ∀ (v : Option Value) (h' : zHp), P v h' → zA g Z (k - kc) (n - nc) q lv (v.toList ++ rest) h') : zA g Z k n pc lv (x2 :: x1 :: .ref a :: rest) h := z_cV (av := [x1, x2]) hd hl hs hf hcell hci rfl hw hc hkc hnc hp kk
theorem z_v3 {g : zGl} {Z : zZt} {k n pc q : Nat} {lv : List (Option Value)} {st : List Value} {h : zHp} {idx a ci : Nat} {fs : List Value} {T : u_T} {N : Nat} {M : zMt} {x1 x2 x3 : Value} {rest : List Value} {v : Value} (hd : decode Z.1.2.1 pc = .ok (.invokevirtual idx, 3)) (hl : zLk Z.1.1.cls idx M 3) (hs : Cond.instanceMethod M.1 ∈ zTb ∧ Cond.selects M.1.cls M.1 M.1 ∈ zTb) (hf : zFit Z.2.2.1 M = true) (hcell : h.1 a = some (.inr (ci, fs))) (hci : vwCl[ci]? = some (M.1.cls, T, N)) (hw : (rest.map fun v => v.category).sum ≤ 8) (hc : zC g M [.ref a, x1, x2, x3] h (zV h v) 0 0) (hp : pc + 3 = q) (kk : zA g Z k n q lv (v :: rest) h) : zA g Z k n pc lv (x3 :: x2 :: x1 :: .ref a :: rest) h := z_cV (av := [x1, x2, x3]) hd hl hs hf hcell hci rfl hw hc (Nat.zero_le _) (Nat.zero_le _) hp (by rintro _ _ ⟨rfl, rfl⟩; exact kk)
theorem z_V3 {g : zGl} {Z : zZt} {k n pc q : Nat} {lv : List (Option Value)} {st : List Value} {h : zHp} {idx a ci : Nat} {fs : List Value} {T : u_T} {N : Nat} {M : zMt} {x1 x2 x3 : Value} {rest : List Value} {P : Option Value → zHp → Prop} {kc nc : Nat} (hd : decode Z.1.2.1 pc = .ok (.invokevirtual idx, 3)) (hl : zLk Z.1.1.cls idx M 3) (hs : Cond.instanceMethod M.1 ∈ zTb ∧ Cond.selects M.1.cls M.1 M.1 ∈ zTb) (hf : zFit Z.2.2.1 M = true) (hcell : h.1 a = some (.inr (ci, fs))) (hci : vwCl[ci]? = some (M.1.cls, T, N)) (hw : (rest.map fun v => v.category).sum ≤ 8) (hc : zC g M [.ref a, x1, x2, x3] h P kc nc) (hkc : kc ≤ k) (hnc : nc ≤ n) (hp : pc + 3 = q) (kk : ∀ (v : Option Value) (h' : zHp), P v h' → zA g Z (k - kc) (n - nc) q lv (v.toList ++ rest) h') : zA g Z k n pc lv (x3 :: x2 :: x1 :: .ref a :: rest) h := z_cV (av := [x1, x2, x3]) hd hl hs hf hcell hci rfl hw hc hkc hnc hp kk
theorem z_v4 {g : zGl} {Z : zZt} {k n pc q : Nat} {lv : List (Option Value)} {st : List Value} {h : zHp} {idx a ci : Nat} {fs : List Value} {T : u_T} {N : Nat} {M : zMt} {x1 x2 x3 x4 : Value} {rest : List Value} {v : Value} (hd : decode Z.1.2.1 pc = .ok (.invokevirtual idx, 3)) (hl : zLk Z.1.1.cls idx M 4) (hs : Cond.instanceMethod M.1 ∈ zTb ∧ Cond.selects M.1.cls M.1 M.1 ∈ zTb) (hf : zFit Z.2.2.1 M = true) (hcell : h.1 a = some (.inr (ci, fs))) (hci : vwCl[ci]? = some (M.1.cls, T, N)) (hw : (rest.map fun v => v.category).sum ≤ 8) (hc : zC g M [.ref a, x1, x2, x3, x4] h (zV h v) 0 0) (hp : pc + 3 = q) (kk : zA g Z k n q lv (v :: rest) h) : zA g Z k n pc lv (x4 :: x3 :: x2 :: x1 :: .ref a :: rest) h := z_cV (av := [x1, x2, x3, x4]) hd hl hs hf hcell hci rfl hw hc (Nat.zero_le _) (Nat.zero_le _) hp (by rintro _ _ ⟨rfl, rfl⟩; exact kk)
theorem z_V4 {g : zGl} {Z : zZt} {k n pc q : Nat} {lv : List (Option Value)} {st : List Value} {h : zHp} {idx a ci : Nat} {fs : List Value} {T : u_T} {N : Nat} {M : zMt} {x1 x2 x3 x4 : Value} {rest : List Value} {P : Option Value → zHp → Prop} {kc nc : Nat} (hd : decode Z.1.2.1 pc = .ok (.invokevirtual idx, 3)) (hl : zLk Z.1.1.cls idx M 4) (hs : Cond.instanceMethod M.1 ∈ zTb ∧ Cond.selects M.1.cls M.1 M.1 ∈ zTb) (hf : zFit Z.2.2.1 M = true) (hcell : h.1 a = some (.inr (ci, fs))) (hci : vwCl[ci]? = some (M.1.cls, T, N)) (hw : (rest.map fun v => v.category).sum ≤ 8) (hc : zC g M [.ref a, x1, x2, x3, x4] h P kc nc) (hkc : kc ≤ k) (hnc : nc ≤ n) (hp : pc + 3 = q) (kk : ∀ (v : Option Value) (h' : zHp), P v h' → zA g Z (k - kc) (n - nc) q lv (v.toList ++ rest) h') : zA g Z k n pc lv (x4 :: x3 :: x2 :: x1 :: .ref a :: rest) h := z_cV (av := [x1, x2, x3, x4]) hd hl hs hf hcell hci rfl hw hc hkc hnc hp kk
theorem z_v5 {g : zGl} {Z : zZt} {k n pc q : Nat} {lv : List (Option Value)} {st : List Value} {h : zHp} {idx a ci : Nat} {fs : List Value} {T : u_T} {N : Nat} {M : zMt} {x1 x2 x3 x4 x5 : Value} {rest : List Value} {v : Value} (hd : decode Z.1.2.1 pc = .ok (.invokevirtual idx, 3)) (hl : zLk Z.1.1.cls idx M 5) (hs : Cond.instanceMethod M.1 ∈ zTb ∧ Cond.selects M.1.cls M.1 M.1 ∈ zTb) (hf : zFit Z.2.2.1 M = true) (hcell : h.1 a = some (.inr (ci, fs))) (hci : vwCl[ci]? = some (M.1.cls, T, N)) (hw : (rest.map fun v => v.category).sum ≤ 8) (hc : zC g M [.ref a, x1, x2, x3, x4, x5] h (zV h v) 0 0) (hp : pc + 3 = q) (kk : zA g Z k n q lv (v :: rest) h) : zA g Z k n pc lv (x5 :: x4 :: x3 :: x2 :: x1 :: .ref a :: rest) h := z_cV (av := [x1, x2, x3, x4, x5]) hd hl hs hf hcell hci rfl hw hc (Nat.zero_le _) (Nat.zero_le _) hp (by rintro _ _ ⟨rfl, rfl⟩; exact kk)
theorem z_V5 {g : zGl} {Z : zZt} {k n pc q : Nat} {lv : List (Option Value)} {st : List Value} {h : zHp} {idx a ci : Nat} {fs : List Value} {T : u_T} {N : Nat} {M : zMt} {x1 x2 x3 x4 x5 : Value} {rest : List Value} {P : Option Value → zHp → Prop} {kc nc : Nat} (hd : decode Z.1.2.1 pc = .ok (.invokevirtual idx, 3)) (hl : zLk Z.1.1.cls idx M 5) (hs : Cond.instanceMethod M.1 ∈ zTb ∧ Cond.selects M.1.cls M.1 M.1 ∈ zTb) (hf : zFit Z.2.2.1 M = true) (hcell : h.1 a = some (.inr (ci, fs))) (hci : vwCl[ci]? = some (M.1.cls, T, N)) (hw : (rest.map fun v => v.category).sum ≤ 8) (hc : zC g M [.ref a, x1, x2, x3, x4, x5] h P kc nc) (hkc : kc ≤ k) (hnc : nc ≤ n) (hp : pc + 3 = q) (kk : ∀ (v : Option Value) (h' : zHp), P v h' → zA g Z (k - kc) (n - nc) q lv (v.toList ++ rest) h') : zA g Z k n pc lv (x5 :: x4 :: x3 :: x2 :: x1 :: .ref a :: rest) h := z_cV (av := [x1, x2, x3, x4, x5]) hd hl hs hf hcell hci rfl hw hc hkc hnc hp kk
theorem z_I0 {g : zGl} {Z : zZt} {k n pc q : Nat} {lv : List (Option Value)} {st : List Value} {h : zHp} {idx a : Nat} {M : zMt}  {rest : List Value} {P : Option Value → zHp → Prop} {kc nc : Nat} (hd : decode Z.1.2.1 pc = .ok (.invokespecial idx, 3)) (hl : zLk Z.1.1.cls idx M 0) (hs : Cond.instanceMethod M.1 ∈ zTb) (hin1 : M.1.name = "<init>") (hvd : M.2.2.2.1 = none) (hf : zFit Z.2.2.1 M = true) (hw : (rest.map fun v => v.category).sum ≤ 8) (hc : zC g M [.ref a] h P kc nc) (hkc : kc ≤ k) (hnc : nc ≤ n) (hp : pc + 3 = q) (kk : ∀ (v : Option Value) (h' : zHp), P v h' → zA g Z (k - kc) (n - nc) q lv (v.toList ++ rest) h') : zA g Z k n pc lv (.ref a :: rest) h := z_cI (av := []) hd hl hs hin1 hvd hf rfl hw hc hkc hnc hp kk
theorem z_I1 {g : zGl} {Z : zZt} {k n pc q : Nat} {lv : List (Option Value)} {st : List Value} {h : zHp} {idx a : Nat} {M : zMt} {x1 : Value} {rest : List Value} {P : Option Value → zHp → Prop} {kc nc : Nat} (hd : decode Z.1.2.1 pc = .ok (.invokespecial idx, 3)) (hl : zLk Z.1.1.cls idx M 1) (hs : Cond.instanceMethod M.1 ∈ zTb) (hin1 : M.1.name = "<init>") (hvd : M.2.2.2.1 = none) (hf : zFit Z.2.2.1 M = true) (hw : (rest.map fun v => v.category).sum ≤ 8) (hc : zC g M [.ref a, x1] h P kc nc) (hkc : kc ≤ k) (hnc : nc ≤ n) (hp : pc + 3 = q) (kk : ∀ (v : Option Value) (h' : zHp), P v h' → zA g Z (k - kc) (n - nc) q lv (v.toList ++ rest) h') : zA g Z k n pc lv (x1 :: .ref a :: rest) h := z_cI (av := [x1]) hd hl hs hin1 hvd hf rfl hw hc hkc hnc hp kk
end
