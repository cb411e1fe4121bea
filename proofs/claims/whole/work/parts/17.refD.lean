/-! ===== the reference: listening, a step ===== -/
def qBst (e : Nat → Int32) (n a t : Nat) : Nat := qIt (fun b p => if qHears e a b && qBetter e (72 + 4 * (8 * b + t)) p then 72 + 4 * (8 * b + t) else p) (72 + 4 * (8 * a + t)) n
theorem qBst_bd {e : Nat → Int32} {n a t : Nat} (hn : n ≤ 6) (ha : a < 6) (ht : t < 8) : 72 ≤ qBst e n a t ∧ qBst e n a t < 261 := by
  refine qIt_inv (P := fun p : Nat => 72 ≤ p ∧ p < 261) (by constructor <;> omega) ?_
  intro i x hi hx
  split
  · constructor <;> omega
  · exact hx
def qL1 (e : Nat → Int32) (n a t : Nat) (F : Nat → Int32) : Nat → Int32 :=
  if decide (va_cpy e F (qBst e n a t) (72 + 4 * (8 * a + t)) 4 (72 + 4 * (8 * a + t)) = nI 1) && !qLive (va_cpy e F (qBst e n a t) (72 + 4 * (8 * a + t)) 4) (72 + 4 * (8 * a + t)) (va_cpy e F (qBst e n a t) (72 + 4 * (8 * a + t)) 4 2)
  then qLay (va_cpy e F (qBst e n a t) (72 + 4 * (8 * a + t)) 4) (72 + 4 * (8 * a + t)) (nI 0) (nI 0) (nI 0) (nI 0) else va_cpy e F (qBst e n a t) (72 + 4 * (8 * a + t)) 4
def qLt (e : Nat → Int32) (n a : Nat) (F : Nat → Int32) (K : Nat) : Nat → Int32 := qIt (fun t F => if qOn F a then qL1 e n a t F else F) F K
def qLs (e : Nat → Int32) (n : Nat) (F : Nat → Int32) (K i : Nat) : Nat → Int32 := qIt (fun a F => qLt e n a F K) F i
theorem cpy_lt {e f : Nat → Int32} {a t c j : Nat} (h : j < t) : va_cpy e f a t c j = f j := by
  simp only [va_cpy]
  rw [if_neg (by omega)]
theorem qL1_lt {e F : Nat → Int32} {n a t j : Nat} (h : j < 72) : qL1 e n a t F j = F j := by
  unfold qL1
  split
  · exact (qLay_lt (by omega)).trans (cpy_lt (by omega))
  · exact cpy_lt (by omega)
theorem qLt_lt {e F : Nat → Int32} {n a K j : Nat} (h : j < 72) : qLt e n a F K j = F j := by
  refine qIt_inv (P := fun s : Nat → Int32 => s j = F j) rfl ?_
  intro i x _ hx
  split
  · exact (qL1_lt h).trans hx
  · exact hx
theorem qLs_lt {e F : Nat → Int32} {n K i j : Nat} (h : j < 72) : qLs e n F K i j = F j := by
  refine qIt_inv (P := fun s : Nat → Int32 => s j = F j) rfl ?_
  intro i x _ hx
  exact (qLt_lt h).trans hx
theorem qLt_s {e F : Nat → Int32} {n a i : Nat} : qLt e n a F (i + 1) = if qOn (qLt e n a F i) a then qL1 e n a i (qLt e n a F i) else qLt e n a F i := rfl
theorem qLt_off {e F : Nat → Int32} {n a i : Nat} (h : qOn (qLt e n a F i) a = false) (d : Nat) : qLt e n a F (i + d) = qLt e n a F i := by
  induction d with
  | zero => rfl
  | succ d ih =>
    rw [show i + (d + 1) = (i + d) + 1 by omega, qLt_s, ih, if_neg (by simp [h])]
theorem qOn_congr {e f : Nat → Int32} (h : ∀ j, j < 264 → e j = f j) {a : Nat} (ha : a < 6) : qOn e a = qOn f a := by
  unfold qOn
  rw [h (4 + 6 * a + 3) (by omega)]
theorem qApart_congr {e f : Nat → Int32} (h : ∀ j, j < 264 → e j = f j) {a b : Nat} (ha : a < 6) (hb : b < 6) : qApart e a b = qApart f a b := by
  unfold qApart
  rw [h (4 + 6 * a) (by omega), h (4 + 6 * b) (by omega), h (4 + 6 * a + 1) (by omega), h (4 + 6 * b + 1) (by omega)]
theorem qLive_congr {e f : Nat → Int32} (h : ∀ j, j < 264 → e j = f j) {p : Nat} {c : Int32} (hp : p < 261) : qLive e p c = qLive f p c := by
  unfold qLive
  rw [h p (by omega), h (p + 3) (by omega)]
theorem qHears_congr {e f : Nat → Int32} (h : ∀ j, j < 264 → e j = f j) {a b : Nat} (ha : a < 6) (hb : b < 6) : qHears e a b = qHears f a b := by
  unfold qHears
  rw [qOn_congr h ha, qOn_congr h hb, qApart_congr h ha hb, h (4 + 6 * a + 2) (by omega), h (4 + 6 * b + 2) (by omega)]
theorem qBetter_congr {e f : Nat → Int32} (h : ∀ j, j < 264 → e j = f j) {p q : Nat} (hp : p < 261) (hq : q < 261) : qBetter e p q = qBetter f p q := by
  unfold qBetter
  rw [h 2 (by omega), qLive_congr h hp, qLive_congr h hq, h p (by omega), h q (by omega), h (p + 1) (by omega), h (q + 1) (by omega), h (p + 2) (by omega), h (q + 2) (by omega), h (p + 3) (by omega), h (q + 3) (by omega)]
theorem qBst_s {e : Nat → Int32} {i a t : Nat} : qBst e (i + 1) a t = if qHears e a i && qBetter e (72 + 4 * (8 * i + t)) (qBst e i a t) then 72 + 4 * (8 * i + t) else qBst e i a t := rfl
theorem qIt_congrP {α : Type} {F G : Nat → α → α} {s : α} {n : Nat} (P : α → Prop) (h0 : P s) (hP : ∀ i x, i < n → P x → P (G i x)) (h : ∀ i x, i < n → P x → F i x = G i x) : qIt F s n = qIt G s n := by
  induction n with
  | zero => rfl
  | succ n ih =>
    have h1 := ih (fun i x hi => hP i x (Nat.lt_succ_of_lt hi)) (fun i x hi => h i x (Nat.lt_succ_of_lt hi))
    have h2 : P (qIt G s n) := qIt_inv P h0 (fun i x hi hx => hP i x (Nat.lt_succ_of_lt hi) hx)
    show F n (qIt F s n) = G n (qIt G s n)
    rw [h1, h n _ (Nat.lt_succ_self n) h2]
theorem qBst_congr {e f : Nat → Int32} (h : ∀ j, j < 264 → e j = f j) {n a t : Nat} (hn : n ≤ 6) (ha : a < 6) (ht : t < 8) : qBst e n a t = qBst f n a t := by
  refine qIt_congrP (P := fun p : Nat => 72 ≤ p ∧ p < 261) (by constructor <;> omega) ?_ ?_
  · intro i x hi hx
    split
    · constructor <;> omega
    · exact hx
  · intro i x hi hx
    rw [qHears_congr h ha (by omega), qBetter_congr h (by omega) hx.2]
theorem cpy_congr {e f F : Nat → Int32} (h : ∀ j, j < 264 → e j = f j) {p t c : Nat} (hp : p + c ≤ 264) : va_cpy e F p t c = va_cpy f F p t c := by
  funext j
  simp only [va_cpy]
  split
  · exact h _ (by omega)
  · rfl
theorem qL1_congr {e f F : Nat → Int32} (h : ∀ j, j < 264 → e j = f j) {n a t : Nat} (hn : n ≤ 6) (ha : a < 6) (ht : t < 8) : qL1 e n a t F = qL1 f n a t F := by
  have h2 := qBst_bd (e := f) (n := n) (a := a) (t := t) hn ha ht
  have h3 : va_cpy e F (qBst f n a t) (72 + 4 * (8 * a + t)) 4 = va_cpy f F (qBst f n a t) (72 + 4 * (8 * a + t)) 4 := cpy_congr h (by omega)
  simp only [qL1, qBst_congr h hn ha ht, h3]
theorem qLs_congr {e f F : Nat → Int32} (h : ∀ j, j < 264 → e j = f j) {n K : Nat} (hn : n ≤ 6) (hK : K ≤ 8) : qLs e n F K n = qLs f n F K n := by
  refine qIt_congr (fun a F ha => qIt_congr (fun t F ht => ?_))
  rw [qL1_congr h hn (by omega) (by omega)]
set_option maxRecDepth 100000 in
set_option maxHeartbeats 4000000 in
theorem ct_X8_listen {g : zGl} {H : zHp} {m r n K : Nat} {v f e0 : Nat → Int32} (h0 : H.1 m = some (.inr (8, zMf m v))) (h5 : H.1 (m + 5) = some (zI g 264 e0)) (hrm : r ≠ m) (hr5 : r ≠ m + 5) (hn : f 0 = nI n) (hn6 : n ≤ 6) (hK : f 1 = nI K) (hK8 : K ≤ 8) : zC g mX8_listen [.ref m, .ref r] (zup H r (zI g 264 f)) (zU (zup (zup H (m + 5) (zI g 264 (va_cpy f e0 0 0 264))) r (zI g 264 (qLs f n f K n)))) 0 0 := by
  refine zC_ofA (lv := [some (.ref m), some (.ref r), none, none, none, none]) (by decide) rfl (Nat.le_of_ble_eq_true rfl) ?_
  have hE : ∀ j, j < 264 → va_cpy f e0 0 0 264 j = f j := by
    intro j hj
    simp only [va_cpy]
    rw [if_pos (by omega)]
    congr 1
    omega
  rw [← qLs_congr (F := f) hE hn6 hK8]
  generalize hEE : va_cpy f e0 0 0 264 = E at hE ⊢
  have o0 : ∀ F, (zup (zup H (m + 5) (zI g 264 E)) r (zI g 264 F)).1 m = some (.inr (8, zMf m v)) := fun F => by
    rw [zup_ne (Ne.symm hrm), zup_ne (by omega)]; exact h0
  have o5 : ∀ F, (zup (zup H (m + 5) (zI g 264 E)) r (zI g 264 F)).1 (m + 5) = some (zI g 264 E) := fun F => by
    rw [zup_ne (Ne.symm hr5)]; exact zup_at _ _ _
  have loopB : ∀ (F : Nat → Int32) (a t : Nat), F 0 = nI n → a < 6 → t < 8 → (∀ x, zA g (zZc g mX8_listen (zU (zup (zup H (m + 5) (zI g 264 E)) r (zI g 264 (qLs E n f K n)))) 0 0) 0 0 102 [some (.ref m), some (.ref r), some (.int (nI a)), some (.int (nI t)), some (.int (nI (qBst E n a t))), x] [] (zup (zup H (m + 5) (zI g 264 E)) r (zI g 264 F))) →
      ∀ d i, i + d = n → zA g (zZc g mX8_listen (zU (zup (zup H (m + 5) (zI g 264 E)) r (zI g 264 (qLs E n f K n)))) 0 0) 0 0 49 [some (.ref m), some (.ref r), some (.int (nI a)), some (.int (nI t)), some (.int (nI (qBst E i a t))), some (.int (nI i))] [] (zup (zup H (m + 5) (zI g 264 E)) r (zI g 264 F)) := by
    intro F a t hF ha ht after d
    induction d using Nat.strongRecOn with
    | ind d ih =>
      intro i hi
      have hbd := qBst_bd (e := E) (n := i) (by omega) ha ht
      refine z_iload (q := 51) dX8_listen_49 rfl rfl ?_
      refine z_aload_n (q := 52) dX8_listen_51 rfl rfl ?_
      refine z_iconst (q := 53) dX8_listen_52 zci_0 rfl ?_
      refine z_iald (q := 54) dX8_listen_53 (by first | exact zup_at _ _ _ | exact o0 _ | exact o5 _) (by omega) (by omega) rfl ?_
      refine z_eqi hF ?_
      refine z_icmp_geN (tg := 102) (q := 57) dX8_listen_54 rfl rfl (by omega) (by omega) ?_ ?_
      · intro hc54
        have e8 : i = n := by omega
        subst e8
        exact after _
      · intro hc54
        refine z_aload_n (q := 58) dX8_listen_57 rfl rfl ?_
        refine z_get (q := 61) dX8_listen_58 zfX8_22 (by first | exact zup_at _ _ _ | exact o0 _ | exact o5 _) rfl rfl ?_
        refine z_iload_n (q := 62) dX8_listen_61 rfl rfl ?_
        refine z_iload (q := 64) dX8_listen_62 rfl rfl ?_
        refine z_s3 (q := 67) dX8_listen_64 zkX8_90 zt_mX8_hears rfl (Nat.le_of_ble_eq_true rfl) (ct_X8_hears (by first | exact zup_at _ _ _ | exact o0 _ | exact o5 _) (by omega) (by omega)) rfl ?_
        refine z_ifb_eq (tg := 96) (q := 70) dX8_listen_67 rfl rfl ?_ ?_
        · intro hc67
          have e9 : qBst E (i + 1) a t = qBst E i a t := by rw [qBst_s]; simp [hc67]
          refine z_iincN (q := 99) dX8_listen_96 rfl rfl rfl ?_
          refine z_goto (q := 0) (tg := 49) dX8_listen_99 rfl ?_
          have hl := ih (d - 1) (by omega) (i + 1) (by omega)
          rw [e9] at hl
          exact hl
        · intro hc67
          refine z_aload_n (q := 71) dX8_listen_70 rfl rfl ?_
          refine z_get (q := 74) dX8_listen_71 zfX8_22 (by first | exact zup_at _ _ _ | exact o0 _ | exact o5 _) rfl rfl ?_
          refine z_iload (q := 76) dX8_listen_74 rfl rfl ?_
          refine z_iload_n (q := 77) dX8_listen_76 rfl rfl ?_
          refine z_s2 (q := 80) dX8_listen_77 zkX8_83 zt_mX8_noteAt rfl (Nat.le_of_ble_eq_true rfl) (ct_X8_noteAt) rfl ?_
          refine z_iload (q := 82) dX8_listen_80 rfl rfl ?_
          refine z_s3 (q := 85) dX8_listen_82 zkX8_93 zt_mX8_better rfl (Nat.le_of_ble_eq_true rfl) (ct_X8_better (by first | exact zup_at _ _ _ | exact o0 _ | exact o5 _) (by omega) (by omega)) rfl ?_
          refine z_ifb_eq (tg := 96) (q := 88) dX8_listen_85 rfl rfl ?_ ?_
          · intro hc85
            have e9 : qBst E (i + 1) a t = qBst E i a t := by rw [qBst_s]; simp [hc85]
            refine z_iincN (q := 99) dX8_listen_96 rfl rfl rfl ?_
            refine z_goto (q := 0) (tg := 49) dX8_listen_99 rfl ?_
            have hl := ih (d - 1) (by omega) (i + 1) (by omega)
            rw [e9] at hl
            exact hl
          · intro hc85
            have e9 : qBst E (i + 1) a t = 72 + 4 * (8 * i + t) := by rw [qBst_s]; simp [hc67, hc85]
            refine z_iload (q := 90) dX8_listen_88 rfl rfl ?_
            refine z_iload_n (q := 91) dX8_listen_90 rfl rfl ?_
            refine z_s2 (q := 94) dX8_listen_91 zkX8_83 zt_mX8_noteAt rfl (Nat.le_of_ble_eq_true rfl) (ct_X8_noteAt) rfl ?_
            refine z_istore (q := 96) dX8_listen_94 (Nat.le_of_ble_eq_true rfl) rfl rfl ?_
            refine z_iincN (q := 99) dX8_listen_96 rfl rfl rfl ?_
            refine z_goto (q := 0) (tg := 49) dX8_listen_99 rfl ?_
            have hl := ih (d - 1) (by omega) (i + 1) (by omega)
            rw [e9] at hl
            exact hl
  have body : ∀ (F : Nat → Int32) (a t : Nat) (x : Option Value), a < 6 → t < 8 → (∀ y z, zA g (zZc g mX8_listen (zU (zup (zup H (m + 5) (zI g 264 E)) r (zI g 264 (qLs E n f K n)))) 0 0) 0 0 24 [some (.ref m), some (.ref r), some (.int (nI a)), some (.int (nI (t + 1))), y, z] [] (zup (zup H (m + 5) (zI g 264 E)) r (zI g 264 (qL1 E n a t F)))) →
      zA g (zZc g mX8_listen (zU (zup (zup H (m + 5) (zI g 264 E)) r (zI g 264 (qLs E n f K n)))) 0 0) 0 0 102 [some (.ref m), some (.ref r), some (.int (nI a)), some (.int (nI t)), some (.int (nI (qBst E n a t))), x] [] (zup (zup H (m + 5) (zI g 264 E)) r (zI g 264 F)) := by
    intro F a t x ha ht after
    have hbd := qBst_bd (e := E) hn6 ha ht
    refine z_aload_n (q := 103) dX8_listen_102 rfl rfl ?_
    refine z_get (q := 106) dX8_listen_103 zfX8_22 (by first | exact zup_at _ _ _ | exact o0 _ | exact o5 _) rfl rfl ?_
    refine z_iload (q := 108) dX8_listen_106 rfl rfl ?_
    refine z_aload_n (q := 109) dX8_listen_108 rfl rfl ?_
    refine z_iload_n (q := 110) dX8_listen_109 rfl rfl ?_
    refine z_iload_n (q := 111) dX8_listen_110 rfl rfl ?_
    refine z_s2 (q := 114) dX8_listen_111 zkX8_83 zt_mX8_noteAt rfl (Nat.le_of_ble_eq_true rfl) (ct_X8_noteAt) rfl ?_
    refine z_iconst (q := 115) dX8_listen_114 zci_4 rfl ?_
    refine z_u5 (q := 118) dX8_listen_115 zkX8_53 zt_mX8_copy rfl (Nat.le_of_ble_eq_true rfl) (ct_X8_copy (h := zup H (m + 5) (zI g 264 E)) (zup_at _ _ _) (Ne.symm hr5) (by omega) (by omega) (by omega) (by omega)) rfl ?_
    refine z_aload_n (q := 119) dX8_listen_118 rfl rfl ?_
    refine z_iload_n (q := 120) dX8_listen_119 rfl rfl ?_
    refine z_iload_n (q := 121) dX8_listen_120 rfl rfl ?_
    refine z_s2 (q := 124) dX8_listen_121 zkX8_83 zt_mX8_noteAt rfl (Nat.le_of_ble_eq_true rfl) (ct_X8_noteAt) rfl ?_
    refine z_iconst (q := 125) dX8_listen_124 zci_0 rfl ?_
    refine z_iadd0 (q := 126) dX8_listen_125 rfl ?_
    refine z_iald (q := 127) dX8_listen_126 (by first | exact zup_at _ _ _ | exact o0 _ | exact o5 _) (by omega) (by omega) rfl ?_
    refine z_iconst (q := 128) dX8_listen_127 zci_1 rfl ?_
    refine z_icmp_ne (tg := 159) (q := 131) dX8_listen_128 rfl rfl ?_ ?_
    · intro hc128
      have e9 : qL1 E n a t F = va_cpy E F (qBst E n a t) (72 + 4 * (8 * a + t)) 4 := by simp [qL1, hc128]
      refine z_iincN (q := 162) dX8_listen_159 rfl rfl rfl ?_
      refine z_goto (q := 0) (tg := 24) dX8_listen_162 rfl ?_
      rw [← e9]
      exact after _ _
    · intro hc128
      refine z_aload_n (q := 132) dX8_listen_131 rfl rfl ?_
      refine z_iload_n (q := 133) dX8_listen_132 rfl rfl ?_
      refine z_iload_n (q := 134) dX8_listen_133 rfl rfl ?_
      refine z_s2 (q := 137) dX8_listen_134 zkX8_83 zt_mX8_noteAt rfl (Nat.le_of_ble_eq_true rfl) (ct_X8_noteAt) rfl ?_
      refine z_aload_n (q := 138) dX8_listen_137 rfl rfl ?_
      refine z_iconst (q := 139) dX8_listen_138 zci_2 rfl ?_
      refine z_iald (q := 140) dX8_listen_139 (by first | exact zup_at _ _ _ | exact o0 _ | exact o5 _) (by omega) (by omega) rfl ?_
      refine z_s3 (q := 143) dX8_listen_140 zkX8_79 zt_mX8_isLive rfl (Nat.le_of_ble_eq_true rfl) (ct_X8_isLive (by first | exact zup_at _ _ _ | exact o0 _ | exact o5 _) (by omega)) rfl ?_
      refine z_ifb_ne (tg := 159) (q := 146) dX8_listen_143 rfl rfl ?_ ?_
      · intro hc143
        have e9 : qL1 E n a t F = va_cpy E F (qBst E n a t) (72 + 4 * (8 * a + t)) 4 := by simp [qL1, hc143]
        refine z_iincN (q := 162) dX8_listen_159 rfl rfl rfl ?_
        refine z_goto (q := 0) (tg := 24) dX8_listen_162 rfl ?_
        rw [← e9]
        exact after _ _
      · intro hc143
        have e9 : qL1 E n a t F = qLay (va_cpy E F (qBst E n a t) (72 + 4 * (8 * a + t)) 4) (72 + 4 * (8 * a + t)) (nI 0) (nI 0) (nI 0) (nI 0) := by simp [qL1, hc128, hc143]
        refine z_aload_n (q := 147) dX8_listen_146 rfl rfl ?_
        refine z_iload_n (q := 148) dX8_listen_147 rfl rfl ?_
        refine z_iload_n (q := 149) dX8_listen_148 rfl rfl ?_
        refine z_s2 (q := 152) dX8_listen_149 zkX8_83 zt_mX8_noteAt rfl (Nat.le_of_ble_eq_true rfl) (ct_X8_noteAt) rfl ?_
        refine z_iconst (q := 153) dX8_listen_152 zci_0 rfl ?_
        refine z_iconst (q := 154) dX8_listen_153 zci_0 rfl ?_
        refine z_iconst (q := 155) dX8_listen_154 zci_0 rfl ?_
        refine z_iconst (q := 156) dX8_listen_155 zci_0 rfl ?_
        refine z_u6 (q := 159) dX8_listen_156 zkX8_96 zt_mX8_lay rfl (Nat.le_of_ble_eq_true rfl) (ct_X8_lay (by omega)) rfl ?_
        refine z_iincN (q := 162) dX8_listen_159 rfl rfl rfl ?_
        refine z_goto (q := 0) (tg := 24) dX8_listen_162 rfl ?_
        rw [← e9]
        exact after _ _
  have next : ∀ (i : Nat) (x y z : Option Value), i < n → (∀ x y z, zA g (zZc g mX8_listen (zU (zup (zup H (m + 5) (zI g 264 E)) r (zI g 264 (qLs E n f K n)))) 0 0) 0 0 15 [some (.ref m), some (.ref r), some (.int (nI (i + 1))), x, y, z] [] (zup (zup H (m + 5) (zI g 264 E)) r (zI g 264 (qLs E n f K (i + 1))))) →
      zA g (zZc g mX8_listen (zU (zup (zup H (m + 5) (zI g 264 E)) r (zI g 264 (qLs E n f K n)))) 0 0) 0 0 165 [some (.ref m), some (.ref r), some (.int (nI i)), x, y, z] [] (zup (zup H (m + 5) (zI g 264 E)) r (zI g 264 (qLt E n i (qLs E n f K i) K))) := by
    intro i x y z hi after
    refine z_iincN (q := 168) dX8_listen_165 rfl rfl rfl ?_
    refine z_goto (q := 0) (tg := 15) dX8_listen_168 rfl ?_
    exact after _ _ _
  have loopT : ∀ (F : Nat → Int32) (a : Nat), F 0 = nI n → F 1 = nI K → a < 6 → (∀ x y z, zA g (zZc g mX8_listen (zU (zup (zup H (m + 5) (zI g 264 E)) r (zI g 264 (qLs E n f K n)))) 0 0) 0 0 165 [some (.ref m), some (.ref r), some (.int (nI a)), x, y, z] [] (zup (zup H (m + 5) (zI g 264 E)) r (zI g 264 (qLt E n a F K)))) →
      ∀ d i y z, i + d = K → zA g (zZc g mX8_listen (zU (zup (zup H (m + 5) (zI g 264 E)) r (zI g 264 (qLs E n f K n)))) 0 0) 0 0 24 [some (.ref m), some (.ref r), some (.int (nI a)), some (.int (nI i)), y, z] [] (zup (zup H (m + 5) (zI g 264 E)) r (zI g 264 (qLt E n a F i))) := by
    intro F a hF hF1 ha after d
    induction d using Nat.strongRecOn with
    | ind d ih =>
      intro i y z hi
      have hF2 : qLt E n a F i 0 = nI n := (qLt_lt (by omega)).trans hF
      have hF3 : qLt E n a F i 1 = nI K := (qLt_lt (by omega)).trans hF1
      have hbd := qBst_bd (e := E) (n := n) (a := a) (t := i) hn6 ha
      refine z_iload_n (q := 25) dX8_listen_24 rfl rfl ?_
      refine z_aload_n (q := 26) dX8_listen_25 rfl rfl ?_
      refine z_iconst (q := 27) dX8_listen_26 zci_1 rfl ?_
      refine z_iald (q := 28) dX8_listen_27 (by first | exact zup_at _ _ _ | exact o0 _ | exact o5 _) (by omega) (by omega) rfl ?_
      refine z_eqi hF3 ?_
      refine z_icmp_geN (tg := 165) (q := 31) dX8_listen_28 rfl rfl (by omega) (by omega) ?_ ?_
      · intro hc28
        have e8 : i = K := by omega
        rw [e8]
        exact after _ _ _
      · intro hc28
        refine z_aload_n (q := 32) dX8_listen_31 rfl rfl ?_
        refine z_iload_n (q := 33) dX8_listen_32 rfl rfl ?_
        refine z_s2 (q := 36) dX8_listen_33 zkX8_71 zt_mX8_isOn rfl (Nat.le_of_ble_eq_true rfl) (ct_X8_isOn (by first | exact zup_at _ _ _ | exact o0 _ | exact o5 _) (by omega)) rfl ?_
        refine z_ifb_eq (tg := 165) (q := 39) dX8_listen_36 rfl rfl ?_ ?_
        · intro hc36
          rw [← qLt_off hc36 d, hi]
          exact after _ _ _
        · intro hc36
          refine z_iload_n (q := 40) dX8_listen_39 rfl rfl ?_
          refine z_iload_n (q := 41) dX8_listen_40 rfl rfl ?_
          refine z_s2 (q := 44) dX8_listen_41 zkX8_83 zt_mX8_noteAt rfl (Nat.le_of_ble_eq_true rfl) (ct_X8_noteAt) rfl ?_
          refine z_istore (q := 46) dX8_listen_44 (Nat.le_of_ble_eq_true rfl) rfl rfl ?_
          refine z_iconst (q := 47) dX8_listen_46 zci_0 rfl ?_
          refine z_istore (q := 49) dX8_listen_47 (Nat.le_of_ble_eq_true rfl) rfl rfl ?_
          have hbd := hbd (by omega)
          have e7 : qLt E n a F (i + 1) = qL1 E n a i (qLt E n a F i) := by rw [qLt_s, if_pos hc36]
          refine loopB _ a i hF2 ha (by omega) (fun x => ?_) n 0 (by omega)
          exact body (qLt E n a F i) a i x ha (by omega) (by rw [← e7]; exact fun y z => ih (d - 1) (by omega) (i + 1) y z (by omega))
  have loopA : ∀ d i x y z, i + d = n → zA g (zZc g mX8_listen (zU (zup (zup H (m + 5) (zI g 264 E)) r (zI g 264 (qLs E n f K n)))) 0 0) 0 0 15 [some (.ref m), some (.ref r), some (.int (nI i)), x, y, z] [] (zup (zup H (m + 5) (zI g 264 E)) r (zI g 264 (qLs E n f K i))) := by
    intro d
    induction d using Nat.strongRecOn with
    | ind d ih =>
      intro i x y z hi
      have hF2 : qLs E n f K i 0 = nI n := (qLs_lt (by omega)).trans hn
      have hF3 : qLs E n f K i 1 = nI K := (qLs_lt (by omega)).trans hK
      refine z_iload_n (q := 16) dX8_listen_15 rfl rfl ?_
      refine z_aload_n (q := 17) dX8_listen_16 rfl rfl ?_
      refine z_iconst (q := 18) dX8_listen_17 zci_0 rfl ?_
      refine z_iald (q := 19) dX8_listen_18 (by first | exact zup_at _ _ _ | exact o0 _ | exact o5 _) (by omega) (by omega) rfl ?_
      refine z_eqi hF2 ?_
      refine z_icmp_geN (tg := 171) (q := 22) dX8_listen_19 rfl rfl (by omega) (by omega) ?_ ?_
      · intro hc19
        exact z_ret dX8_listen_171 rfl (⟨rfl, by rw [show i = n by omega]⟩)
      · intro hc19
        refine z_iconst (q := 23) dX8_listen_22 zci_0 rfl ?_
        refine z_istore_n (q := 24) dX8_listen_23 (Nat.le_of_ble_eq_true rfl) rfl rfl ?_
        refine loopT _ i hF2 hF3 (by omega) (fun x y z => ?_) K 0 _ _ (by omega)
        exact next i x y z (by omega) (fun x y z => ih (d - 1) (by omega) (i + 1) x y z (by omega))
  refine z_aload_n (q := 1) dX8_listen_0 rfl rfl ?_
  refine z_iconst (q := 2) dX8_listen_1 zci_0 rfl ?_
  refine z_aload_n (q := 3) dX8_listen_2 rfl rfl ?_
  refine z_get (q := 6) dX8_listen_3 zfX8_22 ((zup_ne (Ne.symm hrm)).trans h0) rfl rfl ?_
  refine z_iconst (q := 7) dX8_listen_6 zci_0 rfl ?_
  refine z_sipush (q := 10) dX8_listen_7 zcs_264 rfl ?_
  rw [← zup_self (h := zup H r (zI g 264 f)) (a := m + 5) (c := zI g 264 e0) ((zup_ne (Ne.symm hr5)).trans h5)]
  refine z_u5 (q := 13) dX8_listen_10 zkX8_53 zt_mX8_copy rfl (Nat.le_of_ble_eq_true rfl) (ct_X8_copy (h := zup H r (zI g 264 f)) (zup_at _ _ _) hr5 (by omega) (by omega) (by omega) (by omega)) rfl ?_
  rw [hEE, zup_comm hr5]
  refine z_iconst (q := 14) dX8_listen_13 zci_0 rfl ?_
  refine z_istore_n (q := 15) dX8_listen_14 (Nat.le_of_ble_eq_true rfl) rfl rfl ?_
  exact loopA n 0 _ _ _ (by omega)
def qClA (f : Nat → Int32) (K i : Nat) : Nat → Int32 := qIt (fun a f => if qOn f a then qClaim f K a else f) f i
def qWkA (f : Nat → Int32) (K i : Nat) : Nat → Int32 := qIt (fun a f => if qOn f a then qWork f K a else f) f i
theorem qClA_lt {f : Nat → Int32} {K i j : Nat} (h : j < 72) : qClA f K i j = f j := by
  refine qIt_inv (P := fun s : Nat → Int32 => s j = f j) rfl ?_
  intro i x _ hx
  split
  · exact (qClaim_lt h).trans hx
  · exact hx
theorem qWkA_lt {f : Nat → Int32} {K i j : Nat} (h : j < 4) : qWkA f K i j = f j := by
  refine qIt_inv (P := fun s : Nat → Int32 => s j = f j) rfl ?_
  intro i x _ hx
  split
  · exact (qWork_lt h).trans hx
  · exact hx
theorem qClA_s {f : Nat → Int32} {K i : Nat} : qClA f K (i + 1) = if qOn (qClA f K i) i then qClaim (qClA f K i) K i else qClA f K i := rfl
theorem qWkA_s {f : Nat → Int32} {K i : Nat} : qWkA f K (i + 1) = if qOn (qWkA f K i) i then qWork (qWkA f K i) K i else qWkA f K i := rfl
def qTk (f : Nat → Int32) : Nat → Int32 := va_up f 2 (f 2 + nI 1)
def qStep (f : Nat → Int32) (n K : Nat) : Nat → Int32 := qTk (qWkA (qClA (qLs f n f K n) K n) K n)
theorem qStep_0 {f : Nat → Int32} {n K : Nat} : qStep f n K 0 = f 0 := by
  unfold qStep qTk
  rw [zu_ne (by omega), qWkA_lt (by omega), qClA_lt (by omega), qLs_lt (by omega)]
theorem qStep_1 {f : Nat → Int32} {n K : Nat} : qStep f n K 1 = f 1 := by
  unfold qStep qTk
  rw [zu_ne (by omega), qWkA_lt (by omega), qClA_lt (by omega), qLs_lt (by omega)]
set_option maxRecDepth 100000 in
set_option maxHeartbeats 4000000 in
theorem ct_X8_stepOn {g : zGl} {H : zHp} {m r n K : Nat} {v f e0 : Nat → Int32} (h0 : H.1 m = some (.inr (8, zMf m v))) (h5 : H.1 (m + 5) = some (zI g 264 e0)) (hrm : r ≠ m) (hr5 : r ≠ m + 5) (hn : f 0 = nI n) (hn6 : n ≤ 6) (hK : f 1 = nI K) (hK8 : K ≤ 8) : zC g mX8_stepOn [.ref m, .ref r] (zup H r (zI g 264 f)) (zU (zup (zup H (m + 5) (zI g 264 (va_cpy f e0 0 0 264))) r (zI g 264 (qStep f n K)))) 0 0 := by
  refine zC_ofA (lv := [some (.ref m), some (.ref r), none]) (by decide) rfl (Nat.le_of_ble_eq_true rfl) ?_
  generalize hEE : va_cpy f e0 0 0 264 = E
  have loop2 : ∀ (F : Nat → Int32), F 0 = nI n → F 1 = nI K → qTk (qWkA F K n) = qStep f n K → ∀ d i, i + d = n → zA g (zZc g mX8_stepOn (zU (zup (zup H (m + 5) (zI g 264 E)) r (zI g 264 (qStep f n K)))) 0 0) 0 0 35 [some (.ref m), some (.ref r), some (.int (nI i))] [] (zup (zup H (m + 5) (zI g 264 E)) r (zI g 264 (qWkA F K i))) := by
    intro F hF hF1 hQ d
    induction d using Nat.strongRecOn with
    | ind d ih =>
      intro i hi
      have hF2 : qWkA F K i 0 = nI n := (qWkA_lt (by omega)).trans hF
      have hF3 : qWkA F K i 1 = nI K := (qWkA_lt (by omega)).trans hF1
      refine z_iload_n (q := 36) dX8_stepOn_35 rfl rfl ?_
      refine z_aload_n (q := 37) dX8_stepOn_36 rfl rfl ?_
      refine z_iconst (q := 38) dX8_stepOn_37 zci_0 rfl ?_
      refine z_iald (q := 39) dX8_stepOn_38 (zup_at _ _ _) (by omega) (by omega) rfl ?_
      refine z_eqi hF2 ?_
      refine z_icmp_geN (tg := 61) (q := 42) dX8_stepOn_39 rfl rfl (by omega) (by omega) ?_ ?_
      · intro hc39
        refine z_aload_n (q := 62) dX8_stepOn_61 rfl rfl ?_
        refine z_iconst (q := 63) dX8_stepOn_62 zci_2 rfl ?_
        refine z_dup2 (q := 64) dX8_stepOn_63 rfl rfl rfl ?_
        refine z_iald (q := 65) dX8_stepOn_64 (zup_at _ _ _) (by omega) (by omega) rfl ?_
        refine z_iconst (q := 66) dX8_stepOn_65 zci_1 rfl ?_
        refine z_iadd (q := 67) dX8_stepOn_66 rfl ?_
        refine z_iastU (q := 68) dX8_stepOn_67 (by omega) (by omega) rfl ?_
        exact z_ret dX8_stepOn_68 rfl (⟨rfl, by rw [← hQ, show i = n by omega]; rfl⟩)
      · intro hc39
        refine z_aload_n (q := 43) dX8_stepOn_42 rfl rfl ?_
        refine z_iload_n (q := 44) dX8_stepOn_43 rfl rfl ?_
        refine z_s2 (q := 47) dX8_stepOn_44 zkX8_71 zt_mX8_isOn rfl (Nat.le_of_ble_eq_true rfl) (ct_X8_isOn (zup_at _ _ _) (by omega)) rfl ?_
        refine z_ifb_eq (tg := 55) (q := 50) dX8_stepOn_47 rfl rfl ?_ ?_
        · intro hc47
          have e9 : qWkA F K (i + 1) = qWkA F K i := by rw [qWkA_s]; simp [hc47]
          refine z_iincN (q := 58) dX8_stepOn_55 rfl rfl rfl ?_
          refine z_goto (q := 0) (tg := 35) dX8_stepOn_58 rfl ?_
          have hl := ih (d - 1) (by omega) (i + 1) (by omega)
          rw [e9] at hl
          exact hl
        · intro hc47
          have e9 : qWkA F K (i + 1) = qWork (qWkA F K i) K i := by rw [qWkA_s]; simp [hc47]
          refine z_aload_n (q := 51) dX8_stepOn_50 rfl rfl ?_
          refine z_iload_n (q := 52) dX8_stepOn_51 rfl rfl ?_
          refine z_u2 (q := 55) dX8_stepOn_52 zkX8_118 zt_mX8_work rfl (Nat.le_of_ble_eq_true rfl) (ct_X8_work (by omega) hF3 hK8) rfl ?_
          refine z_iincN (q := 58) dX8_stepOn_55 rfl rfl rfl ?_
          refine z_goto (q := 0) (tg := 35) dX8_stepOn_58 rfl ?_
          have hl := ih (d - 1) (by omega) (i + 1) (by omega)
          rw [e9] at hl
          exact hl
  have loop1 : ∀ (F : Nat → Int32), F 0 = nI n → F 1 = nI K → qTk (qWkA (qClA F K n) K n) = qStep f n K → ∀ d i, i + d = n → zA g (zZc g mX8_stepOn (zU (zup (zup H (m + 5) (zI g 264 E)) r (zI g 264 (qStep f n K)))) 0 0) 0 0 7 [some (.ref m), some (.ref r), some (.int (nI i))] [] (zup (zup H (m + 5) (zI g 264 E)) r (zI g 264 (qClA F K i))) := by
    intro F hF hF1 hQ d
    induction d using Nat.strongRecOn with
    | ind d ih =>
      intro i hi
      have hF2 : qClA F K i 0 = nI n := (qClA_lt (by omega)).trans hF
      have hF3 : qClA F K i 1 = nI K := (qClA_lt (by omega)).trans hF1
      refine z_iload_n (q := 8) dX8_stepOn_7 rfl rfl ?_
      refine z_aload_n (q := 9) dX8_stepOn_8 rfl rfl ?_
      refine z_iconst (q := 10) dX8_stepOn_9 zci_0 rfl ?_
      refine z_iald (q := 11) dX8_stepOn_10 (zup_at _ _ _) (by omega) (by omega) rfl ?_
      refine z_eqi hF2 ?_
      refine z_icmp_geN (tg := 33) (q := 14) dX8_stepOn_11 rfl rfl (by omega) (by omega) ?_ ?_
      · intro hc11
        have e7 : i = n := by omega
        subst e7
        refine z_iconst (q := 34) dX8_stepOn_33 zci_0 rfl ?_
        refine z_istore_n (q := 35) dX8_stepOn_34 (Nat.le_of_ble_eq_true rfl) rfl rfl ?_
        exact loop2 _ hF2 hF3 hQ i 0 (by omega)
      · intro hc11
        refine z_aload_n (q := 15) dX8_stepOn_14 rfl rfl ?_
        refine z_iload_n (q := 16) dX8_stepOn_15 rfl rfl ?_
        refine z_s2 (q := 19) dX8_stepOn_16 zkX8_71 zt_mX8_isOn rfl (Nat.le_of_ble_eq_true rfl) (ct_X8_isOn (zup_at _ _ _) (by omega)) rfl ?_
        refine z_ifb_eq (tg := 27) (q := 22) dX8_stepOn_19 rfl rfl ?_ ?_
        · intro hc19
          have e9 : qClA F K (i + 1) = qClA F K i := by rw [qClA_s]; simp [hc19]
          refine z_iincN (q := 30) dX8_stepOn_27 rfl rfl rfl ?_
          refine z_goto (q := 0) (tg := 7) dX8_stepOn_30 rfl ?_
          have hl := ih (d - 1) (by omega) (i + 1) (by omega)
          rw [e9] at hl
          exact hl
        · intro hc19
          have e9 : qClA F K (i + 1) = qClaim (qClA F K i) K i := by rw [qClA_s]; simp [hc19]
          refine z_aload_n (q := 23) dX8_stepOn_22 rfl rfl ?_
          refine z_iload_n (q := 24) dX8_stepOn_23 rfl rfl ?_
          refine z_u2 (q := 27) dX8_stepOn_24 zkX8_114 zt_mX8_claim rfl (Nat.le_of_ble_eq_true rfl) (ct_X8_claim (by omega) hF3 hK8) rfl ?_
          refine z_iincN (q := 30) dX8_stepOn_27 rfl rfl rfl ?_
          refine z_goto (q := 0) (tg := 7) dX8_stepOn_30 rfl ?_
          have hl := ih (d - 1) (by omega) (i + 1) (by omega)
          rw [e9] at hl
          exact hl
  refine z_aload_n (q := 1) dX8_stepOn_0 rfl rfl ?_
  refine z_aload_n (q := 2) dX8_stepOn_1 rfl rfl ?_
  refine z_w1 (q := 5) dX8_stepOn_2 zkX8_110 zt_mX8_listen rfl ((zup_ne (Ne.symm hrm)).trans h0) rfl (Nat.le_of_ble_eq_true rfl) (ct_X8_listen h0 h5 hrm hr5 hn hn6 hK hK8) rfl ?_
  rw [hEE]
  refine z_iconst (q := 6) dX8_stepOn_5 zci_0 rfl ?_
  refine z_istore_n (q := 7) dX8_stepOn_6 (Nat.le_of_ble_eq_true rfl) rfl rfl ?_
  exact loop1 _ ((qLs_lt (by omega)).trans hn) ((qLs_lt (by omega)).trans hK) rfl n 0 (by omega)
