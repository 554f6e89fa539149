section RDE
variable {I I1 I2 : XI} {F F1 F2 : XF} {S : XSt} {k : Nat} {M X L : List Int32}
/-- only what the class makes things in has changed: the row 10, the word lists, the table -/
def CX (I : XI) (F : XF) (I1 : XI) (F1 : XF) : Prop := (∀ x, x ≠ 10 → x < 13 → I1 x = I x) ∧ (∀ x, x ≠ 10 → x < 12 → F1 x = F x) ∧ CM I F I1 F1
theorem CX.rf : CX I F I F := ⟨fun _ _ _ => rfl, fun _ _ _ => rfl, CM.rf⟩
theorem CX.tr (h : CX I F I1 F1) (h2 : CX I1 F1 I2 F2) : CX I F I2 F2 := ⟨fun x a b => (h2.1 x a b).trans (h.1 x a b), fun x a b => (h2.2.1 x a b).trans (h.2.1 x a b), h.2.2.tr h2.2.2⟩
theorem Rs.cx (h : Rs 10 M I F I1 F1) : CX I F I1 F1 := ⟨fun x a _ => h.1 x a, fun x a _ => h.2.1 x a, h.cm (by decide)⟩
theorem CX.kp {r : Nat} (h : CX I F I1 F1) (hr : r < 12) (h10 : r ≠ 10) (hl : Rl I F r L) : Rl I1 F1 r L := ⟨by rw [h.1 r h10 (by omega)]; exact hl.1, hl.2.1, fun i b hb => by rw [h.2.1 r h10 hr]; exact hl.2.2 i b hb⟩
theorem CX.ci (h : CX I F I1 F1) (hC : CI I F S) (hM : Rl I1 F1 10 M) : CI I1 F1 S := ⟨h.kp (by decide) (by decide) hC.1, fun r hr => h.kp (by omega) (by omega) (hC.2.1 r hr), by rw [h.1 12 (by decide) (by decide)]; exact hC.2.2.1, M, hM⟩
theorem ck_doneX {to : Int32} (h : CI I F S) (hX : CX I F I1 F1) (hM1 : Rl I1 F1 10 X) (hK : Rs k X I1 F1 I2 F2) (hk : k < 10) (ht : to.toInt.toNat = k) (e : X = M) (hM : M.length ≤ 200) : CQ (sMk S to M) I F (some (.int (nI X.length))) I2 F2 := by
  subst e
  have h2 := ck_done (hX.ci h hM1) (Rs.rf hM1) hK hk ht hM
  exact ⟨h2.1, h2.2.1, hX.2.2.tr h2.2.2⟩
theorem ck_ansX {v : Int32} (h : CI I F S) (hX : CX I F I1 F1) (hM1 : ∃ M, Rl I1 F1 10 M) : CQ (v, S) I F (some (.int v)) I1 F1 := by
  obtain ⟨M, hM⟩ := hM1
  exact ⟨rfl, hX.ci h hM, hX.2.2⟩
/-! the table -/
def Tb (F : XF) (f : Nat → Int32) : Prop := ∀ c, c < 256 → F 18 c = f c
def Tc (I : XI) (F : XF) (I1 : XI) (F1 : XF) : Prop := I = I1 ∧ ∀ x, x ≠ 18 → F1 x = F x
theorem Tc.cx (h : Tc I F I1 F1) : CX I F I1 F1 := ⟨fun x _ _ => by rw [h.1], fun x _ h2 => h.2 x (by omega), fun x _ => by rw [h.1], fun x hx => h.2 x (by omega)⟩
theorem Tc.kp {r : Nat} (h : Tc I F I1 F1) (hr : r < 12) (hl : Rl I F r L) : Rl I1 F1 r L := ⟨by rw [← h.1]; exact hl.1, hl.2.1, fun i b hb => by rw [h.2 r (by omega)]; exact hl.2.2 i b hb⟩
theorem Rs.tb {f : Nat → Int32} (h : Rs 10 M I F I1 F1) (ht : Tb F f) : Tb F1 f := fun c hc => by rw [h.2.1 18 (by decide)]; exact ht c hc
theorem bt_n {b : Int32} (h : bt b) : ∃ c : Nat, c < 256 ∧ b = nI c := ⟨b.toInt.toNat, by have := h.1; have := h.2; omega, n_of (by have := h.1; omega)⟩
theorem nI_inj {a b : Nat} (ha : a < 1000) (hb : b < 1000) (h : nI a = nI b) : a = b := (nI_eq (by omega) (by omega)).mp h
theorem s_BT_setAll_l {n : Int32} : ∀ (m i : Nat) (F1 : XF), i + m = 256 → (∀ x, x ≠ 18 → F1 x = F x) → (∀ c, c < i → F1 18 c = n) →
    XJ none m_BT_setAll 2 [some (.ref 34), some (.int n), some (.int (nI i))] [] I F1 (fun rv I2 F2 => rv = none ∧ Tc I F I2 F2 ∧ Tb F2 (fun _ => n)) := by
  intro m
  induction m with
  | zero =>
    intro i F1 hi h1 h2
    refine xj_iload_n (pc := 2) d_BT_setAll_2 rfl rfl ?_
    refine xj_sipush (pc := 3) (v := 256) d_BT_setAll_3 (by decide) ?_
    refine xj_icmp_ge (pc := 6) (tgt := 22) d_BT_setAll_6 (by decide) (fun h6 => ?_) (fun h6 => absurd (by rw [n_le, n_256, n_nI (by omega)]; omega) h6)
    refine xj_vret (pc := 22) d_BT_setAll_22 rfl ?_
    exact ⟨rfl, ⟨rfl, h1⟩, fun c hc => h2 c (by omega)⟩
  | succ m ih =>
    intro i F1 hi h1 h2
    refine xj_iload_n (pc := 2) d_BT_setAll_2 rfl rfl ?_
    refine xj_sipush (pc := 3) (v := 256) d_BT_setAll_3 (by decide) ?_
    refine xj_icmp_ge (pc := 6) (tgt := 22) d_BT_setAll_6 (by decide) (fun h6 => absurd h6 (by rw [n_le, n_256, n_nI (by omega)]; omega)) (fun h6 => ?_)
    refine xj_aload_n (pc := 9) d_BT_setAll_9 rfl rfl ?_
    refine xj_getR (pc := 10) d_BT_setAll_10 fl_BT_9 rfl rfl ?_
    refine xj_iload_n (pc := 13) d_BT_setAll_13 rfl rfl ?_
    refine xj_iload_n (pc := 14) d_BT_setAll_14 rfl rfl ?_
    refine xj_iast (pc := 15) d_BT_setAll_15 (n := 256) (x := 18) rfl rfl (by omega) (by decide) ?_
    refine xj_inc1 (pc := 16) d_BT_setAll_16 rfl (by decide) rfl ?_
    dsimp only [xset, xset2, xkill]
    rw [n_up]
    refine xj_goto (pc := 19) (tgt := 2) d_BT_setAll_19 (by decide) ?_
    refine ih (i + 1) _ (by omega) (fun x hx => by simp only [va_up, if_neg hx]; exact h1 x hx) (fun c hc => ?_)
    simp only [va_up, if_pos, upd]
    split
    · rfl
    · exact h2 c (by omega)
theorem s_BT_setAll {n : Int32} : XM m_BT_setAll [.ref 34, .int n] I F (fun rv I1 F1 => rv = none ∧ Tc I F I1 F1 ∧ Tb F1 (fun _ => n)) := by
  refine XM.of (by decide) (Nat.le_of_ble_eq_true rfl) ?_
  dsimp only [xargs]
  refine xj_iconst (pc := 0) (v := 0) d_BT_setAll_0 (by decide) ?_
  refine xj_istore_n (pc := 1) d_BT_setAll_1 rfl (by decide) rfl ?_
  dsimp only [xset, xset2, xkill]
  exact s_BT_setAll_l 256 0 F rfl (fun _ _ => rfl) (fun c hc => absurd hc (by omega))
theorem s_BT_note {c : Nat} {n : Int32} {f : Nat → Int32} (hc : c < 256) (hT : Tb F f) : XM m_BT_note [.ref 34, .int (nI c), .int n] I F (fun rv I1 F1 => rv = none ∧ Tc I F I1 F1 ∧ Tb F1 (upd f c n)) := by
  refine XM.of (by decide) (Nat.le_of_ble_eq_true rfl) ?_
  dsimp only [xargs]
  refine xj_iload_n (pc := 0) d_BT_note_0 rfl rfl ?_
  refine xj_if_lt (pc := 1) (tgt := 18) d_BT_note_1 (by decide) (fun h1 => absurd h1 (by rw [n_lt, n_0, n_nI (by omega)]; omega)) (fun h1 => ?_)
  refine xj_iload_n (pc := 4) d_BT_note_4 rfl rfl ?_
  refine xj_sipush (pc := 5) (v := 256) d_BT_note_5 (by decide) ?_
  refine xj_icmp_ge (pc := 8) (tgt := 18) d_BT_note_8 (by decide) (fun h8 => absurd h8 (by rw [n_le, n_256, n_nI (by omega)]; omega)) (fun h8 => ?_)
  refine xj_aload_n (pc := 11) d_BT_note_11 rfl rfl ?_
  refine xj_getR (pc := 12) d_BT_note_12 fl_BT_9 rfl rfl ?_
  refine xj_iload_n (pc := 15) d_BT_note_15 rfl rfl ?_
  refine xj_iload_n (pc := 16) d_BT_note_16 rfl rfl ?_
  refine xj_iast (pc := 17) d_BT_note_17 (n := 256) (x := 18) rfl rfl (by omega) (by decide) ?_
  refine xj_vret (pc := 18) d_BT_note_18 rfl ?_
  refine ⟨rfl, ⟨rfl, fun x hx => by simp only [va_up, if_neg hx]⟩, fun d hd => ?_⟩
  simp only [va_up, if_pos, upd]
  split
  · rfl
  · exact hT d hd
theorem s_BT_noted {c : Nat} {f : Nat → Int32} (hc : c < 256) (hT : Tb F f) : XM m_BT_noted [.ref 34, .int (nI c)] I F (xpi (f c) I F) := by
  refine XM.of (by decide) (Nat.le_of_ble_eq_true rfl) ?_
  dsimp only [xargs]
  refine xj_iload_n (pc := 0) d_BT_noted_0 rfl rfl ?_
  refine xj_if_lt (pc := 1) (tgt := 20) d_BT_noted_1 (by decide) (fun h1 => absurd h1 (by rw [n_lt, n_0, n_nI (by omega)]; omega)) (fun h1 => ?_)
  refine xj_iload_n (pc := 4) d_BT_noted_4 rfl rfl ?_
  refine xj_sipush (pc := 5) (v := 256) d_BT_noted_5 (by decide) ?_
  refine xj_icmp_ge (pc := 8) (tgt := 20) d_BT_noted_8 (by decide) (fun h8 => absurd h8 (by rw [n_le, n_256, n_nI (by omega)]; omega)) (fun h8 => ?_)
  refine xj_aload_n (pc := 11) d_BT_noted_11 rfl rfl ?_
  refine xj_getR (pc := 12) d_BT_noted_12 fl_BT_9 rfl rfl ?_
  refine xj_iload_n (pc := 15) d_BT_noted_15 rfl rfl ?_
  refine xj_iald (pc := 16) d_BT_noted_16 (n := 256) (x := 18) rfl rfl (by omega) (by decide) ?_
  refine xj_goto (pc := 17) (tgt := 21) d_BT_noted_17 (by decide) ?_
  refine xj_iret (pc := 21) d_BT_noted_21 rfl ?_
  exact ⟨by rw [hT c hc], rfl, rfl⟩
/-! turned about -/
theorem s_RD_mTA_l (hk : k < 10) (hL : Rl I F k L) (h200 : L.length ≤ 200) : ∀ (m : Nat) (x : Int32) (I1 : XI) (F1 : XF), x.toInt = (m : Int) - 1 → m ≤ L.length → Rs 10 (L.drop m).reverse I F I1 F1 →
    XJ none m_RD_makeTurnedAbout 7 [some (.ref 24), some (.ref k), some (.int x)] [] I1 F1 (fun rv I2 F2 => rv = none ∧ Rs 10 L.reverse I F I2 F2) := by
  intro m
  induction m with
  | zero =>
    intro x I1 F1 hx hm g1
    refine xj_iload_n (pc := 7) d_RD_makeTurnedAbout_7 rfl rfl ?_
    refine xj_if_lt (pc := 8) (tgt := 30) d_RD_makeTurnedAbout_8 (by decide) (fun h8 => ?_) (fun h8 => absurd (by rw [n_lt, n_0]; omega) h8)
    refine xj_vret (pc := 30) d_RD_makeTurnedAbout_30 rfl ?_
    exact ⟨rfl, g1⟩
  | succ m ih =>
    intro x I1 F1 hx hm g1
    have ex : x = nI m := n_of (by omega)
    subst ex
    have hget : L[m]? = some L[m] := List.getElem?_eq_getElem (by omega)
    refine xj_iload_n (pc := 7) d_RD_makeTurnedAbout_7 rfl rfl ?_
    refine xj_if_lt (pc := 8) (tgt := 30) d_RD_makeTurnedAbout_8 (by decide) (fun h8 => absurd h8 (by rw [n_lt, n_0]; omega)) (fun h8 => ?_)
    refine xj_aload_n (pc := 11) d_RD_makeTurnedAbout_11 rfl rfl ?_
    refine xj_getR (pc := 12) d_RD_makeTurnedAbout_12 fl_RD_22 rfl rfl ?_
    refine xj_aload_n (pc := 15) d_RD_makeTurnedAbout_15 rfl rfl ?_
    refine xj_iload_n (pc := 16) d_RD_makeTurnedAbout_16 rfl rfl ?_
    refine xj_iconst (pc := 17) (v := -1) d_RD_makeTurnedAbout_17 (by decide) ?_
    refine xj_callV (pc := 18) d_RD_makeTurnedAbout_18 ml_RD_64 ok_RW_byteOr (s_RW_byteOr (by omega) (g1.kp (by omega) hL)) rfl rfl (xsh_row (by omega)) rfl rfl (Nat.le_of_ble_eq_true rfl) (by decide) ?_
    rintro rv I1 F1 ⟨rfl, rfl, rfl⟩
    dsimp only [Option.toList, List.cons_append, List.nil_append]
    rw [rg_n (by omega), hget, Option.getD_some]
    refine xj_callV (pc := 21) d_RD_makeTurnedAbout_21 ml_RD_140 ok_RW_add (s_RW_add (by decide) g1.2.2) rfl rfl (xsh_row (by omega)) rfl rfl (Nat.le_of_ble_eq_true rfl) (by decide) ?_
    rintro rv I2 F2 ⟨rfl, g2⟩
    rw [← List.reverse_cons, List.getElem_cons_drop, xcap10, List.take_of_length_le (by rw [List.length_reverse, List.length_drop]; omega)] at g2
    replace g2 := g1.tr g2
    dsimp only [Option.toList, List.cons_append, List.nil_append]
    refine xj_incm1 (pc := 24) d_RD_makeTurnedAbout_24 rfl (by decide) rfl ?_
    dsimp only [xset, xset2, xkill]
    refine xj_goto (pc := 27) (tgt := 7) d_RD_makeTurnedAbout_27 (by decide) ?_
    exact ih _ I2 F2 (by rw [n_add (by rw [n_m1]; omega) (by rw [n_m1]; omega), n_m1]; omega) (by omega) g2
theorem s_RD_mTA (hk : k < 10) (hL : Rl I F k L) (h200 : L.length ≤ 200) (hM : Rl I F 10 []) : XM m_RD_makeTurnedAbout [.ref 24, .ref k] I F (fun rv I2 F2 => rv = none ∧ Rs 10 L.reverse I F I2 F2) := by
  refine XM.of (by decide) (Nat.le_of_ble_eq_true rfl) ?_
  dsimp only [xargs]
  have eL := hL.ti
  refine xj_aload_n (pc := 0) d_RD_makeTurnedAbout_0 rfl rfl ?_
  refine xj_callV (pc := 1) d_RD_makeTurnedAbout_1 ml_RD_46 ok_RW_length (s_RW_length (by omega)) rfl rfl (xsh_row (by omega)) rfl rfl (Nat.le_of_ble_eq_true rfl) (by decide) ?_
  rintro rv I1 F1 ⟨rfl, rfl, rfl⟩
  dsimp only [Option.toList, List.cons_append, List.nil_append]
  refine xj_iconst (pc := 4) (v := 1) d_RD_makeTurnedAbout_4 (by decide) ?_
  refine xj_isub (pc := 5) d_RD_makeTurnedAbout_5 ?_
  refine xj_istore_n (pc := 6) d_RD_makeTurnedAbout_6 rfl (by decide) rfl ?_
  dsimp only [xset, xset2, xkill]
  exact s_RD_mTA_l hk hL h200 L.length _ I F (by rw [n_sub (by rw [n_1]; omega) (by rw [n_1]; omega), n_1, eL]) (Nat.le_refl _) (Rs.rf (by rw [List.drop_length]; exact hM))
/-! letters -/
theorem lm_step {g : Int32 → Int32} {L : List Int32} {i : Nat} {b c : Int32} (hb : L[i]? = some b) (hc : c = g b) (h200 : L.length ≤ 200) : ((L.take i).map g ++ [c]).take (xcap 10) = (L.take (i + 1)).map g := by
  have hi := (List.getElem?_eq_some_iff.mp hb).1
  rw [hc, List.take_add_one, hb, List.map_append, xcap10, List.take_of_length_le]
  · rfl
  · simp only [List.length_append, List.length_map, List.length_take, List.length_cons, List.length_nil]; omega
theorem s_RD_mLM_l {fl sp : Int32} {g : Int32 → Int32} (hg : ∀ b, g b = if fl ≤ b ∧ b ≤ fl + 25 then b + sp else b) (hk : k < 10) (hL : Rl I F k L) (h200 : L.length ≤ 200) : ∀ (m i : Nat) (I1 : XI) (F1 : XF), i + m = L.length → Rs 10 ((L.take i).map g) I F I1 F1 →
    XJ none m_RD_makeWithLettersMoved 3 [some (.ref 24), some (.ref k), some (.int fl), some (.int sp), some (.int (nI i))] [] I1 F1 (fun rv I2 F2 => rv = none ∧ Rs 10 (L.map g) I F I2 F2) := by
  have eL := hL.ti
  intro m
  induction m with
  | zero =>
    intro i I1 F1 hi g1
    have eL1 : (I1 k).toInt = L.length := by rw [g1.1 k (by omega)]; exact eL
    refine xj_iload (pc := 3) d_RD_makeWithLettersMoved_3 rfl ?_
    refine xj_aload_n (pc := 5) d_RD_makeWithLettersMoved_5 rfl rfl ?_
    refine xj_callV (pc := 6) d_RD_makeWithLettersMoved_6 ml_RD_46 ok_RW_length (s_RW_length (by omega)) rfl rfl (xsh_row (by omega)) rfl rfl (Nat.le_of_ble_eq_true rfl) (by decide) ?_
    rintro rv I1 F1 ⟨rfl, rfl, rfl⟩
    dsimp only [Option.toList, List.cons_append, List.nil_append]
    refine xj_icmp_ge (pc := 9) (tgt := 70) d_RD_makeWithLettersMoved_9 (by decide) (fun h9 => ?_) (fun h9 => absurd (by rw [n_le, n_nI (by omega)]; omega) h9)
    refine xj_vret (pc := 70) d_RD_makeWithLettersMoved_70 rfl ?_
    exact ⟨rfl, by rw [show L.take i = L from List.take_of_length_le (by omega)] at g1; exact g1⟩
  | succ m ih =>
    intro i I1 F1 hi g1
    have eL1 : (I1 k).toInt = L.length := by rw [g1.1 k (by omega)]; exact eL
    have hget : L[i]? = some L[i] := List.getElem?_eq_getElem (by omega)
    refine xj_iload (pc := 3) d_RD_makeWithLettersMoved_3 rfl ?_
    refine xj_aload_n (pc := 5) d_RD_makeWithLettersMoved_5 rfl rfl ?_
    refine xj_callV (pc := 6) d_RD_makeWithLettersMoved_6 ml_RD_46 ok_RW_length (s_RW_length (by omega)) rfl rfl (xsh_row (by omega)) rfl rfl (Nat.le_of_ble_eq_true rfl) (by decide) ?_
    rintro rv I1 F1 ⟨rfl, rfl, rfl⟩
    dsimp only [Option.toList, List.cons_append, List.nil_append]
    refine xj_icmp_ge (pc := 9) (tgt := 70) d_RD_makeWithLettersMoved_9 (by decide) (fun h9 => absurd h9 (by rw [n_le, n_nI (by omega)]; omega)) (fun h9 => ?_)
    refine xj_aload_n (pc := 12) d_RD_makeWithLettersMoved_12 rfl rfl ?_
    refine xj_iload (pc := 13) d_RD_makeWithLettersMoved_13 rfl ?_
    refine xj_iconst (pc := 15) (v := -1) d_RD_makeWithLettersMoved_15 (by decide) ?_
    refine xj_callV (pc := 16) d_RD_makeWithLettersMoved_16 ml_RD_64 ok_RW_byteOr (s_RW_byteOr (by omega) (g1.kp (by omega) hL)) rfl rfl (xsh_row (by omega)) rfl rfl (Nat.le_of_ble_eq_true rfl) (by decide) ?_
    rintro rv I1 F1 ⟨rfl, rfl, rfl⟩
    dsimp only [Option.toList, List.cons_append, List.nil_append]
    rw [rg_n (by omega), hget, Option.getD_some]
    refine xj_istore (pc := 19) d_RD_makeWithLettersMoved_19 (by decide) rfl ?_
    dsimp only [xset, xset2, xkill]
    refine xj_iload (pc := 21) d_RD_makeWithLettersMoved_21 rfl ?_
    refine xj_iload_n (pc := 23) d_RD_makeWithLettersMoved_23 rfl rfl ?_
    refine xj_icmp_lt (pc := 24) (tgt := 40) d_RD_makeWithLettersMoved_24 (by decide) (fun h24 => ?_) (fun h24 => ?_)
    · refine xj_iconst (pc := 40) (v := 0) d_RD_makeWithLettersMoved_40 (by decide) ?_
      refine xj_istore (pc := 41) d_RD_makeWithLettersMoved_41 (by decide) rfl ?_
      dsimp only [xset, xset2, xkill]
      refine xj_aload_n (pc := 43) d_RD_makeWithLettersMoved_43 rfl rfl ?_
      refine xj_getR (pc := 44) d_RD_makeWithLettersMoved_44 fl_RD_22 rfl rfl ?_
      refine xj_iload (pc := 47) d_RD_makeWithLettersMoved_47 rfl ?_
      refine xj_if_eq (pc := 49) (tgt := 59) d_RD_makeWithLettersMoved_49 (by decide) (fun h49 => ?_) (fun h49 => ?_)
      · refine xj_iload (pc := 59) d_RD_makeWithLettersMoved_59 rfl ?_
        first | rw [show L[i] + sp = g L[i] by rw [hg]; simp_all] | rw [show (some (Value.int L[i]) : Option Value) = some (Value.int L[i]) from rfl]
        refine xj_callV (pc := 61) d_RD_makeWithLettersMoved_61 ml_RD_140 ok_RW_add (s_RW_add (by decide) g1.2.2) rfl rfl (xsh_row (by omega)) rfl rfl (Nat.le_of_ble_eq_true rfl) (by decide) ?_
        rintro rv I2 F2 ⟨rfl, g2⟩
        dsimp only [Option.toList, List.cons_append, List.nil_append]
        refine xj_inc1 (pc := 64) d_RD_makeWithLettersMoved_64 rfl (by decide) rfl ?_
        dsimp only [xset, xset2, xkill]
        rw [n_up]
        refine xj_goto (pc := 67) (tgt := 3) d_RD_makeWithLettersMoved_67 (by decide) ?_
        refine xj_take 5 (ih (i + 1) I2 F2 (by omega) ?_)
        first | exact absurd h49 (by decide) | exact absurd rfl h49 | (rw [lm_step hget rfl h200] at g2; exact g1.tr g2; done) | (rw [lm_step hget (show L[i] = g L[i] by rw [hg, if_neg (fun q => by have q1 := n_le.mp q.1; have q2 := n_le.mp q.2; first | (rw [n_lt] at h24; omega) | (rw [n_lt] at h33; omega))]) h200] at g2; exact g1.tr g2)
      · refine xj_iload (pc := 52) d_RD_makeWithLettersMoved_52 rfl ?_
        refine xj_iload_n (pc := 54) d_RD_makeWithLettersMoved_54 rfl rfl ?_
        refine xj_iadd (pc := 55) d_RD_makeWithLettersMoved_55 ?_
        refine xj_goto (pc := 56) (tgt := 61) d_RD_makeWithLettersMoved_56 (by decide) ?_
        first | rw [show L[i] + sp = g L[i] by rw [hg]; simp_all] | rw [show (some (Value.int L[i]) : Option Value) = some (Value.int L[i]) from rfl]
        refine xj_callV (pc := 61) d_RD_makeWithLettersMoved_61 ml_RD_140 ok_RW_add (s_RW_add (by decide) g1.2.2) rfl rfl (xsh_row (by omega)) rfl rfl (Nat.le_of_ble_eq_true rfl) (by decide) ?_
        rintro rv I2 F2 ⟨rfl, g2⟩
        dsimp only [Option.toList, List.cons_append, List.nil_append]
        refine xj_inc1 (pc := 64) d_RD_makeWithLettersMoved_64 rfl (by decide) rfl ?_
        dsimp only [xset, xset2, xkill]
        rw [n_up]
        refine xj_goto (pc := 67) (tgt := 3) d_RD_makeWithLettersMoved_67 (by decide) ?_
        refine xj_take 5 (ih (i + 1) I2 F2 (by omega) ?_)
        first | exact absurd h49 (by decide) | exact absurd rfl h49 | (rw [lm_step hget rfl h200] at g2; exact g1.tr g2; done) | (rw [lm_step hget (show L[i] = g L[i] by rw [hg, if_neg (fun q => by have q1 := n_le.mp q.1; have q2 := n_le.mp q.2; first | (rw [n_lt] at h24; omega) | (rw [n_lt] at h33; omega))]) h200] at g2; exact g1.tr g2)
    · refine xj_iload (pc := 27) d_RD_makeWithLettersMoved_27 rfl ?_
      refine xj_iload_n (pc := 29) d_RD_makeWithLettersMoved_29 rfl rfl ?_
      refine xj_bipush (pc := 30) (v := 25) d_RD_makeWithLettersMoved_30 (by decide) ?_
      refine xj_iadd (pc := 32) d_RD_makeWithLettersMoved_32 ?_
      refine xj_icmp_gt (pc := 33) (tgt := 40) d_RD_makeWithLettersMoved_33 (by decide) (fun h33 => ?_) (fun h33 => ?_)
      · refine xj_iconst (pc := 40) (v := 0) d_RD_makeWithLettersMoved_40 (by decide) ?_
        refine xj_istore (pc := 41) d_RD_makeWithLettersMoved_41 (by decide) rfl ?_
        dsimp only [xset, xset2, xkill]
        refine xj_aload_n (pc := 43) d_RD_makeWithLettersMoved_43 rfl rfl ?_
        refine xj_getR (pc := 44) d_RD_makeWithLettersMoved_44 fl_RD_22 rfl rfl ?_
        refine xj_iload (pc := 47) d_RD_makeWithLettersMoved_47 rfl ?_
        refine xj_if_eq (pc := 49) (tgt := 59) d_RD_makeWithLettersMoved_49 (by decide) (fun h49 => ?_) (fun h49 => ?_)
        · refine xj_iload (pc := 59) d_RD_makeWithLettersMoved_59 rfl ?_
          first | rw [show L[i] + sp = g L[i] by rw [hg]; simp_all] | rw [show (some (Value.int L[i]) : Option Value) = some (Value.int L[i]) from rfl]
          refine xj_callV (pc := 61) d_RD_makeWithLettersMoved_61 ml_RD_140 ok_RW_add (s_RW_add (by decide) g1.2.2) rfl rfl (xsh_row (by omega)) rfl rfl (Nat.le_of_ble_eq_true rfl) (by decide) ?_
          rintro rv I2 F2 ⟨rfl, g2⟩
          dsimp only [Option.toList, List.cons_append, List.nil_append]
          refine xj_inc1 (pc := 64) d_RD_makeWithLettersMoved_64 rfl (by decide) rfl ?_
          dsimp only [xset, xset2, xkill]
          rw [n_up]
          refine xj_goto (pc := 67) (tgt := 3) d_RD_makeWithLettersMoved_67 (by decide) ?_
          refine xj_take 5 (ih (i + 1) I2 F2 (by omega) ?_)
          first | exact absurd h49 (by decide) | exact absurd rfl h49 | (rw [lm_step hget rfl h200] at g2; exact g1.tr g2; done) | (rw [lm_step hget (show L[i] = g L[i] by rw [hg, if_neg (fun q => by have q1 := n_le.mp q.1; have q2 := n_le.mp q.2; first | (rw [n_lt] at h24; omega) | (rw [n_lt] at h33; omega))]) h200] at g2; exact g1.tr g2)
        · refine xj_iload (pc := 52) d_RD_makeWithLettersMoved_52 rfl ?_
          refine xj_iload_n (pc := 54) d_RD_makeWithLettersMoved_54 rfl rfl ?_
          refine xj_iadd (pc := 55) d_RD_makeWithLettersMoved_55 ?_
          refine xj_goto (pc := 56) (tgt := 61) d_RD_makeWithLettersMoved_56 (by decide) ?_
          first | rw [show L[i] + sp = g L[i] by rw [hg]; simp_all] | rw [show (some (Value.int L[i]) : Option Value) = some (Value.int L[i]) from rfl]
          refine xj_callV (pc := 61) d_RD_makeWithLettersMoved_61 ml_RD_140 ok_RW_add (s_RW_add (by decide) g1.2.2) rfl rfl (xsh_row (by omega)) rfl rfl (Nat.le_of_ble_eq_true rfl) (by decide) ?_
          rintro rv I2 F2 ⟨rfl, g2⟩
          dsimp only [Option.toList, List.cons_append, List.nil_append]
          refine xj_inc1 (pc := 64) d_RD_makeWithLettersMoved_64 rfl (by decide) rfl ?_
          dsimp only [xset, xset2, xkill]
          rw [n_up]
          refine xj_goto (pc := 67) (tgt := 3) d_RD_makeWithLettersMoved_67 (by decide) ?_
          refine xj_take 5 (ih (i + 1) I2 F2 (by omega) ?_)
          first | exact absurd h49 (by decide) | exact absurd rfl h49 | (rw [lm_step hget rfl h200] at g2; exact g1.tr g2; done) | (rw [lm_step hget (show L[i] = g L[i] by rw [hg, if_neg (fun q => by have q1 := n_le.mp q.1; have q2 := n_le.mp q.2; first | (rw [n_lt] at h24; omega) | (rw [n_lt] at h33; omega))]) h200] at g2; exact g1.tr g2)
      · refine xj_iconst (pc := 36) (v := 1) d_RD_makeWithLettersMoved_36 (by decide) ?_
        refine xj_goto (pc := 37) (tgt := 41) d_RD_makeWithLettersMoved_37 (by decide) ?_
        refine xj_istore (pc := 41) d_RD_makeWithLettersMoved_41 (by decide) rfl ?_
        dsimp only [xset, xset2, xkill]
        refine xj_aload_n (pc := 43) d_RD_makeWithLettersMoved_43 rfl rfl ?_
        refine xj_getR (pc := 44) d_RD_makeWithLettersMoved_44 fl_RD_22 rfl rfl ?_
        refine xj_iload (pc := 47) d_RD_makeWithLettersMoved_47 rfl ?_
        refine xj_if_eq (pc := 49) (tgt := 59) d_RD_makeWithLettersMoved_49 (by decide) (fun h49 => ?_) (fun h49 => ?_)
        · refine xj_iload (pc := 59) d_RD_makeWithLettersMoved_59 rfl ?_
          first | rw [show L[i] + sp = g L[i] by rw [hg]; simp_all] | rw [show (some (Value.int L[i]) : Option Value) = some (Value.int L[i]) from rfl]
          refine xj_callV (pc := 61) d_RD_makeWithLettersMoved_61 ml_RD_140 ok_RW_add (s_RW_add (by decide) g1.2.2) rfl rfl (xsh_row (by omega)) rfl rfl (Nat.le_of_ble_eq_true rfl) (by decide) ?_
          rintro rv I2 F2 ⟨rfl, g2⟩
          dsimp only [Option.toList, List.cons_append, List.nil_append]
          refine xj_inc1 (pc := 64) d_RD_makeWithLettersMoved_64 rfl (by decide) rfl ?_
          dsimp only [xset, xset2, xkill]
          rw [n_up]
          refine xj_goto (pc := 67) (tgt := 3) d_RD_makeWithLettersMoved_67 (by decide) ?_
          refine xj_take 5 (ih (i + 1) I2 F2 (by omega) ?_)
          first | exact absurd h49 (by decide) | exact absurd rfl h49 | (rw [lm_step hget rfl h200] at g2; exact g1.tr g2; done) | (rw [lm_step hget (show L[i] = g L[i] by rw [hg, if_neg (fun q => by have q1 := n_le.mp q.1; have q2 := n_le.mp q.2; first | (rw [n_lt] at h24; omega) | (rw [n_lt] at h33; omega))]) h200] at g2; exact g1.tr g2)
        · refine xj_iload (pc := 52) d_RD_makeWithLettersMoved_52 rfl ?_
          refine xj_iload_n (pc := 54) d_RD_makeWithLettersMoved_54 rfl rfl ?_
          refine xj_iadd (pc := 55) d_RD_makeWithLettersMoved_55 ?_
          refine xj_goto (pc := 56) (tgt := 61) d_RD_makeWithLettersMoved_56 (by decide) ?_
          first | rw [show L[i] + sp = g L[i] by rw [hg]; simp_all] | rw [show (some (Value.int L[i]) : Option Value) = some (Value.int L[i]) from rfl]
          refine xj_callV (pc := 61) d_RD_makeWithLettersMoved_61 ml_RD_140 ok_RW_add (s_RW_add (by decide) g1.2.2) rfl rfl (xsh_row (by omega)) rfl rfl (Nat.le_of_ble_eq_true rfl) (by decide) ?_
          rintro rv I2 F2 ⟨rfl, g2⟩
          dsimp only [Option.toList, List.cons_append, List.nil_append]
          refine xj_inc1 (pc := 64) d_RD_makeWithLettersMoved_64 rfl (by decide) rfl ?_
          dsimp only [xset, xset2, xkill]
          rw [n_up]
          refine xj_goto (pc := 67) (tgt := 3) d_RD_makeWithLettersMoved_67 (by decide) ?_
          refine xj_take 5 (ih (i + 1) I2 F2 (by omega) ?_)
          first | exact absurd h49 (by decide) | exact absurd rfl h49 | (rw [lm_step hget rfl h200] at g2; exact g1.tr g2; done) | (rw [lm_step hget (show L[i] = g L[i] by rw [hg, if_neg (fun q => by have q1 := n_le.mp q.1; have q2 := n_le.mp q.2; first | (rw [n_lt] at h24; omega) | (rw [n_lt] at h33; omega))]) h200] at g2; exact g1.tr g2)
theorem s_RD_mLM {fl sp : Int32} {g : Int32 → Int32} (hg : ∀ b, g b = if fl ≤ b ∧ b ≤ fl + 25 then b + sp else b) (hk : k < 10) (hL : Rl I F k L) (h200 : L.length ≤ 200) (hM : Rl I F 10 []) : XM m_RD_makeWithLettersMoved [.ref 24, .ref k, .int fl, .int sp] I F (fun rv I2 F2 => rv = none ∧ Rs 10 (L.map g) I F I2 F2) := by
  refine XM.of (by decide) (Nat.le_of_ble_eq_true rfl) ?_
  dsimp only [xargs]
  refine xj_iconst (pc := 0) (v := 0) d_RD_makeWithLettersMoved_0 (by decide) ?_
  refine xj_istore (pc := 1) d_RD_makeWithLettersMoved_1 (by decide) rfl ?_
  dsimp only [xset, xset2, xkill]
  exact s_RD_mLM_l hg hk hL h200 L.length 0 I F (by omega) (Rs.rf hM)
end RDE
