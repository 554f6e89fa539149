section MOA
variable {I I1 I2 : XI} {F F1 F2 : XF} {S : XSt} {r k : Nat} {M X L : List Int32}
/-! the model's state -/
def Mr (F : XF) (r : Nat) (L : List Int32) : Prop := F 21 r = nI L.length ∧ L.length ≤ 200 ∧ ∀ i b, L[i]? = some b → F 20 (200 * r + i) = b
def MI (I : XI) (F : XF) (S : XSt) : Prop := (I 17 = nI S.1.length ∧ S.1.length ≤ 240 ∧ ∀ i b, S.1[i]? = some b → F 19 i = b) ∧ (∀ r, r < 10 → Mr F r (S.2.1 r)) ∧ I 19 = S.2.2
/-- the class's cells are as they were -/
def NM (I : XI) (F : XF) (I1 : XI) (F1 : XF) : Prop := (∀ x, x < 17 → I1 x = I x) ∧ (∀ x, x < 19 → F1 x = F x)
/-- only what the model makes things in has changed -/
def NX (I : XI) (F : XF) (I1 : XI) (F1 : XF) : Prop := (∀ x, x ≠ 18 → I1 x = I x) ∧ (∀ x, x < 22 → F1 x = F x)
def NQ (q : Int32 × XSt) (I : XI) (F : XF) : XP := fun rv I1 F1 => rv = some (.int q.1) ∧ MI I1 F1 q.2 ∧ NM I F I1 F1
theorem NX.rf : NX I F I F := ⟨fun _ _ => rfl, fun _ _ => rfl⟩
theorem NX.tr (h : NX I F I1 F1) (h2 : NX I1 F1 I2 F2) : NX I F I2 F2 := ⟨fun x a => (h2.1 x a).trans (h.1 x a), fun x a => (h2.2 x a).trans (h.2 x a)⟩
theorem NX.nm (h : NX I F I1 F1) : NM I F I1 F1 := ⟨fun x a => h.1 x (by omega), fun x a => h.2 x (by omega)⟩
theorem NM.tr (h : NM I F I1 F1) (h2 : NM I1 F1 I2 F2) : NM I F I2 F2 := ⟨fun x a => (h2.1 x a).trans (h.1 x a), fun x a => (h2.2 x a).trans (h.2 x a)⟩
theorem Mr.kp (h : Mr F r L) (h1 : F1 20 = F 20) (h2 : F1 21 = F 21) : Mr F1 r L := ⟨by rw [h2]; exact h.1, h.2.1, fun i b hb => by rw [h1]; exact h.2.2 i b hb⟩
theorem NX.mr (h : NX I F I1 F1) (hl : Mr F r L) : Mr F1 r L := hl.kp (h.2 20 (by decide)) (h.2 21 (by decide))
theorem NX.mi (h : NX I F I1 F1) (hI : MI I F S) : MI I1 F1 S := ⟨⟨by rw [h.1 17 (by decide)]; exact hI.1.1, hI.1.2.1, fun i b hb => by rw [h.2 19 (by decide)]; exact hI.1.2.2 i b hb⟩, fun r hr => h.mr (hI.2.1 r hr), by rw [h.1 19 (by decide)]; exact hI.2.2⟩
theorem nk_ans {v : Int32} (h : MI I F S) : NQ (v, S) I F (some (.int v)) I F := ⟨rfl, h, fun _ _ => rfl, fun _ _ => rfl⟩
theorem nk_ansX {v : Int32} (h : MI I F S) (hX : NX I F I1 F1) : NQ (v, S) I F (some (.int v)) I1 F1 := ⟨rfl, hX.mi h, hX.nm⟩
theorem nk_none {q : Int32 × XSt} (h : MI I F S) (hq : q = (-1, S)) : NQ q I F (some (.int (-1))) I F := by rw [hq]; exact nk_ans h
theorem isR_k {a : Int32} (h : isR a = true) : ∃ k : Nat, k < 10 ∧ a = nI k ∧ a.toInt.toNat = k := by
  rcases regc a with ⟨k, h1, h2, -, h4⟩ | q
  · exact ⟨k, h1, h2, h4⟩
  · rw [h] at q; cases q
theorem MI.at (h : MI I F S) (hk : k < 10) {a : Int32} (ha : a.toInt.toNat = k) : Mr F k (sR S a) := by rw [sR, ha]; exact h.2.1 k hk
theorem Mr.sz (h : Mr F r L) : (F 21 r).toInt = L.length := by have := h.2.1; rw [h.1, n_nI (by omega)]
theorem n200m (r : Nat) : (200 : Int32) * nI r = nI (200 * r) := pk_mul 200 r
theorem s_MO_is {a : Int32} : XM m_MO_is [.int a] I F (xpi (b01 (isR a)) I F) := by
  refine XM.of (by decide) (Nat.le_of_ble_eq_true rfl) ?_
  dsimp only [xargs]
  refine xj_iload_n (pc := 0) d_MO_is_0 rfl rfl ?_
  refine xj_if_lt (pc := 1) (tgt := 14) d_MO_is_1 (by decide) (fun h1 => ?_) (fun h1 => ?_)
  · simp only [n_lt, n_le, c_gt, c_le, c_lt, c_ge, not_lt_i, not_le_i, n_0, n_1, n_2, n_3, n_4, n_m1, n_10, n_200, n_240, n_256] at h1
    refine xj_iconst (pc := 14) (v := 0) d_MO_is_14 (by decide) ?_
    refine xj_zret (pc := 15) d_MO_is_15 rfl (by first | exact Or.inl rfl | exact Or.inr rfl | assumption | omega) ?_
    first | (rw [show isR a = true by simp only [isR, decide_eq_true_eq]; omega]; exact ⟨rfl, rfl, rfl⟩; done) | (rw [show isR a = false by simp only [isR, decide_eq_false_iff_not]; omega]; exact ⟨rfl, rfl, rfl⟩)
  · simp only [n_lt, n_le, c_gt, c_le, c_lt, c_ge, not_lt_i, not_le_i, n_0, n_1, n_2, n_3, n_4, n_m1, n_10, n_200, n_240, n_256] at h1
    refine xj_iload_n (pc := 4) d_MO_is_4 rfl rfl ?_
    refine xj_bipush (pc := 5) (v := 10) d_MO_is_5 (by decide) ?_
    refine xj_icmp_ge (pc := 7) (tgt := 14) d_MO_is_7 (by decide) (fun h7 => ?_) (fun h7 => ?_)
    · simp only [n_lt, n_le, c_gt, c_le, c_lt, c_ge, not_lt_i, not_le_i, n_0, n_1, n_2, n_3, n_4, n_m1, n_10, n_200, n_240, n_256] at h7
      refine xj_iconst (pc := 14) (v := 0) d_MO_is_14 (by decide) ?_
      refine xj_zret (pc := 15) d_MO_is_15 rfl (by first | exact Or.inl rfl | exact Or.inr rfl | assumption | omega) ?_
      first | (rw [show isR a = true by simp only [isR, decide_eq_true_eq]; omega]; exact ⟨rfl, rfl, rfl⟩; done) | (rw [show isR a = false by simp only [isR, decide_eq_false_iff_not]; omega]; exact ⟨rfl, rfl, rfl⟩)
    · simp only [n_lt, n_le, c_gt, c_le, c_lt, c_ge, not_lt_i, not_le_i, n_0, n_1, n_2, n_3, n_4, n_m1, n_10, n_200, n_240, n_256] at h7
      refine xj_iconst (pc := 10) (v := 1) d_MO_is_10 (by decide) ?_
      refine xj_goto (pc := 11) (tgt := 15) d_MO_is_11 (by decide) ?_
      refine xj_zret (pc := 15) d_MO_is_15 rfl (by first | exact Or.inl rfl | exact Or.inr rfl | assumption | omega) ?_
      first | (rw [show isR a = true by simp only [isR, decide_eq_true_eq]; omega]; exact ⟨rfl, rfl, rfl⟩; done) | (rw [show isR a = false by simp only [isR, decide_eq_false_iff_not]; omega]; exact ⟨rfl, rfl, rfl⟩)
theorem s_MO_of {q : Nat} (hr : r < 10) (hq : q < 200) : XM m_MO_of [.ref 36, .int (nI r), .int (nI q)] I F (xpi (F 20 (200 * r + q)) I F) := by
  refine XM.of (by decide) (Nat.le_of_ble_eq_true rfl) ?_
  dsimp only [xargs]
  refine xj_aload_n (pc := 0) d_MO_of_0 rfl rfl ?_
  refine xj_getR (pc := 1) d_MO_of_1 fl_MO_13 rfl rfl ?_
  refine xj_sipush (pc := 4) (v := 200) d_MO_of_4 (by decide) ?_
  refine xj_iload_n (pc := 7) d_MO_of_7 rfl rfl ?_
  refine xj_imul (pc := 8) d_MO_of_8 ?_
  refine xj_iload_n (pc := 9) d_MO_of_9 rfl rfl ?_
  refine xj_iadd (pc := 10) d_MO_of_10 ?_
  rw [n200m, n_addN]
  refine xj_iald (pc := 11) d_MO_of_11 (n := 2000) (x := 20) rfl rfl (by omega) (by decide) ?_
  refine xj_iret (pc := 12) d_MO_of_12 rfl ?_
  exact ⟨rfl, rfl, rfl⟩
theorem s_MO_ofL {q : Nat} {b : Int32} (hr : r < 10) (hL : Mr F r L) (hb : L[q]? = some b) : XM m_MO_of [.ref 36, .int (nI r), .int (nI q)] I F (xpi b I F) := by
  have hq : q < 200 := Nat.lt_of_lt_of_le (List.getElem?_eq_some_iff.mp hb).1 hL.2.1
  rw [← hL.2.2 q b hb]
  exact s_MO_of hr hq
/-! what is made -/
def Mb (I : XI) (F : XF) (M : List Int32) : Prop := I 18 = nI (min M.length 201) ∧ ∀ i b, i < 201 → M[i]? = some b → F 22 i = b
def Ms (M : List Int32) (I : XI) (F : XF) (I1 : XI) (F1 : XF) : Prop := (∀ x, x ≠ 18 → I1 x = I x) ∧ (∀ x, x ≠ 22 → F1 x = F x) ∧ Mb I1 F1 M
theorem Ms.tr (h : Ms M I F I1 F1) (h2 : Ms X I1 F1 I2 F2) : Ms X I F I2 F2 := ⟨fun x a => (h2.1 x a).trans (h.1 x a), fun x a => (h2.2.1 x a).trans (h.2.1 x a), h2.2.2⟩
theorem Ms.nx (h : Ms M I F I1 F1) : NX I F I1 F1 := ⟨h.1, fun x a => h.2.1 x (by omega)⟩
theorem Ms.rf (h : Mb I F M) : Ms M I F I F := ⟨fun _ _ => rfl, fun _ _ => rfl, h⟩
theorem Ms.zero : Ms [] I F (upd I 18 0) F := ⟨fun x hx => by simp [upd, hx], fun _ _ => rfl, by simp [upd]; rfl, fun i b _ hb => by simp at hb⟩
theorem Mb.ti (h : Mb I F M) : (I 18).toInt = min M.length 201 := by rw [h.1, n_nI (by omega)]
theorem Mb.ext (h : Mb I F M) (hl : 201 ≤ M.length) : Mb I F (M ++ X) := ⟨by rw [h.1, List.length_append, Nat.min_eq_right hl, Nat.min_eq_right (by omega)], fun i b hi hb => by rw [List.getElem?_append_left (by omega)] at hb; exact h.2 i b hi hb⟩
theorem mb_in {c : Int32} (h : Mb I F M) (hl : M.length ≤ 200) : Ms (M ++ [c]) I F (upd I 18 (I 18 + 1)) (va_up F 22 (upd (F 22) M.length c)) := by
  refine ⟨fun x hx => by simp [upd, hx], fun x hx => by simp [va_up, hx], ?_, fun i b hi hb => ?_⟩
  · simp only [upd, if_pos]
    rw [h.1, n_up, List.length_append, Nat.min_eq_left (by omega), Nat.min_eq_left (by simp; omega)]; rfl
  · simp only [va_up, if_pos, upd]
    by_cases e : i = M.length
    · subst e
      rw [List.getElem?_append_right (Nat.le_refl _), Nat.sub_self] at hb
      rw [if_pos rfl]; exact Option.some.inj hb
    · rw [if_neg e]
      have hlt : i < M.length := by have := (List.getElem?_eq_some_iff.mp hb).1; simp at this; omega
      rw [List.getElem?_append_left hlt] at hb
      exact h.2 i b hi hb
theorem s_MO_add {c : Int32} (h : Mb I F M) : XM m_MO_add [.ref 36, .int c] I F (fun rv I1 F1 => rv = none ∧ Ms (M ++ [c]) I F I1 F1) := by
  refine XM.of (by decide) (Nat.le_of_ble_eq_true rfl) ?_
  dsimp only [xargs]
  have ht := h.ti
  refine xj_aload_n (pc := 0) d_MO_add_0 rfl rfl ?_
  refine xj_getI (pc := 1) d_MO_add_1 fl_MO_50 rfl rfl ?_
  refine xj_sipush (pc := 4) (v := 200) d_MO_add_4 (by decide) ?_
  refine xj_icmp_gt (pc := 7) (tgt := 30) d_MO_add_7 (by decide) (fun h7 => ?_) (fun h7 => ?_)
  · refine xj_vret (pc := 30) d_MO_add_30 rfl ?_
    refine ⟨rfl, ?_⟩
    first | exact mb_in h hl | (rw [n_lt, n_200] at h7; exact Ms.rf (h.ext (by omega)))
  · rw [n_lt, n_200] at h7
    have hl : M.length ≤ 200 := by omega
    refine xj_aload_n (pc := 10) d_MO_add_10 rfl rfl ?_
    refine xj_getR (pc := 11) d_MO_add_11 fl_MO_19 rfl rfl ?_
    refine xj_aload_n (pc := 14) d_MO_add_14 rfl rfl ?_
    refine xj_getI (pc := 15) d_MO_add_15 fl_MO_50 rfl rfl ?_
    refine xj_iload_n (pc := 18) d_MO_add_18 rfl rfl ?_
    refine xj_iast (pc := 19) d_MO_add_19 (n := 220) (x := 22) (j := M.length) rfl (by rw [h.1, Nat.min_eq_left (by omega)]) (by omega) (by decide) ?_
    refine xj_aload_n (pc := 20) d_MO_add_20 rfl rfl ?_
    refine xj_dup (pc := 21) d_MO_add_21 rfl ?_
    refine xj_getI (pc := 22) d_MO_add_22 fl_MO_50 rfl rfl ?_
    refine xj_iconst (pc := 25) (v := 1) d_MO_add_25 (by decide) ?_
    refine xj_iadd (pc := 26) d_MO_add_26 ?_
    refine xj_putI (pc := 27) d_MO_add_27 fl_MO_50 fp_MO_many rfl rfl ?_
    refine xj_vret (pc := 30) d_MO_add_30 rfl ?_
    refine ⟨rfl, ?_⟩
    first | exact mb_in h hl | (rw [n_lt, n_200] at h7; exact Ms.rf (h.ext (by omega)))
theorem ly_fin {L : List Int32} {q s t : Nat} (hs : s ≤ q) (hq : q ≤ max s t) (h : t ≤ q ∨ L.length ≤ q) : (L.take q).drop s = (L.take t).drop s := by
  apply List.ext_getElem?
  intro i
  simp only [List.getElem?_drop, List.getElem?_take]
  by_cases hl : s + i < L.length
  · by_cases h1 : s + i < q
    · rw [if_pos h1, if_pos (by omega)]
    · rw [if_neg h1, if_neg (by omega)]
  · rw [List.getElem?_eq_none (by omega)]; simp
theorem s_MO_lay_l {s : Nat} {fr to : Int64} (hr : r < 10) (hL : Mr F r L) : ∀ (n q : Nat) (x : Int64) (I1 : XI) (F1 : XF), L.length - q = n → x.toInt = q → s ≤ q → q ≤ max s to.toInt.toNat → Ms (M ++ (L.take q).drop s) I F I1 F1 →
    XJ none m_MO_lay 13 [some (.ref 36), some (.int (nI r)), some (.long fr), none, some (.long to), none, some (.long x), none] [] I1 F1 (fun rv I2 F2 => rv = none ∧ Ms (M ++ (L.take to.toInt.toNat).drop s) I F I2 F2) := by
  have h200 := hL.2.1
  intro n
  induction n with
  | zero =>
    intro q x I1 F1 hn hx hs hq g1
    have hsz : (F1 21 r).toInt = L.length := (g1.nx.mr hL).sz
    have efin : (L.take q).drop s = (L.take to.toInt.toNat).drop s := ly_fin hs hq (Or.inr (by omega))
    refine xj_lload (pc := 13) d_MO_lay_13 rfl ?_
    refine xj_lload (pc := 15) d_MO_lay_15 rfl ?_
    refine xj_lcmp (pc := 17) d_MO_lay_17 ?_
    refine xj_if_ge (pc := 18) (tgt := 55) d_MO_lay_18 (by decide) (fun h18 => ?_) (fun h18 => ?_)
    · refine xj_vret (pc := 55) d_MO_lay_55 rfl ?_
      exact ⟨rfl, by rw [← efin]; exact g1⟩
    · refine xj_lload (pc := 21) d_MO_lay_21 rfl ?_
      refine xj_aload_n (pc := 23) d_MO_lay_23 rfl rfl ?_
      refine xj_getR (pc := 24) d_MO_lay_24 fl_MO_16 rfl rfl ?_
      refine xj_iload_n (pc := 27) d_MO_lay_27 rfl rfl ?_
      refine xj_iald (pc := 28) d_MO_lay_28 (n := 10) (x := 21) rfl rfl hr (by decide) ?_
      refine xj_i2l (pc := 29) d_MO_lay_29 ?_
      refine xj_lcmp (pc := 30) d_MO_lay_30 ?_
      refine xj_if_ge (pc := 31) (tgt := 55) d_MO_lay_31 (by decide) (fun h31 => ?_) (fun h31 => absurd (by rw [c_ge, hx, l_of, hsz]; omega) h31)
      refine xj_vret (pc := 55) d_MO_lay_55 rfl ?_
      exact ⟨rfl, by rw [← efin]; exact g1⟩
  | succ n ih =>
    intro q x I1 F1 hn hx hs hq g1
    have hL1 := g1.nx.mr hL
    have hsz : (F1 21 r).toInt = L.length := hL1.sz
    have hget : L[q]? = some L[q] := List.getElem?_eq_getElem (by omega)
    have ex : x.toInt32 = nI q := n_of (by rw [l_i (by omega) (by omega), hx])
    have ex1 : (x + 1).toInt = q + 1 := by rw [l_add (by rw [l_1]; omega) (by rw [l_1]; omega), l_1, hx]
    refine xj_lload (pc := 13) d_MO_lay_13 rfl ?_
    refine xj_lload (pc := 15) d_MO_lay_15 rfl ?_
    refine xj_lcmp (pc := 17) d_MO_lay_17 ?_
    refine xj_if_ge (pc := 18) (tgt := 55) d_MO_lay_18 (by decide) (fun h18 => ?_) (fun h18 => ?_)
    · refine xj_vret (pc := 55) d_MO_lay_55 rfl ?_
      rw [c_ge, hx] at h18
      exact ⟨rfl, by rw [← ly_fin (L := L) hs hq (Or.inl (by omega))]; exact g1⟩
    · refine xj_lload (pc := 21) d_MO_lay_21 rfl ?_
      refine xj_aload_n (pc := 23) d_MO_lay_23 rfl rfl ?_
      refine xj_getR (pc := 24) d_MO_lay_24 fl_MO_16 rfl rfl ?_
      refine xj_iload_n (pc := 27) d_MO_lay_27 rfl rfl ?_
      refine xj_iald (pc := 28) d_MO_lay_28 (n := 10) (x := 21) rfl rfl hr (by decide) ?_
      refine xj_i2l (pc := 29) d_MO_lay_29 ?_
      refine xj_lcmp (pc := 30) d_MO_lay_30 ?_
      refine xj_if_ge (pc := 31) (tgt := 55) d_MO_lay_31 (by decide) (fun h31 => absurd h31 (by rw [c_ge, hx, l_of, hsz]; omega)) (fun h31 => ?_)
      refine xj_aload_n (pc := 34) d_MO_lay_34 rfl rfl ?_
      refine xj_aload_n (pc := 35) d_MO_lay_35 rfl rfl ?_
      refine xj_iload_n (pc := 36) d_MO_lay_36 rfl rfl ?_
      refine xj_lload (pc := 37) d_MO_lay_37 rfl ?_
      refine xj_l2i (pc := 39) d_MO_lay_39 ?_
      rw [ex]
      refine xj_callV (pc := 40) d_MO_lay_40 ml_MO_46 ok_MO_of (s_MO_ofL hr hL1 hget) rfl rfl rfl rfl rfl (Nat.le_of_ble_eq_true rfl) (by decide) ?_
      rintro rv I1 F1 ⟨rfl, rfl, rfl⟩
      dsimp only [Option.toList, List.cons_append, List.nil_append]
      refine xj_callV (pc := 43) d_MO_lay_43 ml_MO_53 ok_MO_add (s_MO_add g1.2.2) rfl rfl rfl rfl rfl (Nat.le_of_ble_eq_true rfl) (by decide) ?_
      rintro rv I2 F2 ⟨rfl, g2⟩
      rw [List.append_assoc, ← sl_succ hget hs] at g2
      replace g2 := g1.tr g2
      dsimp only [Option.toList, List.cons_append, List.nil_append]
      refine xj_lload (pc := 46) d_MO_lay_46 rfl ?_
      refine xj_lconst (pc := 48) (v := 1) d_MO_lay_48 (by decide) ?_
      refine xj_ladd (pc := 49) d_MO_lay_49 ?_
      refine xj_lstore (pc := 50) d_MO_lay_50 (by decide) rfl ?_
      dsimp only [xset, xset2, xkill]
      refine xj_goto (pc := 52) (tgt := 13) d_MO_lay_52 (by decide) ?_
      rw [c_ge, hx] at h18
      exact ih (q + 1) _ I2 F2 (by omega) ex1 (by omega) (by omega) g2
theorem s_MO_lay {fr to : Int64} (hr : r < 10) (hL : Mr F r L) (hM : Mb I F M) (hf : fr.toInt < 4611686018427387904) : XM m_MO_lay [.ref 36, .int (nI r), .long fr, .long to] I F (fun rv I2 F2 => rv = none ∧ Ms (M ++ (L.take to.toInt.toNat).drop fr.toInt.toNat) I F I2 F2) := by
  refine XM.of (by decide) (Nat.le_of_ble_eq_true rfl) ?_
  dsimp only [xargs]
  have g0 : Ms (M ++ (L.take fr.toInt.toNat).drop fr.toInt.toNat) I F I F := Ms.rf (by rw [List.drop_take_self, List.append_nil]; exact hM)
  refine xj_lload_n (pc := 0) d_MO_lay_0 rfl rfl ?_
  refine xj_lconst (pc := 1) (v := 0) d_MO_lay_1 (by decide) ?_
  refine xj_lcmp (pc := 2) d_MO_lay_2 ?_
  refine xj_if_ge (pc := 3) (tgt := 10) d_MO_lay_3 (by decide) (fun h3 => ?_) (fun h3 => ?_)
  · refine xj_lload_n (pc := 10) d_MO_lay_10 rfl rfl ?_
    refine xj_lstore (pc := 11) d_MO_lay_11 (by decide) rfl ?_
    dsimp only [xset, xset2, xkill]
    first | (rw [c_ge, l_0] at h3; exact s_MO_lay_l hr hL _ fr.toInt.toNat _ I F rfl (by first | (rw [l_0]; omega) | omega) (Nat.le_refl _) (by omega) g0)
  · refine xj_lconst (pc := 6) (v := 0) d_MO_lay_6 (by decide) ?_
    refine xj_goto (pc := 7) (tgt := 11) d_MO_lay_7 (by decide) ?_
    refine xj_lstore (pc := 11) d_MO_lay_11 (by decide) rfl ?_
    dsimp only [xset, xset2, xkill]
    first | (rw [c_ge, l_0] at h3; exact s_MO_lay_l hr hL _ fr.toInt.toNat _ I F rfl (by first | (rw [l_0]; omega) | omega) (Nat.le_refl _) (by omega) g0)
theorem s_MO_pads_l {n : Int64} {p : Int32} (hp : I 19 = p) : ∀ (m q : Nat) (x : Int64) (I1 : XI) (F1 : XF), 201 - (M.length + q) = m → x.toInt = q → q ≤ n.toInt.toNat → q ≤ 1000 → Ms (M ++ List.replicate q p) I F I1 F1 →
    XJ none m_MO_pads 2 [some (.ref 36), some (.long n), none, some (.long x), none] [] I1 F1 (fun rv I2 F2 => rv = none ∧ Ms (M ++ List.replicate n.toInt.toNat p) I F I2 F2) := by
  have hrep : ∀ q, q ≤ n.toInt.toNat → M ++ List.replicate n.toInt.toNat p = M ++ List.replicate q p ++ List.replicate (n.toInt.toNat - q) p := fun q hq => by rw [List.append_assoc, List.replicate_append_replicate, show q + (n.toInt.toNat - q) = n.toInt.toNat by omega]
  intro m
  induction m with
  | zero =>
    intro q x I1 F1 hm hx hq h1000 g1
    have ht := g1.2.2.ti
    rw [List.length_append, List.length_replicate] at ht
    refine xj_lload_n (pc := 2) d_MO_pads_2 rfl rfl ?_
    refine xj_lload_n (pc := 3) d_MO_pads_3 rfl rfl ?_
    refine xj_lcmp (pc := 4) d_MO_pads_4 ?_
    refine xj_if_ge (pc := 5) (tgt := 33) d_MO_pads_5 (by decide) (fun h5 => ?_) (fun h5 => ?_)
    · refine xj_vret (pc := 33) d_MO_pads_33 rfl ?_
      refine ⟨rfl, ?_⟩
      rw [hrep q hq]
      exact ⟨g1.1, g1.2.1, g1.2.2.ext (by rw [List.length_append, List.length_replicate]; omega)⟩
    · refine xj_aload_n (pc := 8) d_MO_pads_8 rfl rfl ?_
      refine xj_getI (pc := 9) d_MO_pads_9 fl_MO_50 rfl rfl ?_
      refine xj_sipush (pc := 12) (v := 200) d_MO_pads_12 (by decide) ?_
      refine xj_icmp_gt (pc := 15) (tgt := 33) d_MO_pads_15 (by decide) (fun h15 => ?_) (fun h15 => absurd (by rw [n_lt, n_200, ht]; omega) h15)
      refine xj_vret (pc := 33) d_MO_pads_33 rfl ?_
      refine ⟨rfl, ?_⟩
      rw [hrep q hq]
      exact ⟨g1.1, g1.2.1, g1.2.2.ext (by rw [List.length_append, List.length_replicate]; omega)⟩
  | succ m ih =>
    intro q x I1 F1 hm hx hq h1000 g1
    have ht := g1.2.2.ti
    rw [List.length_append, List.length_replicate] at ht
    have ex1 : (x + 1).toInt = q + 1 := by rw [l_add (by rw [l_1]; omega) (by rw [l_1]; omega), l_1, hx]
    refine xj_lload_n (pc := 2) d_MO_pads_2 rfl rfl ?_
    refine xj_lload_n (pc := 3) d_MO_pads_3 rfl rfl ?_
    refine xj_lcmp (pc := 4) d_MO_pads_4 ?_
    refine xj_if_ge (pc := 5) (tgt := 33) d_MO_pads_5 (by decide) (fun h5 => ?_) (fun h5 => ?_)
    · refine xj_vret (pc := 33) d_MO_pads_33 rfl ?_
      rw [c_ge, hx] at h5
      exact ⟨rfl, by rw [show n.toInt.toNat = q by omega]; exact g1⟩
    · refine xj_aload_n (pc := 8) d_MO_pads_8 rfl rfl ?_
      refine xj_getI (pc := 9) d_MO_pads_9 fl_MO_50 rfl rfl ?_
      refine xj_sipush (pc := 12) (v := 200) d_MO_pads_12 (by decide) ?_
      refine xj_icmp_gt (pc := 15) (tgt := 33) d_MO_pads_15 (by decide) (fun h15 => absurd h15 (by rw [n_lt, n_200, ht]; omega)) (fun h15 => ?_)
      refine xj_aload_n (pc := 18) d_MO_pads_18 rfl rfl ?_
      refine xj_aload_n (pc := 19) d_MO_pads_19 rfl rfl ?_
      refine xj_getI (pc := 20) d_MO_pads_20 fl_MO_25 rfl rfl ?_
      rw [g1.1 19 (by decide), hp]
      refine xj_callV (pc := 23) d_MO_pads_23 ml_MO_53 ok_MO_add (s_MO_add g1.2.2) rfl rfl rfl rfl rfl (Nat.le_of_ble_eq_true rfl) (by decide) ?_
      rintro rv I2 F2 ⟨rfl, g2⟩
      rw [List.append_assoc, ← List.replicate_succ'] at g2
      replace g2 := g1.tr g2
      dsimp only [Option.toList, List.cons_append, List.nil_append]
      refine xj_lload_n (pc := 26) d_MO_pads_26 rfl rfl ?_
      refine xj_lconst (pc := 27) (v := 1) d_MO_pads_27 (by decide) ?_
      refine xj_ladd (pc := 28) d_MO_pads_28 ?_
      refine xj_lstore_n (pc := 29) d_MO_pads_29 rfl (by decide) rfl ?_
      dsimp only [xset, xset2, xkill]
      refine xj_goto (pc := 30) (tgt := 2) d_MO_pads_30 (by decide) ?_
      rw [c_ge, hx] at h5
      exact ih (q + 1) _ I2 F2 (by omega) ex1 (by omega) (by omega) g2
theorem s_MO_pads {n : Int64} {p : Int32} (hp : I 19 = p) (hM : Mb I F M) : XM m_MO_pads [.ref 36, .long n] I F (fun rv I2 F2 => rv = none ∧ Ms (M ++ List.replicate n.toInt.toNat p) I F I2 F2) := by
  refine XM.of (by decide) (Nat.le_of_ble_eq_true rfl) ?_
  dsimp only [xargs]
  refine xj_lconst (pc := 0) (v := 0) d_MO_pads_0 (by decide) ?_
  refine xj_lstore_n (pc := 1) d_MO_pads_1 rfl (by decide) rfl ?_
  dsimp only [xset, xset2, xkill]
  exact s_MO_pads_l hp _ 0 _ I F rfl rfl (by omega) (by omega) (Ms.rf (by rw [List.replicate_zero, List.append_nil]; exact hM))
end MOA
