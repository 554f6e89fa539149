section MOB
variable {I I1 I2 : XI} {F F1 F2 : XF} {S : XSt} {r k : Nat} {M X L T : List Int32}
theorem s_MO_keep_l (hI : MI I F S) (hX : NX I F I1 F1) (hM : Mb I1 F1 M) (hk : k < 10) (hl : M.length ≤ 200) : ∀ (m i : Nat) (F2 : XF), i + m = M.length → (∀ x, x ≠ 20 → x ≠ 21 → F2 x = F1 x) → (∀ y, F2 21 y = if y = k then nI M.length else F1 21 y) → (∀ y, F2 20 y = if 200 * k ≤ y ∧ y < 200 * k + i then F1 22 (y - 200 * k) else F1 20 y) →
    XJ none m_MO_keep 25 [some (.ref 36), some (.int (nI k)), some (.int (nI i))] [] I1 F2 (NQ (nI M.length, sPut S (nI k) M) I F) := by
  have ht := hM.ti
  have hmk : I1 18 = nI M.length := by rw [hM.1, Nat.min_eq_left (by omega)]
  intro m
  induction m with
  | zero =>
    intro i F2 hi h1 h2 h3
    have ei : i = M.length := by omega
    subst ei
    refine xj_iload_n (pc := 25) d_MO_keep_25 rfl rfl ?_
    refine xj_aload_n (pc := 26) d_MO_keep_26 rfl rfl ?_
    refine xj_getI (pc := 27) d_MO_keep_27 fl_MO_50 rfl rfl ?_
    refine xj_icmp_ge (pc := 30) (tgt := 57) d_MO_keep_30 (by decide) (fun h30 => ?_) (fun h30 => absurd (by rw [n_le, ht, n_nI (by omega)]; omega) h30)
    refine xj_aload_n (pc := 57) d_MO_keep_57 rfl rfl ?_
    refine xj_getI (pc := 58) d_MO_keep_58 fl_MO_50 rfl rfl ?_
    refine xj_iret (pc := 61) d_MO_keep_61 rfl ?_
    rw [hmk]
    have hI1 := hX.mi hI
    refine ⟨rfl, ⟨⟨hI1.1.1, hI1.1.2.1, fun i b hb => by rw [h1 19 (by decide) (by decide)]; exact hI1.1.2.2 i b hb⟩, fun q hq => ?_, hI1.2.2⟩, hX.nm.1, fun x hx => by rw [h1 x (by omega) (by omega)]; exact hX.nm.2 x hx⟩
    show Mr F2 q (va_up S.2.1 (nI k).toInt.toNat M q)
    rw [n_nI (by omega), Int.toNat_natCast]
    by_cases e : q = k
    · subst e; simp only [va_up, if_pos]; exact ⟨by rw [h2, if_pos rfl], hl, fun i b hb => by (have hlt := (List.getElem?_eq_some_iff.mp hb).1; rw [h3, if_pos (by omega), show 200 * q + i - 200 * q = i by omega]; exact hM.2 i b (by omega) hb)⟩
    · simp only [va_up, if_neg e]; have hq1 := hI1.2.1 q hq; exact ⟨by rw [h2, if_neg e]; exact hq1.1, hq1.2.1, fun i b hb => by (have hlt := (List.getElem?_eq_some_iff.mp hb).1; have := hq1.2.1; rw [h3, if_neg (by omega)]; exact hq1.2.2 i b hb)⟩
  | succ m ih =>
    intro i F2 hi h1 h2 h3
    refine xj_iload_n (pc := 25) d_MO_keep_25 rfl rfl ?_
    refine xj_aload_n (pc := 26) d_MO_keep_26 rfl rfl ?_
    refine xj_getI (pc := 27) d_MO_keep_27 fl_MO_50 rfl rfl ?_
    refine xj_icmp_ge (pc := 30) (tgt := 57) d_MO_keep_30 (by decide) (fun h30 => absurd h30 (by rw [n_le, ht, n_nI (by omega)]; omega)) (fun h30 => ?_)
    refine xj_aload_n (pc := 33) d_MO_keep_33 rfl rfl ?_
    refine xj_getR (pc := 34) d_MO_keep_34 fl_MO_13 rfl rfl ?_
    refine xj_sipush (pc := 37) (v := 200) d_MO_keep_37 (by decide) ?_
    refine xj_iload_n (pc := 40) d_MO_keep_40 rfl rfl ?_
    refine xj_imul (pc := 41) d_MO_keep_41 ?_
    refine xj_iload_n (pc := 42) d_MO_keep_42 rfl rfl ?_
    refine xj_iadd (pc := 43) d_MO_keep_43 ?_
    rw [n200m, n_addN]
    refine xj_aload_n (pc := 44) d_MO_keep_44 rfl rfl ?_
    refine xj_getR (pc := 45) d_MO_keep_45 fl_MO_19 rfl rfl ?_
    refine xj_iload_n (pc := 48) d_MO_keep_48 rfl rfl ?_
    refine xj_iald (pc := 49) d_MO_keep_49 (n := 220) (x := 22) rfl rfl (by omega) (by decide) ?_
    refine xj_iast (pc := 50) d_MO_keep_50 (n := 2000) (x := 20) rfl rfl (by omega) (by decide) ?_
    refine xj_inc1 (pc := 51) d_MO_keep_51 rfl (by decide) rfl ?_
    dsimp only [xset, xset2, xkill]
    rw [n_up]
    refine xj_goto (pc := 54) (tgt := 25) d_MO_keep_54 (by decide) ?_
    refine ih (i + 1) _ (by omega) (fun x a b => by simp only [va_up, if_neg a]; exact h1 x a b) (fun y => by simp only [va_up, if_neg (show ¬ (21 : Nat) = 20 by decide)]; exact h2 y) (fun y => ?_)
    simp only [va_up, if_pos, upd]
    by_cases e : y = 200 * k + i
    · subst e; rw [if_pos rfl, if_pos (by omega), h1 22 (by decide) (by decide), show 200 * k + i - 200 * k = i by omega]
    · rw [if_neg e, h3]; by_cases e2 : 200 * k ≤ y ∧ y < 200 * k + i; (rw [if_pos e2, if_pos (by omega)]); (rw [if_neg e2, if_neg (by omega)])
theorem s_MO_keep (hI : MI I F S) (hX : NX I F I1 F1) (hM : Mb I1 F1 M) (hk : k < 10) : XM m_MO_keep [.ref 36, .int (nI k)] I1 F1 (NQ (sMk S (nI k) M) I F) := by
  refine XM.of (by decide) (Nat.le_of_ble_eq_true rfl) ?_
  dsimp only [xargs]
  have ht := hM.ti
  refine xj_aload_n (pc := 0) d_MO_keep_0 rfl rfl ?_
  refine xj_getI (pc := 1) d_MO_keep_1 fl_MO_50 rfl rfl ?_
  refine xj_sipush (pc := 4) (v := 200) d_MO_keep_4 (by decide) ?_
  refine xj_icmp_le (pc := 7) (tgt := 13) d_MO_keep_7 (by decide) (fun h7 => ?_) (fun h7 => ?_)
  · simp only [n_lt, n_le, c_gt, c_le, c_lt, c_ge, not_lt_i, not_le_i, n_0, n_1, n_2, n_3, n_4, n_m1, n_10, n_200, n_240, n_256] at h7
    rw [sMk, if_neg (by omega)]
    refine xj_aload_n (pc := 13) d_MO_keep_13 rfl rfl ?_
    refine xj_getR (pc := 14) d_MO_keep_14 fl_MO_16 rfl rfl ?_
    refine xj_iload_n (pc := 17) d_MO_keep_17 rfl rfl ?_
    refine xj_aload_n (pc := 18) d_MO_keep_18 rfl rfl ?_
    refine xj_getI (pc := 19) d_MO_keep_19 fl_MO_50 rfl rfl ?_
    refine xj_iast (pc := 22) d_MO_keep_22 (n := 10) (x := 21) rfl rfl hk (by decide) ?_
    refine xj_iconst (pc := 23) (v := 0) d_MO_keep_23 (by decide) ?_
    refine xj_istore_n (pc := 24) d_MO_keep_24 rfl (by decide) rfl ?_
    dsimp only [xset, xset2, xkill]
    refine s_MO_keep_l hI hX hM hk (by omega) M.length 0 _ (by omega) (fun x a b => by simp only [va_up, if_neg b]) (fun y => ?_) (fun y => ?_)
    · simp only [va_up, if_pos, upd]; rw [hM.1, Nat.min_eq_left (by omega)]
    · simp only [va_up, if_neg (show ¬ (20 : Nat) = 21 by decide)]; rw [if_neg (by omega)]
  · simp only [n_lt, n_le, c_gt, c_le, c_lt, c_ge, not_lt_i, not_le_i, n_0, n_1, n_2, n_3, n_4, n_m1, n_10, n_200, n_240, n_256] at h7
    refine xj_bipush (pc := 10) (v := -4) d_MO_keep_10 (by decide) ?_
    refine xj_iret (pc := 12) d_MO_keep_12 rfl ?_
    rw [sMk, if_pos (by omega)]
    exact nk_ansX hI hX
/-! the tape -/
def NT (T : List Int32) (I : XI) (F : XF) (I1 : XI) (F1 : XF) : Prop := (∀ x, x ≠ 17 → I1 x = I x) ∧ (∀ x, x ≠ 19 → F1 x = F x) ∧ I1 17 = nI T.length ∧ T.length ≤ 240 ∧ ∀ i b, T[i]? = some b → F1 19 i = b
theorem NT.tr (h : NT T I F I1 F1) (h2 : NT X I1 F1 I2 F2) : NT X I F I2 F2 := ⟨fun x a => (h2.1 x a).trans (h.1 x a), fun x a => (h2.2.1 x a).trans (h.2.1 x a), h2.2.2⟩
theorem nk_tape {v : Int32} (h : MI I F S) (hR : NT T I F I1 F1) : NQ (v, (T, S.2)) I F (some (.int v)) I1 F1 :=
  ⟨rfl, ⟨⟨hR.2.2.1, hR.2.2.2.1, hR.2.2.2.2⟩, fun r hr => (h.2.1 r hr).kp (hR.2.1 20 (by decide)) (hR.2.1 21 (by decide)), by rw [hR.1 19 (by decide)]; exact h.2.2⟩, fun x hx => hR.1 x (by omega), fun x hx => hR.2.1 x (by omega)⟩
theorem s_MO_four_it {v sh sh2 : Int32} {P : XP} (hs : ¬ sh < 0) (e : sh + (-8) = sh2) (hR : NT T I F I1 F1) (hl : T.length < 240)
    (kk : ∀ (I2 : XI) (F2 : XF), NT (T ++ [(v >>> (sh &&& 31)) &&& 255]) I F I2 F2 → XJ none m_MO_four 3 [some (.ref 36), some (.int v), some (.int sh2)] [] I2 F2 P) :
    XJ none m_MO_four 3 [some (.ref 36), some (.int v), some (.int sh)] [] I1 F1 P := by
  refine xj_iload_n (pc := 3) d_MO_four_3 rfl rfl ?_
  refine xj_if_lt (pc := 4) (tgt := 39) d_MO_four_4 (by decide) (fun h4 => absurd h4 (hs)) (fun h4 => ?_)
  refine xj_aload_n (pc := 7) d_MO_four_7 rfl rfl ?_
  refine xj_getR (pc := 8) d_MO_four_8 fl_MO_7 rfl rfl ?_
  refine xj_aload_n (pc := 11) d_MO_four_11 rfl rfl ?_
  refine xj_getI (pc := 12) d_MO_four_12 fl_MO_35 rfl rfl ?_
  refine xj_iload_n (pc := 15) d_MO_four_15 rfl rfl ?_
  refine xj_iload_n (pc := 16) d_MO_four_16 rfl rfl ?_
  refine xj_ishr (pc := 17) d_MO_four_17 ?_
  refine xj_sipush (pc := 18) (v := 255) d_MO_four_18 (by decide) ?_
  refine xj_iand (pc := 21) d_MO_four_21 ?_
  refine xj_iast (pc := 22) d_MO_four_22 (n := 240) (x := 19) (j := T.length) rfl hR.2.2.1 hl (by decide) ?_
  refine xj_aload_n (pc := 23) d_MO_four_23 rfl rfl ?_
  refine xj_dup (pc := 24) d_MO_four_24 rfl ?_
  refine xj_getI (pc := 25) d_MO_four_25 fl_MO_35 rfl rfl ?_
  refine xj_iconst (pc := 28) (v := 1) d_MO_four_28 (by decide) ?_
  refine xj_iadd (pc := 29) d_MO_four_29 ?_
  refine xj_putI (pc := 30) d_MO_four_30 fl_MO_35 fp_MO_taped rfl rfl ?_
  refine xj_incm8 (pc := 33) d_MO_four_33 rfl (by decide) rfl ?_
  dsimp only [xset, xset2, xkill]
  rw [e]
  refine xj_goto (pc := 36) (tgt := 3) d_MO_four_36 (by decide) ?_
  refine kk _ _ ⟨fun x a => by simp only [upd, if_neg a]; exact hR.1 x a, fun x a => by simp only [va_up, if_neg a]; exact hR.2.1 x a, ?_, by simp; omega, fun i b hb => ?_⟩
  · simp only [upd, if_pos]; rw [hR.2.2.1, n_up]; simp
  · simp only [va_up, if_pos, upd]; by_cases ei : i = T.length; (subst ei; rw [List.getElem?_append_right (Nat.le_refl _), Nat.sub_self] at hb; rw [if_pos rfl]; exact Option.some.inj hb); (rw [if_neg ei]; have hlt : i < T.length := (by have := (List.getElem?_eq_some_iff.mp hb).1; simp at this; omega); rw [List.getElem?_append_left hlt] at hb; exact hR.2.2.2.2 i b hb)
theorem s_MO_four {v : Int32} (hR : NT T I F I F) (hl : T.length + 4 ≤ 240) : XM m_MO_four [.ref 36, .int v] I F (fun rv I1 F1 => rv = none ∧ NT (T ++ fb v) I F I1 F1) := by
  refine XM.of (by decide) (Nat.le_of_ble_eq_true rfl) ?_
  dsimp only [xargs]
  refine xj_bipush (pc := 0) (v := 24) d_MO_four_0 (by decide) ?_
  refine xj_istore_n (pc := 2) d_MO_four_2 rfl (by decide) rfl ?_
  dsimp only [xset, xset2, xkill]
  refine s_MO_four_it (by decide) (show (24 : Int32) + (-8) = 16 by decide) hR (by omega) (fun I1 F1 g1 => ?_)
  refine s_MO_four_it (by decide) (show (16 : Int32) + (-8) = 8 by decide) g1 (by simp; omega) (fun I2 F2 g2 => ?_)
  refine s_MO_four_it (by decide) (show (8 : Int32) + (-8) = 0 by decide) g2 (by simp; omega) (fun I3 F3 g3 => ?_)
  refine s_MO_four_it (by decide) (show (0 : Int32) + (-8) = -8 by decide) g3 (by simp; omega) (fun I4 F4 g4 => ?_)
  refine xj_iload_n (pc := 3) d_MO_four_3 rfl rfl ?_
  refine xj_if_lt (pc := 4) (tgt := 39) d_MO_four_4 (by decide) (fun h4 => ?_) (fun h4 => absurd (by decide) h4)
  refine xj_vret (pc := 39) d_MO_four_39 rfl ?_
  refine ⟨rfl, ?_⟩
  rw [List.append_assoc, List.append_assoc, List.append_assoc] at g4
  exact g4
theorem NT.self (h : NT T I F I1 F1) : NT T I1 F1 I1 F1 := ⟨fun _ _ => rfl, fun _ _ => rfl, h.2.2⟩
theorem t_MO_feed {a b c d e : Int32} (hI : MI I F S) : XM m_MO_feed [.ref 36, .int a, .int b, .int c, .int d, .int e] I F (NQ (sp_feed S a b c d e) I F) := by
  refine XM.of (by decide) (Nat.le_of_ble_eq_true rfl) ?_
  dsimp only [xargs]
  have hT : NT S.1 I F I F := ⟨fun _ _ => rfl, fun _ _ => rfl, hI.1⟩
  have hTl := hI.1.2.1
  have eT : (I 17).toInt = S.1.length := by rw [hI.1.1, n_nI (by omega)]
  refine xj_aload_n (pc := 0) d_MO_feed_0 rfl rfl ?_
  refine xj_getI (pc := 1) d_MO_feed_1 fl_MO_35 rfl rfl ?_
  refine xj_bipush (pc := 4) (v := 20) d_MO_feed_4 (by decide) ?_
  refine xj_iadd (pc := 6) d_MO_feed_6 ?_
  refine xj_sipush (pc := 7) (v := 240) d_MO_feed_7 (by decide) ?_
  have e1 : (I 17 + 20).toInt = S.1.length + 20 := by rw [n_add (by rw [n_20]; omega) (by rw [n_20]; omega), n_20, eT]
  refine xj_icmp_le (pc := 10) (tgt := 16) d_MO_feed_10 (by decide) (fun h10 => ?_) (fun h10 => ?_)
  · rw [n_le, e1, n_240] at h10
    refine xj_aload_n (pc := 16) d_MO_feed_16 rfl rfl ?_
    refine xj_iload_n (pc := 17) d_MO_feed_17 rfl rfl ?_
    refine xj_callV (pc := 18) d_MO_feed_18 ml_MO_38 ok_MO_four (s_MO_four hT (by omega)) rfl rfl rfl rfl rfl (Nat.le_of_ble_eq_true rfl) (by decide) ?_
    rintro rv I1 F1 ⟨rfl, g1⟩
    dsimp only [Option.toList, List.cons_append, List.nil_append]
    refine xj_aload_n (pc := 21) d_MO_feed_21 rfl rfl ?_
    refine xj_iload_n (pc := 22) d_MO_feed_22 rfl rfl ?_
    refine xj_callV (pc := 23) d_MO_feed_23 ml_MO_38 ok_MO_four (s_MO_four g1.self (by simp only [List.length_append, fb_len]; omega)) rfl rfl rfl rfl rfl (Nat.le_of_ble_eq_true rfl) (by decide) ?_
    rintro rv I2 F2 ⟨rfl, g2⟩
    replace g2 := g1.tr g2
    dsimp only [Option.toList, List.cons_append, List.nil_append]
    refine xj_aload_n (pc := 26) d_MO_feed_26 rfl rfl ?_
    refine xj_iload_n (pc := 27) d_MO_feed_27 rfl rfl ?_
    refine xj_callV (pc := 28) d_MO_feed_28 ml_MO_38 ok_MO_four (s_MO_four g2.self (by simp only [List.length_append, fb_len]; omega)) rfl rfl rfl rfl rfl (Nat.le_of_ble_eq_true rfl) (by decide) ?_
    rintro rv I3 F3 ⟨rfl, g3⟩
    replace g3 := g2.tr g3
    dsimp only [Option.toList, List.cons_append, List.nil_append]
    refine xj_aload_n (pc := 31) d_MO_feed_31 rfl rfl ?_
    refine xj_iload (pc := 32) d_MO_feed_32 rfl ?_
    refine xj_callV (pc := 34) d_MO_feed_34 ml_MO_38 ok_MO_four (s_MO_four g3.self (by simp only [List.length_append, fb_len]; omega)) rfl rfl rfl rfl rfl (Nat.le_of_ble_eq_true rfl) (by decide) ?_
    rintro rv I4 F4 ⟨rfl, g4⟩
    replace g4 := g3.tr g4
    dsimp only [Option.toList, List.cons_append, List.nil_append]
    refine xj_aload_n (pc := 37) d_MO_feed_37 rfl rfl ?_
    refine xj_iload (pc := 38) d_MO_feed_38 rfl ?_
    refine xj_callV (pc := 40) d_MO_feed_40 ml_MO_38 ok_MO_four (s_MO_four g4.self (by simp only [List.length_append, fb_len]; omega)) rfl rfl rfl rfl rfl (Nat.le_of_ble_eq_true rfl) (by decide) ?_
    rintro rv I5 F5 ⟨rfl, g5⟩
    replace g5 := g4.tr g5
    dsimp only [Option.toList, List.cons_append, List.nil_append]
    refine xj_aload_n (pc := 43) d_MO_feed_43 rfl rfl ?_
    refine xj_getI (pc := 44) d_MO_feed_44 fl_MO_35 rfl rfl ?_
    refine xj_iret (pc := 47) d_MO_feed_47 rfl ?_
    rw [sp_feed, if_neg (by omega), g5.2.2.1]
    rw [show (S.1 ++ fb a ++ fb b ++ fb c ++ fb d ++ fb e).length = S.1.length + 20 by simp only [List.length_append, fb_len]]
    exact nk_tape hI g5
  · refine xj_bipush (pc := 13) (v := -4) d_MO_feed_13 (by decide) ?_
    refine xj_iret (pc := 15) d_MO_feed_15 rfl ?_
    rw [n_le, e1, n_240] at h10
    rw [sp_feed, if_pos (by omega)]
    exact nk_ans hI
theorem t_MO_end {n : Int32} (hI : MI I F S) : XM m_MO_end [.ref 36, .int n] I F (NQ (sp_end S n) I F) := by
  refine XM.of (by decide) (Nat.le_of_ble_eq_true rfl) ?_
  dsimp only [xargs]
  have hTl := hI.1.2.1
  have eT : (I 17).toInt = S.1.length := by rw [hI.1.1, n_nI (by omega)]
  refine xj_iload_n (pc := 0) d_MO_end_0 rfl rfl ?_
  refine xj_if_lt (pc := 1) (tgt := 12) d_MO_end_1 (by decide) (fun h1 => ?_) (fun h1 => ?_)
  · simp only [n_lt, n_le, c_gt, c_le, c_lt, c_ge, not_lt_i, not_le_i, n_0, n_1, n_2, n_3, n_4, n_m1, n_10, n_200, n_240, n_256] at h1
    refine xj_iconst (pc := 12) (v := -1) d_MO_end_12 (by decide) ?_
    refine xj_iret (pc := 13) d_MO_end_13 rfl ?_
    exact nk_none hI (if_pos (by omega))
  · simp only [n_lt, n_le, c_gt, c_le, c_lt, c_ge, not_lt_i, not_le_i, n_0, n_1, n_2, n_3, n_4, n_m1, n_10, n_200, n_240, n_256] at h1
    refine xj_iload_n (pc := 4) d_MO_end_4 rfl rfl ?_
    refine xj_aload_n (pc := 5) d_MO_end_5 rfl rfl ?_
    refine xj_getI (pc := 6) d_MO_end_6 fl_MO_35 rfl rfl ?_
    refine xj_icmp_le (pc := 9) (tgt := 14) d_MO_end_9 (by decide) (fun h9 => ?_) (fun h9 => ?_)
    · simp only [n_lt, n_le, c_gt, c_le, c_lt, c_ge, not_lt_i, not_le_i, n_0, n_1, n_2, n_3, n_4, n_m1, n_10, n_200, n_240, n_256] at h9
      refine xj_aload_n (pc := 14) d_MO_end_14 rfl rfl ?_
      refine xj_iload_n (pc := 15) d_MO_end_15 rfl rfl ?_
      refine xj_putI (pc := 16) d_MO_end_16 fl_MO_35 fp_MO_taped rfl rfl ?_
      refine xj_iload_n (pc := 19) d_MO_end_19 rfl rfl ?_
      refine xj_iret (pc := 20) d_MO_end_20 rfl ?_
      rw [sp_end, if_neg (by omega)]
      exact nk_tape hI ⟨fun x a => by simp only [upd, if_neg a], fun _ _ => rfl, by simp only [upd, if_pos]; exact n_of (by rw [List.length_take]; omega), by rw [List.length_take]; omega, fun i b hb => by (rw [List.getElem?_take] at hb; split at hb; exact hI.1.2.2 i b hb; cases hb)⟩
    · simp only [n_lt, n_le, c_gt, c_le, c_lt, c_ge, not_lt_i, not_le_i, n_0, n_1, n_2, n_3, n_4, n_m1, n_10, n_200, n_240, n_256] at h9
      refine xj_iconst (pc := 12) (v := -1) d_MO_end_12 (by decide) ?_
      refine xj_iret (pc := 13) d_MO_end_13 rfl ?_
      exact nk_none hI (if_pos (by omega))
theorem t_MO_put_l {T : List Int32} (hI : MI I F (T, S.2)) (hk : k < 10) (hl : T.length ≤ 200) : ∀ (m i : Nat) (F2 : XF), i + m = T.length → (∀ x, x ≠ 20 → F2 x = F x) → (∀ y, F2 20 y = if 200 * k ≤ y ∧ y < 200 * k + i then F 19 (y - 200 * k) else F 20 y) →
    XJ none m_MO_put 24 [some (.ref 36), some (.int (nI k)), some (.int (nI i))] [] I F2 (NQ (nI T.length, ([], va_up S.2.1 k T, S.2.2)) I F) := by
  have eT : (I 17).toInt = T.length := by rw [hI.1.1, n_nI (by show T.length < _; omega)]
  intro m
  induction m with
  | zero =>
    intro i F2 hi h1 h3
    have ei : i = T.length := by omega
    subst ei
    refine xj_iload_n (pc := 24) d_MO_put_24 rfl rfl ?_
    refine xj_aload_n (pc := 25) d_MO_put_25 rfl rfl ?_
    refine xj_getI (pc := 26) d_MO_put_26 fl_MO_35 rfl rfl ?_
    refine xj_icmp_ge (pc := 29) (tgt := 56) d_MO_put_29 (by decide) (fun h29 => ?_) (fun h29 => absurd (by rw [n_le, eT, n_nI (by omega)]; omega) h29)
    refine xj_aload_n (pc := 56) d_MO_put_56 rfl rfl ?_
    refine xj_getR (pc := 57) d_MO_put_57 fl_MO_16 rfl rfl ?_
    refine xj_iload_n (pc := 60) d_MO_put_60 rfl rfl ?_
    refine xj_aload_n (pc := 61) d_MO_put_61 rfl rfl ?_
    refine xj_getI (pc := 62) d_MO_put_62 fl_MO_35 rfl rfl ?_
    refine xj_iast (pc := 65) d_MO_put_65 (n := 10) (x := 21) rfl rfl hk (by decide) ?_
    refine xj_aload_n (pc := 66) d_MO_put_66 rfl rfl ?_
    refine xj_iconst (pc := 67) (v := 0) d_MO_put_67 (by decide) ?_
    refine xj_putI (pc := 68) d_MO_put_68 fl_MO_35 fp_MO_taped rfl rfl ?_
    refine xj_aload_n (pc := 71) d_MO_put_71 rfl rfl ?_
    refine xj_getR (pc := 72) d_MO_put_72 fl_MO_16 rfl rfl ?_
    refine xj_iload_n (pc := 75) d_MO_put_75 rfl rfl ?_
    refine xj_iald (pc := 76) d_MO_put_76 (n := 10) (x := 21) rfl rfl hk (by decide) ?_
    refine xj_iret (pc := 77) d_MO_put_77 rfl ?_
    refine ⟨by simp only [va_up, if_pos, upd]; rw [hI.1.1], ⟨⟨by simp only [upd, if_pos]; rfl, Nat.zero_le _, fun i b hb => by simp at hb⟩, fun q hq => ?_, by simp only [upd, if_neg (show ¬ (19 : Nat) = 17 by decide)]; exact hI.2.2⟩, fun x hx => by simp only [upd, if_neg (show ¬ x = 17 by omega)], fun x hx => by simp only [va_up, if_neg (show ¬ x = 21 by omega)]; exact h1 x (by omega)⟩
    show Mr _ q (va_up S.2.1 k T q)
    by_cases e : q = k
    · subst e; simp only [va_up, if_pos]; exact ⟨by simp only [va_up, if_pos, upd]; exact hI.1.1, hl, fun i b hb => by (have hlt := (List.getElem?_eq_some_iff.mp hb).1; simp only [va_up, if_neg (show ¬ (20 : Nat) = 21 by decide)]; rw [h3, if_pos (by omega), show 200 * q + i - 200 * q = i by omega]; exact hI.1.2.2 i b hb)⟩
    · simp only [va_up, if_neg e]; have hq1 := hI.2.1 q hq; have hq2 : (S.2.1 q).length ≤ 200 := hq1.2.1; exact ⟨by simp only [va_up, if_pos, upd, if_neg e]; rw [h1 21 (by decide)]; exact hq1.1, hq1.2.1, fun i b hb => by (have hlt := (List.getElem?_eq_some_iff.mp hb).1; have := hq1.2.1; simp only [va_up, if_neg (show ¬ (20 : Nat) = 21 by decide)]; rw [h3, if_neg (by omega)]; exact hq1.2.2 i b hb)⟩
  | succ m ih =>
    intro i F2 hi h1 h3
    refine xj_iload_n (pc := 24) d_MO_put_24 rfl rfl ?_
    refine xj_aload_n (pc := 25) d_MO_put_25 rfl rfl ?_
    refine xj_getI (pc := 26) d_MO_put_26 fl_MO_35 rfl rfl ?_
    refine xj_icmp_ge (pc := 29) (tgt := 56) d_MO_put_29 (by decide) (fun h29 => absurd h29 (by rw [n_le, eT, n_nI (by omega)]; omega)) (fun h29 => ?_)
    refine xj_aload_n (pc := 32) d_MO_put_32 rfl rfl ?_
    refine xj_getR (pc := 33) d_MO_put_33 fl_MO_13 rfl rfl ?_
    refine xj_sipush (pc := 36) (v := 200) d_MO_put_36 (by decide) ?_
    refine xj_iload_n (pc := 39) d_MO_put_39 rfl rfl ?_
    refine xj_imul (pc := 40) d_MO_put_40 ?_
    refine xj_iload_n (pc := 41) d_MO_put_41 rfl rfl ?_
    refine xj_iadd (pc := 42) d_MO_put_42 ?_
    rw [n200m, n_addN]
    refine xj_aload_n (pc := 43) d_MO_put_43 rfl rfl ?_
    refine xj_getR (pc := 44) d_MO_put_44 fl_MO_7 rfl rfl ?_
    refine xj_iload_n (pc := 47) d_MO_put_47 rfl rfl ?_
    refine xj_iald (pc := 48) d_MO_put_48 (n := 240) (x := 19) rfl rfl (by omega) (by decide) ?_
    refine xj_iast (pc := 49) d_MO_put_49 (n := 2000) (x := 20) rfl rfl (by omega) (by decide) ?_
    refine xj_inc1 (pc := 50) d_MO_put_50 rfl (by decide) rfl ?_
    dsimp only [xset, xset2, xkill]
    rw [n_up]
    refine xj_goto (pc := 53) (tgt := 24) d_MO_put_53 (by decide) ?_
    refine ih (i + 1) _ (by omega) (fun x a => by simp only [va_up, if_neg a]; exact h1 x a) (fun y => ?_)
    simp only [va_up, if_pos, upd]
    by_cases e : y = 200 * k + i
    · subst e; rw [if_pos rfl, if_pos (by omega), h1 19 (by decide), show 200 * k + i - 200 * k = i by omega]
    · rw [if_neg e, h3]; by_cases e2 : 200 * k ≤ y ∧ y < 200 * k + i; (rw [if_pos e2, if_pos (by omega)]); (rw [if_neg e2, if_neg (by omega)])
theorem t_MO_put {r : Int32} (hI : MI I F S) : XM m_MO_put [.ref 36, .int r] I F (NQ (sp_put S r) I F) := by
  refine XM.of (by decide) (Nat.le_of_ble_eq_true rfl) ?_
  dsimp only [xargs]
  have hTl := hI.1.2.1
  have eT : (I 17).toInt = S.1.length := by rw [hI.1.1, n_nI (by omega)]
  refine xj_iload_n (pc := 0) d_MO_put_0 rfl rfl ?_
  refine xj_callS (pc := 1) d_MO_put_1 ml_MO_42 ok_MO_is (s_MO_is) rfl rfl rfl (Nat.le_of_ble_eq_true rfl) (by decide) ?_
  rintro rv I1 F1 ⟨rfl, rfl, rfl⟩
  dsimp only [Option.toList, List.cons_append, List.nil_append]
  refine xj_if_ne (pc := 4) (tgt := 9) d_MO_put_4 (by decide) (fun h4 => ?_) (fun h4 => ?_)
  · have hr := b01_ne h4
    obtain ⟨kr, hkr, rfl, tr⟩ := isR_k hr
    refine xj_aload_n (pc := 9) d_MO_put_9 rfl rfl ?_
    refine xj_getI (pc := 10) d_MO_put_10 fl_MO_35 rfl rfl ?_
    refine xj_sipush (pc := 13) (v := 200) d_MO_put_13 (by decide) ?_
    refine xj_icmp_le (pc := 16) (tgt := 22) d_MO_put_16 (by decide) (fun h16 => ?_) (fun h16 => ?_)
    · rw [n_le, n_200] at h16
      rw [sp_put, if_neg (by rw [hr]; decide), if_neg (by omega), tr]
      refine xj_iconst (pc := 22) (v := 0) d_MO_put_22 (by decide) ?_
      refine xj_istore_n (pc := 23) d_MO_put_23 rfl (by decide) rfl ?_
      dsimp only [xset, xset2, xkill]
      exact t_MO_put_l (S := S) (T := S.1) hI hkr (by omega) _ 0 F (by rw [Nat.zero_add]) (fun _ _ => rfl) (fun y => by rw [if_neg (by omega)])
    · refine xj_bipush (pc := 19) (v := -4) d_MO_put_19 (by decide) ?_
      refine xj_iret (pc := 21) d_MO_put_21 rfl ?_
      rw [n_le, n_200] at h16
      rw [sp_put, if_neg (by rw [hr]; decide), if_pos (by omega)]
      exact nk_ans hI
  · refine xj_iconst (pc := 7) (v := -1) d_MO_put_7 (by decide) ?_
    refine xj_iret (pc := 8) d_MO_put_8 rfl ?_
    exact nk_none hI (if_pos (b01_eq h4))
theorem t_MO_at {r i : Int32} (hI : MI I F S) : XM m_MO_at [.ref 36, .int r, .int i] I F (NQ (sp_at S r i, S) I F) := by
  refine XM.of (by decide) (Nat.le_of_ble_eq_true rfl) ?_
  dsimp only [xargs]
  refine xj_iload_n (pc := 0) d_MO_at_0 rfl rfl ?_
  refine xj_callS (pc := 1) d_MO_at_1 ml_MO_42 ok_MO_is (s_MO_is) rfl rfl rfl (Nat.le_of_ble_eq_true rfl) (by decide) ?_
  rintro rv I1 F1 ⟨rfl, rfl, rfl⟩
  dsimp only [Option.toList, List.cons_append, List.nil_append]
  refine xj_if_eq (pc := 4) (tgt := 30) d_MO_at_4 (by decide) (fun h4 => ?_) (fun h4 => ?_)
  · refine xj_iconst (pc := 30) (v := -1) d_MO_at_30 (by decide) ?_
    refine xj_iret (pc := 31) d_MO_at_31 rfl ?_
    first | (rw [sp_at, b01_eq h4, if_neg (by decide)]; exact nk_ans hI; done) | (rw [rg, if_pos h8]; exact nk_ans hI; done) | (rw [rg_n (by omega), hget]; exact nk_ans hI; done) | (obtain ⟨q, hq, rfl⟩ := nI_of h8; rw [n_le, hsz, n_nI (by omega)] at h18; rw [rg_n (by omega), List.getElem?_eq_none (by omega)]; exact nk_ans hI)
  · have hr := b01_ne h4
    obtain ⟨kr, hkr, rfl, tr⟩ := isR_k hr
    rw [sp_at, hr, if_pos rfl]
    have hL := hI.at hkr tr
    have hsz := hL.sz
    refine xj_iload_n (pc := 7) d_MO_at_7 rfl rfl ?_
    refine xj_if_lt (pc := 8) (tgt := 30) d_MO_at_8 (by decide) (fun h8 => ?_) (fun h8 => ?_)
    · refine xj_iconst (pc := 30) (v := -1) d_MO_at_30 (by decide) ?_
      refine xj_iret (pc := 31) d_MO_at_31 rfl ?_
      first | (rw [sp_at, b01_eq h4, if_neg (by decide)]; exact nk_ans hI; done) | (rw [rg, if_pos h8]; exact nk_ans hI; done) | (rw [rg_n (by omega), hget]; exact nk_ans hI; done) | (obtain ⟨q, hq, rfl⟩ := nI_of h8; rw [n_le, hsz, n_nI (by omega)] at h18; rw [rg_n (by omega), List.getElem?_eq_none (by omega)]; exact nk_ans hI)
    · refine xj_iload_n (pc := 11) d_MO_at_11 rfl rfl ?_
      refine xj_aload_n (pc := 12) d_MO_at_12 rfl rfl ?_
      refine xj_getR (pc := 13) d_MO_at_13 fl_MO_16 rfl rfl ?_
      refine xj_iload_n (pc := 16) d_MO_at_16 rfl rfl ?_
      refine xj_iald (pc := 17) d_MO_at_17 (n := 10) (x := 21) rfl rfl hkr (by decide) ?_
      refine xj_icmp_ge (pc := 18) (tgt := 30) d_MO_at_18 (by decide) (fun h18 => ?_) (fun h18 => ?_)
      · refine xj_iconst (pc := 30) (v := -1) d_MO_at_30 (by decide) ?_
        refine xj_iret (pc := 31) d_MO_at_31 rfl ?_
        first | (rw [sp_at, b01_eq h4, if_neg (by decide)]; exact nk_ans hI; done) | (rw [rg, if_pos h8]; exact nk_ans hI; done) | (rw [rg_n (by omega), hget]; exact nk_ans hI; done) | (obtain ⟨q, hq, rfl⟩ := nI_of h8; rw [n_le, hsz, n_nI (by omega)] at h18; rw [rg_n (by omega), List.getElem?_eq_none (by omega)]; exact nk_ans hI)
      · obtain ⟨q, hq, rfl⟩ := nI_of h8
        rw [n_le, hsz, n_nI (by omega)] at h18
        have hget : (sR S (nI kr))[q]? = some (sR S (nI kr))[q] := List.getElem?_eq_getElem (by omega)
        refine xj_aload_n (pc := 21) d_MO_at_21 rfl rfl ?_
        refine xj_iload_n (pc := 22) d_MO_at_22 rfl rfl ?_
        refine xj_iload_n (pc := 23) d_MO_at_23 rfl rfl ?_
        refine xj_callV (pc := 24) d_MO_at_24 ml_MO_46 ok_MO_of (s_MO_ofL hkr hL hget) rfl rfl rfl rfl rfl (Nat.le_of_ble_eq_true rfl) (by decide) ?_
        rintro rv I1 F1 ⟨rfl, rfl, rfl⟩
        dsimp only [Option.toList, List.cons_append, List.nil_append]
        refine xj_goto (pc := 27) (tgt := 31) d_MO_at_27 (by decide) ?_
        refine xj_iret (pc := 31) d_MO_at_31 rfl ?_
        first | (rw [sp_at, b01_eq h4, if_neg (by decide)]; exact nk_ans hI; done) | (rw [rg, if_pos h8]; exact nk_ans hI; done) | (rw [rg_n (by omega), hget]; exact nk_ans hI; done) | (obtain ⟨q, hq, rfl⟩ := nI_of h8; rw [n_le, hsz, n_nI (by omega)] at h18; rw [rg_n (by omega), List.getElem?_eq_none (by omega)]; exact nk_ans hI)
theorem t_MO_size {r : Int32} (hI : MI I F S) : XM m_MO_size [.ref 36, .int r] I F (NQ (sp_size S r, S) I F) := by
  refine XM.of (by decide) (Nat.le_of_ble_eq_true rfl) ?_
  dsimp only [xargs]
  refine xj_iload_n (pc := 0) d_MO_size_0 rfl rfl ?_
  refine xj_callS (pc := 1) d_MO_size_1 ml_MO_42 ok_MO_is (s_MO_is) rfl rfl rfl (Nat.le_of_ble_eq_true rfl) (by decide) ?_
  rintro rv I1 F1 ⟨rfl, rfl, rfl⟩
  dsimp only [Option.toList, List.cons_append, List.nil_append]
  refine xj_if_eq (pc := 4) (tgt := 16) d_MO_size_4 (by decide) (fun h4 => ?_) (fun h4 => ?_)
  · refine xj_iconst (pc := 16) (v := -1) d_MO_size_16 (by decide) ?_
    refine xj_iret (pc := 17) d_MO_size_17 rfl ?_
    first | (rw [(hI.at hkr tr).1]; exact nk_ans hI; done) | (rw [sp_size, b01_eq h4, if_neg (by decide)]; exact nk_ans hI)
  · have hr := b01_ne h4
    obtain ⟨kr, hkr, rfl, tr⟩ := isR_k hr
    rw [sp_size, hr, if_pos rfl]
    refine xj_aload_n (pc := 7) d_MO_size_7 rfl rfl ?_
    refine xj_getR (pc := 8) d_MO_size_8 fl_MO_16 rfl rfl ?_
    refine xj_iload_n (pc := 11) d_MO_size_11 rfl rfl ?_
    refine xj_iald (pc := 12) d_MO_size_12 (n := 10) (x := 21) rfl rfl hkr (by decide) ?_
    refine xj_goto (pc := 13) (tgt := 17) d_MO_size_13 (by decide) ?_
    refine xj_iret (pc := 17) d_MO_size_17 rfl ?_
    first | (rw [(hI.at hkr tr).1]; exact nk_ans hI; done) | (rw [sp_size, b01_eq h4, if_neg (by decide)]; exact nk_ans hI)
theorem t_MO_pad {p : Int32} (hI : MI I F S) : XM m_MO_pad [.ref 36, .int p] I F (NQ (sp_pad S p) I F) := by
  refine XM.of (by decide) (Nat.le_of_ble_eq_true rfl) ?_
  dsimp only [xargs]
  refine xj_iload_n (pc := 0) d_MO_pad_0 rfl rfl ?_
  skip
  refine xj_if_lt (pc := 1) (tgt := 11) d_MO_pad_1 (by decide) (fun h1 => ?_) (fun h1 => ?_)
  · refine xj_iconst (pc := 11) (v := -1) d_MO_pad_11 (by decide) ?_
    refine xj_iret (pc := 12) d_MO_pad_12 rfl ?_
    exact nk_none hI (if_neg (by first | (rw [n_lt, n_0] at h1; omega) | (rw [n_le, n_255] at h8; omega)))
  · refine xj_iload_n (pc := 4) d_MO_pad_4 rfl rfl ?_
    refine xj_sipush (pc := 5) (v := 255) d_MO_pad_5 (by decide) ?_
    refine xj_icmp_le (pc := 8) (tgt := 13) d_MO_pad_8 (by decide) (fun h8 => ?_) (fun h8 => ?_)
    · refine xj_aload_n (pc := 13) d_MO_pad_13 rfl rfl ?_
      refine xj_getI (pc := 14) d_MO_pad_14 fl_MO_25 rfl rfl ?_
      refine xj_istore_n (pc := 17) d_MO_pad_17 rfl (by decide) rfl ?_
      dsimp only [xset, xset2, xkill]
      refine xj_aload_n (pc := 18) d_MO_pad_18 rfl rfl ?_
      refine xj_iload_n (pc := 19) d_MO_pad_19 rfl rfl ?_
      refine xj_putI (pc := 20) d_MO_pad_20 fl_MO_25 fp_MO_pad rfl rfl ?_
      refine xj_iload_n (pc := 23) d_MO_pad_23 rfl rfl ?_
      refine xj_iret (pc := 24) d_MO_pad_24 rfl ?_
      rw [n_lt, n_0] at h1
      rw [n_le, n_255] at h8
      rw [sp_pad, if_pos (by omega)]
      have e : ∀ x, x ≠ 19 → upd I 19 p x = I x := fun x hx => by simp [upd, hx]
      exact ⟨by rw [hI.2.2], ⟨⟨by rw [e 17 (by decide)]; exact hI.1.1, hI.1.2⟩, hI.2.1, by simp [upd]⟩, fun x hx => e x (by omega), fun _ _ => rfl⟩
    · refine xj_iconst (pc := 11) (v := -1) d_MO_pad_11 (by decide) ?_
      refine xj_iret (pc := 12) d_MO_pad_12 rfl ?_
      exact nk_none hI (if_neg (by first | (rw [n_lt, n_0] at h1; omega) | (rw [n_le, n_255] at h8; omega)))
end MOB
