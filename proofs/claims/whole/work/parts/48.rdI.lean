section RDI
variable {I I1 I2 : XI} {F F1 F2 : XF} {S : XSt} {k : Nat} {M X L : List Int32}
def cG (A C X : List Int32) : List Int32 := chg A C X.length X
theorem chg_fuel (A C : List Int32) : ∀ (n m : Nat) (X : List Int32), X.length ≤ n → X.length ≤ m → chg A C n X = chg A C m X
  | 0, m, X, h1, h2 => by
    obtain rfl : X = [] := List.eq_nil_of_length_eq_zero (by omega)
    cases m <;> rfl
  | n + 1, 0, X, h1, h2 => by
    obtain rfl : X = [] := List.eq_nil_of_length_eq_zero (by omega)
    rfl
  | n + 1, m + 1, [], h1, h2 => rfl
  | n + 1, m + 1, b :: t, h1, h2 => by
    simp only [List.length_cons] at h1 h2
    rw [chg, chg]
    split
    · rename_i h
      have := st_pos h
      rw [chg_fuel A C n m _ (by rw [List.length_drop, List.length_cons]; omega) (by rw [List.length_drop, List.length_cons]; omega)]
    · rw [chg_fuel A C n m _ (by omega) (by omega)]
theorem cG_step (A C X : List Int32) {i : Nat} (h : i < X.length) : cG A C (X.drop i) = if stands A X i then C ++ cG A C (X.drop (i + A.length)) else X[i] :: cG A C (X.drop (i + 1)) := by
  have hdr : X.drop i = X[i] :: X.drop (i + 1) := List.drop_eq_getElem_cons h
  have hl : (X.drop i).length = (X.length - i - 1) + 1 := by rw [List.length_drop]; omega
  rw [cG, hl, hdr, chg, ← hdr, st_drop]
  split
  · rename_i hs
    have := st_pos hs
    rw [List.drop_drop, cG, chg_fuel A C _ (X.drop (i + A.length)).length _ (by rw [List.length_drop]; omega) (Nat.le_refl _)]
  · rw [cG, chg_fuel A C _ (X.drop (i + 1)).length _ (by rw [List.length_drop]; omega) (Nat.le_refl _)]
theorem cG_end (A C X : List Int32) {i : Nat} (h : X.length ≤ i) : cG A C (X.drop i) = [] := by rw [List.drop_of_length_le h]; rfl
theorem st_fit {A X : List Int32} {q : Nat} (h : stands A X q = true) : q + A.length ≤ X.length := by
  have := st_eq A X q
  rw [h] at this
  simp only [Bool.and_eq_true, decide_eq_true_eq] at this
  exact (rng_t.mp this.2).1
theorem cG_len (A C X : List Int32) : ∀ (m i : Nat), X.length - i = m → i ≤ X.length → ((cG A C (X.drop i)).length : Int) = (X.length : Int) - i + cN A (X.drop i) * ((C.length : Int) - A.length)
  | 0, i, h, hi => by rw [cG_end A C X (by omega), cN_end A X (by omega)]; simp; omega
  | m + 1, i, h, hi => by
    rw [cG_step A C X (by omega), cN_step A X (by omega)]
    split
    · rename_i hs
      have hp := st_pos hs
      have hf := st_fit hs
      have ih := cG_len A C X (X.length - (i + A.length)) (i + A.length) rfl hf
      rw [List.length_append, Int.natCast_add, ih]
      simp only [Int.natCast_add, Int.natCast_one, Int.add_mul, Int.one_mul]
      omega
    · have ih := cG_len A C X m (i + 1) (by omega) (by omega)
      rw [List.length_cons, Int.natCast_add, ih]; omega
termination_by m => m
decreasing_by all_goals omega
theorem s_RD_mCh_l {ka kb kc : Nat} {A B C : List Int32} (hka : ka < 10) (hkb : kb < 10) (hkc : kc < 10) (hA : Rl I F ka A) (hB : Rl I F kb B) (hCc : Rl I F kc C) : ∀ (m i bh : Nat) (D : List Int32) (I1 : XI) (F1 : XF), i + m = B.length → bh ≤ 1000 → D ++ cG A C (B.drop (max i bh)) = cG A C B → Rs 10 (D.take (xcap 10)) I F I1 F1 →
    XJ none m_RD_makeChanged 14 [some (.ref 24), some (.ref ka), some (.ref kb), some (.ref kc), some (.int (nI bh)), some (.int (nI i))] [] I1 F1 (fun rv I2 F2 => rv = none ∧ Rs 10 ((cG A C B).take (xcap 10)) I F I2 F2) := by
  have hAl := hA.lt
  have hBl := hB.lt
  intro m
  induction m with
  | zero =>
    intro i bh D I1 F1 hi hb he g1
    have eB := (g1.kp (by omega) hB).ti
    refine xj_iload (pc := 14) d_RD_makeChanged_14 rfl ?_
    refine xj_aload_n (pc := 16) d_RD_makeChanged_16 rfl rfl ?_
    refine xj_callV (pc := 17) d_RD_makeChanged_17 ml_RD_46 ok_RW_length (s_RW_length (by omega)) rfl rfl (xsh_row (by omega)) rfl rfl (Nat.le_of_ble_eq_true rfl) (by decide) ?_
    rintro rv I1 F1 ⟨rfl, rfl, rfl⟩
    dsimp only [Option.toList, List.cons_append, List.nil_append]
    refine xj_icmp_ge (pc := 20) (tgt := 83) d_RD_makeChanged_20 (by decide) (fun h20 => ?_) (fun h20 => absurd (by rw [n_le, n_nI (by omega)]; omega) h20)
    refine xj_vret (pc := 83) d_RD_makeChanged_83 rfl ?_
    rw [cG_end A C B (by omega), List.append_nil] at he
    exact ⟨rfl, by rw [← he]; exact g1⟩
  | succ m ih =>
    intro i bh D I1 F1 hi hb he g1
    have hA1 := g1.kp (by omega) hA
    have hB1 := g1.kp (by omega) hB
    have hC1 := g1.kp (by omega) hCc
    have eB := hB1.ti
    have hst := cG_step A C B (show i < B.length by omega)
    have hget : B[i]? = some B[i] := List.getElem?_eq_getElem (by omega)
    refine xj_iload (pc := 14) d_RD_makeChanged_14 rfl ?_
    refine xj_aload_n (pc := 16) d_RD_makeChanged_16 rfl rfl ?_
    refine xj_callV (pc := 17) d_RD_makeChanged_17 ml_RD_46 ok_RW_length (s_RW_length (by omega)) rfl rfl (xsh_row (by omega)) rfl rfl (Nat.le_of_ble_eq_true rfl) (by decide) ?_
    rintro rv I1 F1 ⟨rfl, rfl, rfl⟩
    dsimp only [Option.toList, List.cons_append, List.nil_append]
    refine xj_icmp_ge (pc := 20) (tgt := 83) d_RD_makeChanged_20 (by decide) (fun h20 => absurd h20 (by rw [n_le, n_nI (by omega)]; omega)) (fun h20 => ?_)
    refine xj_iload (pc := 23) d_RD_makeChanged_23 rfl ?_
    refine xj_iload (pc := 25) d_RD_makeChanged_25 rfl ?_
    refine xj_icmp_ge (pc := 27) (tgt := 33) d_RD_makeChanged_27 (by decide) (fun h27 => ?_) (fun h27 => ?_)
    · rw [n_le, n_nI (by omega), n_nI (by omega)] at h27
      rw [Nat.max_eq_left (by omega), hst] at he
      refine xj_aload_n (pc := 33) d_RD_makeChanged_33 rfl rfl ?_
      refine xj_iload (pc := 34) d_RD_makeChanged_34 rfl ?_
      refine xj_aload_n (pc := 36) d_RD_makeChanged_36 rfl rfl ?_
      refine xj_callV (pc := 37) d_RD_makeChanged_37 ml_RD_176 ok_RW_hasAt (s_RW_hasAt (by omega) (by omega) hB1 hA1 (by omega)) rfl rfl (xsh_row (by omega)) rfl rfl (Nat.le_of_ble_eq_true rfl) (by decide) ?_
      rintro rv I1 F1 ⟨rfl, rfl, rfl⟩
      dsimp only [Option.toList, List.cons_append, List.nil_append]
      rw [st_eq]
      refine xj_if_eq (pc := 40) (tgt := 63) d_RD_makeChanged_40 (by decide) (fun h40 => ?_) (fun h40 => ?_)
      · refine xj_aload_n (pc := 63) d_RD_makeChanged_63 rfl rfl ?_
        refine xj_getR (pc := 64) d_RD_makeChanged_64 fl_RD_22 rfl rfl ?_
        refine xj_aload_n (pc := 67) d_RD_makeChanged_67 rfl rfl ?_
        refine xj_iload (pc := 68) d_RD_makeChanged_68 rfl ?_
        refine xj_iconst (pc := 70) (v := -1) d_RD_makeChanged_70 (by decide) ?_
        refine xj_callV (pc := 71) d_RD_makeChanged_71 ml_RD_64 ok_RW_byteOr (s_RW_byteOr (by omega) hB1) rfl rfl (xsh_row (by omega)) rfl rfl (Nat.le_of_ble_eq_true rfl) (by decide) ?_
        rintro rv I1 F1 ⟨rfl, rfl, rfl⟩
        dsimp only [Option.toList, List.cons_append, List.nil_append]
        rw [rg_n (by omega), hget, Option.getD_some]
        refine xj_callV (pc := 74) d_RD_makeChanged_74 ml_RD_140 ok_RW_add (s_RW_add (by decide) g1.2.2) rfl rfl (xsh_row (by omega)) rfl rfl (Nat.le_of_ble_eq_true rfl) (by decide) ?_
        rintro rv I2 F2 ⟨rfl, g2⟩
        rw [tk_app] at g2
        replace g2 := g1.tr g2
        dsimp only [Option.toList, List.cons_append, List.nil_append]
        refine xj_inc1 (pc := 77) d_RD_makeChanged_77 rfl (by decide) rfl ?_
        dsimp only [xset, xset2, xkill]
        rw [n_up]
        refine xj_goto (pc := 80) (tgt := 14) d_RD_makeChanged_80 (by decide) ?_
        first | (have h27b : ¬ nI bh ≤ nI i := h27; rw [n_le, n_nI (by omega), n_nI (by omega)] at h27b; exact ih (i + 1) bh D I1 F1 (by omega) hb (by rw [show max (i + 1) bh = max i bh by omega]; exact he) g1) | (rw [if_pos hs, ← List.append_assoc] at he; exact ih (i + 1) (i + A.length) (D ++ C) I2 F2 (by omega) (by omega) (by rw [Nat.max_eq_right (by omega)]; exact he) g2) | (rw [b01_eq h40, if_neg (by decide), ← List.singleton_append, ← List.append_assoc] at he; exact ih (i + 1) bh (D ++ [B[i]]) I2 F2 (by omega) hb (by rw [Nat.max_eq_left (by omega)]; exact he) g2)
      · refine xj_aload_n (pc := 43) d_RD_makeChanged_43 rfl rfl ?_
        refine xj_getR (pc := 44) d_RD_makeChanged_44 fl_RD_22 rfl rfl ?_
        refine xj_aload_n (pc := 47) d_RD_makeChanged_47 rfl rfl ?_
        refine xj_callV (pc := 48) d_RD_makeChanged_48 ml_RD_89 ok_RW_addRow (s_RW_addRow (by decide) (by omega) (by omega) g1.2.2 hC1) rfl rfl (xsh_row (by omega)) rfl rfl (Nat.le_of_ble_eq_true rfl) (by decide) ?_
        rintro rv I2 F2 ⟨rfl, g2⟩
        rw [tk_app] at g2
        replace g2 := g1.tr g2
        have hs := b01_ne h40
        have hp := st_pos hs
        dsimp only [Option.toList, List.cons_append, List.nil_append]
        refine xj_iload (pc := 51) d_RD_makeChanged_51 rfl ?_
        refine xj_aload_n (pc := 53) d_RD_makeChanged_53 rfl rfl ?_
        refine xj_callV (pc := 54) d_RD_makeChanged_54 ml_RD_46 ok_RW_length (s_RW_length (by omega)) rfl rfl (xsh_row (by omega)) rfl rfl (Nat.le_of_ble_eq_true rfl) (by decide) ?_
        rintro rv I1 F1 ⟨rfl, rfl, rfl⟩
        dsimp only [Option.toList, List.cons_append, List.nil_append]
        refine xj_iadd (pc := 57) d_RD_makeChanged_57 ?_
        rw [(g2.kp (by omega) hA).1, n_addN]
        refine xj_istore (pc := 58) d_RD_makeChanged_58 (by decide) rfl ?_
        dsimp only [xset, xset2, xkill]
        refine xj_goto (pc := 60) (tgt := 77) d_RD_makeChanged_60 (by decide) ?_
        refine xj_inc1 (pc := 77) d_RD_makeChanged_77 rfl (by decide) rfl ?_
        dsimp only [xset, xset2, xkill]
        rw [n_up]
        refine xj_goto (pc := 80) (tgt := 14) d_RD_makeChanged_80 (by decide) ?_
        first | (have h27b : ¬ nI bh ≤ nI i := h27; rw [n_le, n_nI (by omega), n_nI (by omega)] at h27b; exact ih (i + 1) bh D I1 F1 (by omega) hb (by rw [show max (i + 1) bh = max i bh by omega]; exact he) g1) | (rw [if_pos hs, ← List.append_assoc] at he; exact ih (i + 1) (i + A.length) (D ++ C) I2 F2 (by omega) (by omega) (by rw [Nat.max_eq_right (by omega)]; exact he) g2) | (rw [b01_eq h40, if_neg (by decide), ← List.singleton_append, ← List.append_assoc] at he; exact ih (i + 1) bh (D ++ [B[i]]) I2 F2 (by omega) hb (by rw [Nat.max_eq_left (by omega)]; exact he) g2)
    · refine xj_goto (pc := 30) (tgt := 77) d_RD_makeChanged_30 (by decide) ?_
      refine xj_inc1 (pc := 77) d_RD_makeChanged_77 rfl (by decide) rfl ?_
      dsimp only [xset, xset2, xkill]
      rw [n_up]
      refine xj_goto (pc := 80) (tgt := 14) d_RD_makeChanged_80 (by decide) ?_
      first | (have h27b : ¬ nI bh ≤ nI i := h27; rw [n_le, n_nI (by omega), n_nI (by omega)] at h27b; exact ih (i + 1) bh D I1 F1 (by omega) hb (by rw [show max (i + 1) bh = max i bh by omega]; exact he) g1) | (rw [if_pos hs, ← List.append_assoc] at he; exact ih (i + 1) (i + A.length) (D ++ C) I2 F2 (by omega) (by omega) (by rw [Nat.max_eq_right (by omega)]; exact he) g2) | (rw [b01_eq h40, if_neg (by decide), ← List.singleton_append, ← List.append_assoc] at he; exact ih (i + 1) bh (D ++ [B[i]]) I2 F2 (by omega) hb (by rw [Nat.max_eq_left (by omega)]; exact he) g2)
theorem s_RD_mCh {ka kb kc : Nat} {A B C : List Int32} (hka : ka < 10) (hkb : kb < 10) (hkc : kc < 10) (hA : Rl I F ka A) (hB : Rl I F kb B) (hCc : Rl I F kc C) (hM : Rl I F 10 M) : XM m_RD_makeChanged [.ref 24, .ref ka, .ref kb, .ref kc] I F (fun rv I2 F2 => rv = none ∧ Rs 10 ((cG A C B).take (xcap 10)) I F I2 F2) := by
  refine XM.of (by decide) (Nat.le_of_ble_eq_true rfl) ?_
  dsimp only [xargs]
  refine xj_aload_n (pc := 0) d_RD_makeChanged_0 rfl rfl ?_
  refine xj_getR (pc := 1) d_RD_makeChanged_1 fl_RD_22 rfl rfl ?_
  refine xj_iconst (pc := 4) (v := 0) d_RD_makeChanged_4 (by decide) ?_
  refine xj_callV (pc := 5) d_RD_makeChanged_5 ml_RD_53 ok_RW_shortenTo (s_RW_clear (by decide) hM) rfl rfl (xsh_row (by omega)) rfl rfl (Nat.le_of_ble_eq_true rfl) (by decide) ?_
  rintro rv I1 F1 ⟨rfl, g1⟩
  dsimp only [Option.toList, List.cons_append, List.nil_append]
  refine xj_iconst (pc := 8) (v := 0) d_RD_makeChanged_8 (by decide) ?_
  refine xj_istore (pc := 9) d_RD_makeChanged_9 (by decide) rfl ?_
  dsimp only [xset, xset2, xkill]
  refine xj_iconst (pc := 11) (v := 0) d_RD_makeChanged_11 (by decide) ?_
  refine xj_istore (pc := 12) d_RD_makeChanged_12 (by decide) rfl ?_
  dsimp only [xset, xset2, xkill]
  exact xj_post (fun rv I2 F2 h => ⟨h.1, g1.tr h.2⟩) (s_RD_mCh_l hka hkb hkc (g1.kp (by omega) hA) (g1.kp (by omega) hB) (g1.kp (by omega) hCc) B.length 0 0 [] I1 F1 (by omega) (by omega) (by rw [Nat.max_self, List.drop_zero, List.nil_append]) (Rs.rf g1.2.2))
theorem ch_len {A B C : List Int32} {xa xb xc : Int32} (ea : xa.toInt = A.length) (eb : xb.toInt = B.length) (ec : xc.toInt = C.length) (ha : A.length ≤ 200) (hb : B.length ≤ 200) (hc : C.length ≤ 200) : (xb + nI (cN A B) * (xc - xa)).toInt = (cG A C B).length := by
  have h1 := cG_len A C B B.length 0 (by omega) (by omega)
  rw [List.drop_zero] at h1
  have h2 := cN_le A B B.length 0 (by omega)
  rw [List.drop_zero] at h2
  have e1 : (xc - xa).toInt = (C.length : Int) - A.length := by rw [n_sub (by omega) (by omega), ec, ea]
  have hN : (nI (cN A B)).toInt = cN A B := n_nI (by omega)
  have hlo : -(200 * 200 : Int) ≤ (cN A B : Int) * ((C.length : Int) - A.length) := by
    have := Int.mul_le_mul_of_nonneg_left (c := (cN A B : Int)) (show -(200 : Int) ≤ (C.length : Int) - A.length by omega) (by omega)
    have h4 : (cN A B : Int) * 200 ≤ 200 * 200 := Int.mul_le_mul_of_nonneg_right (by omega) (by decide)
    rw [Int.mul_neg] at this
    omega
  have hhi : (cN A B : Int) * ((C.length : Int) - A.length) ≤ 200 * 200 := by
    have := Int.mul_le_mul_of_nonneg_left (c := (cN A B : Int)) (show (C.length : Int) - A.length ≤ 200 by omega) (by omega)
    have h4 : (cN A B : Int) * 200 ≤ 200 * 200 := Int.mul_le_mul_of_nonneg_right (by omega) (by decide)
    omega
  have e2 : (nI (cN A B) * (xc - xa)).toInt = (cN A B : Int) * ((C.length : Int) - A.length) := by
    rw [n_mul (by rw [hN, e1]; omega) (by rw [hN, e1]; omega), hN, e1]
  rw [n_add (by rw [e2, eb]; omega) (by rw [e2, eb]; omega), e2, eb, h1]
  omega
theorem t_RD_change {a b c to : Int32} (hS : OKS S) (hC : CI I F S) : XM m_RD_change [.ref 24, .int a, .int b, .int c, .int to] I F (CQ (sp_change S a b c to) I F) := by
  refine XM.of (by decide) (Nat.le_of_ble_eq_true rfl) ?_
  dsimp only [xargs]
  obtain ⟨M0, hM0⟩ := hC.2.2.2
  refine xj_aload_n (pc := 0) d_RD_change_0 rfl rfl ?_
  refine xj_iload_n (pc := 1) d_RD_change_1 rfl rfl ?_
  rcases regc a with ⟨k_a, hk_a, e_a, i_a, t_a⟩ | i_a
  · refine xj_callV (pc := 2) d_RD_change_2 ml_RD_56 ok_RD_register (s_RD_register_k hk_a e_a) rfl rfl rfl rfl rfl (Nat.le_of_ble_eq_true rfl) (by decide) ?_
    rintro rv I1 F1 ⟨rfl, rfl, rfl⟩
    dsimp only [Option.toList, List.cons_append, List.nil_append]
    refine xj_astore (pc := 5) d_RD_change_5 (by decide) rfl ?_
    dsimp only [xset, xset2, xkill]
    refine xj_aload_n (pc := 7) d_RD_change_7 rfl rfl ?_
    refine xj_iload_n (pc := 8) d_RD_change_8 rfl rfl ?_
    rcases regc b with ⟨k_b, hk_b, e_b, i_b, t_b⟩ | i_b
    · refine xj_callV (pc := 9) d_RD_change_9 ml_RD_56 ok_RD_register (s_RD_register_k hk_b e_b) rfl rfl rfl rfl rfl (Nat.le_of_ble_eq_true rfl) (by decide) ?_
      rintro rv I1 F1 ⟨rfl, rfl, rfl⟩
      dsimp only [Option.toList, List.cons_append, List.nil_append]
      refine xj_astore (pc := 12) d_RD_change_12 (by decide) rfl ?_
      dsimp only [xset, xset2, xkill]
      refine xj_aload_n (pc := 14) d_RD_change_14 rfl rfl ?_
      refine xj_iload_n (pc := 15) d_RD_change_15 rfl rfl ?_
      rcases regc c with ⟨k_c, hk_c, e_c, i_c, t_c⟩ | i_c
      · refine xj_callV (pc := 16) d_RD_change_16 ml_RD_56 ok_RD_register (s_RD_register_k hk_c e_c) rfl rfl rfl rfl rfl (Nat.le_of_ble_eq_true rfl) (by decide) ?_
        rintro rv I1 F1 ⟨rfl, rfl, rfl⟩
        dsimp only [Option.toList, List.cons_append, List.nil_append]
        refine xj_astore (pc := 19) d_RD_change_19 (by decide) rfl ?_
        dsimp only [xset, xset2, xkill]
        refine xj_aload_n (pc := 21) d_RD_change_21 rfl rfl ?_
        refine xj_iload (pc := 22) d_RD_change_22 rfl ?_
        rcases regc to with ⟨k_to, hk_to, e_to, i_to, t_to⟩ | i_to
        · refine xj_callV (pc := 24) d_RD_change_24 ml_RD_56 ok_RD_register (s_RD_register_k hk_to e_to) rfl rfl rfl rfl rfl (Nat.le_of_ble_eq_true rfl) (by decide) ?_
          rintro rv I1 F1 ⟨rfl, rfl, rfl⟩
          dsimp only [Option.toList, List.cons_append, List.nil_append]
          refine xj_astore (pc := 27) d_RD_change_27 (by decide) rfl ?_
          dsimp only [xset, xset2, xkill]
          refine xj_aload (pc := 29) d_RD_change_29 rfl ?_
          refine xj_ifnull (pc := 31) d_RD_change_31 ?_
          refine xj_aload (pc := 34) d_RD_change_34 rfl ?_
          refine xj_ifnull (pc := 36) d_RD_change_36 ?_
          refine xj_aload (pc := 39) d_RD_change_39 rfl ?_
          refine xj_ifnull (pc := 41) d_RD_change_41 ?_
          refine xj_aload (pc := 44) d_RD_change_44 rfl ?_
          refine xj_ifnonnull (pc := 46) (tgt := 51) d_RD_change_46 (by decide) ?_
          rw [sp_change, if_pos (by simp_all)]
          have hLa := hC.at hk_a t_a
          have hLb := hC.at hk_b t_b
          have hLc := hC.at hk_c t_c
          refine xj_aload (pc := 51) d_RD_change_51 rfl ?_
          refine xj_callV (pc := 53) d_RD_change_53 ml_RD_46 ok_RW_length (s_RW_length (by omega)) rfl rfl (xsh_row (by omega)) rfl rfl (Nat.le_of_ble_eq_true rfl) (by decide) ?_
          rintro rv I1 F1 ⟨rfl, rfl, rfl⟩
          dsimp only [Option.toList, List.cons_append, List.nil_append]
          refine xj_aload (pc := 56) d_RD_change_56 rfl ?_
          refine xj_aload (pc := 58) d_RD_change_58 rfl ?_
          refine xj_callS (pc := 60) d_RD_change_60 ml_RD_110 ok_RD_countOf (s_RD_countOf (by omega) (by omega) hLa hLb) rfl rfl rfl (Nat.le_of_ble_eq_true rfl) (by decide) ?_
          rintro rv I1 F1 ⟨rfl, rfl, rfl⟩
          dsimp only [Option.toList, List.cons_append, List.nil_append]
          refine xj_aload (pc := 63) d_RD_change_63 rfl ?_
          refine xj_callV (pc := 65) d_RD_change_65 ml_RD_46 ok_RW_length (s_RW_length (by omega)) rfl rfl (xsh_row (by omega)) rfl rfl (Nat.le_of_ble_eq_true rfl) (by decide) ?_
          rintro rv I1 F1 ⟨rfl, rfl, rfl⟩
          dsimp only [Option.toList, List.cons_append, List.nil_append]
          refine xj_aload (pc := 68) d_RD_change_68 rfl ?_
          refine xj_callV (pc := 70) d_RD_change_70 ml_RD_46 ok_RW_length (s_RW_length (by omega)) rfl rfl (xsh_row (by omega)) rfl rfl (Nat.le_of_ble_eq_true rfl) (by decide) ?_
          rintro rv I1 F1 ⟨rfl, rfl, rfl⟩
          dsimp only [Option.toList, List.cons_append, List.nil_append]
          refine xj_isub (pc := 73) d_RD_change_73 ?_
          refine xj_imul (pc := 74) d_RD_change_74 ?_
          refine xj_iadd (pc := 75) d_RD_change_75 ?_
          refine xj_sipush (pc := 76) (v := 200) d_RD_change_76 (by decide) ?_
          have elen := ch_len hLa.ti hLb.ti hLc.ti (hS.le hk_a t_a) (hS.le hk_b t_b) (hS.le hk_c t_c)
          refine xj_icmp_le (pc := 79) (tgt := 85) d_RD_change_79 (by decide) (fun h79 => ?_) (fun h79 => ?_)
          · rw [n_le, elen, n_200] at h79
            refine xj_aload_n (pc := 85) d_RD_change_85 rfl rfl ?_
            refine xj_aload (pc := 86) d_RD_change_86 rfl ?_
            refine xj_aload (pc := 88) d_RD_change_88 rfl ?_
            refine xj_aload (pc := 90) d_RD_change_90 rfl ?_
            refine xj_callV (pc := 92) d_RD_change_92 ml_RD_114 ok_RD_makeChanged (s_RD_mCh hk_a hk_b hk_c hLa hLb hLc hM0) rfl rfl rfl rfl rfl (Nat.le_of_ble_eq_true rfl) (by decide) ?_
            rintro rv I1 F1 ⟨rfl, g1⟩
            rw [xcap10, List.take_of_length_le (show (cG (sR S a) (sR S c) (sR S b)).length ≤ 200 by omega)] at g1
            dsimp only [Option.toList, List.cons_append, List.nil_append]
            refine xj_aload_n (pc := 95) d_RD_change_95 rfl rfl ?_
            refine xj_aload (pc := 96) d_RD_change_96 rfl ?_
            refine xj_callV (pc := 98) d_RD_change_98 ml_RD_79 ok_RD_keepMade (s_RD_keepMade hk_to g1.2.2) rfl rfl rfl rfl rfl (Nat.le_of_ble_eq_true rfl) (by decide) ?_
            rintro rv I2 F2 ⟨rfl, g2⟩
            dsimp only [Option.toList, List.cons_append, List.nil_append]
            refine xj_iret (pc := 101) d_RD_change_101 rfl ?_
            exact ck_done hC g1 g2 hk_to t_to (show (cG (sR S a) (sR S c) (sR S b)).length ≤ 200 by omega)
          · refine xj_bipush (pc := 82) (v := -4) d_RD_change_82 (by decide) ?_
            refine xj_iret (pc := 84) d_RD_change_84 rfl ?_
            rw [n_le, elen, n_200] at h79
            exact ck_full hC (show 200 < (cG (sR S a) (sR S c) (sR S b)).length by omega)
        · refine xj_callV (pc := 24) d_RD_change_24 ml_RD_56 ok_RD_register (s_RD_register_n i_to) rfl rfl rfl rfl rfl (Nat.le_of_ble_eq_true rfl) (by decide) ?_
          rintro rv I1 F1 ⟨rfl, rfl, rfl⟩
          dsimp only [Option.toList, List.cons_append, List.nil_append]
          refine xj_astoreN (pc := 27) d_RD_change_27 (by decide) rfl ?_
          dsimp only [xset, xset2, xkill]
          refine xj_aload (pc := 29) d_RD_change_29 rfl ?_
          refine xj_ifnull (pc := 31) d_RD_change_31 ?_
          refine xj_aload (pc := 34) d_RD_change_34 rfl ?_
          refine xj_ifnull (pc := 36) d_RD_change_36 ?_
          refine xj_aload (pc := 39) d_RD_change_39 rfl ?_
          refine xj_ifnull (pc := 41) d_RD_change_41 ?_
          refine xj_aloadN (pc := 44) d_RD_change_44 rfl ?_
          refine xj_ifnonnullN (pc := 46) d_RD_change_46 ?_
          refine xj_iconst (pc := 49) (v := -1) d_RD_change_49 (by decide) ?_
          refine xj_iret (pc := 50) d_RD_change_50 rfl ?_
          exact ck_none hC (if_neg (by simp_all))
      · refine xj_callV (pc := 16) d_RD_change_16 ml_RD_56 ok_RD_register (s_RD_register_n i_c) rfl rfl rfl rfl rfl (Nat.le_of_ble_eq_true rfl) (by decide) ?_
        rintro rv I1 F1 ⟨rfl, rfl, rfl⟩
        dsimp only [Option.toList, List.cons_append, List.nil_append]
        refine xj_astoreN (pc := 19) d_RD_change_19 (by decide) rfl ?_
        dsimp only [xset, xset2, xkill]
        refine xj_aload_n (pc := 21) d_RD_change_21 rfl rfl ?_
        refine xj_iload (pc := 22) d_RD_change_22 rfl ?_
        rcases regc to with ⟨k_to, hk_to, e_to, i_to, t_to⟩ | i_to
        · refine xj_callV (pc := 24) d_RD_change_24 ml_RD_56 ok_RD_register (s_RD_register_k hk_to e_to) rfl rfl rfl rfl rfl (Nat.le_of_ble_eq_true rfl) (by decide) ?_
          rintro rv I1 F1 ⟨rfl, rfl, rfl⟩
          dsimp only [Option.toList, List.cons_append, List.nil_append]
          refine xj_astore (pc := 27) d_RD_change_27 (by decide) rfl ?_
          dsimp only [xset, xset2, xkill]
          refine xj_aload (pc := 29) d_RD_change_29 rfl ?_
          refine xj_ifnull (pc := 31) d_RD_change_31 ?_
          refine xj_aload (pc := 34) d_RD_change_34 rfl ?_
          refine xj_ifnull (pc := 36) d_RD_change_36 ?_
          refine xj_aloadN (pc := 39) d_RD_change_39 rfl ?_
          refine xj_ifnullN (pc := 41) (tgt := 49) d_RD_change_41 (by decide) ?_
          refine xj_iconst (pc := 49) (v := -1) d_RD_change_49 (by decide) ?_
          refine xj_iret (pc := 50) d_RD_change_50 rfl ?_
          exact ck_none hC (if_neg (by simp_all))
        · refine xj_callV (pc := 24) d_RD_change_24 ml_RD_56 ok_RD_register (s_RD_register_n i_to) rfl rfl rfl rfl rfl (Nat.le_of_ble_eq_true rfl) (by decide) ?_
          rintro rv I1 F1 ⟨rfl, rfl, rfl⟩
          dsimp only [Option.toList, List.cons_append, List.nil_append]
          refine xj_astoreN (pc := 27) d_RD_change_27 (by decide) rfl ?_
          dsimp only [xset, xset2, xkill]
          refine xj_aload (pc := 29) d_RD_change_29 rfl ?_
          refine xj_ifnull (pc := 31) d_RD_change_31 ?_
          refine xj_aload (pc := 34) d_RD_change_34 rfl ?_
          refine xj_ifnull (pc := 36) d_RD_change_36 ?_
          refine xj_aloadN (pc := 39) d_RD_change_39 rfl ?_
          refine xj_ifnullN (pc := 41) (tgt := 49) d_RD_change_41 (by decide) ?_
          refine xj_iconst (pc := 49) (v := -1) d_RD_change_49 (by decide) ?_
          refine xj_iret (pc := 50) d_RD_change_50 rfl ?_
          exact ck_none hC (if_neg (by simp_all))
    · refine xj_callV (pc := 9) d_RD_change_9 ml_RD_56 ok_RD_register (s_RD_register_n i_b) rfl rfl rfl rfl rfl (Nat.le_of_ble_eq_true rfl) (by decide) ?_
      rintro rv I1 F1 ⟨rfl, rfl, rfl⟩
      dsimp only [Option.toList, List.cons_append, List.nil_append]
      refine xj_astoreN (pc := 12) d_RD_change_12 (by decide) rfl ?_
      dsimp only [xset, xset2, xkill]
      refine xj_aload_n (pc := 14) d_RD_change_14 rfl rfl ?_
      refine xj_iload_n (pc := 15) d_RD_change_15 rfl rfl ?_
      rcases regc c with ⟨k_c, hk_c, e_c, i_c, t_c⟩ | i_c
      · refine xj_callV (pc := 16) d_RD_change_16 ml_RD_56 ok_RD_register (s_RD_register_k hk_c e_c) rfl rfl rfl rfl rfl (Nat.le_of_ble_eq_true rfl) (by decide) ?_
        rintro rv I1 F1 ⟨rfl, rfl, rfl⟩
        dsimp only [Option.toList, List.cons_append, List.nil_append]
        refine xj_astore (pc := 19) d_RD_change_19 (by decide) rfl ?_
        dsimp only [xset, xset2, xkill]
        refine xj_aload_n (pc := 21) d_RD_change_21 rfl rfl ?_
        refine xj_iload (pc := 22) d_RD_change_22 rfl ?_
        rcases regc to with ⟨k_to, hk_to, e_to, i_to, t_to⟩ | i_to
        · refine xj_callV (pc := 24) d_RD_change_24 ml_RD_56 ok_RD_register (s_RD_register_k hk_to e_to) rfl rfl rfl rfl rfl (Nat.le_of_ble_eq_true rfl) (by decide) ?_
          rintro rv I1 F1 ⟨rfl, rfl, rfl⟩
          dsimp only [Option.toList, List.cons_append, List.nil_append]
          refine xj_astore (pc := 27) d_RD_change_27 (by decide) rfl ?_
          dsimp only [xset, xset2, xkill]
          refine xj_aload (pc := 29) d_RD_change_29 rfl ?_
          refine xj_ifnull (pc := 31) d_RD_change_31 ?_
          refine xj_aloadN (pc := 34) d_RD_change_34 rfl ?_
          refine xj_ifnullN (pc := 36) (tgt := 49) d_RD_change_36 (by decide) ?_
          refine xj_iconst (pc := 49) (v := -1) d_RD_change_49 (by decide) ?_
          refine xj_iret (pc := 50) d_RD_change_50 rfl ?_
          exact ck_none hC (if_neg (by simp_all))
        · refine xj_callV (pc := 24) d_RD_change_24 ml_RD_56 ok_RD_register (s_RD_register_n i_to) rfl rfl rfl rfl rfl (Nat.le_of_ble_eq_true rfl) (by decide) ?_
          rintro rv I1 F1 ⟨rfl, rfl, rfl⟩
          dsimp only [Option.toList, List.cons_append, List.nil_append]
          refine xj_astoreN (pc := 27) d_RD_change_27 (by decide) rfl ?_
          dsimp only [xset, xset2, xkill]
          refine xj_aload (pc := 29) d_RD_change_29 rfl ?_
          refine xj_ifnull (pc := 31) d_RD_change_31 ?_
          refine xj_aloadN (pc := 34) d_RD_change_34 rfl ?_
          refine xj_ifnullN (pc := 36) (tgt := 49) d_RD_change_36 (by decide) ?_
          refine xj_iconst (pc := 49) (v := -1) d_RD_change_49 (by decide) ?_
          refine xj_iret (pc := 50) d_RD_change_50 rfl ?_
          exact ck_none hC (if_neg (by simp_all))
      · refine xj_callV (pc := 16) d_RD_change_16 ml_RD_56 ok_RD_register (s_RD_register_n i_c) rfl rfl rfl rfl rfl (Nat.le_of_ble_eq_true rfl) (by decide) ?_
        rintro rv I1 F1 ⟨rfl, rfl, rfl⟩
        dsimp only [Option.toList, List.cons_append, List.nil_append]
        refine xj_astoreN (pc := 19) d_RD_change_19 (by decide) rfl ?_
        dsimp only [xset, xset2, xkill]
        refine xj_aload_n (pc := 21) d_RD_change_21 rfl rfl ?_
        refine xj_iload (pc := 22) d_RD_change_22 rfl ?_
        rcases regc to with ⟨k_to, hk_to, e_to, i_to, t_to⟩ | i_to
        · refine xj_callV (pc := 24) d_RD_change_24 ml_RD_56 ok_RD_register (s_RD_register_k hk_to e_to) rfl rfl rfl rfl rfl (Nat.le_of_ble_eq_true rfl) (by decide) ?_
          rintro rv I1 F1 ⟨rfl, rfl, rfl⟩
          dsimp only [Option.toList, List.cons_append, List.nil_append]
          refine xj_astore (pc := 27) d_RD_change_27 (by decide) rfl ?_
          dsimp only [xset, xset2, xkill]
          refine xj_aload (pc := 29) d_RD_change_29 rfl ?_
          refine xj_ifnull (pc := 31) d_RD_change_31 ?_
          refine xj_aloadN (pc := 34) d_RD_change_34 rfl ?_
          refine xj_ifnullN (pc := 36) (tgt := 49) d_RD_change_36 (by decide) ?_
          refine xj_iconst (pc := 49) (v := -1) d_RD_change_49 (by decide) ?_
          refine xj_iret (pc := 50) d_RD_change_50 rfl ?_
          exact ck_none hC (if_neg (by simp_all))
        · refine xj_callV (pc := 24) d_RD_change_24 ml_RD_56 ok_RD_register (s_RD_register_n i_to) rfl rfl rfl rfl rfl (Nat.le_of_ble_eq_true rfl) (by decide) ?_
          rintro rv I1 F1 ⟨rfl, rfl, rfl⟩
          dsimp only [Option.toList, List.cons_append, List.nil_append]
          refine xj_astoreN (pc := 27) d_RD_change_27 (by decide) rfl ?_
          dsimp only [xset, xset2, xkill]
          refine xj_aload (pc := 29) d_RD_change_29 rfl ?_
          refine xj_ifnull (pc := 31) d_RD_change_31 ?_
          refine xj_aloadN (pc := 34) d_RD_change_34 rfl ?_
          refine xj_ifnullN (pc := 36) (tgt := 49) d_RD_change_36 (by decide) ?_
          refine xj_iconst (pc := 49) (v := -1) d_RD_change_49 (by decide) ?_
          refine xj_iret (pc := 50) d_RD_change_50 rfl ?_
          exact ck_none hC (if_neg (by simp_all))
  · refine xj_callV (pc := 2) d_RD_change_2 ml_RD_56 ok_RD_register (s_RD_register_n i_a) rfl rfl rfl rfl rfl (Nat.le_of_ble_eq_true rfl) (by decide) ?_
    rintro rv I1 F1 ⟨rfl, rfl, rfl⟩
    dsimp only [Option.toList, List.cons_append, List.nil_append]
    refine xj_astoreN (pc := 5) d_RD_change_5 (by decide) rfl ?_
    dsimp only [xset, xset2, xkill]
    refine xj_aload_n (pc := 7) d_RD_change_7 rfl rfl ?_
    refine xj_iload_n (pc := 8) d_RD_change_8 rfl rfl ?_
    rcases regc b with ⟨k_b, hk_b, e_b, i_b, t_b⟩ | i_b
    · refine xj_callV (pc := 9) d_RD_change_9 ml_RD_56 ok_RD_register (s_RD_register_k hk_b e_b) rfl rfl rfl rfl rfl (Nat.le_of_ble_eq_true rfl) (by decide) ?_
      rintro rv I1 F1 ⟨rfl, rfl, rfl⟩
      dsimp only [Option.toList, List.cons_append, List.nil_append]
      refine xj_astore (pc := 12) d_RD_change_12 (by decide) rfl ?_
      dsimp only [xset, xset2, xkill]
      refine xj_aload_n (pc := 14) d_RD_change_14 rfl rfl ?_
      refine xj_iload_n (pc := 15) d_RD_change_15 rfl rfl ?_
      rcases regc c with ⟨k_c, hk_c, e_c, i_c, t_c⟩ | i_c
      · refine xj_callV (pc := 16) d_RD_change_16 ml_RD_56 ok_RD_register (s_RD_register_k hk_c e_c) rfl rfl rfl rfl rfl (Nat.le_of_ble_eq_true rfl) (by decide) ?_
        rintro rv I1 F1 ⟨rfl, rfl, rfl⟩
        dsimp only [Option.toList, List.cons_append, List.nil_append]
        refine xj_astore (pc := 19) d_RD_change_19 (by decide) rfl ?_
        dsimp only [xset, xset2, xkill]
        refine xj_aload_n (pc := 21) d_RD_change_21 rfl rfl ?_
        refine xj_iload (pc := 22) d_RD_change_22 rfl ?_
        rcases regc to with ⟨k_to, hk_to, e_to, i_to, t_to⟩ | i_to
        · refine xj_callV (pc := 24) d_RD_change_24 ml_RD_56 ok_RD_register (s_RD_register_k hk_to e_to) rfl rfl rfl rfl rfl (Nat.le_of_ble_eq_true rfl) (by decide) ?_
          rintro rv I1 F1 ⟨rfl, rfl, rfl⟩
          dsimp only [Option.toList, List.cons_append, List.nil_append]
          refine xj_astore (pc := 27) d_RD_change_27 (by decide) rfl ?_
          dsimp only [xset, xset2, xkill]
          refine xj_aloadN (pc := 29) d_RD_change_29 rfl ?_
          refine xj_ifnullN (pc := 31) (tgt := 49) d_RD_change_31 (by decide) ?_
          refine xj_iconst (pc := 49) (v := -1) d_RD_change_49 (by decide) ?_
          refine xj_iret (pc := 50) d_RD_change_50 rfl ?_
          exact ck_none hC (if_neg (by simp_all))
        · refine xj_callV (pc := 24) d_RD_change_24 ml_RD_56 ok_RD_register (s_RD_register_n i_to) rfl rfl rfl rfl rfl (Nat.le_of_ble_eq_true rfl) (by decide) ?_
          rintro rv I1 F1 ⟨rfl, rfl, rfl⟩
          dsimp only [Option.toList, List.cons_append, List.nil_append]
          refine xj_astoreN (pc := 27) d_RD_change_27 (by decide) rfl ?_
          dsimp only [xset, xset2, xkill]
          refine xj_aloadN (pc := 29) d_RD_change_29 rfl ?_
          refine xj_ifnullN (pc := 31) (tgt := 49) d_RD_change_31 (by decide) ?_
          refine xj_iconst (pc := 49) (v := -1) d_RD_change_49 (by decide) ?_
          refine xj_iret (pc := 50) d_RD_change_50 rfl ?_
          exact ck_none hC (if_neg (by simp_all))
      · refine xj_callV (pc := 16) d_RD_change_16 ml_RD_56 ok_RD_register (s_RD_register_n i_c) rfl rfl rfl rfl rfl (Nat.le_of_ble_eq_true rfl) (by decide) ?_
        rintro rv I1 F1 ⟨rfl, rfl, rfl⟩
        dsimp only [Option.toList, List.cons_append, List.nil_append]
        refine xj_astoreN (pc := 19) d_RD_change_19 (by decide) rfl ?_
        dsimp only [xset, xset2, xkill]
        refine xj_aload_n (pc := 21) d_RD_change_21 rfl rfl ?_
        refine xj_iload (pc := 22) d_RD_change_22 rfl ?_
        rcases regc to with ⟨k_to, hk_to, e_to, i_to, t_to⟩ | i_to
        · refine xj_callV (pc := 24) d_RD_change_24 ml_RD_56 ok_RD_register (s_RD_register_k hk_to e_to) rfl rfl rfl rfl rfl (Nat.le_of_ble_eq_true rfl) (by decide) ?_
          rintro rv I1 F1 ⟨rfl, rfl, rfl⟩
          dsimp only [Option.toList, List.cons_append, List.nil_append]
          refine xj_astore (pc := 27) d_RD_change_27 (by decide) rfl ?_
          dsimp only [xset, xset2, xkill]
          refine xj_aloadN (pc := 29) d_RD_change_29 rfl ?_
          refine xj_ifnullN (pc := 31) (tgt := 49) d_RD_change_31 (by decide) ?_
          refine xj_iconst (pc := 49) (v := -1) d_RD_change_49 (by decide) ?_
          refine xj_iret (pc := 50) d_RD_change_50 rfl ?_
          exact ck_none hC (if_neg (by simp_all))
        · refine xj_callV (pc := 24) d_RD_change_24 ml_RD_56 ok_RD_register (s_RD_register_n i_to) rfl rfl rfl rfl rfl (Nat.le_of_ble_eq_true rfl) (by decide) ?_
          rintro rv I1 F1 ⟨rfl, rfl, rfl⟩
          dsimp only [Option.toList, List.cons_append, List.nil_append]
          refine xj_astoreN (pc := 27) d_RD_change_27 (by decide) rfl ?_
          dsimp only [xset, xset2, xkill]
          refine xj_aloadN (pc := 29) d_RD_change_29 rfl ?_
          refine xj_ifnullN (pc := 31) (tgt := 49) d_RD_change_31 (by decide) ?_
          refine xj_iconst (pc := 49) (v := -1) d_RD_change_49 (by decide) ?_
          refine xj_iret (pc := 50) d_RD_change_50 rfl ?_
          exact ck_none hC (if_neg (by simp_all))
    · refine xj_callV (pc := 9) d_RD_change_9 ml_RD_56 ok_RD_register (s_RD_register_n i_b) rfl rfl rfl rfl rfl (Nat.le_of_ble_eq_true rfl) (by decide) ?_
      rintro rv I1 F1 ⟨rfl, rfl, rfl⟩
      dsimp only [Option.toList, List.cons_append, List.nil_append]
      refine xj_astoreN (pc := 12) d_RD_change_12 (by decide) rfl ?_
      dsimp only [xset, xset2, xkill]
      refine xj_aload_n (pc := 14) d_RD_change_14 rfl rfl ?_
      refine xj_iload_n (pc := 15) d_RD_change_15 rfl rfl ?_
      rcases regc c with ⟨k_c, hk_c, e_c, i_c, t_c⟩ | i_c
      · refine xj_callV (pc := 16) d_RD_change_16 ml_RD_56 ok_RD_register (s_RD_register_k hk_c e_c) rfl rfl rfl rfl rfl (Nat.le_of_ble_eq_true rfl) (by decide) ?_
        rintro rv I1 F1 ⟨rfl, rfl, rfl⟩
        dsimp only [Option.toList, List.cons_append, List.nil_append]
        refine xj_astore (pc := 19) d_RD_change_19 (by decide) rfl ?_
        dsimp only [xset, xset2, xkill]
        refine xj_aload_n (pc := 21) d_RD_change_21 rfl rfl ?_
        refine xj_iload (pc := 22) d_RD_change_22 rfl ?_
        rcases regc to with ⟨k_to, hk_to, e_to, i_to, t_to⟩ | i_to
        · refine xj_callV (pc := 24) d_RD_change_24 ml_RD_56 ok_RD_register (s_RD_register_k hk_to e_to) rfl rfl rfl rfl rfl (Nat.le_of_ble_eq_true rfl) (by decide) ?_
          rintro rv I1 F1 ⟨rfl, rfl, rfl⟩
          dsimp only [Option.toList, List.cons_append, List.nil_append]
          refine xj_astore (pc := 27) d_RD_change_27 (by decide) rfl ?_
          dsimp only [xset, xset2, xkill]
          refine xj_aloadN (pc := 29) d_RD_change_29 rfl ?_
          refine xj_ifnullN (pc := 31) (tgt := 49) d_RD_change_31 (by decide) ?_
          refine xj_iconst (pc := 49) (v := -1) d_RD_change_49 (by decide) ?_
          refine xj_iret (pc := 50) d_RD_change_50 rfl ?_
          exact ck_none hC (if_neg (by simp_all))
        · refine xj_callV (pc := 24) d_RD_change_24 ml_RD_56 ok_RD_register (s_RD_register_n i_to) rfl rfl rfl rfl rfl (Nat.le_of_ble_eq_true rfl) (by decide) ?_
          rintro rv I1 F1 ⟨rfl, rfl, rfl⟩
          dsimp only [Option.toList, List.cons_append, List.nil_append]
          refine xj_astoreN (pc := 27) d_RD_change_27 (by decide) rfl ?_
          dsimp only [xset, xset2, xkill]
          refine xj_aloadN (pc := 29) d_RD_change_29 rfl ?_
          refine xj_ifnullN (pc := 31) (tgt := 49) d_RD_change_31 (by decide) ?_
          refine xj_iconst (pc := 49) (v := -1) d_RD_change_49 (by decide) ?_
          refine xj_iret (pc := 50) d_RD_change_50 rfl ?_
          exact ck_none hC (if_neg (by simp_all))
      · refine xj_callV (pc := 16) d_RD_change_16 ml_RD_56 ok_RD_register (s_RD_register_n i_c) rfl rfl rfl rfl rfl (Nat.le_of_ble_eq_true rfl) (by decide) ?_
        rintro rv I1 F1 ⟨rfl, rfl, rfl⟩
        dsimp only [Option.toList, List.cons_append, List.nil_append]
        refine xj_astoreN (pc := 19) d_RD_change_19 (by decide) rfl ?_
        dsimp only [xset, xset2, xkill]
        refine xj_aload_n (pc := 21) d_RD_change_21 rfl rfl ?_
        refine xj_iload (pc := 22) d_RD_change_22 rfl ?_
        rcases regc to with ⟨k_to, hk_to, e_to, i_to, t_to⟩ | i_to
        · refine xj_callV (pc := 24) d_RD_change_24 ml_RD_56 ok_RD_register (s_RD_register_k hk_to e_to) rfl rfl rfl rfl rfl (Nat.le_of_ble_eq_true rfl) (by decide) ?_
          rintro rv I1 F1 ⟨rfl, rfl, rfl⟩
          dsimp only [Option.toList, List.cons_append, List.nil_append]
          refine xj_astore (pc := 27) d_RD_change_27 (by decide) rfl ?_
          dsimp only [xset, xset2, xkill]
          refine xj_aloadN (pc := 29) d_RD_change_29 rfl ?_
          refine xj_ifnullN (pc := 31) (tgt := 49) d_RD_change_31 (by decide) ?_
          refine xj_iconst (pc := 49) (v := -1) d_RD_change_49 (by decide) ?_
          refine xj_iret (pc := 50) d_RD_change_50 rfl ?_
          exact ck_none hC (if_neg (by simp_all))
        · refine xj_callV (pc := 24) d_RD_change_24 ml_RD_56 ok_RD_register (s_RD_register_n i_to) rfl rfl rfl rfl rfl (Nat.le_of_ble_eq_true rfl) (by decide) ?_
          rintro rv I1 F1 ⟨rfl, rfl, rfl⟩
          dsimp only [Option.toList, List.cons_append, List.nil_append]
          refine xj_astoreN (pc := 27) d_RD_change_27 (by decide) rfl ?_
          dsimp only [xset, xset2, xkill]
          refine xj_aloadN (pc := 29) d_RD_change_29 rfl ?_
          refine xj_ifnullN (pc := 31) (tgt := 49) d_RD_change_31 (by decide) ?_
          refine xj_iconst (pc := 49) (v := -1) d_RD_change_49 (by decide) ?_
          refine xj_iret (pc := 50) d_RD_change_50 rfl ?_
          exact ck_none hC (if_neg (by simp_all))
end RDI
