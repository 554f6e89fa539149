section WRD
variable {I I1 I2 : XI} {F F1 F2 : XF} {S : XSt} {k w : Nat} {M X L : List Int32}
def wrI (w : Nat) (L : List Int32) (I : XI) (F : XF) (D : List Nat) (I1 : XI) (F1 : XF) : Prop := Wc w I F I1 F1 ∧ I1 (13 + 2 * w) = nI D.length ∧ I1 (14 + 2 * w) = nI L.length ∧ ∀ q s, D[q]? = some s → F1 (12 + 3 * w) q = nI s ∧ F1 (13 + 3 * w) q = nI (wen L s)
def wrO (L : List Int32) (i : Nat) (D : List Nat) : Option Nat → Prop
  | none => D = wsi L i ∧ (i = 0 ∨ L.getD (i - 1) 32 = 32)
  | some s => D ++ [s] = wsi L i ∧ s < i ∧ ∀ q, s ≤ q → q < i → ¬ L.getD q 32 = 32
def wrV : Option Nat → Int32
  | none => -1
  | some s => nI s
theorem wb_end (L : List Int32) {i : Nat} (h : L.getD i 32 = 32) : wsi L (i + 1) = wsi L i := by
  rw [wsi_succ, if_neg (fun q => by simp only [wb, Bool.and_eq_true, decide_eq_true_eq] at q; exact q.1 h), List.append_nil]
theorem wr_add {c s e : Nat} {D : List Nat} (h : wrI w L I F D I1 F1) (hc : D.length = c) (he : wen L s = e) : wrI w L I F (D ++ [s]) (upd I1 (13 + 2 * w) (nI (c + 1))) (va_up (va_up F1 (12 + 3 * w) (upd (F1 (12 + 3 * w)) c (nI s))) (13 + 3 * w) (upd (F1 (13 + 3 * w)) c (nI e))) := by
  obtain ⟨⟨h1, h2⟩, h3, h4, h5⟩ := h
  refine ⟨⟨fun x a b => by simp only [upd, if_neg a]; exact h1 x a b, fun x a b => by simp only [va_up, if_neg a, if_neg b]; exact h2 x a b⟩, by simp [upd, hc], by simp only [upd, if_neg (show ¬ 14 + 2 * w = 13 + 2 * w by omega)]; exact h4, fun q t ht => ?_⟩
  simp only [va_up, if_neg (show ¬ 12 + 3 * w = 13 + 3 * w by omega), if_pos, upd]
  rcases Nat.lt_or_ge q D.length with hq | hq
  · rw [List.getElem?_append_left hq] at ht
    rw [if_neg (by omega), if_neg (by omega)]
    exact h5 q t ht
  · have hq2 : q = D.length := by have := (List.getElem?_eq_some_iff.mp ht).1; simp at this; omega
    subst hq2
    rw [List.getElem?_append_right (Nat.le_refl _), Nat.sub_self] at ht
    have : s = t := Option.some.inj ht
    subst this
    rw [if_pos hc, if_pos hc, he]
    exact ⟨rfl, rfl⟩
theorem wsi_pre (L : List Int32) : ∀ (i j : Nat), i ≤ j → (wsi L i).length ≤ (wsi L j).length
  | i, 0, h => by rw [show i = 0 by omega]; exact Nat.le_refl _
  | i, j + 1, h => by
    rcases Nat.lt_or_ge i (j + 1) with q | q
    · have := wsi_pre L i j (by omega); rw [wsi_succ, List.length_append]; omega
    · rw [show i = j + 1 by omega]; exact Nat.le_refl _
theorem wr_ne {s : Nat} (h : s < 2147483648) : ¬ nI s = -1 := fun q => by
  have := n_nI h
  rw [q, n_m1] at this; omega
theorem s_WL_read_l (hw : w < 2) (hk : k < 12) (hL : Rl I F k L) (h200 : L.length ≤ 200) : ∀ (m i : Nat) (o : Option Nat) (D : List Nat) (I1 : XI) (F1 : XF), i + m = L.length + 1 → wrI w L I F D I1 F1 → wrO L i D o →
    XJ none m_WL_read 17 [some (.ref (26 + 4 * w)), some (.ref k), some (.int (wrV o)), some (.int (nI i))] [] I1 F1 (fun rv I2 F2 => rv = none ∧ Wc w I F I2 F2 ∧ Wl I2 F2 w L) := by
  have hend : L.getD L.length 32 = 32 := by rw [List.getD_eq_getElem?_getD, List.getElem?_eq_none (Nat.le_refl _)]; rfl
  intro m
  induction m with
  | zero =>
    intro i o D I1 F1 hi h1 h2
    have e : i = L.length + 1 := by omega
    subst e
    refine xj_iload_n (pc := 17) d_WL_read_17 rfl rfl ?_
    refine xj_aload_n (pc := 18) d_WL_read_18 rfl rfl ?_
    refine xj_wrl (pc := 19) d_WL_read_19 fl_WL_25 (by omega) ?_
    refine xj_icmp_gt (pc := 22) (tgt := 83) d_WL_read_22 (by decide) (fun h22 => ?_) (fun h22 => absurd (by rw [h1.2.2.1, n_lt, n_nI (by omega), n_nI (by omega)]; omega) h22)
    refine xj_vret (pc := 83) d_WL_read_83 rfl ?_
    refine ⟨rfl, h1.1, ?_⟩
    cases o with
    | none => (have hD : D = wst L := by rw [h2.1, wb_end L hend]; rfl); rw [hD] at h1; exact ⟨h1.2.1, h1.2.2.1, h200, h1.2.2.2⟩
    | some s => exact absurd hend (h2.2.2 L.length (by have := h2.2.1; omega) (by omega))
  | succ m ih =>
    intro i o D I1 F1 hi h1 h2
    have hL1 := h1.1.kp hk hL
    have hcw := (wsi_cnt L (L.length + 1)).1
    by_cases hb : L.getD i 32 = 32
    · cases o with
      | none =>
        refine xj_iload_n (pc := 17) d_WL_read_17 rfl rfl ?_
        refine xj_aload_n (pc := 18) d_WL_read_18 rfl rfl ?_
        refine xj_wrl (pc := 19) d_WL_read_19 fl_WL_25 (by omega) ?_
        refine xj_icmp_gt (pc := 22) (tgt := 83) d_WL_read_22 (by decide) (fun h22 => absurd h22 (by rw [h1.2.2.1, n_lt, n_nI (by omega), n_nI (by omega)]; omega)) (fun h22 => ?_)
        refine xj_aload_n (pc := 25) d_WL_read_25 rfl rfl ?_
        refine xj_iload_n (pc := 26) d_WL_read_26 rfl rfl ?_
        refine xj_bipush (pc := 27) (v := 32) d_WL_read_27 (by decide) ?_
        refine xj_callV (pc := 29) d_WL_read_29 ml_WL_34 ok_RW_byteOr (s_RW_byteOr hk hL1) rfl rfl (xsh_row (by omega)) rfl rfl (Nat.le_of_ble_eq_true rfl) (by decide) ?_
        rintro rv I1 F1 ⟨rfl, rfl, rfl⟩
        dsimp only [Option.toList, List.cons_append, List.nil_append]
        rw [rg_n (by omega), ← List.getD_eq_getElem?_getD]
        refine xj_bipush (pc := 32) (v := 32) d_WL_read_32 (by decide) ?_
        refine xj_icmp_eq (pc := 34) (tgt := 41) d_WL_read_34 (by decide) (fun h34 => ?_) (fun h34 => absurd (hb) h34)
        refine xj_iconst (pc := 41) (v := 0) d_WL_read_41 (by decide) ?_
        refine xj_istore (pc := 42) d_WL_read_42 (by decide) rfl ?_
        dsimp only [xset, xset2, xkill]
        refine xj_iload (pc := 44) d_WL_read_44 rfl ?_
        refine xj_if_eq (pc := 46) (tgt := 59) d_WL_read_46 (by decide) (fun h46 => ?_) (fun h46 => absurd (rfl) h46)
        refine xj_iload (pc := 59) d_WL_read_59 rfl ?_
        refine xj_if_ne (pc := 61) (tgt := 77) d_WL_read_61 (by decide) (fun h61 => absurd (rfl) h61) (fun h61 => ?_)
        refine xj_iload_n (pc := 64) d_WL_read_64 rfl rfl ?_
        refine xj_iconst (pc := 65) (v := -1) d_WL_read_65 (by decide) ?_
        refine xj_icmp_eq (pc := 66) (tgt := 77) d_WL_read_66 (by decide) (fun h66 => ?_) (fun h66 => absurd (rfl) h66)
        refine xj_inc1 (pc := 77) d_WL_read_77 rfl (by decide) rfl ?_
        dsimp only [xset, xset2, xkill]
        rw [n_up]
        refine xj_goto (pc := 80) (tgt := 17) d_WL_read_80 (by decide) ?_
        exact xj_take 4 (ih (i + 1) none D I1 F1 (by omega) h1 ⟨by rw [wb_end L hb]; exact h2.1, Or.inr (by rw [Nat.add_sub_cancel]; exact hb)⟩)
      | some s =>
        have hDl : D.length + 1 = (wsi L i).length := by rw [← h2.1]; simp
        have hp := wsi_pre L i L.length (by omega)
        have hcn := wst_cnt h200
        rw [wst_wsi] at hcn
        have hwe : wen L s = i := wen_eq (by have := h2.2.1; omega) (by omega) h2.2.2 hb
        refine xj_iload_n (pc := 17) d_WL_read_17 rfl rfl ?_
        refine xj_aload_n (pc := 18) d_WL_read_18 rfl rfl ?_
        refine xj_wrl (pc := 19) d_WL_read_19 fl_WL_25 (by omega) ?_
        refine xj_icmp_gt (pc := 22) (tgt := 83) d_WL_read_22 (by decide) (fun h22 => absurd h22 (by rw [h1.2.2.1, n_lt, n_nI (by omega), n_nI (by omega)]; omega)) (fun h22 => ?_)
        refine xj_aload_n (pc := 25) d_WL_read_25 rfl rfl ?_
        refine xj_iload_n (pc := 26) d_WL_read_26 rfl rfl ?_
        refine xj_bipush (pc := 27) (v := 32) d_WL_read_27 (by decide) ?_
        refine xj_callV (pc := 29) d_WL_read_29 ml_WL_34 ok_RW_byteOr (s_RW_byteOr hk hL1) rfl rfl (xsh_row (by omega)) rfl rfl (Nat.le_of_ble_eq_true rfl) (by decide) ?_
        rintro rv I1 F1 ⟨rfl, rfl, rfl⟩
        dsimp only [Option.toList, List.cons_append, List.nil_append]
        rw [rg_n (by omega), ← List.getD_eq_getElem?_getD]
        refine xj_bipush (pc := 32) (v := 32) d_WL_read_32 (by decide) ?_
        refine xj_icmp_eq (pc := 34) (tgt := 41) d_WL_read_34 (by decide) (fun h34 => ?_) (fun h34 => absurd (hb) h34)
        refine xj_iconst (pc := 41) (v := 0) d_WL_read_41 (by decide) ?_
        refine xj_istore (pc := 42) d_WL_read_42 (by decide) rfl ?_
        dsimp only [xset, xset2, xkill]
        refine xj_iload (pc := 44) d_WL_read_44 rfl ?_
        refine xj_if_eq (pc := 46) (tgt := 59) d_WL_read_46 (by decide) (fun h46 => ?_) (fun h46 => absurd (rfl) h46)
        refine xj_iload (pc := 59) d_WL_read_59 rfl ?_
        refine xj_if_ne (pc := 61) (tgt := 77) d_WL_read_61 (by decide) (fun h61 => absurd (rfl) h61) (fun h61 => ?_)
        refine xj_iload_n (pc := 64) d_WL_read_64 rfl rfl ?_
        refine xj_iconst (pc := 65) (v := -1) d_WL_read_65 (by decide) ?_
        refine xj_icmp_eq (pc := 66) (tgt := 77) d_WL_read_66 (by decide) (fun h66 => absurd h66 (wr_ne (by have := h2.2.1; omega))) (fun h66 => ?_)
        refine xj_aload_n (pc := 69) d_WL_read_69 rfl rfl ?_
        refine xj_iload_n (pc := 70) d_WL_read_70 rfl rfl ?_
        refine xj_iload_n (pc := 71) d_WL_read_71 rfl rfl ?_
        refine xj_callV (pc := 72) d_WL_read_72 ml_WL_38 ok_WL_addWord (s_WL_addWord (c := D.length) (s := s) hw h1.2.1 (by omega)) rfl rfl (xsh_wl (by omega)) rfl rfl (Nat.le_of_ble_eq_true rfl) (by decide) ?_
        rintro rv I2 F2 ⟨rfl, rfl, rfl⟩
        dsimp only [Option.toList, List.cons_append, List.nil_append]
        refine xj_iconst (pc := 75) (v := -1) d_WL_read_75 (by decide) ?_
        refine xj_istore_n (pc := 76) d_WL_read_76 rfl (by decide) rfl ?_
        dsimp only [xset, xset2, xkill]
        refine xj_inc1 (pc := 77) d_WL_read_77 rfl (by decide) rfl ?_
        dsimp only [xset, xset2, xkill]
        rw [n_up]
        refine xj_goto (pc := 80) (tgt := 17) d_WL_read_80 (by decide) ?_
        exact xj_take 4 (ih (i + 1) none (D ++ [s]) _ _ (by omega) (wr_add h1 rfl hwe) ⟨by rw [wb_end L hb]; exact h2.1, Or.inr (by rw [Nat.add_sub_cancel]; exact hb)⟩)
    · have hi2 : i < L.length := by
        rcases Nat.lt_or_ge i L.length with q | q
        · exact q
        · rw [List.getD_eq_getElem?_getD, List.getElem?_eq_none q] at hb; exact absurd rfl hb
      cases o with
      | none =>
        have hwb : wb L i = true := by simp only [wb, Bool.and_eq_true, Bool.or_eq_true, decide_eq_true_eq, beq_iff_eq]; exact ⟨hb, h2.2⟩
        refine xj_iload_n (pc := 17) d_WL_read_17 rfl rfl ?_
        refine xj_aload_n (pc := 18) d_WL_read_18 rfl rfl ?_
        refine xj_wrl (pc := 19) d_WL_read_19 fl_WL_25 (by omega) ?_
        refine xj_icmp_gt (pc := 22) (tgt := 83) d_WL_read_22 (by decide) (fun h22 => absurd h22 (by rw [h1.2.2.1, n_lt, n_nI (by omega), n_nI (by omega)]; omega)) (fun h22 => ?_)
        refine xj_aload_n (pc := 25) d_WL_read_25 rfl rfl ?_
        refine xj_iload_n (pc := 26) d_WL_read_26 rfl rfl ?_
        refine xj_bipush (pc := 27) (v := 32) d_WL_read_27 (by decide) ?_
        refine xj_callV (pc := 29) d_WL_read_29 ml_WL_34 ok_RW_byteOr (s_RW_byteOr hk hL1) rfl rfl (xsh_row (by omega)) rfl rfl (Nat.le_of_ble_eq_true rfl) (by decide) ?_
        rintro rv I1 F1 ⟨rfl, rfl, rfl⟩
        dsimp only [Option.toList, List.cons_append, List.nil_append]
        rw [rg_n (by omega), ← List.getD_eq_getElem?_getD]
        refine xj_bipush (pc := 32) (v := 32) d_WL_read_32 (by decide) ?_
        refine xj_icmp_eq (pc := 34) (tgt := 41) d_WL_read_34 (by decide) (fun h34 => absurd h34 (hb)) (fun h34 => ?_)
        refine xj_iconst (pc := 37) (v := 1) d_WL_read_37 (by decide) ?_
        refine xj_goto (pc := 38) (tgt := 42) d_WL_read_38 (by decide) ?_
        refine xj_istore (pc := 42) d_WL_read_42 (by decide) rfl ?_
        dsimp only [xset, xset2, xkill]
        refine xj_iload (pc := 44) d_WL_read_44 rfl ?_
        refine xj_if_eq (pc := 46) (tgt := 59) d_WL_read_46 (by decide) (fun h46 => absurd h46 (by decide)) (fun h46 => ?_)
        refine xj_iload_n (pc := 49) d_WL_read_49 rfl rfl ?_
        refine xj_iconst (pc := 50) (v := -1) d_WL_read_50 (by decide) ?_
        refine xj_icmp_ne (pc := 51) (tgt := 59) d_WL_read_51 (by decide) (fun h51 => absurd (rfl) h51) (fun h51 => ?_)
        refine xj_iload_n (pc := 54) d_WL_read_54 rfl rfl ?_
        refine xj_istore_n (pc := 55) d_WL_read_55 rfl (by decide) rfl ?_
        dsimp only [xset, xset2, xkill]
        refine xj_goto (pc := 56) (tgt := 77) d_WL_read_56 (by decide) ?_
        refine xj_inc1 (pc := 77) d_WL_read_77 rfl (by decide) rfl ?_
        dsimp only [xset, xset2, xkill]
        rw [n_up]
        refine xj_goto (pc := 80) (tgt := 17) d_WL_read_80 (by decide) ?_
        exact xj_take 4 (ih (i + 1) (some i) D I1 F1 (by omega) h1 ⟨by rw [wsi_succ, if_pos hwb, h2.1], by omega, fun q a b => by rw [show q = i by omega]; exact hb⟩)
      | some s =>
        have hwb : ¬ wb L i = true := by
          simp only [wb, Bool.and_eq_true, Bool.or_eq_true, decide_eq_true_eq, beq_iff_eq]
          rintro ⟨-, q | q⟩
          · have := h2.2.1; omega
          · have := h2.2.1; exact h2.2.2 (i - 1) (by omega) (by omega) q
        refine xj_iload_n (pc := 17) d_WL_read_17 rfl rfl ?_
        refine xj_aload_n (pc := 18) d_WL_read_18 rfl rfl ?_
        refine xj_wrl (pc := 19) d_WL_read_19 fl_WL_25 (by omega) ?_
        refine xj_icmp_gt (pc := 22) (tgt := 83) d_WL_read_22 (by decide) (fun h22 => absurd h22 (by rw [h1.2.2.1, n_lt, n_nI (by omega), n_nI (by omega)]; omega)) (fun h22 => ?_)
        refine xj_aload_n (pc := 25) d_WL_read_25 rfl rfl ?_
        refine xj_iload_n (pc := 26) d_WL_read_26 rfl rfl ?_
        refine xj_bipush (pc := 27) (v := 32) d_WL_read_27 (by decide) ?_
        refine xj_callV (pc := 29) d_WL_read_29 ml_WL_34 ok_RW_byteOr (s_RW_byteOr hk hL1) rfl rfl (xsh_row (by omega)) rfl rfl (Nat.le_of_ble_eq_true rfl) (by decide) ?_
        rintro rv I1 F1 ⟨rfl, rfl, rfl⟩
        dsimp only [Option.toList, List.cons_append, List.nil_append]
        rw [rg_n (by omega), ← List.getD_eq_getElem?_getD]
        refine xj_bipush (pc := 32) (v := 32) d_WL_read_32 (by decide) ?_
        refine xj_icmp_eq (pc := 34) (tgt := 41) d_WL_read_34 (by decide) (fun h34 => absurd h34 (hb)) (fun h34 => ?_)
        refine xj_iconst (pc := 37) (v := 1) d_WL_read_37 (by decide) ?_
        refine xj_goto (pc := 38) (tgt := 42) d_WL_read_38 (by decide) ?_
        refine xj_istore (pc := 42) d_WL_read_42 (by decide) rfl ?_
        dsimp only [xset, xset2, xkill]
        refine xj_iload (pc := 44) d_WL_read_44 rfl ?_
        refine xj_if_eq (pc := 46) (tgt := 59) d_WL_read_46 (by decide) (fun h46 => absurd h46 (by decide)) (fun h46 => ?_)
        refine xj_iload_n (pc := 49) d_WL_read_49 rfl rfl ?_
        refine xj_iconst (pc := 50) (v := -1) d_WL_read_50 (by decide) ?_
        refine xj_icmp_ne (pc := 51) (tgt := 59) d_WL_read_51 (by decide) (fun h51 => ?_) (fun h51 => absurd h51 (wr_ne (by have := h2.2.1; omega)))
        refine xj_iload (pc := 59) d_WL_read_59 rfl ?_
        refine xj_if_ne (pc := 61) (tgt := 77) d_WL_read_61 (by decide) (fun h61 => ?_) (fun h61 => absurd h61 (by decide))
        refine xj_inc1 (pc := 77) d_WL_read_77 rfl (by decide) rfl ?_
        dsimp only [xset, xset2, xkill]
        rw [n_up]
        refine xj_goto (pc := 80) (tgt := 17) d_WL_read_80 (by decide) ?_
        exact xj_take 4 (ih (i + 1) (some s) D I1 F1 (by omega) h1 ⟨by rw [wsi_succ, if_neg hwb, List.append_nil]; exact h2.1, by have := h2.2.1; omega, fun q a b => by rcases Nat.lt_or_ge q i with z | z; exact h2.2.2 q a z; rw [show q = i by omega]; exact hb⟩)
theorem s_WL_read (hw : w < 2) (hk : k < 12) (hL : Rl I F k L) (h200 : L.length ≤ 200) : XM m_WL_read [.ref (26 + 4 * w), .ref k] I F (fun rv I2 F2 => rv = none ∧ Wc w I F I2 F2 ∧ Wl I2 F2 w L) := by
  refine XM.of (by decide) (Nat.le_of_ble_eq_true rfl) ?_
  dsimp only [xargs]
  refine xj_aload_n (pc := 0) d_WL_read_0 rfl rfl ?_
  refine xj_iconst (pc := 1) (v := 0) d_WL_read_1 (by decide) ?_
  refine xj_wpc (pc := 2) d_WL_read_2 fl_WL_21 (by omega) ?_
  refine xj_aload_n (pc := 5) d_WL_read_5 rfl rfl ?_
  refine xj_aload_n (pc := 6) d_WL_read_6 rfl rfl ?_
  refine xj_callV (pc := 7) d_WL_read_7 ml_WL_28 ok_RW_length (s_RW_length (by omega)) rfl rfl (xsh_row (by omega)) rfl rfl (Nat.le_of_ble_eq_true rfl) (by decide) ?_
  rintro rv I1 F1 ⟨rfl, rfl, rfl⟩
  dsimp only [Option.toList, List.cons_append, List.nil_append]
  refine xj_wpr (pc := 10) d_WL_read_10 fl_WL_25 (by omega) ?_
  refine xj_iconst (pc := 13) (v := -1) d_WL_read_13 (by decide) ?_
  refine xj_istore_n (pc := 14) d_WL_read_14 rfl (by decide) rfl ?_
  dsimp only [xset, xset2, xkill]
  refine xj_iconst (pc := 15) (v := 0) d_WL_read_15 (by decide) ?_
  refine xj_istore_n (pc := 16) d_WL_read_16 rfl (by decide) rfl ?_
  dsimp only [xset, xset2, xkill]
  refine s_WL_read_l (L := L) hw hk hL h200 (L.length + 1) 0 none [] _ _ (by omega) ⟨⟨fun x a b => ?_, fun _ _ _ => rfl⟩, ?_, ?_, fun q s h => by simp at h⟩ ⟨rfl, Or.inl rfl⟩
  · simp only [upd, if_neg a, if_neg b]
  · simp only [upd, if_neg (show ¬ 13 + 2 * w = 14 + 2 * w by omega), if_pos]; rfl
  · simp only [upd, if_pos, if_neg (show ¬ k = 13 + 2 * w by omega)]; exact hL.1
end WRD
