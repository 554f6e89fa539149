section RDK
variable {I I1 I2 : XI} {F F1 F2 : XF} {S : XSt} {k w : Nat} {M X L : List Int32}
/-! place -/
def plc (A B : List Int32) (i : Nat) : Bool := (List.range (wst A).length).all (fun j => decide (wat A j = wat B (i + j)))
def sp_place (S : XSt) (a b k : Int32) : Int32 := if isR a && isR b && decide (1 ≤ k.toInt) then (if (wst (sR S a)).length = 0 then 0 else nI (ff (plc (sR S a) (sR S b)) ((wst (sR S b)).length + 1 - (wst (sR S a)).length - (k.toInt.toNat - 1)) (k.toInt.toNat - 1))) else -1
theorem plc_t {A B : List Int32} {i : Nat} : plc A B i = true ↔ ∀ j, j < (wst A).length → wat A j = wat B (i + j) := by
  simp [plc, List.all_eq_true]
theorem wat_get (L : List Int32) (q : Nat) {t : Nat} (h : t < (wat L q).length) : (wat L q)[t]? = L[wbg L q + t]? := by
  have hl := wat_len L q
  rw [← wat_sl, List.getElem?_drop, List.getElem?_take, if_pos (by omega)]
theorem rng_wat {A B : List Int32} {q j : Nat} (hl : (wat B q).length = (wat A j).length) : rng B (wbg B q) A (wbg A j) (wat A j).length = true ↔ wat A j = wat B q := by
  have h1 := wat_len A j
  have h2 := wat_len B q
  have h3 := wsp_le A j
  have h4 := wsp_le B q
  rw [rng_t]
  constructor
  · rintro ⟨-, h⟩
    apply List.ext_getElem?
    intro t
    rcases Nat.lt_or_ge t (wat A j).length with z | z
    · have := h t z
      rw [wat_get A j z, wat_get B q (by omega)]
      rw [List.getElem?_eq_getElem (show wbg B q + t < B.length by have := wbg_sp B q; omega), List.getElem?_eq_getElem (show wbg A j + t < A.length by have := wbg_sp A j; omega)] at this ⊢
      simp only [Option.getD_some] at this
      rw [this]
    · rw [List.getElem?_eq_none (by omega), List.getElem?_eq_none (by omega)]
  · intro e
    refine ⟨by have := wbg_sp B q; omega, fun t ht => ?_⟩
    rw [← wat_get B q (by omega), ← wat_get A j ht, e]
theorem pl_leq {a b : Nat} (h : nI a = nI b) (ha : a < 1000) (hb : b < 1000) : a = b := nI_inj ha hb h
theorem s_RD_sws_l {ka kb i : Nat} {A B : List Int32} (hka : ka < 10) (hkb : kb < 10) (hA : Rl I F ka A) (hB : Rl I F kb B) (hWa : Wl I F 1 A) (hWb : Wl I F 0 B) (hi : i ≤ 1000) : ∀ (m j : Nat), j + m = (wst A).length → (∀ q, q < j → wat A q = wat B (i + q)) →
    XJ none m_RD_soughtWordsStandAt 3 [some (.ref 24), some (.int (nI i)), some (.ref ka), some (.ref kb), some (.int (nI j))] [] I F (xpi (b01 (plc A B i)) I F) := by
  have hc := wst_cnt hWa.2.2.1
  have ec := hWa.cn
  have hAl := hA.lt
  have hBl := hB.lt
  intro m
  induction m with
  | zero =>
    intro j hj hq
    refine xj_iload (pc := 3) d_RD_soughtWordsStandAt_3 rfl ?_
    refine xj_aload_n (pc := 5) d_RD_soughtWordsStandAt_5 rfl rfl ?_
    refine xj_getR (pc := 6) d_RD_soughtWordsStandAt_6 fl_RD_32 rfl rfl ?_
    refine xj_callV (pc := 9) d_RD_soughtWordsStandAt_9 ml_RD_146 ok_WL_count (s_WL_count (w := 1) (by decide)) rfl rfl (xsh_wl (by omega)) rfl rfl (Nat.le_of_ble_eq_true rfl) (by decide) ?_
    rintro rv I1 F1 ⟨rfl, rfl, rfl⟩
    dsimp only [Option.toList, List.cons_append, List.nil_append]
    refine xj_icmp_ge (pc := 12) (tgt := 82) d_RD_soughtWordsStandAt_12 (by decide) (fun h12 => ?_) (fun h12 => absurd (by rw [n_le, ec, n_nI (by omega)]; omega) h12)
    refine xj_iconst (pc := 82) (v := 1) d_RD_soughtWordsStandAt_82 (by decide) ?_
    refine xj_zret (pc := 83) d_RD_soughtWordsStandAt_83 rfl (by first | exact Or.inl rfl | exact Or.inr rfl | assumption | omega) ?_
    rw [plc_t.mpr (fun q h => hq q (by omega))]
    exact ⟨rfl, rfl, rfl⟩
  | succ m ih =>
    intro j hj hq
    have h1 := wbg_le A j
    have h2 := wbg_le B (i + j)
    have h3 := wat_len A j
    have h4 := wsp_le A j
    refine xj_iload (pc := 3) d_RD_soughtWordsStandAt_3 rfl ?_
    refine xj_aload_n (pc := 5) d_RD_soughtWordsStandAt_5 rfl rfl ?_
    refine xj_getR (pc := 6) d_RD_soughtWordsStandAt_6 fl_RD_32 rfl rfl ?_
    refine xj_callV (pc := 9) d_RD_soughtWordsStandAt_9 ml_RD_146 ok_WL_count (s_WL_count (w := 1) (by decide)) rfl rfl (xsh_wl (by omega)) rfl rfl (Nat.le_of_ble_eq_true rfl) (by decide) ?_
    rintro rv I1 F1 ⟨rfl, rfl, rfl⟩
    dsimp only [Option.toList, List.cons_append, List.nil_append]
    refine xj_icmp_ge (pc := 12) (tgt := 82) d_RD_soughtWordsStandAt_12 (by decide) (fun h12 => absurd h12 (by rw [n_le, ec, n_nI (by omega)]; omega)) (fun h12 => ?_)
    refine xj_aload_n (pc := 15) d_RD_soughtWordsStandAt_15 rfl rfl ?_
    refine xj_getR (pc := 16) d_RD_soughtWordsStandAt_16 fl_RD_32 rfl rfl ?_
    refine xj_iload (pc := 19) d_RD_soughtWordsStandAt_19 rfl ?_
    refine xj_callV (pc := 21) d_RD_soughtWordsStandAt_21 ml_RD_158 ok_WL_lengthOf (s_WL_lengthOf (w := 1) (by decide) hWa (by omega)) rfl rfl (xsh_wl (by omega)) rfl rfl (Nat.le_of_ble_eq_true rfl) (by decide) ?_
    rintro rv I1 F1 ⟨rfl, rfl, rfl⟩
    dsimp only [Option.toList, List.cons_append, List.nil_append]
    refine xj_istore (pc := 24) d_RD_soughtWordsStandAt_24 (by decide) rfl ?_
    dsimp only [xset, xset2, xkill]
    refine xj_aload_n (pc := 26) d_RD_soughtWordsStandAt_26 rfl rfl ?_
    refine xj_getR (pc := 27) d_RD_soughtWordsStandAt_27 fl_RD_28 rfl rfl ?_
    refine xj_iload_n (pc := 30) d_RD_soughtWordsStandAt_30 rfl rfl ?_
    refine xj_iload (pc := 31) d_RD_soughtWordsStandAt_31 rfl ?_
    refine xj_iadd (pc := 33) d_RD_soughtWordsStandAt_33 ?_
    rw [n_addN]
    refine xj_callV (pc := 34) d_RD_soughtWordsStandAt_34 ml_RD_158 ok_WL_lengthOf (s_WL_lengthOf (w := 0) (by decide) hWb (by omega)) rfl rfl (xsh_wl (by omega)) rfl rfl (Nat.le_of_ble_eq_true rfl) (by decide) ?_
    rintro rv I1 F1 ⟨rfl, rfl, rfl⟩
    dsimp only [Option.toList, List.cons_append, List.nil_append]
    refine xj_iload (pc := 37) d_RD_soughtWordsStandAt_37 rfl ?_
    refine xj_icmp_eq (pc := 39) (tgt := 44) d_RD_soughtWordsStandAt_39 (by decide) (fun h39 => ?_) (fun h39 => ?_)
    · have hle : (wat B (i + j)).length = (wat A j).length := pl_leq h39 (by have := wat_len B (i + j); have := wsp_le B (i + j); omega) (by omega)
      refine xj_aload_n (pc := 44) d_RD_soughtWordsStandAt_44 rfl rfl ?_
      refine xj_aload_n (pc := 45) d_RD_soughtWordsStandAt_45 rfl rfl ?_
      refine xj_getR (pc := 46) d_RD_soughtWordsStandAt_46 fl_RD_28 rfl rfl ?_
      refine xj_iload_n (pc := 49) d_RD_soughtWordsStandAt_49 rfl rfl ?_
      refine xj_iload (pc := 50) d_RD_soughtWordsStandAt_50 rfl ?_
      refine xj_iadd (pc := 52) d_RD_soughtWordsStandAt_52 ?_
      rw [n_addN]
      refine xj_callV (pc := 53) d_RD_soughtWordsStandAt_53 ml_RD_152 ok_WL_startOf (s_WL_startOf (w := 0) (by decide) hWb (by omega)) rfl rfl (xsh_wl (by omega)) rfl rfl (Nat.le_of_ble_eq_true rfl) (by decide) ?_
      rintro rv I1 F1 ⟨rfl, rfl, rfl⟩
      dsimp only [Option.toList, List.cons_append, List.nil_append]
      refine xj_aload_n (pc := 56) d_RD_soughtWordsStandAt_56 rfl rfl ?_
      refine xj_aload_n (pc := 57) d_RD_soughtWordsStandAt_57 rfl rfl ?_
      refine xj_getR (pc := 58) d_RD_soughtWordsStandAt_58 fl_RD_32 rfl rfl ?_
      refine xj_iload (pc := 61) d_RD_soughtWordsStandAt_61 rfl ?_
      refine xj_callV (pc := 63) d_RD_soughtWordsStandAt_63 ml_RD_152 ok_WL_startOf (s_WL_startOf (w := 1) (by decide) hWa (by omega)) rfl rfl (xsh_wl (by omega)) rfl rfl (Nat.le_of_ble_eq_true rfl) (by decide) ?_
      rintro rv I1 F1 ⟨rfl, rfl, rfl⟩
      dsimp only [Option.toList, List.cons_append, List.nil_append]
      refine xj_iload (pc := 66) d_RD_soughtWordsStandAt_66 rfl ?_
      refine xj_callV (pc := 68) d_RD_soughtWordsStandAt_68 ml_RD_183 ok_RW_hasRangeAt (s_RW_hasRangeAt (by omega) (by omega) hB hA (by omega) (by omega) (by omega)) rfl rfl (xsh_row (by omega)) rfl rfl (Nat.le_of_ble_eq_true rfl) (by decide) ?_
      rintro rv I1 F1 ⟨rfl, rfl, rfl⟩
      dsimp only [Option.toList, List.cons_append, List.nil_append]
      refine xj_if_ne (pc := 71) (tgt := 76) d_RD_soughtWordsStandAt_71 (by decide) (fun h71 => ?_) (fun h71 => ?_)
      · refine xj_inc1 (pc := 76) d_RD_soughtWordsStandAt_76 rfl (by decide) rfl ?_
        dsimp only [xset, xset2, xkill]
        rw [n_up]
        refine xj_goto (pc := 79) (tgt := 3) d_RD_soughtWordsStandAt_79 (by decide) ?_
        refine xj_take 5 (ih (j + 1) (by omega) (fun q h => ?_))
        rcases Nat.lt_or_ge q j with z | z
        · exact hq q z
        · rw [show q = j by omega]; exact (rng_wat hle).mp (b01_ne h71)
      · refine xj_iconst (pc := 74) (v := 0) d_RD_soughtWordsStandAt_74 (by decide) ?_
        refine xj_zret (pc := 75) d_RD_soughtWordsStandAt_75 rfl (by first | exact Or.inl rfl | exact Or.inr rfl | assumption | omega) ?_
        have hne : ¬ plc A B i = true := fun q => by (have := (rng_wat hle).mpr (plc_t.mp q j (by omega)); rw [this] at h71; exact absurd h71 (by decide))
        rw [b01, if_neg hne]
        exact ⟨rfl, rfl, rfl⟩
    · refine xj_iconst (pc := 42) (v := 0) d_RD_soughtWordsStandAt_42 (by decide) ?_
      refine xj_zret (pc := 43) d_RD_soughtWordsStandAt_43 rfl (by first | exact Or.inl rfl | exact Or.inr rfl | assumption | omega) ?_
      have hne : ¬ plc A B i = true := fun q => h39 (by rw [plc_t.mp q j (by omega)])
      rw [b01, if_neg hne]
      exact ⟨rfl, rfl, rfl⟩
theorem s_RD_sws {ka kb i : Nat} {A B : List Int32} (hka : ka < 10) (hkb : kb < 10) (hA : Rl I F ka A) (hB : Rl I F kb B) (hWa : Wl I F 1 A) (hWb : Wl I F 0 B) (hi : i ≤ 1000) : XM m_RD_soughtWordsStandAt [.ref 24, .int (nI i), .ref ka, .ref kb] I F (xpi (b01 (plc A B i)) I F) := by
  refine XM.of (by decide) (Nat.le_of_ble_eq_true rfl) ?_
  dsimp only [xargs]
  refine xj_iconst (pc := 0) (v := 0) d_RD_soughtWordsStandAt_0 (by decide) ?_
  refine xj_istore (pc := 1) d_RD_soughtWordsStandAt_1 (by decide) rfl ?_
  dsimp only [xset, xset2, xkill]
  exact s_RD_sws_l hka hkb hA hB hWa hWb hi _ 0 (by rw [Nat.zero_add]) (fun q h => absurd h (by omega))
theorem t_RD_place_l {a b kk : Int32} {ka kb : Nat} {A B : List Int32} (hC : CI I F S) (hX : CX I F I1 F1) (hM : ∃ M, Rl I1 F1 10 M) (hka : ka < 10) (hkb : kb < 10) (hA : Rl I1 F1 ka A) (hB : Rl I1 F1 kb B) (hWa : Wl I1 F1 1 A) (hWb : Wl I1 F1 0 B) (h0 : 0 < (wst A).length) : ∀ (m i : Nat), (wst B).length + 1 - (wst A).length - i = m → i < 2147483648 →
    XJ none m_RD_place 66 [some (.ref 24), some (.int a), some (.int b), some (.int kk), some (.ref ka), some (.ref kb), some (.int (nI i))] [] I1 F1 (CQ (nI (ff (plc A B) m i), S) I F) := by
  have hca := wst_cnt hWa.2.2.1
  have hcb := wst_cnt hWb.2.2.1
  have ea := hWa.cn
  have eb := hWb.cn
  have es : (I1 (13 + 2 * 0) - I1 (13 + 2 * 1)).toInt = ((wst B).length : Int) - (wst A).length := by rw [n_sub (by omega) (by omega), ea, eb]
  intro m
  induction m with
  | zero =>
    intro i hi hi2
    refine xj_iload (pc := 66) d_RD_place_66 rfl ?_
    refine xj_aload_n (pc := 68) d_RD_place_68 rfl rfl ?_
    refine xj_getR (pc := 69) d_RD_place_69 fl_RD_28 rfl rfl ?_
    refine xj_callV (pc := 72) d_RD_place_72 ml_RD_146 ok_WL_count (s_WL_count (w := 0) (by decide)) rfl rfl (xsh_wl (by omega)) rfl rfl (Nat.le_of_ble_eq_true rfl) (by decide) ?_
    rintro rv I1 F1 ⟨rfl, rfl, rfl⟩
    dsimp only [Option.toList, List.cons_append, List.nil_append]
    refine xj_aload_n (pc := 75) d_RD_place_75 rfl rfl ?_
    refine xj_getR (pc := 76) d_RD_place_76 fl_RD_32 rfl rfl ?_
    refine xj_callV (pc := 79) d_RD_place_79 ml_RD_146 ok_WL_count (s_WL_count (w := 1) (by decide)) rfl rfl (xsh_wl (by omega)) rfl rfl (Nat.le_of_ble_eq_true rfl) (by decide) ?_
    rintro rv I1 F1 ⟨rfl, rfl, rfl⟩
    dsimp only [Option.toList, List.cons_append, List.nil_append]
    refine xj_isub (pc := 82) d_RD_place_82 ?_
    refine xj_icmp_gt (pc := 83) (tgt := 110) d_RD_place_83 (by decide) (fun h83 => ?_) (fun h83 => absurd (by rw [n_lt, es, n_nI (by omega)]; omega) h83)
    refine xj_iconst (pc := 110) (v := 0) d_RD_place_110 (by decide) ?_
    refine xj_iret (pc := 111) d_RD_place_111 rfl ?_
    exact ck_ansX hC hX hM
  | succ m ih =>
    intro i hi hi2
    refine xj_iload (pc := 66) d_RD_place_66 rfl ?_
    refine xj_aload_n (pc := 68) d_RD_place_68 rfl rfl ?_
    refine xj_getR (pc := 69) d_RD_place_69 fl_RD_28 rfl rfl ?_
    refine xj_callV (pc := 72) d_RD_place_72 ml_RD_146 ok_WL_count (s_WL_count (w := 0) (by decide)) rfl rfl (xsh_wl (by omega)) rfl rfl (Nat.le_of_ble_eq_true rfl) (by decide) ?_
    rintro rv I1 F1 ⟨rfl, rfl, rfl⟩
    dsimp only [Option.toList, List.cons_append, List.nil_append]
    refine xj_aload_n (pc := 75) d_RD_place_75 rfl rfl ?_
    refine xj_getR (pc := 76) d_RD_place_76 fl_RD_32 rfl rfl ?_
    refine xj_callV (pc := 79) d_RD_place_79 ml_RD_146 ok_WL_count (s_WL_count (w := 1) (by decide)) rfl rfl (xsh_wl (by omega)) rfl rfl (Nat.le_of_ble_eq_true rfl) (by decide) ?_
    rintro rv I1 F1 ⟨rfl, rfl, rfl⟩
    dsimp only [Option.toList, List.cons_append, List.nil_append]
    refine xj_isub (pc := 82) d_RD_place_82 ?_
    refine xj_icmp_gt (pc := 83) (tgt := 110) d_RD_place_83 (by decide) (fun h83 => absurd h83 (by rw [n_lt, es, n_nI (by omega)]; omega)) (fun h83 => ?_)
    refine xj_aload_n (pc := 86) d_RD_place_86 rfl rfl ?_
    refine xj_iload (pc := 87) d_RD_place_87 rfl ?_
    refine xj_aload (pc := 89) d_RD_place_89 rfl ?_
    refine xj_aload (pc := 91) d_RD_place_91 rfl ?_
    refine xj_callV (pc := 93) d_RD_place_93 ml_RD_170 ok_RD_soughtWordsStandAt (s_RD_sws hka hkb hA hB hWa hWb (by omega)) rfl rfl rfl rfl rfl (Nat.le_of_ble_eq_true rfl) (by decide) ?_
    rintro rv I1 F1 ⟨rfl, rfl, rfl⟩
    dsimp only [Option.toList, List.cons_append, List.nil_append]
    refine xj_if_eq (pc := 96) (tgt := 104) d_RD_place_96 (by decide) (fun h96 => ?_) (fun h96 => ?_)
    · refine xj_inc1 (pc := 104) d_RD_place_104 rfl (by decide) rfl ?_
      dsimp only [xset, xset2, xkill]
      rw [n_up]
      refine xj_goto (pc := 107) (tgt := 66) d_RD_place_107 (by decide) ?_
      rw [ff, b01_eq h96, if_neg (by decide)]
      exact ih (i + 1) (by omega) (by omega)
    · refine xj_iload (pc := 99) d_RD_place_99 rfl ?_
      refine xj_iconst (pc := 101) (v := 1) d_RD_place_101 (by decide) ?_
      refine xj_iadd (pc := 102) d_RD_place_102 ?_
      refine xj_iret (pc := 103) d_RD_place_103 rfl ?_
      rw [ff, b01_ne h96, if_pos rfl, n_up]
      exact ck_ansX hC hX hM
theorem t_RD_place {a b k : Int32} (hS : OKS S) (hC : CI I F S) : XM m_RD_place [.ref 24, .int a, .int b, .int k] I F (CQ (sp_place S a b k, S) I F) := by
  refine XM.of (by decide) (Nat.le_of_ble_eq_true rfl) ?_
  dsimp only [xargs]
  have := n_hi k
  refine xj_aload_n (pc := 0) d_RD_place_0 rfl rfl ?_
  refine xj_iload_n (pc := 1) d_RD_place_1 rfl rfl ?_
  rcases regc a with ⟨k_a, hk_a, e_a, i_a, t_a⟩ | i_a
  · refine xj_callV (pc := 2) d_RD_place_2 ml_RD_56 ok_RD_register (s_RD_register_k hk_a e_a) rfl rfl rfl rfl rfl (Nat.le_of_ble_eq_true rfl) (by decide) ?_
    rintro rv I1 F1 ⟨rfl, rfl, rfl⟩
    dsimp only [Option.toList, List.cons_append, List.nil_append]
    refine xj_astore (pc := 5) d_RD_place_5 (by decide) rfl ?_
    dsimp only [xset, xset2, xkill]
    refine xj_aload_n (pc := 7) d_RD_place_7 rfl rfl ?_
    refine xj_iload_n (pc := 8) d_RD_place_8 rfl rfl ?_
    rcases regc b with ⟨k_b, hk_b, e_b, i_b, t_b⟩ | i_b
    · refine xj_callV (pc := 9) d_RD_place_9 ml_RD_56 ok_RD_register (s_RD_register_k hk_b e_b) rfl rfl rfl rfl rfl (Nat.le_of_ble_eq_true rfl) (by decide) ?_
      rintro rv I1 F1 ⟨rfl, rfl, rfl⟩
      dsimp only [Option.toList, List.cons_append, List.nil_append]
      refine xj_astore (pc := 12) d_RD_place_12 (by decide) rfl ?_
      dsimp only [xset, xset2, xkill]
      refine xj_aload (pc := 14) d_RD_place_14 rfl ?_
      refine xj_ifnull (pc := 16) d_RD_place_16 ?_
      refine xj_aload (pc := 19) d_RD_place_19 rfl ?_
      refine xj_ifnull (pc := 21) d_RD_place_21 ?_
      refine xj_iload_n (pc := 24) d_RD_place_24 rfl rfl ?_
      refine xj_iconst (pc := 25) (v := 1) d_RD_place_25 (by decide) ?_
      refine xj_icmp_ge (pc := 26) (tgt := 31) d_RD_place_26 (by decide) (fun h26 => ?_) (fun h26 => ?_)
      · simp only [n_lt, n_le, c_gt, c_le, c_lt, c_ge, not_lt_i, not_le_i, n_0, n_1, n_2, n_3, n_4, n_m1, n_10, n_200, n_240, n_256] at h26
        rw [sp_place, if_pos (by simp only [i_a, i_b, Bool.true_and, decide_eq_true_eq]; omega)]
        have hLa := hC.at hk_a t_a
        have hLb := hC.at hk_b t_b
        refine xj_aload_n (pc := 31) d_RD_place_31 rfl rfl ?_
        refine xj_getR (pc := 32) d_RD_place_32 fl_RD_32 rfl rfl ?_
        refine xj_aload (pc := 35) d_RD_place_35 rfl ?_
        refine xj_callV (pc := 37) d_RD_place_37 ml_RD_143 ok_WL_read (s_WL_read (w := 1) (by decide) (by omega) hLa (hS.le hk_a t_a)) rfl rfl (xsh_wl (by omega)) rfl rfl (Nat.le_of_ble_eq_true rfl) (by decide) ?_
        rintro rv I1 F1 ⟨rfl, g1, g2⟩
        dsimp only [Option.toList, List.cons_append, List.nil_append]
        refine xj_aload_n (pc := 40) d_RD_place_40 rfl rfl ?_
        refine xj_getR (pc := 41) d_RD_place_41 fl_RD_28 rfl rfl ?_
        refine xj_aload (pc := 44) d_RD_place_44 rfl ?_
        refine xj_callV (pc := 46) d_RD_place_46 ml_RD_143 ok_WL_read (s_WL_read (w := 0) (by decide) (by omega) (g1.kp (by omega) hLb) (hS.le hk_b t_b)) rfl rfl (xsh_wl (by omega)) rfl rfl (Nat.le_of_ble_eq_true rfl) (by decide) ?_
        rintro rv I2 F2 ⟨rfl, g3, g4⟩
        have g5 := g3.wl (by decide) g2
        have gx := (g1.cx (by decide)).tr (g3.cx (by decide))
        have gm : ∃ M, Rl I2 F2 10 M := hC.2.2.2.elim fun M hM => ⟨M, g3.kp (by decide) (g1.kp (by decide) hM)⟩
        have ecn := g5.cn
        dsimp only [Option.toList, List.cons_append, List.nil_append]
        refine xj_aload_n (pc := 49) d_RD_place_49 rfl rfl ?_
        refine xj_getR (pc := 50) d_RD_place_50 fl_RD_32 rfl rfl ?_
        refine xj_callV (pc := 53) d_RD_place_53 ml_RD_146 ok_WL_count (s_WL_count (w := 1) (by decide)) rfl rfl (xsh_wl (by omega)) rfl rfl (Nat.le_of_ble_eq_true rfl) (by decide) ?_
        rintro rv I1 F1 ⟨rfl, rfl, rfl⟩
        dsimp only [Option.toList, List.cons_append, List.nil_append]
        refine xj_if_ne (pc := 56) (tgt := 61) d_RD_place_56 (by decide) (fun h56 => ?_) (fun h56 => ?_)
        · rw [n_eq, n_0] at h56
          rw [if_neg (by omega)]
          refine xj_iload_n (pc := 61) d_RD_place_61 rfl rfl ?_
          refine xj_iconst (pc := 62) (v := 1) d_RD_place_62 (by decide) ?_
          refine xj_isub (pc := 63) d_RD_place_63 ?_
          refine xj_istore (pc := 64) d_RD_place_64 (by decide) rfl ?_
          dsimp only [xset, xset2, xkill]
          rw [n_of (x := k - 1) (n := k.toInt.toNat - 1) (by rw [n_k1 (by omega)]; omega)]
          exact t_RD_place_l hC gx gm hk_a hk_b (g3.kp (by omega) (g1.kp (by omega) hLa)) (g3.kp (by omega) (g1.kp (by omega) hLb)) g5 g4 (by omega) _ _ rfl (by omega)
        · refine xj_iconst (pc := 59) (v := 0) d_RD_place_59 (by decide) ?_
          refine xj_iret (pc := 60) d_RD_place_60 rfl ?_
          rw [n_eq, n_0] at h56
          rw [if_pos (by omega)]
          exact ck_ansX hC gx gm
      · simp only [n_lt, n_le, c_gt, c_le, c_lt, c_ge, not_lt_i, not_le_i, n_0, n_1, n_2, n_3, n_4, n_m1, n_10, n_200, n_240, n_256] at h26
        refine xj_iconst (pc := 29) (v := -1) d_RD_place_29 (by decide) ?_
        refine xj_iret (pc := 30) d_RD_place_30 rfl ?_
        rw [sp_place, if_neg (fun q => by simp only [Bool.and_eq_true, decide_eq_true_eq] at q; first | omega | simp_all)]
        exact ck_ans hC
    · refine xj_callV (pc := 9) d_RD_place_9 ml_RD_56 ok_RD_register (s_RD_register_n i_b) rfl rfl rfl rfl rfl (Nat.le_of_ble_eq_true rfl) (by decide) ?_
      rintro rv I1 F1 ⟨rfl, rfl, rfl⟩
      dsimp only [Option.toList, List.cons_append, List.nil_append]
      refine xj_astoreN (pc := 12) d_RD_place_12 (by decide) rfl ?_
      dsimp only [xset, xset2, xkill]
      refine xj_aload (pc := 14) d_RD_place_14 rfl ?_
      refine xj_ifnull (pc := 16) d_RD_place_16 ?_
      refine xj_aloadN (pc := 19) d_RD_place_19 rfl ?_
      refine xj_ifnullN (pc := 21) (tgt := 29) d_RD_place_21 (by decide) ?_
      refine xj_iconst (pc := 29) (v := -1) d_RD_place_29 (by decide) ?_
      refine xj_iret (pc := 30) d_RD_place_30 rfl ?_
      rw [sp_place, if_neg (fun q => by simp only [Bool.and_eq_true, decide_eq_true_eq] at q; first | omega | simp_all)]
      exact ck_ans hC
  · refine xj_callV (pc := 2) d_RD_place_2 ml_RD_56 ok_RD_register (s_RD_register_n i_a) rfl rfl rfl rfl rfl (Nat.le_of_ble_eq_true rfl) (by decide) ?_
    rintro rv I1 F1 ⟨rfl, rfl, rfl⟩
    dsimp only [Option.toList, List.cons_append, List.nil_append]
    refine xj_astoreN (pc := 5) d_RD_place_5 (by decide) rfl ?_
    dsimp only [xset, xset2, xkill]
    refine xj_aload_n (pc := 7) d_RD_place_7 rfl rfl ?_
    refine xj_iload_n (pc := 8) d_RD_place_8 rfl rfl ?_
    rcases regc b with ⟨k_b, hk_b, e_b, i_b, t_b⟩ | i_b
    · refine xj_callV (pc := 9) d_RD_place_9 ml_RD_56 ok_RD_register (s_RD_register_k hk_b e_b) rfl rfl rfl rfl rfl (Nat.le_of_ble_eq_true rfl) (by decide) ?_
      rintro rv I1 F1 ⟨rfl, rfl, rfl⟩
      dsimp only [Option.toList, List.cons_append, List.nil_append]
      refine xj_astore (pc := 12) d_RD_place_12 (by decide) rfl ?_
      dsimp only [xset, xset2, xkill]
      refine xj_aloadN (pc := 14) d_RD_place_14 rfl ?_
      refine xj_ifnullN (pc := 16) (tgt := 29) d_RD_place_16 (by decide) ?_
      refine xj_iconst (pc := 29) (v := -1) d_RD_place_29 (by decide) ?_
      refine xj_iret (pc := 30) d_RD_place_30 rfl ?_
      rw [sp_place, if_neg (fun q => by simp only [Bool.and_eq_true, decide_eq_true_eq] at q; first | omega | simp_all)]
      exact ck_ans hC
    · refine xj_callV (pc := 9) d_RD_place_9 ml_RD_56 ok_RD_register (s_RD_register_n i_b) rfl rfl rfl rfl rfl (Nat.le_of_ble_eq_true rfl) (by decide) ?_
      rintro rv I1 F1 ⟨rfl, rfl, rfl⟩
      dsimp only [Option.toList, List.cons_append, List.nil_append]
      refine xj_astoreN (pc := 12) d_RD_place_12 (by decide) rfl ?_
      dsimp only [xset, xset2, xkill]
      refine xj_aloadN (pc := 14) d_RD_place_14 rfl ?_
      refine xj_ifnullN (pc := 16) (tgt := 29) d_RD_place_16 (by decide) ?_
      refine xj_iconst (pc := 29) (v := -1) d_RD_place_29 (by decide) ?_
      refine xj_iret (pc := 30) d_RD_place_30 rfl ?_
      rw [sp_place, if_neg (fun q => by simp only [Bool.and_eq_true, decide_eq_true_eq] at q; first | omega | simp_all)]
      exact ck_ans hC
end RDK
