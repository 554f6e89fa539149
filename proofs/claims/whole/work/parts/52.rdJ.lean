section RDJ
variable {I I1 I2 : XI} {F F1 F2 : XF} {S : XSt} {k w : Nat} {M X L : List Int32}
theorem CI.m10 (h : CI I F S) (hw : w < 2) (g : Wc w I F I1 F1) : ∃ M, Rl I1 F1 10 M := h.2.2.2.elim fun M hM => ⟨M, g.kp (by decide) hM⟩
theorem ck_fullX {to : Int32} (h : CI I F S) (hX : CX I F I1 F1) (hM1 : ∃ M, Rl I1 F1 10 M) (hM : 200 < M.length) : CQ (sMk S to M) I F (some (.int (-4))) I1 F1 := by
  rw [sMk, if_pos hM]; exact ck_ansX h hX hM1
theorem t_RD_words {a : Int32} (hS : OKS S) (hC : CI I F S) : XM m_RD_words [.ref 24, .int a] I F (CQ (sp_words S a, S) I F) := by
  refine XM.of (by decide) (Nat.le_of_ble_eq_true rfl) ?_
  dsimp only [xargs]
  refine xj_aload_n (pc := 0) d_RD_words_0 rfl rfl ?_
  refine xj_iload_n (pc := 1) d_RD_words_1 rfl rfl ?_
  rcases regc a with ⟨k_a, hk_a, e_a, i_a, t_a⟩ | i_a
  · refine xj_callV (pc := 2) d_RD_words_2 ml_RD_56 ok_RD_register (s_RD_register_k hk_a e_a) rfl rfl rfl rfl rfl (Nat.le_of_ble_eq_true rfl) (by decide) ?_
    rintro rv I1 F1 ⟨rfl, rfl, rfl⟩
    dsimp only [Option.toList, List.cons_append, List.nil_append]
    refine xj_astore_n (pc := 5) d_RD_words_5 rfl (by decide) rfl ?_
    dsimp only [xset, xset2, xkill]
    refine xj_aload_n (pc := 6) d_RD_words_6 rfl rfl ?_
    refine xj_ifnonnull (pc := 7) (tgt := 12) d_RD_words_7 (by decide) ?_
    refine xj_aload_n (pc := 12) d_RD_words_12 rfl rfl ?_
    refine xj_getR (pc := 13) d_RD_words_13 fl_RD_28 rfl rfl ?_
    refine xj_aload_n (pc := 16) d_RD_words_16 rfl rfl ?_
    refine xj_callV (pc := 17) d_RD_words_17 ml_RD_143 ok_WL_read (s_WL_read (w := 0) (by decide) (by omega) (hC.at hk_a t_a) (hS.le hk_a t_a)) rfl rfl (xsh_wl (by omega)) rfl rfl (Nat.le_of_ble_eq_true rfl) (by decide) ?_
    rintro rv I1 F1 ⟨rfl, g1, g2⟩
    dsimp only [Option.toList, List.cons_append, List.nil_append]
    refine xj_aload_n (pc := 20) d_RD_words_20 rfl rfl ?_
    refine xj_getR (pc := 21) d_RD_words_21 fl_RD_28 rfl rfl ?_
    refine xj_callV (pc := 24) d_RD_words_24 ml_RD_146 ok_WL_count (s_WL_count (w := 0) (by decide)) rfl rfl (xsh_wl (by omega)) rfl rfl (Nat.le_of_ble_eq_true rfl) (by decide) ?_
    rintro rv I1 F1 ⟨rfl, rfl, rfl⟩
    dsimp only [Option.toList, List.cons_append, List.nil_append]
    refine xj_iret (pc := 27) d_RD_words_27 rfl ?_
    rw [sp_words, i_a, if_pos rfl, g2.1]
    exact ck_ansX hC (g1.cx (by decide)) (hC.m10 (by decide) g1)
  · refine xj_callV (pc := 2) d_RD_words_2 ml_RD_56 ok_RD_register (s_RD_register_n i_a) rfl rfl rfl rfl rfl (Nat.le_of_ble_eq_true rfl) (by decide) ?_
    rintro rv I1 F1 ⟨rfl, rfl, rfl⟩
    dsimp only [Option.toList, List.cons_append, List.nil_append]
    refine xj_astore_nN (pc := 5) d_RD_words_5 rfl (by decide) rfl ?_
    dsimp only [xset, xset2, xkill]
    refine xj_aload_nN (pc := 6) d_RD_words_6 rfl rfl ?_
    refine xj_ifnonnullN (pc := 7) d_RD_words_7 ?_
    refine xj_iconst (pc := 10) (v := -1) d_RD_words_10 (by decide) ?_
    refine xj_iret (pc := 11) d_RD_words_11 rfl ?_
    rw [sp_words, i_a, if_neg (by decide)]
    exact ck_ans hC
theorem wd_get {L : List Int32} {q : Nat} (h : q < (wst L).length) : wbg L q = (wst L).getD q 0 := by
  rw [wbg, List.getD_eq_getElem?_getD, List.getD_eq_getElem?_getD, List.getElem?_eq_getElem h]; rfl
theorem t_RD_word {a k what : Int32} (hS : OKS S) (hC : CI I F S) : XM m_RD_word [.ref 24, .int a, .int k, .int what] I F (CQ (sp_word S a k what, S) I F) := by
  refine XM.of (by decide) (Nat.le_of_ble_eq_true rfl) ?_
  dsimp only [xargs]
  have := n_hi k
  refine xj_aload_n (pc := 0) d_RD_word_0 rfl rfl ?_
  refine xj_iload_n (pc := 1) d_RD_word_1 rfl rfl ?_
  rcases regc a with ⟨k_a, hk_a, e_a, i_a, t_a⟩ | i_a
  · refine xj_callV (pc := 2) d_RD_word_2 ml_RD_56 ok_RD_register (s_RD_register_k hk_a e_a) rfl rfl rfl rfl rfl (Nat.le_of_ble_eq_true rfl) (by decide) ?_
    rintro rv I1 F1 ⟨rfl, rfl, rfl⟩
    dsimp only [Option.toList, List.cons_append, List.nil_append]
    refine xj_astore (pc := 5) d_RD_word_5 (by decide) rfl ?_
    dsimp only [xset, xset2, xkill]
    refine xj_aload (pc := 7) d_RD_word_7 rfl ?_
    refine xj_ifnull (pc := 9) d_RD_word_9 ?_
    refine xj_iload_n (pc := 12) d_RD_word_12 rfl rfl ?_
    refine xj_iconst (pc := 13) (v := 1) d_RD_word_13 (by decide) ?_
    refine xj_icmp_lt (pc := 14) (tgt := 26) d_RD_word_14 (by decide) (fun h14 => ?_) (fun h14 => ?_)
    · simp only [n_lt, n_le, c_gt, c_le, c_lt, c_ge, not_lt_i, not_le_i, n_0, n_1, n_2, n_3, n_4, n_m1, n_10, n_200, n_240, n_256] at h14
      refine xj_iconst (pc := 26) (v := -1) d_RD_word_26 (by decide) ?_
      refine xj_iret (pc := 27) d_RD_word_27 rfl ?_
      rw [sp_word, if_neg (fun q => by simp only [Bool.and_eq_true, decide_eq_true_eq] at q; first | omega | simp_all)]
      exact ck_ans hC
    · simp only [n_lt, n_le, c_gt, c_le, c_lt, c_ge, not_lt_i, not_le_i, n_0, n_1, n_2, n_3, n_4, n_m1, n_10, n_200, n_240, n_256] at h14
      refine xj_iload_n (pc := 17) d_RD_word_17 rfl rfl ?_
      refine xj_if_lt (pc := 18) (tgt := 26) d_RD_word_18 (by decide) (fun h18 => ?_) (fun h18 => ?_)
      · simp only [n_lt, n_le, c_gt, c_le, c_lt, c_ge, not_lt_i, not_le_i, n_0, n_1, n_2, n_3, n_4, n_m1, n_10, n_200, n_240, n_256] at h18
        refine xj_iconst (pc := 26) (v := -1) d_RD_word_26 (by decide) ?_
        refine xj_iret (pc := 27) d_RD_word_27 rfl ?_
        rw [sp_word, if_neg (fun q => by simp only [Bool.and_eq_true, decide_eq_true_eq] at q; first | omega | simp_all)]
        exact ck_ans hC
      · simp only [n_lt, n_le, c_gt, c_le, c_lt, c_ge, not_lt_i, not_le_i, n_0, n_1, n_2, n_3, n_4, n_m1, n_10, n_200, n_240, n_256] at h18
        refine xj_iload_n (pc := 21) d_RD_word_21 rfl rfl ?_
        refine xj_iconst (pc := 22) (v := 1) d_RD_word_22 (by decide) ?_
        refine xj_icmp_le (pc := 23) (tgt := 28) d_RD_word_23 (by decide) (fun h23 => ?_) (fun h23 => ?_)
        · simp only [n_lt, n_le, c_gt, c_le, c_lt, c_ge, not_lt_i, not_le_i, n_0, n_1, n_2, n_3, n_4, n_m1, n_10, n_200, n_240, n_256] at h23
          rw [sp_word, if_pos (by simp only [i_a, Bool.true_and, decide_eq_true_eq]; omega)]
          refine xj_aload_n (pc := 28) d_RD_word_28 rfl rfl ?_
          refine xj_getR (pc := 29) d_RD_word_29 fl_RD_28 rfl rfl ?_
          refine xj_aload (pc := 32) d_RD_word_32 rfl ?_
          refine xj_callV (pc := 34) d_RD_word_34 ml_RD_143 ok_WL_read (s_WL_read (w := 0) (by decide) (by omega) (hC.at hk_a t_a) (hS.le hk_a t_a)) rfl rfl (xsh_wl (by omega)) rfl rfl (Nat.le_of_ble_eq_true rfl) (by decide) ?_
          rintro rv I1 F1 ⟨rfl, g1, g2⟩
          have ecn := g2.cn
          have g3 := g1.cx (by decide)
          have g4 := hC.m10 (by decide) g1
          dsimp only [Option.toList, List.cons_append, List.nil_append]
          refine xj_iload_n (pc := 37) d_RD_word_37 rfl rfl ?_
          refine xj_aload_n (pc := 38) d_RD_word_38 rfl rfl ?_
          refine xj_getR (pc := 39) d_RD_word_39 fl_RD_28 rfl rfl ?_
          refine xj_callV (pc := 42) d_RD_word_42 ml_RD_146 ok_WL_count (s_WL_count (w := 0) (by decide)) rfl rfl (xsh_wl (by omega)) rfl rfl (Nat.le_of_ble_eq_true rfl) (by decide) ?_
          rintro rv I1 F1 ⟨rfl, rfl, rfl⟩
          dsimp only [Option.toList, List.cons_append, List.nil_append]
          refine xj_icmp_le (pc := 45) (tgt := 50) d_RD_word_45 (by decide) (fun h45 => ?_) (fun h45 => ?_)
          · simp only [n_lt, n_le, c_gt, c_le, c_lt, c_ge, not_lt_i, not_le_i, n_0, n_1, n_2, n_3, n_4, n_m1, n_10, n_200, n_240, n_256] at h45
            rw [if_neg (by omega)]
            have ek : k - 1 = nI (k.toInt.toNat - 1) := n_of (by rw [n_k1 (by omega)]; omega)
            refine xj_iload_n (pc := 50) d_RD_word_50 rfl rfl ?_
            refine xj_if_ne (pc := 51) (tgt := 69) d_RD_word_51 (by decide) (fun h51 => ?_) (fun h51 => ?_)
            · refine xj_aload_n (pc := 69) d_RD_word_69 rfl rfl ?_
              refine xj_getR (pc := 70) d_RD_word_70 fl_RD_28 rfl rfl ?_
              refine xj_iload_n (pc := 73) d_RD_word_73 rfl rfl ?_
              refine xj_iconst (pc := 74) (v := 1) d_RD_word_74 (by decide) ?_
              refine xj_isub (pc := 75) d_RD_word_75 ?_
              rw [ek]
              refine xj_callV (pc := 76) d_RD_word_76 ml_RD_158 ok_WL_lengthOf (s_WL_lengthOf (w := 0) (by decide) g2 (by omega)) rfl rfl (xsh_wl (by omega)) rfl rfl (Nat.le_of_ble_eq_true rfl) (by decide) ?_
              rintro rv I1 F1 ⟨rfl, rfl, rfl⟩
              dsimp only [Option.toList, List.cons_append, List.nil_append]
              refine xj_iret (pc := 79) d_RD_word_79 rfl ?_
              first | (rw [if_pos h51, n_up, show wbg (sR S a) (k.toInt.toNat - 1) = (wst (sR S a)).getD (k.toInt.toNat - 1) 0 from wd_get (by omega)]; exact ck_ansX hC g3 g4; done) | (rw [if_neg h51]; exact ck_ansX hC g3 g4)
            · refine xj_aload_n (pc := 54) d_RD_word_54 rfl rfl ?_
              refine xj_getR (pc := 55) d_RD_word_55 fl_RD_28 rfl rfl ?_
              refine xj_iload_n (pc := 58) d_RD_word_58 rfl rfl ?_
              refine xj_iconst (pc := 59) (v := 1) d_RD_word_59 (by decide) ?_
              refine xj_isub (pc := 60) d_RD_word_60 ?_
              rw [ek]
              refine xj_callV (pc := 61) d_RD_word_61 ml_RD_152 ok_WL_startOf (s_WL_startOf (w := 0) (by decide) g2 (by omega)) rfl rfl (xsh_wl (by omega)) rfl rfl (Nat.le_of_ble_eq_true rfl) (by decide) ?_
              rintro rv I1 F1 ⟨rfl, rfl, rfl⟩
              dsimp only [Option.toList, List.cons_append, List.nil_append]
              refine xj_iconst (pc := 64) (v := 1) d_RD_word_64 (by decide) ?_
              refine xj_iadd (pc := 65) d_RD_word_65 ?_
              refine xj_goto (pc := 66) (tgt := 79) d_RD_word_66 (by decide) ?_
              refine xj_iret (pc := 79) d_RD_word_79 rfl ?_
              first | (rw [if_pos h51, n_up, show wbg (sR S a) (k.toInt.toNat - 1) = (wst (sR S a)).getD (k.toInt.toNat - 1) 0 from wd_get (by omega)]; exact ck_ansX hC g3 g4; done) | (rw [if_neg h51]; exact ck_ansX hC g3 g4)
          · simp only [n_lt, n_le, c_gt, c_le, c_lt, c_ge, not_lt_i, not_le_i, n_0, n_1, n_2, n_3, n_4, n_m1, n_10, n_200, n_240, n_256] at h45
            refine xj_iconst (pc := 48) (v := 0) d_RD_word_48 (by decide) ?_
            refine xj_iret (pc := 49) d_RD_word_49 rfl ?_
            rw [if_pos (by omega)]
            exact ck_ansX hC g3 g4
        · simp only [n_lt, n_le, c_gt, c_le, c_lt, c_ge, not_lt_i, not_le_i, n_0, n_1, n_2, n_3, n_4, n_m1, n_10, n_200, n_240, n_256] at h23
          refine xj_iconst (pc := 26) (v := -1) d_RD_word_26 (by decide) ?_
          refine xj_iret (pc := 27) d_RD_word_27 rfl ?_
          rw [sp_word, if_neg (fun q => by simp only [Bool.and_eq_true, decide_eq_true_eq] at q; first | omega | simp_all)]
          exact ck_ans hC
  · refine xj_callV (pc := 2) d_RD_word_2 ml_RD_56 ok_RD_register (s_RD_register_n i_a) rfl rfl rfl rfl rfl (Nat.le_of_ble_eq_true rfl) (by decide) ?_
    rintro rv I1 F1 ⟨rfl, rfl, rfl⟩
    dsimp only [Option.toList, List.cons_append, List.nil_append]
    refine xj_astoreN (pc := 5) d_RD_word_5 (by decide) rfl ?_
    dsimp only [xset, xset2, xkill]
    refine xj_aloadN (pc := 7) d_RD_word_7 rfl ?_
    refine xj_ifnullN (pc := 9) (tgt := 26) d_RD_word_9 (by decide) ?_
    refine xj_iconst (pc := 26) (v := -1) d_RD_word_26 (by decide) ?_
    refine xj_iret (pc := 27) d_RD_word_27 rfl ?_
    rw [sp_word, if_neg (fun q => by simp only [Bool.and_eq_true, decide_eq_true_eq] at q; first | omega | simp_all)]
    exact ck_ans hC
/-! space -/
def wsum (L : List Int32) : Nat → Nat
  | 0 => 0
  | i + 1 => wsum L i + (wat L i).length
def m_sp (p : Int32) (L : List Int32) (n c : Nat) : List Int32 := (List.range c).flatMap (fun k => (if k = 0 then [] else List.replicate n p) ++ wat L k)
theorem m_sp_succ (p : Int32) (L : List Int32) (n c : Nat) : m_sp p L n (c + 1) = m_sp p L n c ++ ((if c = 0 then [] else List.replicate n p) ++ wat L c) := by
  rw [m_sp, List.range_succ, List.flatMap_append]; simp [m_sp]
theorem m_sp_len (p : Int32) (L : List Int32) (n : Nat) : ∀ c, (m_sp p L n c).length = wsum L c + (c - 1) * n
  | 0 => by simp [m_sp, wsum]
  | 1 => by rw [m_sp_succ, List.length_append, m_sp_len p L n 0]; simp [wsum]
  | c + 2 => by
    have e : wsum L (c + 2) = wsum L (c + 1) + (wat L (c + 1)).length := rfl
    rw [m_sp_succ, List.length_append, m_sp_len p L n (c + 1), if_neg (by omega), List.length_append, List.length_replicate, e, Nat.add_sub_cancel, show c + 2 - 1 = c + 1 by omega, Nat.succ_mul]; omega
theorem wsum_le {L : List Int32} (h : L.length ≤ 200) : ∀ c, wsum L c ≤ c * 200
  | 0 => Nat.le_refl _
  | c + 1 => by
    have := wsum_le h c
    have h2 := wat_len L c
    have := wsp_le L c
    rw [wsum, Nat.succ_mul]; omega
theorem s_WL_biw_l (hw : w < 2) (h : Wl I F w L) : ∀ (m i : Nat), i + m = (wst L).length →
    XJ none m_WL_bytesInWords 4 [some (.ref (26 + 4 * w)), some (.int (nI (wsum L i))), some (.int (nI i))] [] I F (xpi (nI (wsum L (wst L).length)) I F) := by
  have hc := wst_cnt h.2.2.1
  have ec := h.cn
  intro m
  induction m with
  | zero =>
    intro i hi
    refine xj_iload_n (pc := 4) d_WL_bytesInWords_4 rfl rfl ?_
    refine xj_aload_n (pc := 5) d_WL_bytesInWords_5 rfl rfl ?_
    refine xj_wcnt (pc := 6) d_WL_bytesInWords_6 fl_WL_21 (by omega) ?_
    refine xj_icmp_ge (pc := 9) (tgt := 26) d_WL_bytesInWords_9 (by decide) (fun h9 => ?_) (fun h9 => absurd (by rw [n_le, ec, n_nI (by omega)]; omega) h9)
    refine xj_iload_n (pc := 26) d_WL_bytesInWords_26 rfl rfl ?_
    refine xj_iret (pc := 27) d_WL_bytesInWords_27 rfl ?_
    rw [show i = (wst L).length by omega]
    exact ⟨rfl, rfl, rfl⟩
  | succ m ih =>
    intro i hi
    refine xj_iload_n (pc := 4) d_WL_bytesInWords_4 rfl rfl ?_
    refine xj_aload_n (pc := 5) d_WL_bytesInWords_5 rfl rfl ?_
    refine xj_wcnt (pc := 6) d_WL_bytesInWords_6 fl_WL_21 (by omega) ?_
    refine xj_icmp_ge (pc := 9) (tgt := 26) d_WL_bytesInWords_9 (by decide) (fun h9 => absurd h9 (by rw [n_le, ec, n_nI (by omega)]; omega)) (fun h9 => ?_)
    refine xj_iload_n (pc := 12) d_WL_bytesInWords_12 rfl rfl ?_
    refine xj_aload_n (pc := 13) d_WL_bytesInWords_13 rfl rfl ?_
    refine xj_iload_n (pc := 14) d_WL_bytesInWords_14 rfl rfl ?_
    refine xj_callV (pc := 15) d_WL_bytesInWords_15 ml_WL_49 ok_WL_lengthOf (s_WL_lengthOf hw h (by omega)) rfl rfl (xsh_wl (by omega)) rfl rfl (Nat.le_of_ble_eq_true rfl) (by decide) ?_
    rintro rv I1 F1 ⟨rfl, rfl, rfl⟩
    dsimp only [Option.toList, List.cons_append, List.nil_append]
    refine xj_iadd (pc := 18) d_WL_bytesInWords_18 ?_
    rw [n_addN, show wsum L i + (wat L i).length = wsum L (i + 1) from rfl]
    refine xj_istore_n (pc := 19) d_WL_bytesInWords_19 rfl (by decide) rfl ?_
    dsimp only [xset, xset2, xkill]
    refine xj_inc1 (pc := 20) d_WL_bytesInWords_20 rfl (by decide) rfl ?_
    dsimp only [xset, xset2, xkill]
    rw [n_up]
    refine xj_goto (pc := 23) (tgt := 4) d_WL_bytesInWords_23 (by decide) ?_
    exact ih (i + 1) (by omega)
theorem s_WL_biw (hw : w < 2) (h : Wl I F w L) : XM m_WL_bytesInWords [.ref (26 + 4 * w)] I F (xpi (nI (wsum L (wst L).length)) I F) := by
  refine XM.of (by decide) (Nat.le_of_ble_eq_true rfl) ?_
  dsimp only [xargs]
  refine xj_iconst (pc := 0) (v := 0) d_WL_bytesInWords_0 (by decide) ?_
  refine xj_istore_n (pc := 1) d_WL_bytesInWords_1 rfl (by decide) rfl ?_
  dsimp only [xset, xset2, xkill]
  refine xj_iconst (pc := 2) (v := 0) d_WL_bytesInWords_2 (by decide) ?_
  refine xj_istore_n (pc := 3) d_WL_bytesInWords_3 rfl (by decide) rfl ?_
  dsimp only [xset, xset2, xkill]
  exact s_WL_biw_l hw h (wst L).length 0 (by omega)
theorem sp_len {p x n : Int32} {L : List Int32} (hx : x.toInt = (wst L).length) (h200 : L.length ≤ 200) (hn : 0 ≤ n.toInt) : ((nI (wsum L (wst L).length)).toInt64 + (if x - 1 < 0 then 0 else x - 1).toInt64 * n.toInt64).toInt = (m_sp p L n.toInt.toNat (wst L).length).length := by
  have hc := wst_cnt h200
  have hs := wsum_le h200 (wst L).length
  have hs2 : (wst L).length * 200 ≤ 100 * 200 := Nat.mul_le_mul_right _ hc
  have := n_hi n
  have e1 : (x - 1).toInt = (wst L).length - 1 := by rw [n_sub (by rw [n_1]; omega) (by rw [n_1]; omega), n_1, hx]
  have e2 : (if x - 1 < 0 then 0 else x - 1).toInt = ((wst L).length - 1 : Nat) := by
    split
    · rename_i q; rw [n_lt, e1, n_0] at q; rw [n_0]; omega
    · rename_i q; rw [n_lt, e1, n_0] at q; omega
  have hm : ((wst L).length - 1) * n.toInt.toNat ≤ 100 * 2147483648 := Nat.mul_le_mul (by omega) (by omega)
  have e3 : (((wst L).length - 1 : Nat) : Int) * n.toInt = (((wst L).length - 1) * n.toInt.toNat : Nat) := by rw [Int.natCast_mul, Int.toNat_of_nonneg hn]
  have e4 : ((if x - 1 < 0 then 0 else x - 1).toInt64 * n.toInt64).toInt = (((wst L).length - 1) * n.toInt.toNat : Nat) := by
    rw [l_mul (by rw [l_of, l_of, e2, e3]; omega) (by rw [l_of, l_of, e2, e3]; omega), l_of, l_of, e2, e3]
  have e5 : (nI (wsum L (wst L).length)).toInt64.toInt = wsum L (wst L).length := by rw [l_of, n_nI (by omega)]
  rw [l_add (by rw [e4, e5]; omega) (by rw [e4, e5]; omega), e4, e5, m_sp_len]; omega
theorem t_RD_space_l {a n to : Int32} {ka kt : Nat} {gp : Int64} {P : XP} (hp : I 12 = S.2.2) (hka : ka < 10) (hL : Rl I F ka L) (hW : Wl I F 0 L) (k2 : ∀ (I1 : XI) (F1 : XF), Rs 10 ((m_sp S.2.2 L n.toInt.toNat (wst L).length).take (xcap 10)) I F I1 F1 → XJ none m_RD_space 152 [some (.ref 24), some (.int a), some (.int n), some (.int to), some (.ref ka), some (.ref kt)] [] I1 F1 P) : ∀ (m i : Nat) (I1 : XI) (F1 : XF), i + m = (wst L).length → Rs 10 ((m_sp S.2.2 L n.toInt.toNat i).take (xcap 10)) I F I1 F1 →
    XJ none m_RD_space 90 [some (.ref 24), some (.int a), some (.int n), some (.int to), some (.ref ka), some (.ref kt), some (.long gp), none, some (.int (nI i))] [] I1 F1 P := by
  have hc := wst_cnt hW.2.2.1
  have hll := hL.lt
  intro m
  induction m with
  | zero =>
    intro i I1 F1 hi g1
    have ec := (g1.wl (by decide) hW).cn
    refine xj_iload (pc := 90) d_RD_space_90 rfl ?_
    refine xj_aload_n (pc := 92) d_RD_space_92 rfl rfl ?_
    refine xj_getR (pc := 93) d_RD_space_93 fl_RD_28 rfl rfl ?_
    refine xj_callV (pc := 96) d_RD_space_96 ml_RD_146 ok_WL_count (s_WL_count (w := 0) (by decide)) rfl rfl (xsh_wl (by omega)) rfl rfl (Nat.le_of_ble_eq_true rfl) (by decide) ?_
    rintro rv I1 F1 ⟨rfl, rfl, rfl⟩
    dsimp only [Option.toList, List.cons_append, List.nil_append]
    refine xj_icmp_ge (pc := 99) (tgt := 152) d_RD_space_99 (by decide) (fun h99 => ?_) (fun h99 => absurd (by rw [n_le, ec, n_nI (by omega)]; omega) h99)
    exact xj_take 6 (k2 I1 F1 (by rw [← show i = (wst L).length by omega]; exact g1))
  | succ m ih =>
    intro i I1 F1 hi g1
    have hW1 := g1.wl (by decide) hW
    have ec := hW1.cn
    have h1 := wbg_le L i
    have h2 := wsp_le L i
    by_cases h0 : i = 0
    · subst h0
      refine xj_iload (pc := 90) d_RD_space_90 rfl ?_
      refine xj_aload_n (pc := 92) d_RD_space_92 rfl rfl ?_
      refine xj_getR (pc := 93) d_RD_space_93 fl_RD_28 rfl rfl ?_
      refine xj_callV (pc := 96) d_RD_space_96 ml_RD_146 ok_WL_count (s_WL_count (w := 0) (by decide)) rfl rfl (xsh_wl (by omega)) rfl rfl (Nat.le_of_ble_eq_true rfl) (by decide) ?_
      rintro rv I1 F1 ⟨rfl, rfl, rfl⟩
      dsimp only [Option.toList, List.cons_append, List.nil_append]
      refine xj_icmp_ge (pc := 99) (tgt := 152) d_RD_space_99 (by decide) (fun h99 => absurd h99 (by rw [n_le, ec, n_nI (by omega)]; omega)) (fun h99 => ?_)
      refine xj_iload (pc := 102) d_RD_space_102 rfl ?_
      refine xj_if_le (pc := 104) (tgt := 119) d_RD_space_104 (by decide) (fun h104 => ?_) (fun h104 => absurd (by decide) h104)
      refine xj_aload_n (pc := 119) d_RD_space_119 rfl rfl ?_
      refine xj_getR (pc := 120) d_RD_space_120 fl_RD_22 rfl rfl ?_
      refine xj_aload (pc := 123) d_RD_space_123 rfl ?_
      refine xj_aload_n (pc := 125) d_RD_space_125 rfl rfl ?_
      refine xj_getR (pc := 126) d_RD_space_126 fl_RD_28 rfl rfl ?_
      refine xj_iload (pc := 129) d_RD_space_129 rfl ?_
      refine xj_callV (pc := 131) d_RD_space_131 ml_RD_152 ok_WL_startOf (s_WL_startOf (w := 0) (by decide) hW1 (by omega)) rfl rfl (xsh_wl (by omega)) rfl rfl (Nat.le_of_ble_eq_true rfl) (by decide) ?_
      rintro rv I1 F1 ⟨rfl, rfl, rfl⟩
      dsimp only [Option.toList, List.cons_append, List.nil_append]
      refine xj_aload_n (pc := 134) d_RD_space_134 rfl rfl ?_
      refine xj_getR (pc := 135) d_RD_space_135 fl_RD_28 rfl rfl ?_
      refine xj_iload (pc := 138) d_RD_space_138 rfl ?_
      refine xj_callV (pc := 140) d_RD_space_140 ml_RD_155 ok_WL_stopOf (s_WL_stopOf (w := 0) (by decide) hW1 (by omega)) rfl rfl (xsh_wl (by omega)) rfl rfl (Nat.le_of_ble_eq_true rfl) (by decide) ?_
      rintro rv I1 F1 ⟨rfl, rfl, rfl⟩
      dsimp only [Option.toList, List.cons_append, List.nil_append]
      refine xj_callV (pc := 143) d_RD_space_143 ml_RD_72 ok_RW_addRange (s_RW_addRange (by decide) (by omega) (by omega) g1.2.2 (g1.kp (by omega) hL)) rfl rfl (xsh_row (by omega)) rfl rfl (Nat.le_of_ble_eq_true rfl) (by decide) ?_
      rintro rv I2 F2 ⟨rfl, g2⟩
      rw [n_nI (by omega), n_nI (by omega), Int.toNat_natCast, Int.toNat_natCast, wat_sl, tk_app] at g2
      replace g2 := g1.tr g2
      dsimp only [Option.toList, List.cons_append, List.nil_append]
      refine xj_inc1 (pc := 146) d_RD_space_146 rfl (by decide) rfl ?_
      dsimp only [xset, xset2, xkill]
      rw [n_up]
      refine xj_goto (pc := 149) (tgt := 90) d_RD_space_149 (by decide) ?_
      exact ih 1 I2 F2 (by omega) (by rw [m_sp_succ, if_pos rfl, List.nil_append]; exact g2)
    · refine xj_iload (pc := 90) d_RD_space_90 rfl ?_
      refine xj_aload_n (pc := 92) d_RD_space_92 rfl rfl ?_
      refine xj_getR (pc := 93) d_RD_space_93 fl_RD_28 rfl rfl ?_
      refine xj_callV (pc := 96) d_RD_space_96 ml_RD_146 ok_WL_count (s_WL_count (w := 0) (by decide)) rfl rfl (xsh_wl (by omega)) rfl rfl (Nat.le_of_ble_eq_true rfl) (by decide) ?_
      rintro rv I1 F1 ⟨rfl, rfl, rfl⟩
      dsimp only [Option.toList, List.cons_append, List.nil_append]
      refine xj_icmp_ge (pc := 99) (tgt := 152) d_RD_space_99 (by decide) (fun h99 => absurd h99 (by rw [n_le, ec, n_nI (by omega)]; omega)) (fun h99 => ?_)
      refine xj_iload (pc := 102) d_RD_space_102 rfl ?_
      refine xj_if_le (pc := 104) (tgt := 119) d_RD_space_104 (by decide) (fun h104 => absurd h104 (by rw [n_le, n_0, n_nI (by omega)]; omega)) (fun h104 => ?_)
      refine xj_aload_n (pc := 107) d_RD_space_107 rfl rfl ?_
      refine xj_getR (pc := 108) d_RD_space_108 fl_RD_22 rfl rfl ?_
      refine xj_aload_n (pc := 111) d_RD_space_111 rfl rfl ?_
      refine xj_getI (pc := 112) d_RD_space_112 fl_RD_42 rfl rfl ?_
      refine xj_iload_n (pc := 115) d_RD_space_115 rfl rfl ?_
      refine xj_callV (pc := 116) d_RD_space_116 ml_RD_68 ok_RW_addTimes (s_RW_addTimes (by decide) g1.2.2) rfl rfl (xsh_row (by omega)) rfl rfl (Nat.le_of_ble_eq_true rfl) (by decide) ?_
      rintro rv I2 F2 ⟨rfl, g2⟩
      rw [tk_app, n_cl, g1.1 12 (by decide), hp] at g2
      replace g2 := g1.tr g2
      dsimp only [Option.toList, List.cons_append, List.nil_append]
      refine xj_aload_n (pc := 119) d_RD_space_119 rfl rfl ?_
      refine xj_getR (pc := 120) d_RD_space_120 fl_RD_22 rfl rfl ?_
      refine xj_aload (pc := 123) d_RD_space_123 rfl ?_
      refine xj_aload_n (pc := 125) d_RD_space_125 rfl rfl ?_
      refine xj_getR (pc := 126) d_RD_space_126 fl_RD_28 rfl rfl ?_
      refine xj_iload (pc := 129) d_RD_space_129 rfl ?_
      refine xj_callV (pc := 131) d_RD_space_131 ml_RD_152 ok_WL_startOf (s_WL_startOf (w := 0) (by decide) (g2.wl (by decide) hW) (by omega)) rfl rfl (xsh_wl (by omega)) rfl rfl (Nat.le_of_ble_eq_true rfl) (by decide) ?_
      rintro rv I1 F1 ⟨rfl, rfl, rfl⟩
      dsimp only [Option.toList, List.cons_append, List.nil_append]
      refine xj_aload_n (pc := 134) d_RD_space_134 rfl rfl ?_
      refine xj_getR (pc := 135) d_RD_space_135 fl_RD_28 rfl rfl ?_
      refine xj_iload (pc := 138) d_RD_space_138 rfl ?_
      refine xj_callV (pc := 140) d_RD_space_140 ml_RD_155 ok_WL_stopOf (s_WL_stopOf (w := 0) (by decide) (g2.wl (by decide) hW) (by omega)) rfl rfl (xsh_wl (by omega)) rfl rfl (Nat.le_of_ble_eq_true rfl) (by decide) ?_
      rintro rv I1 F1 ⟨rfl, rfl, rfl⟩
      dsimp only [Option.toList, List.cons_append, List.nil_append]
      refine xj_callV (pc := 143) d_RD_space_143 ml_RD_72 ok_RW_addRange (s_RW_addRange (by decide) (by omega) (by omega) g2.2.2 (g2.kp (by omega) hL)) rfl rfl (xsh_row (by omega)) rfl rfl (Nat.le_of_ble_eq_true rfl) (by decide) ?_
      rintro rv I3 F3 ⟨rfl, g3⟩
      rw [n_nI (by omega), n_nI (by omega), Int.toNat_natCast, Int.toNat_natCast, wat_sl, tk_app] at g3
      replace g3 := g2.tr g3
      dsimp only [Option.toList, List.cons_append, List.nil_append]
      refine xj_inc1 (pc := 146) d_RD_space_146 rfl (by decide) rfl ?_
      dsimp only [xset, xset2, xkill]
      rw [n_up]
      refine xj_goto (pc := 149) (tgt := 90) d_RD_space_149 (by decide) ?_
      exact ih (i + 1) I3 F3 (by omega) (by rw [m_sp_succ, if_neg h0, ← List.append_assoc]; exact g3)
theorem t_RD_space {a n to : Int32} (hS : OKS S) (hC : CI I F S) : XM m_RD_space [.ref 24, .int a, .int n, .int to] I F (CQ (sp_space S a n to) I F) := by
  refine XM.of (by decide) (Nat.le_of_ble_eq_true rfl) ?_
  dsimp only [xargs]
  obtain ⟨M0, hM0⟩ := hC.2.2.2
  have := n_hi n
  have hfin : ∀ (ka kt : Nat) (I1 I2 I3 : XI) (F1 F2 F3 : XF), kt < 10 → to.toInt.toNat = kt → Wc 0 I F I1 F1 → Rs 10 [] I1 F1 I2 F2 → Rs 10 (m_space S.2.2 (sR S a) n.toInt.toNat) I2 F2 I3 F3 → (m_space S.2.2 (sR S a) n.toInt.toNat).length ≤ 200 → XJ none m_RD_space 152 [some (.ref 24), some (.int a), some (.int n), some (.int to), some (.ref ka), some (.ref kt)] [] I3 F3 (CQ (sMk S to (m_space S.2.2 (sR S a) n.toInt.toNat)) I F) := by
    intro ka kt I1 I2 I3 F1 F2 F3 hkt ht g1 g2 g3 hl
    refine xj_aload_n (pc := 152) d_RD_space_152 rfl rfl ?_
    refine xj_aload (pc := 153) d_RD_space_153 rfl ?_
    refine xj_callV (pc := 155) d_RD_space_155 ml_RD_79 ok_RD_keepMade (s_RD_keepMade hkt g3.2.2) rfl rfl rfl rfl rfl (Nat.le_of_ble_eq_true rfl) (by decide) ?_
    rintro rv I4 F4 ⟨rfl, g4⟩
    dsimp only [Option.toList, List.cons_append, List.nil_append]
    refine xj_iret (pc := 158) d_RD_space_158 rfl ?_
    exact ck_doneX hC ((g1.cx (by decide)).tr (g2.tr g3).cx) g3.2.2 g4 hkt ht rfl hl
  refine xj_aload_n (pc := 0) d_RD_space_0 rfl rfl ?_
  refine xj_iload_n (pc := 1) d_RD_space_1 rfl rfl ?_
  rcases regc a with ⟨k_a, hk_a, e_a, i_a, t_a⟩ | i_a
  · refine xj_callV (pc := 2) d_RD_space_2 ml_RD_56 ok_RD_register (s_RD_register_k hk_a e_a) rfl rfl rfl rfl rfl (Nat.le_of_ble_eq_true rfl) (by decide) ?_
    rintro rv I1 F1 ⟨rfl, rfl, rfl⟩
    dsimp only [Option.toList, List.cons_append, List.nil_append]
    refine xj_astore (pc := 5) d_RD_space_5 (by decide) rfl ?_
    dsimp only [xset, xset2, xkill]
    refine xj_aload_n (pc := 7) d_RD_space_7 rfl rfl ?_
    refine xj_iload_n (pc := 8) d_RD_space_8 rfl rfl ?_
    rcases regc to with ⟨k_to, hk_to, e_to, i_to, t_to⟩ | i_to
    · refine xj_callV (pc := 9) d_RD_space_9 ml_RD_56 ok_RD_register (s_RD_register_k hk_to e_to) rfl rfl rfl rfl rfl (Nat.le_of_ble_eq_true rfl) (by decide) ?_
      rintro rv I1 F1 ⟨rfl, rfl, rfl⟩
      dsimp only [Option.toList, List.cons_append, List.nil_append]
      refine xj_astore (pc := 12) d_RD_space_12 (by decide) rfl ?_
      dsimp only [xset, xset2, xkill]
      refine xj_aload (pc := 14) d_RD_space_14 rfl ?_
      refine xj_ifnull (pc := 16) d_RD_space_16 ?_
      refine xj_aload (pc := 19) d_RD_space_19 rfl ?_
      refine xj_ifnull (pc := 21) d_RD_space_21 ?_
      refine xj_iload_n (pc := 24) d_RD_space_24 rfl rfl ?_
      refine xj_if_ge (pc := 25) (tgt := 30) d_RD_space_25 (by decide) (fun h25 => ?_) (fun h25 => ?_)
      · rw [n_le, n_0] at h25
        rw [sp_space, if_pos (by simp only [i_a, i_to, Bool.true_and, decide_eq_true_eq]; omega)]
        have hLe := hS.le hk_a t_a
        refine xj_aload_n (pc := 30) d_RD_space_30 rfl rfl ?_
        refine xj_getR (pc := 31) d_RD_space_31 fl_RD_28 rfl rfl ?_
        refine xj_aload (pc := 34) d_RD_space_34 rfl ?_
        refine xj_callV (pc := 36) d_RD_space_36 ml_RD_143 ok_WL_read (s_WL_read (w := 0) (by decide) (by omega) (hC.at hk_a t_a) hLe) rfl rfl (xsh_wl (by omega)) rfl rfl (Nat.le_of_ble_eq_true rfl) (by decide) ?_
        rintro rv I1 F1 ⟨rfl, g1, g2⟩
        have hcn := wst_cnt hLe
        dsimp only [Option.toList, List.cons_append, List.nil_append]
        refine xj_aload_n (pc := 39) d_RD_space_39 rfl rfl ?_
        refine xj_getR (pc := 40) d_RD_space_40 fl_RD_28 rfl rfl ?_
        refine xj_callV (pc := 43) d_RD_space_43 ml_RD_146 ok_WL_count (s_WL_count (w := 0) (by decide)) rfl rfl (xsh_wl (by omega)) rfl rfl (Nat.le_of_ble_eq_true rfl) (by decide) ?_
        rintro rv I1 F1 ⟨rfl, rfl, rfl⟩
        dsimp only [Option.toList, List.cons_append, List.nil_append]
        refine xj_iconst (pc := 46) (v := 1) d_RD_space_46 (by decide) ?_
        refine xj_isub (pc := 47) d_RD_space_47 ?_
        refine xj_iconst (pc := 48) (v := 0) d_RD_space_48 (by decide) ?_
        refine xj_mmax (pc := 49) d_RD_space_49 ml_RD_98 (by decide) (Nat.le_of_ble_eq_true rfl) ?_
        refine xj_i2l (pc := 52) d_RD_space_52 ?_
        refine xj_lstore (pc := 53) d_RD_space_53 (by decide) rfl ?_
        dsimp only [xset, xset2, xkill]
        refine xj_aload_n (pc := 55) d_RD_space_55 rfl rfl ?_
        refine xj_getR (pc := 56) d_RD_space_56 fl_RD_28 rfl rfl ?_
        refine xj_callV (pc := 59) d_RD_space_59 ml_RD_149 ok_WL_bytesInWords (s_WL_biw (w := 0) (by decide) g2) rfl rfl (xsh_wl (by omega)) rfl rfl (Nat.le_of_ble_eq_true rfl) (by decide) ?_
        rintro rv I1 F1 ⟨rfl, rfl, rfl⟩
        dsimp only [Option.toList, List.cons_append, List.nil_append]
        refine xj_i2l (pc := 62) d_RD_space_62 ?_
        refine xj_lload (pc := 63) d_RD_space_63 rfl ?_
        refine xj_iload_n (pc := 65) d_RD_space_65 rfl rfl ?_
        refine xj_i2l (pc := 66) d_RD_space_66 ?_
        refine xj_lmul (pc := 67) d_RD_space_67 ?_
        refine xj_ladd (pc := 68) d_RD_space_68 ?_
        refine xj_ldc2 (pc := 69) (v := 200) d_RD_space_69 kc_RD_87 ?_
        refine xj_lcmp (pc := 72) d_RD_space_72 ?_
        have elen := sp_len (p := S.2.2) g2.cn hLe h25
        refine xj_if_le (pc := 73) (tgt := 79) d_RD_space_73 (by decide) (fun h73 => ?_) (fun h73 => ?_)
        · rw [c_le, elen, l_200] at h73
          refine xj_aload_n (pc := 79) d_RD_space_79 rfl rfl ?_
          refine xj_getR (pc := 80) d_RD_space_80 fl_RD_22 rfl rfl ?_
          refine xj_iconst (pc := 83) (v := 0) d_RD_space_83 (by decide) ?_
          refine xj_callV (pc := 84) d_RD_space_84 ml_RD_53 ok_RW_shortenTo (s_RW_clear (by decide) (g1.kp (by decide) hM0)) rfl rfl (xsh_row (by omega)) rfl rfl (Nat.le_of_ble_eq_true rfl) (by decide) ?_
          rintro rv I2 F2 ⟨rfl, g3⟩
          dsimp only [Option.toList, List.cons_append, List.nil_append]
          refine xj_iconst (pc := 87) (v := 0) d_RD_space_87 (by decide) ?_
          refine xj_istore (pc := 88) d_RD_space_88 (by decide) rfl ?_
          dsimp only [xset, xset2, xkill]
          refine t_RD_space_l (L := sR S a) (by rw [g3.1 12 (by decide), g1.1 12 (by decide) (by decide)]; exact hC.2.2.1) hk_a (g3.kp (by omega) (g1.kp (by omega) (hC.at hk_a t_a))) (g3.wl (by decide) g2) (fun I3 F3 g4 => ?_) _ 0 I2 F2 (by rw [Nat.zero_add]) (Rs.rf g3.2.2)
          rw [xcap10, List.take_of_length_le (by omega)] at g4
          exact hfin k_a k_to I1 I2 I3 F1 F2 F3 hk_to t_to g1 g3 g4 (show (m_sp S.2.2 (sR S a) n.toInt.toNat (wst (sR S a)).length).length ≤ 200 by omega)
        · refine xj_bipush (pc := 76) (v := -4) d_RD_space_76 (by decide) ?_
          refine xj_iret (pc := 78) d_RD_space_78 rfl ?_
          rw [c_le, elen, l_200] at h73
          exact ck_fullX hC (g1.cx (by decide)) (hC.m10 (by decide) g1) (show 200 < (m_sp S.2.2 (sR S a) n.toInt.toNat (wst (sR S a)).length).length by omega)
      · refine xj_iconst (pc := 28) (v := -1) d_RD_space_28 (by decide) ?_
        refine xj_iret (pc := 29) d_RD_space_29 rfl ?_
        exact ck_none hC (if_neg (fun q => by simp only [Bool.and_eq_true, decide_eq_true_eq] at q; first | (rw [n_le, n_0] at h25; omega) | simp_all))
    · refine xj_callV (pc := 9) d_RD_space_9 ml_RD_56 ok_RD_register (s_RD_register_n i_to) rfl rfl rfl rfl rfl (Nat.le_of_ble_eq_true rfl) (by decide) ?_
      rintro rv I1 F1 ⟨rfl, rfl, rfl⟩
      dsimp only [Option.toList, List.cons_append, List.nil_append]
      refine xj_astoreN (pc := 12) d_RD_space_12 (by decide) rfl ?_
      dsimp only [xset, xset2, xkill]
      refine xj_aload (pc := 14) d_RD_space_14 rfl ?_
      refine xj_ifnull (pc := 16) d_RD_space_16 ?_
      refine xj_aloadN (pc := 19) d_RD_space_19 rfl ?_
      refine xj_ifnullN (pc := 21) (tgt := 28) d_RD_space_21 (by decide) ?_
      refine xj_iconst (pc := 28) (v := -1) d_RD_space_28 (by decide) ?_
      refine xj_iret (pc := 29) d_RD_space_29 rfl ?_
      exact ck_none hC (if_neg (fun q => by simp only [Bool.and_eq_true, decide_eq_true_eq] at q; first | (rw [n_le, n_0] at h25; omega) | simp_all))
  · refine xj_callV (pc := 2) d_RD_space_2 ml_RD_56 ok_RD_register (s_RD_register_n i_a) rfl rfl rfl rfl rfl (Nat.le_of_ble_eq_true rfl) (by decide) ?_
    rintro rv I1 F1 ⟨rfl, rfl, rfl⟩
    dsimp only [Option.toList, List.cons_append, List.nil_append]
    refine xj_astoreN (pc := 5) d_RD_space_5 (by decide) rfl ?_
    dsimp only [xset, xset2, xkill]
    refine xj_aload_n (pc := 7) d_RD_space_7 rfl rfl ?_
    refine xj_iload_n (pc := 8) d_RD_space_8 rfl rfl ?_
    rcases regc to with ⟨k_to, hk_to, e_to, i_to, t_to⟩ | i_to
    · refine xj_callV (pc := 9) d_RD_space_9 ml_RD_56 ok_RD_register (s_RD_register_k hk_to e_to) rfl rfl rfl rfl rfl (Nat.le_of_ble_eq_true rfl) (by decide) ?_
      rintro rv I1 F1 ⟨rfl, rfl, rfl⟩
      dsimp only [Option.toList, List.cons_append, List.nil_append]
      refine xj_astore (pc := 12) d_RD_space_12 (by decide) rfl ?_
      dsimp only [xset, xset2, xkill]
      refine xj_aloadN (pc := 14) d_RD_space_14 rfl ?_
      refine xj_ifnullN (pc := 16) (tgt := 28) d_RD_space_16 (by decide) ?_
      refine xj_iconst (pc := 28) (v := -1) d_RD_space_28 (by decide) ?_
      refine xj_iret (pc := 29) d_RD_space_29 rfl ?_
      exact ck_none hC (if_neg (fun q => by simp only [Bool.and_eq_true, decide_eq_true_eq] at q; first | (rw [n_le, n_0] at h25; omega) | simp_all))
    · refine xj_callV (pc := 9) d_RD_space_9 ml_RD_56 ok_RD_register (s_RD_register_n i_to) rfl rfl rfl rfl rfl (Nat.le_of_ble_eq_true rfl) (by decide) ?_
      rintro rv I1 F1 ⟨rfl, rfl, rfl⟩
      dsimp only [Option.toList, List.cons_append, List.nil_append]
      refine xj_astoreN (pc := 12) d_RD_space_12 (by decide) rfl ?_
      dsimp only [xset, xset2, xkill]
      refine xj_aloadN (pc := 14) d_RD_space_14 rfl ?_
      refine xj_ifnullN (pc := 16) (tgt := 28) d_RD_space_16 (by decide) ?_
      refine xj_iconst (pc := 28) (v := -1) d_RD_space_28 (by decide) ?_
      refine xj_iret (pc := 29) d_RD_space_29 rfl ?_
      exact ck_none hC (if_neg (fun q => by simp only [Bool.and_eq_true, decide_eq_true_eq] at q; first | (rw [n_le, n_0] at h25; omega) | simp_all))
/-! some -/
theorem so_min {x k : Int32} {c : Nat} (hx : x.toInt = c) (hk : (k - 1).toInt = k.toInt - 1) (h1 : 1 ≤ k.toInt) (hc : c ≤ 1000) : (if x < k - 1 then x else k - 1) = nI (min (k.toInt.toNat - 1) c) := by
  apply n_of
  split
  · rename_i q; rw [n_lt, hk] at q; omega
  · rename_i q; rw [n_lt, hk] at q; omega
theorem wsp_wen {L : List Int32} {q : Nat} (h : q < (wst L).length) : wsp L q = wen L (wbg L q) := by
  rw [wsp, wbg, List.getD_eq_getElem?_getD, List.getElem?_eq_getElem h]; rfl
theorem wsi_sorted (L : List Int32) (n : Nat) : (wsi L n).Pairwise (· < ·) := List.Pairwise.filter _ List.pairwise_lt_range
theorem so_mono (L : List Int32) {f b : Nat} (h : f ≤ b) : wbg L f ≤ wbg L b := by
  rcases Nat.lt_or_ge b (wst L).length with q | q
  · rw [wbg, wbg, List.getD_eq_getElem?_getD, List.getD_eq_getElem?_getD, List.getElem?_eq_getElem q, List.getElem?_eq_getElem (show f < (wst L).length by omega)]
    rcases Nat.lt_or_ge f b with z | z
    · exact Nat.le_of_lt (List.pairwise_iff_getElem.mp (wsi_sorted L L.length) f b _ _ z)
    · have : f = b := by omega
      subst this; exact Nat.le_refl _
  · rw [show wbg L b = L.length by rw [wbg, List.getD_eq_getElem?_getD, List.getElem?_eq_none q]; rfl]
    exact wbg_le L f
theorem so_wo {L : List Int32} {k1 b : Nat} {n : Int} {wo : Int32} (h : ¬ wo = 0) (hb : b = if n = -1 then (wst L).length else min (min k1 (wst L).length + n.toNat) (wst L).length) : L.take (wbg L (min k1 (wst L).length)) ++ L.drop (wbg L b) = m_some L k1 n wo := by
  subst hb; unfold m_some; dsimp only; rw [if_neg h]; rfl
theorem so_in {L : List Int32} {k1 b : Nat} {n : Int} {wo : Int32} (h : wo = 0) (hb : b = if n = -1 then (wst L).length else min (min k1 (wst L).length + n.toNat) (wst L).length) (hlt : min k1 (wst L).length < b) (hb2 : b ≤ (wst L).length) : (L.take (wsp L (b - 1))).drop (wbg L (min k1 (wst L).length)) = m_some L k1 n wo := by
  rw [wsp_wen (by omega)]
  subst hb; unfold m_some; dsimp only; rw [if_pos h, if_pos hlt]; rfl
theorem so_no {L : List Int32} {k1 b : Nat} {n : Int} {wo : Int32} (h : wo = 0) (hb : b = if n = -1 then (wst L).length else min (min k1 (wst L).length + n.toNat) (wst L).length) (hlt : ¬ min k1 (wst L).length < b) : [] = m_some L k1 n wo := by
  subst hb; unfold m_some; dsimp only; rw [if_pos h, if_neg hlt]
theorem t_RD_some_e {a k n wo to : Int32} {kt ka : Nat} {f b : Int32} (hC : CI I F S) (hX : CX I F I1 F1) (hM : Rl I1 F1 10 X) (hk : kt < 10) (ht : to.toInt.toNat = kt) (e : X = M) (hl : M.length ≤ 200) : XJ none m_RD_some 170 [some (.ref 24), some (.int a), some (.int k), some (.int n), some (.int wo), some (.int to), some (.ref ka), some (.ref kt), some (.int f), some (.int b)] [] I1 F1 (CQ (sMk S to M) I F) := by
  subst e
  refine xj_aload_n (pc := 170) d_RD_some_170 rfl rfl ?_
  refine xj_aload (pc := 171) d_RD_some_171 rfl ?_
  refine xj_callV (pc := 173) d_RD_some_173 ml_RD_79 ok_RD_keepMade (s_RD_keepMade hk hM) rfl rfl rfl rfl rfl (Nat.le_of_ble_eq_true rfl) (by decide) ?_
  rintro rv I2 F2 ⟨rfl, g2⟩
  dsimp only [Option.toList, List.cons_append, List.nil_append]
  refine xj_iret (pc := 176) d_RD_some_176 rfl ?_
  exact ck_doneX hC hX hM g2 hk ht rfl hl
theorem t_RD_some {a k n wo to : Int32} (hS : OKS S) (hC : CI I F S) : XM m_RD_some [.ref 24, .int a, .int k, .int n, .int wo, .int to] I F (CQ (sp_some S a k n wo to) I F) := by
  refine XM.of (by decide) (Nat.le_of_ble_eq_true rfl) ?_
  dsimp only [xargs]
  obtain ⟨M0, hM0⟩ := hC.2.2.2
  have := n_hi n
  have := n_hi k
  refine xj_aload_n (pc := 0) d_RD_some_0 rfl rfl ?_
  refine xj_iload_n (pc := 1) d_RD_some_1 rfl rfl ?_
  rcases regc a with ⟨k_a, hk_a, e_a, i_a, t_a⟩ | i_a
  · refine xj_callV (pc := 2) d_RD_some_2 ml_RD_56 ok_RD_register (s_RD_register_k hk_a e_a) rfl rfl rfl rfl rfl (Nat.le_of_ble_eq_true rfl) (by decide) ?_
    rintro rv I1 F1 ⟨rfl, rfl, rfl⟩
    dsimp only [Option.toList, List.cons_append, List.nil_append]
    refine xj_astore (pc := 5) d_RD_some_5 (by decide) rfl ?_
    dsimp only [xset, xset2, xkill]
    refine xj_aload_n (pc := 7) d_RD_some_7 rfl rfl ?_
    refine xj_iload (pc := 8) d_RD_some_8 rfl ?_
    rcases regc to with ⟨k_to, hk_to, e_to, i_to, t_to⟩ | i_to
    · refine xj_callV (pc := 10) d_RD_some_10 ml_RD_56 ok_RD_register (s_RD_register_k hk_to e_to) rfl rfl rfl rfl rfl (Nat.le_of_ble_eq_true rfl) (by decide) ?_
      rintro rv I1 F1 ⟨rfl, rfl, rfl⟩
      dsimp only [Option.toList, List.cons_append, List.nil_append]
      refine xj_astore (pc := 13) d_RD_some_13 (by decide) rfl ?_
      dsimp only [xset, xset2, xkill]
      refine xj_aload (pc := 15) d_RD_some_15 rfl ?_
      refine xj_ifnull (pc := 17) d_RD_some_17 ?_
      refine xj_aload (pc := 20) d_RD_some_20 rfl ?_
      refine xj_ifnull (pc := 22) d_RD_some_22 ?_
      refine xj_iload_n (pc := 25) d_RD_some_25 rfl rfl ?_
      refine xj_iconst (pc := 26) (v := 1) d_RD_some_26 (by decide) ?_
      refine xj_icmp_lt (pc := 27) (tgt := 35) d_RD_some_27 (by decide) (fun h27 => ?_) (fun h27 => ?_)
      · simp only [n_lt, n_le, c_gt, c_le, c_lt, c_ge, not_lt_i, not_le_i, n_0, n_1, n_2, n_3, n_4, n_m1, n_10, n_200, n_240, n_256] at h27
        refine xj_iconst (pc := 35) (v := -1) d_RD_some_35 (by decide) ?_
        refine xj_iret (pc := 36) d_RD_some_36 rfl ?_
        exact ck_none hC (if_neg (fun q => by simp only [Bool.and_eq_true, decide_eq_true_eq] at q; first | omega | simp_all))
      · simp only [n_lt, n_le, c_gt, c_le, c_lt, c_ge, not_lt_i, not_le_i, n_0, n_1, n_2, n_3, n_4, n_m1, n_10, n_200, n_240, n_256] at h27
        refine xj_iload_n (pc := 30) d_RD_some_30 rfl rfl ?_
        refine xj_iconst (pc := 31) (v := -1) d_RD_some_31 (by decide) ?_
        refine xj_icmp_ge (pc := 32) (tgt := 37) d_RD_some_32 (by decide) (fun h32 => ?_) (fun h32 => ?_)
        · simp only [n_lt, n_le, c_gt, c_le, c_lt, c_ge, not_lt_i, not_le_i, n_0, n_1, n_2, n_3, n_4, n_m1, n_10, n_200, n_240, n_256] at h32
          rw [sp_some, if_pos (by simp only [i_a, i_to, Bool.true_and, decide_eq_true_eq]; omega)]
          have hLe := hS.le hk_a t_a
          have hLa := hC.at hk_a t_a
          have ek := n_k1 (k := k) (by omega)
          refine xj_aload_n (pc := 37) d_RD_some_37 rfl rfl ?_
          refine xj_getR (pc := 38) d_RD_some_38 fl_RD_28 rfl rfl ?_
          refine xj_aload (pc := 41) d_RD_some_41 rfl ?_
          refine xj_callV (pc := 43) d_RD_some_43 ml_RD_143 ok_WL_read (s_WL_read (w := 0) (by decide) (by omega) hLa hLe) rfl rfl (xsh_wl (by omega)) rfl rfl (Nat.le_of_ble_eq_true rfl) (by decide) ?_
          rintro rv I1 F1 ⟨rfl, g1, g2⟩
          have hcn := wst_cnt hLe
          have ecn := g2.cn
          have hLa1 := g1.kp (by omega) hLa
          dsimp only [Option.toList, List.cons_append, List.nil_append]
          refine xj_iload_n (pc := 46) d_RD_some_46 rfl rfl ?_
          refine xj_iconst (pc := 47) (v := 1) d_RD_some_47 (by decide) ?_
          refine xj_isub (pc := 48) d_RD_some_48 ?_
          refine xj_aload_n (pc := 49) d_RD_some_49 rfl rfl ?_
          refine xj_getR (pc := 50) d_RD_some_50 fl_RD_28 rfl rfl ?_
          refine xj_callV (pc := 53) d_RD_some_53 ml_RD_146 ok_WL_count (s_WL_count (w := 0) (by decide)) rfl rfl (xsh_wl (by omega)) rfl rfl (Nat.le_of_ble_eq_true rfl) (by decide) ?_
          rintro rv I1 F1 ⟨rfl, rfl, rfl⟩
          dsimp only [Option.toList, List.cons_append, List.nil_append]
          refine xj_mmin (pc := 56) d_RD_some_56 ml_RD_100 (by decide) (Nat.le_of_ble_eq_true rfl) ?_
          rw [show (if I1 (13 + 2 * 0) < k - 1 then I1 (13 + 2 * 0) else k - 1) = nI (min (k.toInt.toNat - 1) (wst (sR S a)).length) from so_min ecn ek (by omega) (by omega)]
          refine xj_istore (pc := 59) d_RD_some_59 (by decide) rfl ?_
          dsimp only [xset, xset2, xkill]
          refine xj_iload (pc := 61) d_RD_some_61 rfl ?_
          refine xj_iload_n (pc := 63) d_RD_some_63 rfl rfl ?_
          refine xj_aload_n (pc := 64) d_RD_some_64 rfl rfl ?_
          refine xj_getR (pc := 65) d_RD_some_65 fl_RD_28 rfl rfl ?_
          refine xj_callV (pc := 68) d_RD_some_68 ml_RD_146 ok_WL_count (s_WL_count (w := 0) (by decide)) rfl rfl (xsh_wl (by omega)) rfl rfl (Nat.le_of_ble_eq_true rfl) (by decide) ?_
          rintro rv I1 F1 ⟨rfl, rfl, rfl⟩
          dsimp only [Option.toList, List.cons_append, List.nil_append]
          refine xj_callS (pc := 71) d_RD_some_71 ml_RD_83 ok_RD_behindRun (s_RD_behindRun (by rw [n_nI (by omega)]; omega) (by omega) (by omega)) rfl rfl rfl (Nat.le_of_ble_eq_true rfl) (by decide) ?_
          rintro rv I2 F2 ⟨v, ev, rfl, rfl, rfl⟩
          rw [n_nI (by omega), ecn] at ev
          obtain ⟨b, hb, eb⟩ : ∃ b : Nat, v = nI b ∧ b = (if n.toInt = -1 then (wst (sR S a)).length else min (min (k.toInt.toNat - 1) (wst (sR S a)).length + n.toInt.toNat) (wst (sR S a)).length) := ⟨_, n_of (by rw [ev]; split <;> omega), rfl⟩
          subst hb
          have hb2 : b ≤ (wst (sR S a)).length := by (rw [eb]; split <;> omega)
          dsimp only [Option.toList, List.cons_append, List.nil_append]
          refine xj_istore (pc := 74) d_RD_some_74 (by decide) rfl ?_
          dsimp only [xset, xset2, xkill]
          refine xj_aload_n (pc := 76) d_RD_some_76 rfl rfl ?_
          refine xj_getR (pc := 77) d_RD_some_77 fl_RD_22 rfl rfl ?_
          refine xj_iconst (pc := 80) (v := 0) d_RD_some_80 (by decide) ?_
          refine xj_callV (pc := 81) d_RD_some_81 ml_RD_53 ok_RW_shortenTo (s_RW_clear (by decide) (g1.kp (by decide) hM0)) rfl rfl (xsh_row (by omega)) rfl rfl (Nat.le_of_ble_eq_true rfl) (by decide) ?_
          rintro rv I3 F3 ⟨rfl, g3⟩
          have hW3 := g3.wl (by decide) g2
          have hLa3 := g3.kp (by omega) hLa1
          have q1 := wbg_le (sR S a) (min (k.toInt.toNat - 1) (wst (sR S a)).length)
          have q2 := wbg_le (sR S a) b
          have q3 := wsp_le (sR S a) (b - 1)
          dsimp only [Option.toList, List.cons_append, List.nil_append]
          refine xj_iload (pc := 84) d_RD_some_84 rfl ?_
          refine xj_if_eq (pc := 86) (tgt := 134) d_RD_some_86 (by decide) (fun h86 => ?_) (fun h86 => ?_)
          · refine xj_iload (pc := 134) d_RD_some_134 rfl ?_
            refine xj_iload (pc := 136) d_RD_some_136 rfl ?_
            refine xj_icmp_ge (pc := 138) (tgt := 170) d_RD_some_138 (by decide) (fun h138 => ?_) (fun h138 => ?_)
            · simp only [n_lt, n_le, c_gt, c_le, c_lt, c_ge, not_lt_i, not_le_i, n_0, n_1, n_2, n_3, n_4, n_m1, n_10, n_200, n_240, n_256] at h138
              have gx := g1.cx (by decide)
              first | (have eM := so_wo h86 eb; have hl : (m_some (sR S a) (k.toInt.toNat - 1) n.toInt wo).length ≤ 200 := (by rw [← eM, List.length_append, List.length_take, List.length_drop]; have := so_mono (sR S a) (show min (k.toInt.toNat - 1) (wst (sR S a)).length ≤ b by rw [eb]; split <;> omega); omega); rw [eM, xcap10, List.take_of_length_le hl] at g5; exact t_RD_some_e hC (gx.tr g5.cx) g5.2.2 hk_to t_to rfl hl; done) | (rw [n_nI (by omega), n_nI (by omega)] at h138; exact t_RD_some_e hC (gx.tr g3.cx) g3.2.2 hk_to t_to (so_no h86 eb (by omega)) (Nat.le_trans (Nat.le_of_eq (congrArg List.length (so_no h86 eb (by omega)).symm)) (by decide)); done) | (have eM := so_in h86 eb (by omega) hb2; have hl : (m_some (sR S a) (k.toInt.toNat - 1) n.toInt wo).length ≤ 200 := (by rw [← eM, List.length_drop, List.length_take]; omega); rw [eM, xcap10, List.take_of_length_le hl] at g5; exact t_RD_some_e hC (gx.tr g5.cx) g5.2.2 hk_to t_to rfl hl)
            · simp only [n_lt, n_le, c_gt, c_le, c_lt, c_ge, not_lt_i, not_le_i, n_0, n_1, n_2, n_3, n_4, n_m1, n_10, n_200, n_240, n_256] at h138
              refine xj_aload_n (pc := 141) d_RD_some_141 rfl rfl ?_
              refine xj_getR (pc := 142) d_RD_some_142 fl_RD_22 rfl rfl ?_
              refine xj_aload (pc := 145) d_RD_some_145 rfl ?_
              refine xj_aload_n (pc := 147) d_RD_some_147 rfl rfl ?_
              refine xj_getR (pc := 148) d_RD_some_148 fl_RD_28 rfl rfl ?_
              refine xj_iload (pc := 151) d_RD_some_151 rfl ?_
              refine xj_callV (pc := 153) d_RD_some_153 ml_RD_152 ok_WL_startOf (s_WL_startOf (w := 0) (by decide) hW3 (by omega)) rfl rfl (xsh_wl (by omega)) rfl rfl (Nat.le_of_ble_eq_true rfl) (by decide) ?_
              rintro rv I1 F1 ⟨rfl, rfl, rfl⟩
              dsimp only [Option.toList, List.cons_append, List.nil_append]
              refine xj_aload_n (pc := 156) d_RD_some_156 rfl rfl ?_
              refine xj_getR (pc := 157) d_RD_some_157 fl_RD_28 rfl rfl ?_
              refine xj_iload (pc := 160) d_RD_some_160 rfl ?_
              refine xj_iconst (pc := 162) (v := 1) d_RD_some_162 (by decide) ?_
              refine xj_isub (pc := 163) d_RD_some_163 ?_
              rw [n_nI (by omega), n_nI (by omega)] at h138
              rw [show nI b - 1 = nI (b - 1) from n_of (by rw [n_k1 (by rw [n_nI (by omega)]; omega), n_nI (by omega)]; omega)]
              refine xj_callV (pc := 164) d_RD_some_164 ml_RD_155 ok_WL_stopOf (s_WL_stopOf (w := 0) (by decide) hW3 (by omega)) rfl rfl (xsh_wl (by omega)) rfl rfl (Nat.le_of_ble_eq_true rfl) (by decide) ?_
              rintro rv I1 F1 ⟨rfl, rfl, rfl⟩
              dsimp only [Option.toList, List.cons_append, List.nil_append]
              refine xj_callV (pc := 167) d_RD_some_167 ml_RD_72 ok_RW_addRange (s_RW_addRange (by decide) (by omega) (by omega) g3.2.2 hLa3) rfl rfl (xsh_row (by omega)) rfl rfl (Nat.le_of_ble_eq_true rfl) (by decide) ?_
              rintro rv I5 F5 ⟨rfl, g5⟩
              rw [List.nil_append, n_nI (by omega), n_nI (by omega), Int.toNat_natCast, Int.toNat_natCast] at g5
              replace g5 := g3.tr g5
              dsimp only [Option.toList, List.cons_append, List.nil_append]
              have gx := g1.cx (by decide)
              first | (have eM := so_wo h86 eb; have hl : (m_some (sR S a) (k.toInt.toNat - 1) n.toInt wo).length ≤ 200 := (by rw [← eM, List.length_append, List.length_take, List.length_drop]; have := so_mono (sR S a) (show min (k.toInt.toNat - 1) (wst (sR S a)).length ≤ b by rw [eb]; split <;> omega); omega); rw [eM, xcap10, List.take_of_length_le hl] at g5; exact t_RD_some_e hC (gx.tr g5.cx) g5.2.2 hk_to t_to rfl hl; done) | (rw [n_nI (by omega), n_nI (by omega)] at h138; exact t_RD_some_e hC (gx.tr g3.cx) g3.2.2 hk_to t_to (so_no h86 eb (by omega)) (Nat.le_trans (Nat.le_of_eq (congrArg List.length (so_no h86 eb (by omega)).symm)) (by decide)); done) | (have eM := so_in h86 eb (by omega) hb2; have hl : (m_some (sR S a) (k.toInt.toNat - 1) n.toInt wo).length ≤ 200 := (by rw [← eM, List.length_drop, List.length_take]; omega); rw [eM, xcap10, List.take_of_length_le hl] at g5; exact t_RD_some_e hC (gx.tr g5.cx) g5.2.2 hk_to t_to rfl hl)
          · refine xj_aload_n (pc := 89) d_RD_some_89 rfl rfl ?_
            refine xj_getR (pc := 90) d_RD_some_90 fl_RD_22 rfl rfl ?_
            refine xj_aload (pc := 93) d_RD_some_93 rfl ?_
            refine xj_iconst (pc := 95) (v := 0) d_RD_some_95 (by decide) ?_
            refine xj_aload_n (pc := 96) d_RD_some_96 rfl rfl ?_
            refine xj_getR (pc := 97) d_RD_some_97 fl_RD_28 rfl rfl ?_
            refine xj_iload (pc := 100) d_RD_some_100 rfl ?_
            refine xj_callV (pc := 102) d_RD_some_102 ml_RD_152 ok_WL_startOf (s_WL_startOf (w := 0) (by decide) hW3 (by omega)) rfl rfl (xsh_wl (by omega)) rfl rfl (Nat.le_of_ble_eq_true rfl) (by decide) ?_
            rintro rv I1 F1 ⟨rfl, rfl, rfl⟩
            dsimp only [Option.toList, List.cons_append, List.nil_append]
            refine xj_callV (pc := 105) d_RD_some_105 ml_RD_72 ok_RW_addRange (s_RW_addRange (by decide) (by omega) (by omega) g3.2.2 hLa3) rfl rfl (xsh_row (by omega)) rfl rfl (Nat.le_of_ble_eq_true rfl) (by decide) ?_
            rintro rv I4 F4 ⟨rfl, g4⟩
            rw [List.nil_append, n_nI (by omega), n_0, show (0 : Int).toNat = 0 from rfl, List.drop_zero, Int.toNat_natCast] at g4
            replace g4 := g3.tr g4
            dsimp only [Option.toList, List.cons_append, List.nil_append]
            refine xj_aload_n (pc := 108) d_RD_some_108 rfl rfl ?_
            refine xj_getR (pc := 109) d_RD_some_109 fl_RD_22 rfl rfl ?_
            refine xj_aload (pc := 112) d_RD_some_112 rfl ?_
            refine xj_aload_n (pc := 114) d_RD_some_114 rfl rfl ?_
            refine xj_getR (pc := 115) d_RD_some_115 fl_RD_28 rfl rfl ?_
            refine xj_iload (pc := 118) d_RD_some_118 rfl ?_
            refine xj_callV (pc := 120) d_RD_some_120 ml_RD_152 ok_WL_startOf (s_WL_startOf (w := 0) (by decide) (g4.wl (by decide) g2) (by omega)) rfl rfl (xsh_wl (by omega)) rfl rfl (Nat.le_of_ble_eq_true rfl) (by decide) ?_
            rintro rv I1 F1 ⟨rfl, rfl, rfl⟩
            dsimp only [Option.toList, List.cons_append, List.nil_append]
            refine xj_aload (pc := 123) d_RD_some_123 rfl ?_
            refine xj_callV (pc := 125) d_RD_some_125 ml_RD_46 ok_RW_length (s_RW_length (by omega)) rfl rfl (xsh_row (by omega)) rfl rfl (Nat.le_of_ble_eq_true rfl) (by decide) ?_
            rintro rv I1 F1 ⟨rfl, rfl, rfl⟩
            dsimp only [Option.toList, List.cons_append, List.nil_append]
            refine xj_callV (pc := 128) d_RD_some_128 ml_RD_72 ok_RW_addRange (s_RW_addRange (by decide) (by omega) (by omega) g4.2.2 (g4.kp (by omega) hLa1)) rfl rfl (xsh_row (by omega)) rfl rfl (Nat.le_of_ble_eq_true rfl) (by decide) ?_
            rintro rv I5 F5 ⟨rfl, g5⟩
            rw [(g4.kp (by omega) hLa1).ti, n_nI (by omega), Int.toNat_natCast, Int.toNat_natCast, List.take_length, tk_app] at g5
            replace g5 := g4.tr g5
            dsimp only [Option.toList, List.cons_append, List.nil_append]
            refine xj_goto (pc := 131) (tgt := 170) d_RD_some_131 (by decide) ?_
            have gx := g1.cx (by decide)
            first | (have eM := so_wo h86 eb; have hl : (m_some (sR S a) (k.toInt.toNat - 1) n.toInt wo).length ≤ 200 := (by rw [← eM, List.length_append, List.length_take, List.length_drop]; have := so_mono (sR S a) (show min (k.toInt.toNat - 1) (wst (sR S a)).length ≤ b by rw [eb]; split <;> omega); omega); rw [eM, xcap10, List.take_of_length_le hl] at g5; exact t_RD_some_e hC (gx.tr g5.cx) g5.2.2 hk_to t_to rfl hl; done) | (rw [n_nI (by omega), n_nI (by omega)] at h138; exact t_RD_some_e hC (gx.tr g3.cx) g3.2.2 hk_to t_to (so_no h86 eb (by omega)) (Nat.le_trans (Nat.le_of_eq (congrArg List.length (so_no h86 eb (by omega)).symm)) (by decide)); done) | (have eM := so_in h86 eb (by omega) hb2; have hl : (m_some (sR S a) (k.toInt.toNat - 1) n.toInt wo).length ≤ 200 := (by rw [← eM, List.length_drop, List.length_take]; omega); rw [eM, xcap10, List.take_of_length_le hl] at g5; exact t_RD_some_e hC (gx.tr g5.cx) g5.2.2 hk_to t_to rfl hl)
        · simp only [n_lt, n_le, c_gt, c_le, c_lt, c_ge, not_lt_i, not_le_i, n_0, n_1, n_2, n_3, n_4, n_m1, n_10, n_200, n_240, n_256] at h32
          refine xj_iconst (pc := 35) (v := -1) d_RD_some_35 (by decide) ?_
          refine xj_iret (pc := 36) d_RD_some_36 rfl ?_
          exact ck_none hC (if_neg (fun q => by simp only [Bool.and_eq_true, decide_eq_true_eq] at q; first | omega | simp_all))
    · refine xj_callV (pc := 10) d_RD_some_10 ml_RD_56 ok_RD_register (s_RD_register_n i_to) rfl rfl rfl rfl rfl (Nat.le_of_ble_eq_true rfl) (by decide) ?_
      rintro rv I1 F1 ⟨rfl, rfl, rfl⟩
      dsimp only [Option.toList, List.cons_append, List.nil_append]
      refine xj_astoreN (pc := 13) d_RD_some_13 (by decide) rfl ?_
      dsimp only [xset, xset2, xkill]
      refine xj_aload (pc := 15) d_RD_some_15 rfl ?_
      refine xj_ifnull (pc := 17) d_RD_some_17 ?_
      refine xj_aloadN (pc := 20) d_RD_some_20 rfl ?_
      refine xj_ifnullN (pc := 22) (tgt := 35) d_RD_some_22 (by decide) ?_
      refine xj_iconst (pc := 35) (v := -1) d_RD_some_35 (by decide) ?_
      refine xj_iret (pc := 36) d_RD_some_36 rfl ?_
      exact ck_none hC (if_neg (fun q => by simp only [Bool.and_eq_true, decide_eq_true_eq] at q; first | omega | simp_all))
  · refine xj_callV (pc := 2) d_RD_some_2 ml_RD_56 ok_RD_register (s_RD_register_n i_a) rfl rfl rfl rfl rfl (Nat.le_of_ble_eq_true rfl) (by decide) ?_
    rintro rv I1 F1 ⟨rfl, rfl, rfl⟩
    dsimp only [Option.toList, List.cons_append, List.nil_append]
    refine xj_astoreN (pc := 5) d_RD_some_5 (by decide) rfl ?_
    dsimp only [xset, xset2, xkill]
    refine xj_aload_n (pc := 7) d_RD_some_7 rfl rfl ?_
    refine xj_iload (pc := 8) d_RD_some_8 rfl ?_
    rcases regc to with ⟨k_to, hk_to, e_to, i_to, t_to⟩ | i_to
    · refine xj_callV (pc := 10) d_RD_some_10 ml_RD_56 ok_RD_register (s_RD_register_k hk_to e_to) rfl rfl rfl rfl rfl (Nat.le_of_ble_eq_true rfl) (by decide) ?_
      rintro rv I1 F1 ⟨rfl, rfl, rfl⟩
      dsimp only [Option.toList, List.cons_append, List.nil_append]
      refine xj_astore (pc := 13) d_RD_some_13 (by decide) rfl ?_
      dsimp only [xset, xset2, xkill]
      refine xj_aloadN (pc := 15) d_RD_some_15 rfl ?_
      refine xj_ifnullN (pc := 17) (tgt := 35) d_RD_some_17 (by decide) ?_
      refine xj_iconst (pc := 35) (v := -1) d_RD_some_35 (by decide) ?_
      refine xj_iret (pc := 36) d_RD_some_36 rfl ?_
      exact ck_none hC (if_neg (fun q => by simp only [Bool.and_eq_true, decide_eq_true_eq] at q; first | omega | simp_all))
    · refine xj_callV (pc := 10) d_RD_some_10 ml_RD_56 ok_RD_register (s_RD_register_n i_to) rfl rfl rfl rfl rfl (Nat.le_of_ble_eq_true rfl) (by decide) ?_
      rintro rv I1 F1 ⟨rfl, rfl, rfl⟩
      dsimp only [Option.toList, List.cons_append, List.nil_append]
      refine xj_astoreN (pc := 13) d_RD_some_13 (by decide) rfl ?_
      dsimp only [xset, xset2, xkill]
      refine xj_aloadN (pc := 15) d_RD_some_15 rfl ?_
      refine xj_ifnullN (pc := 17) (tgt := 35) d_RD_some_17 (by decide) ?_
      refine xj_iconst (pc := 35) (v := -1) d_RD_some_35 (by decide) ?_
      refine xj_iret (pc := 36) d_RD_some_36 rfl ?_
      exact ck_none hC (if_neg (fun q => by simp only [Bool.and_eq_true, decide_eq_true_eq] at q; first | omega | simp_all))
end RDJ
