section RDC
variable {I I1 I2 : XI} {F F1 F2 : XF} {S : XSt} {k : Nat} {M X : List Int32}
theorem ck_ans {v : Int32} (h : CI I F S) : CQ (v, S) I F (some (.int v)) I F := ⟨rfl, h, CM.rf⟩
theorem ck_tape {v : Int32} {T : List Int32} (h : CI I F S) (hR : Rs 11 T I F I1 F1) : CQ (v, (T, S.2)) I F (some (.int v)) I1 F1 :=
  ⟨rfl, ⟨hR.2.2, fun r hr => hR.kp (by omega) (h.2.1 r hr), by rw [hR.1 12 (by decide)]; exact h.2.2.1, h.2.2.2.elim fun M hM => ⟨M, hR.kp (by decide) hM⟩⟩, hR.cm (by decide)⟩
theorem xcap11 : xcap 11 = 240 := rfl
theorem fb_len (v : Int32) : (fb v).length = 4 := rfl
theorem t_RD_feed {a b c d e : Int32} (hC : CI I F S) : XM m_RD_feed [.ref 24, .int a, .int b, .int c, .int d, .int e] I F (CQ (sp_feed S a b c d e) I F) := by
  refine XM.of (by decide) (Nat.le_of_ble_eq_true rfl) ?_
  dsimp only [xargs]
  have hT := hC.1
  have eT := hT.ti
  have hTl := hT.lt
  refine xj_aload_n (pc := 0) d_RD_feed_0 rfl rfl ?_
  refine xj_getR (pc := 1) d_RD_feed_1 fl_RD_14 rfl rfl ?_
  refine xj_callV (pc := 4) d_RD_feed_4 ml_RD_46 ok_RW_length (s_RW_length (by omega)) rfl rfl (xsh_row (by omega)) rfl rfl (Nat.le_of_ble_eq_true rfl) (by decide) ?_
  rintro rv I1 F1 ⟨rfl, rfl, rfl⟩
  dsimp only [Option.toList, List.cons_append, List.nil_append]
  refine xj_bipush (pc := 7) (v := 20) d_RD_feed_7 (by decide) ?_
  refine xj_iadd (pc := 9) d_RD_feed_9 ?_
  refine xj_sipush (pc := 10) (v := 240) d_RD_feed_10 (by decide) ?_
  have e1 : (I 11 + 20).toInt = S.1.length + 20 := by rw [n_add (by rw [n_20]; omega) (by rw [n_20]; omega), n_20, eT]
  refine xj_icmp_le (pc := 13) (tgt := 19) d_RD_feed_13 (by decide) (fun h13 => ?_) (fun h13 => ?_)
  · rw [n_le, e1, n_240] at h13
    refine xj_aload_n (pc := 19) d_RD_feed_19 rfl rfl ?_
    refine xj_getR (pc := 20) d_RD_feed_20 fl_RD_14 rfl rfl ?_
    refine xj_iload_n (pc := 23) d_RD_feed_23 rfl rfl ?_
    refine xj_callV (pc := 24) d_RD_feed_24 ml_RD_50 ok_RW_addFourBytes (s_RW_addFourBytes (by decide) hT) rfl rfl (xsh_row (by omega)) rfl rfl (Nat.le_of_ble_eq_true rfl) (by decide) ?_
    rintro rv I1 F1 ⟨rfl, g1⟩
    dsimp only [Option.toList, List.cons_append, List.nil_append]
    refine xj_aload_n (pc := 27) d_RD_feed_27 rfl rfl ?_
    refine xj_getR (pc := 28) d_RD_feed_28 fl_RD_14 rfl rfl ?_
    refine xj_iload_n (pc := 31) d_RD_feed_31 rfl rfl ?_
    refine xj_callV (pc := 32) d_RD_feed_32 ml_RD_50 ok_RW_addFourBytes (s_RW_addFourBytes (by decide) g1.2.2) rfl rfl (xsh_row (by omega)) rfl rfl (Nat.le_of_ble_eq_true rfl) (by decide) ?_
    rintro rv I2 F2 ⟨rfl, g2⟩
    rw [tk_app] at g2
    replace g2 := g1.tr g2
    dsimp only [Option.toList, List.cons_append, List.nil_append]
    refine xj_aload_n (pc := 35) d_RD_feed_35 rfl rfl ?_
    refine xj_getR (pc := 36) d_RD_feed_36 fl_RD_14 rfl rfl ?_
    refine xj_iload_n (pc := 39) d_RD_feed_39 rfl rfl ?_
    refine xj_callV (pc := 40) d_RD_feed_40 ml_RD_50 ok_RW_addFourBytes (s_RW_addFourBytes (by decide) g2.2.2) rfl rfl (xsh_row (by omega)) rfl rfl (Nat.le_of_ble_eq_true rfl) (by decide) ?_
    rintro rv I3 F3 ⟨rfl, g3⟩
    rw [tk_app] at g3
    replace g3 := g2.tr g3
    dsimp only [Option.toList, List.cons_append, List.nil_append]
    refine xj_aload_n (pc := 43) d_RD_feed_43 rfl rfl ?_
    refine xj_getR (pc := 44) d_RD_feed_44 fl_RD_14 rfl rfl ?_
    refine xj_iload (pc := 47) d_RD_feed_47 rfl ?_
    refine xj_callV (pc := 49) d_RD_feed_49 ml_RD_50 ok_RW_addFourBytes (s_RW_addFourBytes (by decide) g3.2.2) rfl rfl (xsh_row (by omega)) rfl rfl (Nat.le_of_ble_eq_true rfl) (by decide) ?_
    rintro rv I4 F4 ⟨rfl, g4⟩
    rw [tk_app] at g4
    replace g4 := g3.tr g4
    dsimp only [Option.toList, List.cons_append, List.nil_append]
    refine xj_aload_n (pc := 52) d_RD_feed_52 rfl rfl ?_
    refine xj_getR (pc := 53) d_RD_feed_53 fl_RD_14 rfl rfl ?_
    refine xj_iload (pc := 56) d_RD_feed_56 rfl ?_
    refine xj_callV (pc := 58) d_RD_feed_58 ml_RD_50 ok_RW_addFourBytes (s_RW_addFourBytes (by decide) g4.2.2) rfl rfl (xsh_row (by omega)) rfl rfl (Nat.le_of_ble_eq_true rfl) (by decide) ?_
    rintro rv I5 F5 ⟨rfl, g5⟩
    rw [tk_app] at g5
    replace g5 := g4.tr g5
    rw [xcap11, List.take_of_length_le (by simp only [List.length_append, fb_len]; omega)] at g5
    dsimp only [Option.toList, List.cons_append, List.nil_append]
    refine xj_aload_n (pc := 61) d_RD_feed_61 rfl rfl ?_
    refine xj_getR (pc := 62) d_RD_feed_62 fl_RD_14 rfl rfl ?_
    refine xj_callV (pc := 65) d_RD_feed_65 ml_RD_46 ok_RW_length (s_RW_length (by omega)) rfl rfl (xsh_row (by omega)) rfl rfl (Nat.le_of_ble_eq_true rfl) (by decide) ?_
    rintro rv I1 F1 ⟨rfl, rfl, rfl⟩
    dsimp only [Option.toList, List.cons_append, List.nil_append]
    refine xj_iret (pc := 68) d_RD_feed_68 rfl ?_
    rw [sp_feed, if_neg (by omega), g5.2.2.1]
    rw [show (S.1 ++ fb a ++ fb b ++ fb c ++ fb d ++ fb e).length = S.1.length + 20 by simp only [List.length_append, fb_len]]
    exact ck_tape hC g5
  · refine xj_bipush (pc := 16) (v := -4) d_RD_feed_16 (by decide) ?_
    refine xj_iret (pc := 18) d_RD_feed_18 rfl ?_
    rw [n_le, e1, n_240] at h13
    rw [sp_feed, if_pos (by omega)]
    exact ⟨rfl, hC, CM.rf⟩
theorem t_RD_end {n : Int32} (hC : CI I F S) : XM m_RD_end [.ref 24, .int n] I F (CQ (sp_end S n) I F) := by
  refine XM.of (by decide) (Nat.le_of_ble_eq_true rfl) ?_
  dsimp only [xargs]
  have hT := hC.1
  have eT := hT.ti
  refine xj_iload_n (pc := 0) d_RD_end_0 rfl rfl ?_
  refine xj_if_lt (pc := 1) (tgt := 15) d_RD_end_1 (by decide) (fun h1 => ?_) (fun h1 => ?_)
  · simp only [n_lt, n_le, c_gt, c_le, c_lt, c_ge, not_lt_i, not_le_i, n_0, n_1, n_2, n_3, n_4, n_m1, n_10, n_200, n_240, n_256] at h1
    refine xj_iconst (pc := 15) (v := -1) d_RD_end_15 (by decide) ?_
    refine xj_iret (pc := 16) d_RD_end_16 rfl ?_
    exact ck_none hC (if_pos (by omega))
  · simp only [n_lt, n_le, c_gt, c_le, c_lt, c_ge, not_lt_i, not_le_i, n_0, n_1, n_2, n_3, n_4, n_m1, n_10, n_200, n_240, n_256] at h1
    refine xj_iload_n (pc := 4) d_RD_end_4 rfl rfl ?_
    refine xj_aload_n (pc := 5) d_RD_end_5 rfl rfl ?_
    refine xj_getR (pc := 6) d_RD_end_6 fl_RD_14 rfl rfl ?_
    refine xj_callV (pc := 9) d_RD_end_9 ml_RD_46 ok_RW_length (s_RW_length (by omega)) rfl rfl (xsh_row (by omega)) rfl rfl (Nat.le_of_ble_eq_true rfl) (by decide) ?_
    rintro rv I1 F1 ⟨rfl, rfl, rfl⟩
    dsimp only [Option.toList, List.cons_append, List.nil_append]
    refine xj_icmp_le (pc := 12) (tgt := 17) d_RD_end_12 (by decide) (fun h12 => ?_) (fun h12 => ?_)
    · simp only [n_lt, n_le, c_gt, c_le, c_lt, c_ge, not_lt_i, not_le_i, n_0, n_1, n_2, n_3, n_4, n_m1, n_10, n_200, n_240, n_256] at h12
      refine xj_aload_n (pc := 17) d_RD_end_17 rfl rfl ?_
      refine xj_getR (pc := 18) d_RD_end_18 fl_RD_14 rfl rfl ?_
      refine xj_iload_n (pc := 21) d_RD_end_21 rfl rfl ?_
      refine xj_callV (pc := 22) d_RD_end_22 ml_RD_53 ok_RW_shortenTo (s_RW_shortenTo (by decide) hT (by omega)) rfl rfl (xsh_row (by omega)) rfl rfl (Nat.le_of_ble_eq_true rfl) (by decide) ?_
      rintro rv I1 F1 ⟨rfl, g1⟩
      dsimp only [Option.toList, List.cons_append, List.nil_append]
      refine xj_iload_n (pc := 25) d_RD_end_25 rfl rfl ?_
      refine xj_iret (pc := 26) d_RD_end_26 rfl ?_
      rw [sp_end, if_neg (by omega)]
      exact ck_tape hC g1
    · simp only [n_lt, n_le, c_gt, c_le, c_lt, c_ge, not_lt_i, not_le_i, n_0, n_1, n_2, n_3, n_4, n_m1, n_10, n_200, n_240, n_256] at h12
      refine xj_iconst (pc := 15) (v := -1) d_RD_end_15 (by decide) ?_
      refine xj_iret (pc := 16) d_RD_end_16 rfl ?_
      exact ck_none hC (if_pos (by omega))
theorem t_RD_put {r : Int32} (hC : CI I F S) : XM m_RD_put [.ref 24, .int r] I F (CQ (sp_put S r) I F) := by
  refine XM.of (by decide) (Nat.le_of_ble_eq_true rfl) ?_
  dsimp only [xargs]
  have hT := hC.1
  have eT := hT.ti
  refine xj_aload_n (pc := 0) d_RD_put_0 rfl rfl ?_
  refine xj_iload_n (pc := 1) d_RD_put_1 rfl rfl ?_
  rcases regc r with ⟨k_r, hk_r, e_r, i_r, t_r⟩ | i_r
  · refine xj_callV (pc := 2) d_RD_put_2 ml_RD_56 ok_RD_register (s_RD_register_k hk_r e_r) rfl rfl rfl rfl rfl (Nat.le_of_ble_eq_true rfl) (by decide) ?_
    rintro rv I1 F1 ⟨rfl, rfl, rfl⟩
    dsimp only [Option.toList, List.cons_append, List.nil_append]
    refine xj_astore_n (pc := 5) d_RD_put_5 rfl (by decide) rfl ?_
    dsimp only [xset, xset2, xkill]
    refine xj_aload_n (pc := 6) d_RD_put_6 rfl rfl ?_
    refine xj_ifnonnull (pc := 7) (tgt := 12) d_RD_put_7 (by decide) ?_
    refine xj_aload_n (pc := 12) d_RD_put_12 rfl rfl ?_
    refine xj_getR (pc := 13) d_RD_put_13 fl_RD_14 rfl rfl ?_
    refine xj_callV (pc := 16) d_RD_put_16 ml_RD_46 ok_RW_length (s_RW_length (by omega)) rfl rfl (xsh_row (by omega)) rfl rfl (Nat.le_of_ble_eq_true rfl) (by decide) ?_
    rintro rv I1 F1 ⟨rfl, rfl, rfl⟩
    dsimp only [Option.toList, List.cons_append, List.nil_append]
    refine xj_sipush (pc := 19) (v := 200) d_RD_put_19 (by decide) ?_
    refine xj_icmp_le (pc := 22) (tgt := 28) d_RD_put_22 (by decide) (fun h22 => ?_) (fun h22 => ?_)
    · simp only [n_lt, n_le, c_gt, c_le, c_lt, c_ge, not_lt_i, not_le_i, n_0, n_1, n_2, n_3, n_4, n_m1, n_10, n_200, n_240, n_256] at h22
      refine xj_aload_n (pc := 28) d_RD_put_28 rfl rfl ?_
      refine xj_aload_n (pc := 29) d_RD_put_29 rfl rfl ?_
      refine xj_getR (pc := 30) d_RD_put_30 fl_RD_14 rfl rfl ?_
      refine xj_callV (pc := 33) d_RD_put_33 ml_RD_60 ok_RW_become (s_RW_become (j := k_r) (k := 11) (by omega) (by decide) (by omega) hT (Nat.le_trans (show S.1.length ≤ 200 by omega) (xcap_ge k_r))) rfl rfl (xsh_row (by omega)) rfl rfl (Nat.le_of_ble_eq_true rfl) (by decide) ?_
      rintro rv I1 F1 ⟨rfl, g1⟩
      dsimp only [Option.toList, List.cons_append, List.nil_append]
      refine xj_aload_n (pc := 36) d_RD_put_36 rfl rfl ?_
      refine xj_getR (pc := 37) d_RD_put_37 fl_RD_14 rfl rfl ?_
      refine xj_iconst (pc := 40) (v := 0) d_RD_put_40 (by decide) ?_
      refine xj_callV (pc := 41) d_RD_put_41 ml_RD_53 ok_RW_shortenTo (s_RW_clear (by decide) (g1.kp (by omega) hT)) rfl rfl (xsh_row (by omega)) rfl rfl (Nat.le_of_ble_eq_true rfl) (by decide) ?_
      rintro rv I2 F2 ⟨rfl, g2⟩
      dsimp only [Option.toList, List.cons_append, List.nil_append]
      refine xj_aload_n (pc := 44) d_RD_put_44 rfl rfl ?_
      refine xj_callV (pc := 45) d_RD_put_45 ml_RD_46 ok_RW_length (s_RW_length (by omega)) rfl rfl (xsh_row (by omega)) rfl rfl (Nat.le_of_ble_eq_true rfl) (by decide) ?_
      rintro rv I1 F1 ⟨rfl, rfl, rfl⟩
      dsimp only [Option.toList, List.cons_append, List.nil_append]
      refine xj_iret (pc := 48) d_RD_put_48 rfl ?_
      rw [sp_put, if_neg (by rw [i_r]; decide), if_neg (by omega), (g2.kp (by omega) g1.2.2).1]
      refine ⟨rfl, ⟨g2.2.2, fun q hq => ?_, ?_, hC.2.2.2.elim fun M hM => ⟨M, g2.kp (by decide) (g1.kp (by omega) hM)⟩⟩, (g1.cm (by omega)).tr (g2.cm (by decide))⟩
      · show Rl I2 F2 q (va_up S.2.1 r.toInt.toNat S.1 q); rw [t_r]; by_cases hqk : q = k_r; (subst hqk; simp only [va_up, if_pos]; exact g2.kp (by omega) g1.2.2); (simp only [va_up, if_neg hqk]; exact g2.kp (by omega) (g1.kp hqk (hC.2.1 q hq)))
      · show I2 12 = S.2.2; rw [g2.1 12 (by decide), g1.1 12 (by omega)]; exact hC.2.2.1
    · simp only [n_lt, n_le, c_gt, c_le, c_lt, c_ge, not_lt_i, not_le_i, n_0, n_1, n_2, n_3, n_4, n_m1, n_10, n_200, n_240, n_256] at h22
      refine xj_bipush (pc := 25) (v := -4) d_RD_put_25 (by decide) ?_
      refine xj_iret (pc := 27) d_RD_put_27 rfl ?_
      rw [sp_put, if_neg (by rw [i_r]; decide), if_pos (by omega)]
      exact ⟨rfl, hC, CM.rf⟩
  · refine xj_callV (pc := 2) d_RD_put_2 ml_RD_56 ok_RD_register (s_RD_register_n i_r) rfl rfl rfl rfl rfl (Nat.le_of_ble_eq_true rfl) (by decide) ?_
    rintro rv I1 F1 ⟨rfl, rfl, rfl⟩
    dsimp only [Option.toList, List.cons_append, List.nil_append]
    refine xj_astore_nN (pc := 5) d_RD_put_5 rfl (by decide) rfl ?_
    dsimp only [xset, xset2, xkill]
    refine xj_aload_nN (pc := 6) d_RD_put_6 rfl rfl ?_
    refine xj_ifnonnullN (pc := 7) d_RD_put_7 ?_
    refine xj_iconst (pc := 10) (v := -1) d_RD_put_10 (by decide) ?_
    refine xj_iret (pc := 11) d_RD_put_11 rfl ?_
    exact ck_none hC (if_pos i_r)
theorem t_RD_at {r i : Int32} (hC : CI I F S) : XM m_RD_at [.ref 24, .int r, .int i] I F (CQ (sp_at S r i, S) I F) := by
  refine XM.of (by decide) (Nat.le_of_ble_eq_true rfl) ?_
  dsimp only [xargs]
  refine xj_aload_n (pc := 0) d_RD_at_0 rfl rfl ?_
  refine xj_iload_n (pc := 1) d_RD_at_1 rfl rfl ?_
  rcases regc r with ⟨k_r, hk_r, e_r, i_r, t_r⟩ | i_r
  · refine xj_callV (pc := 2) d_RD_at_2 ml_RD_56 ok_RD_register (s_RD_register_k hk_r e_r) rfl rfl rfl rfl rfl (Nat.le_of_ble_eq_true rfl) (by decide) ?_
    rintro rv I1 F1 ⟨rfl, rfl, rfl⟩
    dsimp only [Option.toList, List.cons_append, List.nil_append]
    refine xj_astore_n (pc := 5) d_RD_at_5 rfl (by decide) rfl ?_
    dsimp only [xset, xset2, xkill]
    refine xj_aload_n (pc := 6) d_RD_at_6 rfl rfl ?_
    refine xj_ifnonnull (pc := 7) (tgt := 14) d_RD_at_7 (by decide) ?_
    refine xj_aload_n (pc := 14) d_RD_at_14 rfl rfl ?_
    refine xj_iload_n (pc := 15) d_RD_at_15 rfl rfl ?_
    refine xj_iconst (pc := 16) (v := -1) d_RD_at_16 (by decide) ?_
    refine xj_callV (pc := 17) d_RD_at_17 ml_RD_64 ok_RW_byteOr (s_RW_byteOr (by omega) (hC.at hk_r t_r)) rfl rfl (xsh_row (by omega)) rfl rfl (Nat.le_of_ble_eq_true rfl) (by decide) ?_
    rintro rv I1 F1 ⟨rfl, rfl, rfl⟩
    dsimp only [Option.toList, List.cons_append, List.nil_append]
    refine xj_iret (pc := 20) d_RD_at_20 rfl ?_
    first | (rw [sp_at, i_r, if_pos rfl]; exact ck_ans hC; done) | (rw [sp_at, i_r, if_neg (by decide)]; exact ck_ans hC)
  · refine xj_callV (pc := 2) d_RD_at_2 ml_RD_56 ok_RD_register (s_RD_register_n i_r) rfl rfl rfl rfl rfl (Nat.le_of_ble_eq_true rfl) (by decide) ?_
    rintro rv I1 F1 ⟨rfl, rfl, rfl⟩
    dsimp only [Option.toList, List.cons_append, List.nil_append]
    refine xj_astore_nN (pc := 5) d_RD_at_5 rfl (by decide) rfl ?_
    dsimp only [xset, xset2, xkill]
    refine xj_aload_nN (pc := 6) d_RD_at_6 rfl rfl ?_
    refine xj_ifnonnullN (pc := 7) d_RD_at_7 ?_
    refine xj_iconst (pc := 10) (v := -1) d_RD_at_10 (by decide) ?_
    refine xj_goto (pc := 11) (tgt := 20) d_RD_at_11 (by decide) ?_
    refine xj_iret (pc := 20) d_RD_at_20 rfl ?_
    first | (rw [sp_at, i_r, if_pos rfl]; exact ck_ans hC; done) | (rw [sp_at, i_r, if_neg (by decide)]; exact ck_ans hC)
theorem t_RD_size {r : Int32} (hC : CI I F S) : XM m_RD_size [.ref 24, .int r] I F (CQ (sp_size S r, S) I F) := by
  refine XM.of (by decide) (Nat.le_of_ble_eq_true rfl) ?_
  dsimp only [xargs]
  refine xj_aload_n (pc := 0) d_RD_size_0 rfl rfl ?_
  refine xj_iload_n (pc := 1) d_RD_size_1 rfl rfl ?_
  rcases regc r with ⟨k_r, hk_r, e_r, i_r, t_r⟩ | i_r
  · refine xj_callV (pc := 2) d_RD_size_2 ml_RD_56 ok_RD_register (s_RD_register_k hk_r e_r) rfl rfl rfl rfl rfl (Nat.le_of_ble_eq_true rfl) (by decide) ?_
    rintro rv I1 F1 ⟨rfl, rfl, rfl⟩
    dsimp only [Option.toList, List.cons_append, List.nil_append]
    refine xj_astore_n (pc := 5) d_RD_size_5 rfl (by decide) rfl ?_
    dsimp only [xset, xset2, xkill]
    refine xj_aload_n (pc := 6) d_RD_size_6 rfl rfl ?_
    refine xj_ifnonnull (pc := 7) (tgt := 14) d_RD_size_7 (by decide) ?_
    refine xj_aload_n (pc := 14) d_RD_size_14 rfl rfl ?_
    refine xj_callV (pc := 15) d_RD_size_15 ml_RD_46 ok_RW_length (s_RW_length (by omega)) rfl rfl (xsh_row (by omega)) rfl rfl (Nat.le_of_ble_eq_true rfl) (by decide) ?_
    rintro rv I1 F1 ⟨rfl, rfl, rfl⟩
    dsimp only [Option.toList, List.cons_append, List.nil_append]
    refine xj_iret (pc := 18) d_RD_size_18 rfl ?_
    first | (rw [sp_size, i_r, if_pos rfl, (hC.at hk_r t_r).1]; exact ck_ans hC; done) | (rw [sp_size, i_r, if_neg (by decide)]; exact ck_ans hC)
  · refine xj_callV (pc := 2) d_RD_size_2 ml_RD_56 ok_RD_register (s_RD_register_n i_r) rfl rfl rfl rfl rfl (Nat.le_of_ble_eq_true rfl) (by decide) ?_
    rintro rv I1 F1 ⟨rfl, rfl, rfl⟩
    dsimp only [Option.toList, List.cons_append, List.nil_append]
    refine xj_astore_nN (pc := 5) d_RD_size_5 rfl (by decide) rfl ?_
    dsimp only [xset, xset2, xkill]
    refine xj_aload_nN (pc := 6) d_RD_size_6 rfl rfl ?_
    refine xj_ifnonnullN (pc := 7) d_RD_size_7 ?_
    refine xj_iconst (pc := 10) (v := -1) d_RD_size_10 (by decide) ?_
    refine xj_goto (pc := 11) (tgt := 18) d_RD_size_11 (by decide) ?_
    refine xj_iret (pc := 18) d_RD_size_18 rfl ?_
    first | (rw [sp_size, i_r, if_pos rfl, (hC.at hk_r t_r).1]; exact ck_ans hC; done) | (rw [sp_size, i_r, if_neg (by decide)]; exact ck_ans hC)
theorem ck_pad {p : Int32} (h : CI I F S) : CQ (S.2.2, (S.1, S.2.1, p)) I F (some (.int (I 12))) (upd I 12 p) F := by
  have e : ∀ x, x ≠ 12 → upd I 12 p x = I x := fun x hx => by simp [upd, hx]
  have kp : ∀ {j : Nat} {L : List Int32}, j ≠ 12 → Rl I F j L → Rl (upd I 12 p) F j L := fun hj hl => ⟨by rw [e _ hj]; exact hl.1, hl.2⟩
  exact ⟨by rw [h.2.2.1], ⟨kp (by decide) h.1, fun r hr => kp (by omega) (h.2.1 r hr), by simp [upd], h.2.2.2.elim fun M hM => ⟨M, kp (by decide) hM⟩⟩, fun x hx => e x (by omega), fun _ _ => rfl⟩
theorem t_RD_pad {p : Int32} (hC : CI I F S) : XM m_RD_pad [.ref 24, .int p] I F (CQ (sp_pad S p) I F) := by
  refine XM.of (by decide) (Nat.le_of_ble_eq_true rfl) ?_
  dsimp only [xargs]
  refine xj_iload_n (pc := 0) d_RD_pad_0 rfl rfl ?_
  refine xj_if_lt (pc := 1) (tgt := 11) d_RD_pad_1 (by decide) (fun h1 => ?_) (fun h1 => ?_)
  · simp only [n_lt, n_le, c_gt, c_le, c_lt, c_ge, not_lt_i, not_le_i, n_0, n_1, n_2, n_3, n_4, n_m1, n_10, n_200, n_240, n_256] at h1
    refine xj_iconst (pc := 11) (v := -1) d_RD_pad_11 (by decide) ?_
    refine xj_iret (pc := 12) d_RD_pad_12 rfl ?_
    exact ck_none hC (if_neg (by omega))
  · simp only [n_lt, n_le, c_gt, c_le, c_lt, c_ge, not_lt_i, not_le_i, n_0, n_1, n_2, n_3, n_4, n_m1, n_10, n_200, n_240, n_256] at h1
    refine xj_iload_n (pc := 4) d_RD_pad_4 rfl rfl ?_
    refine xj_sipush (pc := 5) (v := 256) d_RD_pad_5 (by decide) ?_
    refine xj_icmp_lt (pc := 8) (tgt := 13) d_RD_pad_8 (by decide) (fun h8 => ?_) (fun h8 => ?_)
    · simp only [n_lt, n_le, c_gt, c_le, c_lt, c_ge, not_lt_i, not_le_i, n_0, n_1, n_2, n_3, n_4, n_m1, n_10, n_200, n_240, n_256] at h8
      refine xj_aload_n (pc := 13) d_RD_pad_13 rfl rfl ?_
      refine xj_getI (pc := 14) d_RD_pad_14 fl_RD_42 rfl rfl ?_
      refine xj_istore_n (pc := 17) d_RD_pad_17 rfl (by decide) rfl ?_
      dsimp only [xset, xset2, xkill]
      refine xj_aload_n (pc := 18) d_RD_pad_18 rfl rfl ?_
      refine xj_iload_n (pc := 19) d_RD_pad_19 rfl rfl ?_
      refine xj_putI (pc := 20) d_RD_pad_20 fl_RD_42 fp_RD_padByte rfl rfl ?_
      refine xj_iload_n (pc := 23) d_RD_pad_23 rfl rfl ?_
      refine xj_iret (pc := 24) d_RD_pad_24 rfl ?_
      rw [sp_pad, if_pos (by omega)]
      exact ck_pad hC
    · simp only [n_lt, n_le, c_gt, c_le, c_lt, c_ge, not_lt_i, not_le_i, n_0, n_1, n_2, n_3, n_4, n_m1, n_10, n_200, n_240, n_256] at h8
      refine xj_iconst (pc := 11) (v := -1) d_RD_pad_11 (by decide) ?_
      refine xj_iret (pc := 12) d_RD_pad_12 rfl ?_
      exact ck_none hC (if_neg (by omega))
/-! copies -/
theorem fr_len (n : Nat) (L : List Int32) : (List.replicate n L).flatten.length = n * L.length := by
  simp [List.length_flatten, List.map_replicate, List.sum_replicate_nat]
theorem fr_succ (n : Nat) (L : List Int32) : (List.replicate (n + 1) L).flatten = (List.replicate n L).flatten ++ L := by
  rw [List.replicate_succ', List.flatten_append]; simp
theorem fr_nil (n : Nat) {L : List Int32} (h : L.length = 0) : (List.replicate n L).flatten = [] := by
  apply List.eq_nil_of_length_eq_zero
  rw [fr_len, h, Nat.mul_zero]
theorem cp_mul {x n : Int32} {l : Nat} (hx : x.toInt = l) (hn : 0 ≤ n.toInt) (hm : n.toInt.toNat * l ≤ 2147483648 * 200) : (x.toInt64 * n.toInt64).toInt = (n.toInt.toNat * l : Nat) := by
  have e : x.toInt * n.toInt = (n.toInt.toNat * l : Nat) := by
    rw [hx, Int.natCast_mul, Int.toNat_of_nonneg hn, Int.mul_comm]
  rw [l_mul (by rw [l_of, l_of, e]; omega) (by rw [l_of, l_of, e]; omega), l_of, l_of, e]
theorem t_RD_copies_l {a n to : Int32} {ln : Int64} {ka kt : Nat} {L : List Int32} (hC : CI I F S) (hka : ka < 10) (hkt : kt < 10) (ht : to.toInt.toNat = kt) (hL : Rl I F ka L) (hn : 0 ≤ n.toInt) (hln : ln.toInt = (n.toInt.toNat * L.length : Nat)) (h200 : n.toInt.toNat * L.length ≤ 200) : ∀ (m i : Nat) (I1 : XI) (F1 : XF), i + m = n.toInt.toNat → Rs 10 (List.replicate i L).flatten I F I1 F1 →
    XJ none m_RD_copies 64 [some (.ref 24), some (.int a), some (.int n), some (.int to), some (.ref ka), some (.ref kt), some (.long ln), none, some (.int (nI i))] [] I1 F1 (CQ (sMk S to (List.replicate n.toInt.toNat L).flatten) I F) := by
  have := n_hi n
  intro m
  induction m with
  | zero =>
    intro i I1 F1 hi g1
    refine xj_iload (pc := 64) d_RD_copies_64 rfl ?_
    refine xj_iload_n (pc := 66) d_RD_copies_66 rfl rfl ?_
    refine xj_icmp_ge (pc := 67) (tgt := 99) d_RD_copies_67 (by decide) (fun h67 => ?_) (fun h67 => absurd (by rw [n_le, n_nI (by omega)]; omega) h67)
    refine xj_aload_n (pc := 99) d_RD_copies_99 rfl rfl ?_
    refine xj_aload (pc := 100) d_RD_copies_100 rfl ?_
    refine xj_callV (pc := 102) d_RD_copies_102 ml_RD_79 ok_RD_keepMade (s_RD_keepMade hkt g1.2.2) rfl rfl rfl rfl rfl (Nat.le_of_ble_eq_true rfl) (by decide) ?_
    rintro rv I2 F2 ⟨rfl, g2⟩
    dsimp only [Option.toList, List.cons_append, List.nil_append]
    refine xj_iret (pc := 105) d_RD_copies_105 rfl ?_
    exact ck_doneE hC g1 g2 hkt ht (by rw [show i = n.toInt.toNat by omega]) (by rw [fr_len]; exact h200)
  | succ m ih =>
    intro i I1 F1 hi g1
    have hle : i * L.length ≤ 200 := Nat.le_trans (Nat.mul_le_mul_right _ (by omega)) h200
    have hle1 : (i + 1) * L.length ≤ 200 := Nat.le_trans (Nat.mul_le_mul_right _ (by omega)) h200
    have e1 : (I1 10).toInt64.toInt = (i * L.length : Nat) := by rw [l_of, g1.2.2.ti, fr_len]
    refine xj_iload (pc := 64) d_RD_copies_64 rfl ?_
    refine xj_iload_n (pc := 66) d_RD_copies_66 rfl rfl ?_
    refine xj_icmp_ge (pc := 67) (tgt := 99) d_RD_copies_67 (by decide) (fun h67 => absurd h67 (by rw [n_le, n_nI (by omega)]; omega)) (fun h67 => ?_)
    refine xj_aload_n (pc := 70) d_RD_copies_70 rfl rfl ?_
    refine xj_getR (pc := 71) d_RD_copies_71 fl_RD_22 rfl rfl ?_
    refine xj_callV (pc := 74) d_RD_copies_74 ml_RD_46 ok_RW_length (s_RW_length (by omega)) rfl rfl (xsh_row (by omega)) rfl rfl (Nat.le_of_ble_eq_true rfl) (by decide) ?_
    rintro rv I1 F1 ⟨rfl, rfl, rfl⟩
    dsimp only [Option.toList, List.cons_append, List.nil_append]
    refine xj_i2l (pc := 77) d_RD_copies_77 ?_
    refine xj_lload (pc := 78) d_RD_copies_78 rfl ?_
    refine xj_lcmp (pc := 80) d_RD_copies_80 ?_
    refine xj_if_ge (pc := 81) (tgt := 99) d_RD_copies_81 (by decide) (fun h81 => ?_) (fun h81 => ?_)
    · refine xj_aload_n (pc := 99) d_RD_copies_99 rfl rfl ?_
      refine xj_aload (pc := 100) d_RD_copies_100 rfl ?_
      refine xj_callV (pc := 102) d_RD_copies_102 ml_RD_79 ok_RD_keepMade (s_RD_keepMade hkt g1.2.2) rfl rfl rfl rfl rfl (Nat.le_of_ble_eq_true rfl) (by decide) ?_
      rintro rv I2 F2 ⟨rfl, g2⟩
      dsimp only [Option.toList, List.cons_append, List.nil_append]
      refine xj_iret (pc := 105) d_RD_copies_105 rfl ?_
      rw [c_ge, e1, hln] at h81
      have h0 : L.length = 0 := by (rcases Nat.eq_zero_or_pos L.length with q | q; exact q; have := Nat.mul_lt_mul_of_pos_right (show i < n.toInt.toNat by omega) q; omega)
      exact ck_doneE hC g1 g2 hkt ht (by rw [fr_nil i h0, fr_nil _ h0]) (by rw [fr_len]; exact h200)
    · refine xj_aload_n (pc := 84) d_RD_copies_84 rfl rfl ?_
      refine xj_getR (pc := 85) d_RD_copies_85 fl_RD_22 rfl rfl ?_
      refine xj_aload (pc := 88) d_RD_copies_88 rfl ?_
      refine xj_callV (pc := 90) d_RD_copies_90 ml_RD_89 ok_RW_addRow (s_RW_addRow (by decide) (by omega) (by omega) g1.2.2 (g1.kp (by omega) hL)) rfl rfl (xsh_row (by omega)) rfl rfl (Nat.le_of_ble_eq_true rfl) (by decide) ?_
      rintro rv I2 F2 ⟨rfl, g2⟩
      rw [← fr_succ, xcap10, List.take_of_length_le (by rw [fr_len]; exact hle1)] at g2
      replace g2 := g1.tr g2
      dsimp only [Option.toList, List.cons_append, List.nil_append]
      refine xj_inc1 (pc := 93) d_RD_copies_93 rfl (by decide) rfl ?_
      dsimp only [xset, xset2, xkill]
      rw [n_up]
      refine xj_goto (pc := 96) (tgt := 64) d_RD_copies_96 (by decide) ?_
      exact ih (i + 1) I2 F2 (by omega) g2
theorem t_RD_copies {a n to : Int32} (hS : OKS S) (hC : CI I F S) : XM m_RD_copies [.ref 24, .int a, .int n, .int to] I F (CQ (sp_copies S a n to) I F) := by
  refine XM.of (by decide) (Nat.le_of_ble_eq_true rfl) ?_
  dsimp only [xargs]
  obtain ⟨M0, hM0⟩ := hC.2.2.2
  have := n_hi n
  refine xj_aload_n (pc := 0) d_RD_copies_0 rfl rfl ?_
  refine xj_iload_n (pc := 1) d_RD_copies_1 rfl rfl ?_
  rcases regc a with ⟨k_a, hk_a, e_a, i_a, t_a⟩ | i_a
  · refine xj_callV (pc := 2) d_RD_copies_2 ml_RD_56 ok_RD_register (s_RD_register_k hk_a e_a) rfl rfl rfl rfl rfl (Nat.le_of_ble_eq_true rfl) (by decide) ?_
    rintro rv I1 F1 ⟨rfl, rfl, rfl⟩
    dsimp only [Option.toList, List.cons_append, List.nil_append]
    refine xj_astore (pc := 5) d_RD_copies_5 (by decide) rfl ?_
    dsimp only [xset, xset2, xkill]
    refine xj_aload_n (pc := 7) d_RD_copies_7 rfl rfl ?_
    refine xj_iload_n (pc := 8) d_RD_copies_8 rfl rfl ?_
    rcases regc to with ⟨k_to, hk_to, e_to, i_to, t_to⟩ | i_to
    · refine xj_callV (pc := 9) d_RD_copies_9 ml_RD_56 ok_RD_register (s_RD_register_k hk_to e_to) rfl rfl rfl rfl rfl (Nat.le_of_ble_eq_true rfl) (by decide) ?_
      rintro rv I1 F1 ⟨rfl, rfl, rfl⟩
      dsimp only [Option.toList, List.cons_append, List.nil_append]
      refine xj_astore (pc := 12) d_RD_copies_12 (by decide) rfl ?_
      dsimp only [xset, xset2, xkill]
      refine xj_aload (pc := 14) d_RD_copies_14 rfl ?_
      refine xj_ifnull (pc := 16) d_RD_copies_16 ?_
      refine xj_aload (pc := 19) d_RD_copies_19 rfl ?_
      refine xj_ifnull (pc := 21) d_RD_copies_21 ?_
      refine xj_iload_n (pc := 24) d_RD_copies_24 rfl rfl ?_
      refine xj_if_ge (pc := 25) (tgt := 30) d_RD_copies_25 (by decide) (fun h25 => ?_) (fun h25 => ?_)
      · rw [n_le, n_0] at h25
        have hpos : (isR a && isR to && decide (0 ≤ n.toInt)) = true := by simp only [i_a, i_to, Bool.true_and, decide_eq_true_eq]; omega
        rw [sp_copies, if_pos hpos]
        have hLa := hC.at hk_a t_a
        have hLe := hS.le hk_a t_a
        have eL := hLa.ti
        have hm : n.toInt.toNat * (sR S a).length ≤ 2147483648 * 200 := Nat.mul_le_mul (by omega) hLe
        refine xj_aload (pc := 30) d_RD_copies_30 rfl ?_
        refine xj_callV (pc := 32) d_RD_copies_32 ml_RD_46 ok_RW_length (s_RW_length (by omega)) rfl rfl (xsh_row (by omega)) rfl rfl (Nat.le_of_ble_eq_true rfl) (by decide) ?_
        rintro rv I1 F1 ⟨rfl, rfl, rfl⟩
        dsimp only [Option.toList, List.cons_append, List.nil_append]
        refine xj_i2l (pc := 35) d_RD_copies_35 ?_
        refine xj_iload_n (pc := 36) d_RD_copies_36 rfl rfl ?_
        refine xj_i2l (pc := 37) d_RD_copies_37 ?_
        refine xj_lmul (pc := 38) d_RD_copies_38 ?_
        refine xj_lstore (pc := 39) d_RD_copies_39 (by decide) rfl ?_
        dsimp only [xset, xset2, xkill]
        have e1 : ((I k_a).toInt64 * n.toInt64).toInt = (n.toInt.toNat * (sR S a).length : Nat) := cp_mul eL h25 hm
        refine xj_lload (pc := 41) d_RD_copies_41 rfl ?_
        refine xj_ldc2 (pc := 43) (v := 200) d_RD_copies_43 kc_RD_87 ?_
        refine xj_lcmp (pc := 46) d_RD_copies_46 ?_
        refine xj_if_le (pc := 47) (tgt := 53) d_RD_copies_47 (by decide) (fun h47 => ?_) (fun h47 => ?_)
        · rw [c_le, e1, l_200] at h47
          refine xj_aload_n (pc := 53) d_RD_copies_53 rfl rfl ?_
          refine xj_getR (pc := 54) d_RD_copies_54 fl_RD_22 rfl rfl ?_
          refine xj_iconst (pc := 57) (v := 0) d_RD_copies_57 (by decide) ?_
          refine xj_callV (pc := 58) d_RD_copies_58 ml_RD_53 ok_RW_shortenTo (s_RW_clear (by decide) hM0) rfl rfl (xsh_row (by omega)) rfl rfl (Nat.le_of_ble_eq_true rfl) (by decide) ?_
          rintro rv I1 F1 ⟨rfl, g1⟩
          dsimp only [Option.toList, List.cons_append, List.nil_append]
          refine xj_iconst (pc := 61) (v := 0) d_RD_copies_61 (by decide) ?_
          refine xj_istore (pc := 62) d_RD_copies_62 (by decide) rfl ?_
          dsimp only [xset, xset2, xkill]
          exact t_RD_copies_l hC hk_a hk_to t_to hLa h25 e1 (by omega) n.toInt.toNat 0 I1 F1 (by omega) g1
        · refine xj_bipush (pc := 50) (v := -4) d_RD_copies_50 (by decide) ?_
          refine xj_iret (pc := 52) d_RD_copies_52 rfl ?_
          rw [c_le, e1, l_200] at h47
          exact ck_full hC (by rw [fr_len]; omega)
      · refine xj_iconst (pc := 28) (v := -1) d_RD_copies_28 (by decide) ?_
        refine xj_iret (pc := 29) d_RD_copies_29 rfl ?_
        exact ck_none hC (if_neg (fun q => by simp only [Bool.and_eq_true, decide_eq_true_eq] at q; first | (rw [n_le, n_0] at h25; omega) | simp_all))
    · refine xj_callV (pc := 9) d_RD_copies_9 ml_RD_56 ok_RD_register (s_RD_register_n i_to) rfl rfl rfl rfl rfl (Nat.le_of_ble_eq_true rfl) (by decide) ?_
      rintro rv I1 F1 ⟨rfl, rfl, rfl⟩
      dsimp only [Option.toList, List.cons_append, List.nil_append]
      refine xj_astoreN (pc := 12) d_RD_copies_12 (by decide) rfl ?_
      dsimp only [xset, xset2, xkill]
      refine xj_aload (pc := 14) d_RD_copies_14 rfl ?_
      refine xj_ifnull (pc := 16) d_RD_copies_16 ?_
      refine xj_aloadN (pc := 19) d_RD_copies_19 rfl ?_
      refine xj_ifnullN (pc := 21) (tgt := 28) d_RD_copies_21 (by decide) ?_
      refine xj_iconst (pc := 28) (v := -1) d_RD_copies_28 (by decide) ?_
      refine xj_iret (pc := 29) d_RD_copies_29 rfl ?_
      exact ck_none hC (if_neg (fun q => by simp only [Bool.and_eq_true, decide_eq_true_eq] at q; first | (rw [n_le, n_0] at h25; omega) | simp_all))
  · refine xj_callV (pc := 2) d_RD_copies_2 ml_RD_56 ok_RD_register (s_RD_register_n i_a) rfl rfl rfl rfl rfl (Nat.le_of_ble_eq_true rfl) (by decide) ?_
    rintro rv I1 F1 ⟨rfl, rfl, rfl⟩
    dsimp only [Option.toList, List.cons_append, List.nil_append]
    refine xj_astoreN (pc := 5) d_RD_copies_5 (by decide) rfl ?_
    dsimp only [xset, xset2, xkill]
    refine xj_aload_n (pc := 7) d_RD_copies_7 rfl rfl ?_
    refine xj_iload_n (pc := 8) d_RD_copies_8 rfl rfl ?_
    rcases regc to with ⟨k_to, hk_to, e_to, i_to, t_to⟩ | i_to
    · refine xj_callV (pc := 9) d_RD_copies_9 ml_RD_56 ok_RD_register (s_RD_register_k hk_to e_to) rfl rfl rfl rfl rfl (Nat.le_of_ble_eq_true rfl) (by decide) ?_
      rintro rv I1 F1 ⟨rfl, rfl, rfl⟩
      dsimp only [Option.toList, List.cons_append, List.nil_append]
      refine xj_astore (pc := 12) d_RD_copies_12 (by decide) rfl ?_
      dsimp only [xset, xset2, xkill]
      refine xj_aloadN (pc := 14) d_RD_copies_14 rfl ?_
      refine xj_ifnullN (pc := 16) (tgt := 28) d_RD_copies_16 (by decide) ?_
      refine xj_iconst (pc := 28) (v := -1) d_RD_copies_28 (by decide) ?_
      refine xj_iret (pc := 29) d_RD_copies_29 rfl ?_
      exact ck_none hC (if_neg (fun q => by simp only [Bool.and_eq_true, decide_eq_true_eq] at q; first | (rw [n_le, n_0] at h25; omega) | simp_all))
    · refine xj_callV (pc := 9) d_RD_copies_9 ml_RD_56 ok_RD_register (s_RD_register_n i_to) rfl rfl rfl rfl rfl (Nat.le_of_ble_eq_true rfl) (by decide) ?_
      rintro rv I1 F1 ⟨rfl, rfl, rfl⟩
      dsimp only [Option.toList, List.cons_append, List.nil_append]
      refine xj_astoreN (pc := 12) d_RD_copies_12 (by decide) rfl ?_
      dsimp only [xset, xset2, xkill]
      refine xj_aloadN (pc := 14) d_RD_copies_14 rfl ?_
      refine xj_ifnullN (pc := 16) (tgt := 28) d_RD_copies_16 (by decide) ?_
      refine xj_iconst (pc := 28) (v := -1) d_RD_copies_28 (by decide) ?_
      refine xj_iret (pc := 29) d_RD_copies_29 rfl ?_
      exact ck_none hC (if_neg (fun q => by simp only [Bool.and_eq_true, decide_eq_true_eq] at q; first | (rw [n_le, n_0] at h25; omega) | simp_all))
end RDC
