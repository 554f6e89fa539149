section RDB
variable {I I1 I2 : XI} {F F1 F2 : XF} {S : XSt} {k : Nat} {M X : List Int32}
/-! part -/
theorem part_eq {p p1 : Int32} {L : List Int32} {k1 : Nat} {n v : Int32} (h1 : p1 = p) (hn : -1 ≤ n.toInt) (hn2 : n.toInt ≤ 200) (hL : L.length ≤ 200) (hv : v.toInt = if n.toInt = -1 then (L.length : Int) else min (k1 + n.toInt) L.length) :
    (((L.take v.toInt.toNat).drop k1).take (xcap 10) ++ List.replicate (n.toInt.toNat - (((L.take v.toInt.toNat).drop k1).take (xcap 10)).length) p1).take (xcap 10) = m_part p L k1 n.toInt := by
  rw [h1, xcap10, m_part]
  split
  · rename_i h
    rw [hv, if_pos h, h, show ((L.length : Int)).toNat = L.length from rfl, List.take_length]
    rw [List.take_of_length_le (l := L.drop k1) (by rw [List.length_drop]; omega), show (-1 : Int).toNat - (L.drop k1).length = 0 by omega]
    rw [List.replicate_zero, List.append_nil, List.take_of_length_le (by rw [List.length_drop]; omega)]
  · rename_i h
    have e : (L.take v.toInt.toNat).drop k1 = (L.drop k1).take n.toInt.toNat := by
      apply sl_dt
      intro i hi
      rw [hv, if_neg h]; omega
    rw [e, List.take_of_length_le (l := (L.drop k1).take n.toInt.toNat) (i := 200) (by rw [List.length_take]; omega)]
    rw [List.take_of_length_le]
    rw [List.length_append, List.length_replicate, List.length_take]; omega
theorem m_part_len {p : Int32} {L : List Int32} {k1 : Nat} {n : Int} (hL : L.length ≤ 200) (hn : n ≤ 200) : (m_part p L k1 n).length ≤ 200 := by
  rw [m_part]
  split
  · rw [List.length_drop]; omega
  · rw [List.length_append, List.length_replicate, List.length_take]; omega
theorem m_part_full {p : Int32} {L : List Int32} {k1 : Nat} {n : Int} (hn : 200 < n) : 200 < (m_part p L k1 n).length := by
  rw [m_part, if_neg (by omega), List.length_append, List.length_replicate]; omega
theorem t_RD_part {a k n to : Int32} (hS : OKS S) (hC : CI I F S) : XM m_RD_part [.ref 24, .int a, .int k, .int n, .int to] I F (CQ (sp_part S a k n to) I F) := by
  refine XM.of (by decide) (Nat.le_of_ble_eq_true rfl) ?_
  dsimp only [xargs]
  obtain ⟨M0, hM0⟩ := hC.2.2.2
  have := n_hi n
  have := n_hi k
  refine xj_aload_n (pc := 0) d_RD_part_0 rfl rfl ?_
  refine xj_iload_n (pc := 1) d_RD_part_1 rfl rfl ?_
  rcases regc a with ⟨k_a, hk_a, e_a, i_a, t_a⟩ | i_a
  · refine xj_callV (pc := 2) d_RD_part_2 ml_RD_56 ok_RD_register (s_RD_register_k hk_a e_a) rfl rfl rfl rfl rfl (Nat.le_of_ble_eq_true rfl) (by decide) ?_
    rintro rv I1 F1 ⟨rfl, rfl, rfl⟩
    dsimp only [Option.toList, List.cons_append, List.nil_append]
    refine xj_astore (pc := 5) d_RD_part_5 (by decide) rfl ?_
    dsimp only [xset, xset2, xkill]
    refine xj_aload_n (pc := 7) d_RD_part_7 rfl rfl ?_
    refine xj_iload (pc := 8) d_RD_part_8 rfl ?_
    rcases regc to with ⟨k_to, hk_to, e_to, i_to, t_to⟩ | i_to
    · refine xj_callV (pc := 10) d_RD_part_10 ml_RD_56 ok_RD_register (s_RD_register_k hk_to e_to) rfl rfl rfl rfl rfl (Nat.le_of_ble_eq_true rfl) (by decide) ?_
      rintro rv I1 F1 ⟨rfl, rfl, rfl⟩
      dsimp only [Option.toList, List.cons_append, List.nil_append]
      refine xj_astore (pc := 13) d_RD_part_13 (by decide) rfl ?_
      dsimp only [xset, xset2, xkill]
      refine xj_aload (pc := 15) d_RD_part_15 rfl ?_
      refine xj_ifnull (pc := 17) d_RD_part_17 ?_
      refine xj_aload (pc := 20) d_RD_part_20 rfl ?_
      refine xj_ifnull (pc := 22) d_RD_part_22 ?_
      refine xj_iload_n (pc := 25) d_RD_part_25 rfl rfl ?_
      refine xj_iconst (pc := 26) (v := 1) d_RD_part_26 (by decide) ?_
      refine xj_icmp_lt (pc := 27) (tgt := 35) d_RD_part_27 (by decide) (fun h27 => ?_) (fun h27 => ?_)
      · simp only [n_lt, n_le, c_gt, c_le, c_lt, c_ge, not_lt_i, not_le_i, n_0, n_1, n_2, n_3, n_4, n_m1, n_10, n_200, n_240, n_256] at h27
        refine xj_iconst (pc := 35) (v := -1) d_RD_part_35 (by decide) ?_
        refine xj_iret (pc := 36) d_RD_part_36 rfl ?_
        exact ck_none hC (if_neg (fun q => by simp only [Bool.and_eq_true, decide_eq_true_eq] at q; first | omega | simp_all))
      · simp only [n_lt, n_le, c_gt, c_le, c_lt, c_ge, not_lt_i, not_le_i, n_0, n_1, n_2, n_3, n_4, n_m1, n_10, n_200, n_240, n_256] at h27
        refine xj_iload_n (pc := 30) d_RD_part_30 rfl rfl ?_
        refine xj_iconst (pc := 31) (v := -1) d_RD_part_31 (by decide) ?_
        refine xj_icmp_ge (pc := 32) (tgt := 37) d_RD_part_32 (by decide) (fun h32 => ?_) (fun h32 => ?_)
        · simp only [n_lt, n_le, c_gt, c_le, c_lt, c_ge, not_lt_i, not_le_i, n_0, n_1, n_2, n_3, n_4, n_m1, n_10, n_200, n_240, n_256] at h32
          have hpos : (isR a && isR to && decide (1 ≤ k.toInt ∧ -1 ≤ n.toInt)) = true := by simp only [i_a, i_to, Bool.true_and, decide_eq_true_eq]; omega
          rw [sp_part, if_pos hpos]
          have hLa := hC.at hk_a t_a
          have hLe := hS.le hk_a t_a
          have eL := hLa.ti
          have ek := n_k1 (k := k) (by omega)
          refine xj_iload_n (pc := 37) d_RD_part_37 rfl rfl ?_
          refine xj_sipush (pc := 38) (v := 200) d_RD_part_38 (by decide) ?_
          refine xj_icmp_le (pc := 41) (tgt := 47) d_RD_part_41 (by decide) (fun h41 => ?_) (fun h41 => ?_)
          · simp only [n_lt, n_le, c_gt, c_le, c_lt, c_ge, not_lt_i, not_le_i, n_0, n_1, n_2, n_3, n_4, n_m1, n_10, n_200, n_240, n_256] at h41
            refine xj_aload_n (pc := 47) d_RD_part_47 rfl rfl ?_
            refine xj_getR (pc := 48) d_RD_part_48 fl_RD_22 rfl rfl ?_
            refine xj_iconst (pc := 51) (v := 0) d_RD_part_51 (by decide) ?_
            refine xj_callV (pc := 52) d_RD_part_52 ml_RD_53 ok_RW_shortenTo (s_RW_clear (by decide) hM0) rfl rfl (xsh_row (by omega)) rfl rfl (Nat.le_of_ble_eq_true rfl) (by decide) ?_
            rintro rv I1 F1 ⟨rfl, g1⟩
            dsimp only [Option.toList, List.cons_append, List.nil_append]
            refine xj_aload_n (pc := 55) d_RD_part_55 rfl rfl ?_
            refine xj_getR (pc := 56) d_RD_part_56 fl_RD_22 rfl rfl ?_
            refine xj_aload (pc := 59) d_RD_part_59 rfl ?_
            refine xj_iload_n (pc := 61) d_RD_part_61 rfl rfl ?_
            refine xj_iconst (pc := 62) (v := 1) d_RD_part_62 (by decide) ?_
            refine xj_isub (pc := 63) d_RD_part_63 ?_
            refine xj_iload_n (pc := 64) d_RD_part_64 rfl rfl ?_
            refine xj_iconst (pc := 65) (v := 1) d_RD_part_65 (by decide) ?_
            refine xj_isub (pc := 66) d_RD_part_66 ?_
            refine xj_iload_n (pc := 67) d_RD_part_67 rfl rfl ?_
            refine xj_aload (pc := 68) d_RD_part_68 rfl ?_
            refine xj_callV (pc := 70) d_RD_part_70 ml_RD_46 ok_RW_length (s_RW_length (by omega)) rfl rfl (xsh_row (by omega)) rfl rfl (Nat.le_of_ble_eq_true rfl) (by decide) ?_
            rintro rv I1 F1 ⟨rfl, rfl, rfl⟩
            dsimp only [Option.toList, List.cons_append, List.nil_append]
            have eL1 : (I1 k_a).toInt = (sR S a).length := by rw [g1.1 k_a (by omega)]; exact eL
            refine xj_callS (pc := 73) d_RD_part_73 ml_RD_83 ok_RD_behindRun (s_RD_behindRun (by omega) (by omega) (by omega)) rfl rfl rfl (Nat.le_of_ble_eq_true rfl) (by decide) ?_
            rintro rv I2 F2 ⟨v, ev, rfl, rfl, rfl⟩
            dsimp only [Option.toList, List.cons_append, List.nil_append]
            refine xj_callV (pc := 76) d_RD_part_76 ml_RD_72 ok_RW_addRange (s_RW_addRange (by decide) (by omega) (by omega) g1.2.2 (g1.kp (by omega) hLa)) rfl rfl (xsh_row (by omega)) rfl rfl (Nat.le_of_ble_eq_true rfl) (by decide) ?_
            rintro rv I3 F3 ⟨rfl, g3⟩
            rw [List.nil_append] at g3
            replace g3 := g1.tr g3
            dsimp only [Option.toList, List.cons_append, List.nil_append]
            refine xj_aload_n (pc := 79) d_RD_part_79 rfl rfl ?_
            refine xj_getR (pc := 80) d_RD_part_80 fl_RD_22 rfl rfl ?_
            refine xj_iload_n (pc := 83) d_RD_part_83 rfl rfl ?_
            refine xj_aload_n (pc := 84) d_RD_part_84 rfl rfl ?_
            refine xj_getI (pc := 85) d_RD_part_85 fl_RD_42 rfl rfl ?_
            refine xj_callV (pc := 88) d_RD_part_88 ml_RD_76 ok_RW_lengthenTo (s_RW_lengthenTo (by decide) g3.2.2 (by omega)) rfl rfl (xsh_row (by omega)) rfl rfl (Nat.le_of_ble_eq_true rfl) (by decide) ?_
            rintro rv I4 F4 ⟨rfl, g4⟩
            replace g4 := g3.tr g4
            dsimp only [Option.toList, List.cons_append, List.nil_append]
            refine xj_aload_n (pc := 91) d_RD_part_91 rfl rfl ?_
            refine xj_aload (pc := 92) d_RD_part_92 rfl ?_
            refine xj_callV (pc := 94) d_RD_part_94 ml_RD_79 ok_RD_keepMade (s_RD_keepMade hk_to g4.2.2) rfl rfl rfl rfl rfl (Nat.le_of_ble_eq_true rfl) (by decide) ?_
            rintro rv I5 F5 ⟨rfl, g5⟩
            dsimp only [Option.toList, List.cons_append, List.nil_append]
            refine xj_iret (pc := 97) d_RD_part_97 rfl ?_
            refine ck_doneE hC g4 g5 hk_to t_to ?_ (m_part_len hLe (by omega))
            rw [ek, show (k.toInt - 1).toNat = k.toInt.toNat - 1 by omega]
            refine part_eq (hC.pd g3) (by omega) (by omega) hLe ?_
            rw [ev, eL1, ek]
            split <;> omega
          · simp only [n_lt, n_le, c_gt, c_le, c_lt, c_ge, not_lt_i, not_le_i, n_0, n_1, n_2, n_3, n_4, n_m1, n_10, n_200, n_240, n_256] at h41
            refine xj_bipush (pc := 44) (v := -4) d_RD_part_44 (by decide) ?_
            refine xj_iret (pc := 46) d_RD_part_46 rfl ?_
            exact ck_full hC (m_part_full (by omega))
        · simp only [n_lt, n_le, c_gt, c_le, c_lt, c_ge, not_lt_i, not_le_i, n_0, n_1, n_2, n_3, n_4, n_m1, n_10, n_200, n_240, n_256] at h32
          refine xj_iconst (pc := 35) (v := -1) d_RD_part_35 (by decide) ?_
          refine xj_iret (pc := 36) d_RD_part_36 rfl ?_
          exact ck_none hC (if_neg (fun q => by simp only [Bool.and_eq_true, decide_eq_true_eq] at q; first | omega | simp_all))
    · refine xj_callV (pc := 10) d_RD_part_10 ml_RD_56 ok_RD_register (s_RD_register_n i_to) rfl rfl rfl rfl rfl (Nat.le_of_ble_eq_true rfl) (by decide) ?_
      rintro rv I1 F1 ⟨rfl, rfl, rfl⟩
      dsimp only [Option.toList, List.cons_append, List.nil_append]
      refine xj_astoreN (pc := 13) d_RD_part_13 (by decide) rfl ?_
      dsimp only [xset, xset2, xkill]
      refine xj_aload (pc := 15) d_RD_part_15 rfl ?_
      refine xj_ifnull (pc := 17) d_RD_part_17 ?_
      refine xj_aloadN (pc := 20) d_RD_part_20 rfl ?_
      refine xj_ifnullN (pc := 22) (tgt := 35) d_RD_part_22 (by decide) ?_
      refine xj_iconst (pc := 35) (v := -1) d_RD_part_35 (by decide) ?_
      refine xj_iret (pc := 36) d_RD_part_36 rfl ?_
      exact ck_none hC (if_neg (fun q => by simp only [Bool.and_eq_true, decide_eq_true_eq] at q; first | omega | simp_all))
  · refine xj_callV (pc := 2) d_RD_part_2 ml_RD_56 ok_RD_register (s_RD_register_n i_a) rfl rfl rfl rfl rfl (Nat.le_of_ble_eq_true rfl) (by decide) ?_
    rintro rv I1 F1 ⟨rfl, rfl, rfl⟩
    dsimp only [Option.toList, List.cons_append, List.nil_append]
    refine xj_astoreN (pc := 5) d_RD_part_5 (by decide) rfl ?_
    dsimp only [xset, xset2, xkill]
    refine xj_aload_n (pc := 7) d_RD_part_7 rfl rfl ?_
    refine xj_iload (pc := 8) d_RD_part_8 rfl ?_
    rcases regc to with ⟨k_to, hk_to, e_to, i_to, t_to⟩ | i_to
    · refine xj_callV (pc := 10) d_RD_part_10 ml_RD_56 ok_RD_register (s_RD_register_k hk_to e_to) rfl rfl rfl rfl rfl (Nat.le_of_ble_eq_true rfl) (by decide) ?_
      rintro rv I1 F1 ⟨rfl, rfl, rfl⟩
      dsimp only [Option.toList, List.cons_append, List.nil_append]
      refine xj_astore (pc := 13) d_RD_part_13 (by decide) rfl ?_
      dsimp only [xset, xset2, xkill]
      refine xj_aloadN (pc := 15) d_RD_part_15 rfl ?_
      refine xj_ifnullN (pc := 17) (tgt := 35) d_RD_part_17 (by decide) ?_
      refine xj_iconst (pc := 35) (v := -1) d_RD_part_35 (by decide) ?_
      refine xj_iret (pc := 36) d_RD_part_36 rfl ?_
      exact ck_none hC (if_neg (fun q => by simp only [Bool.and_eq_true, decide_eq_true_eq] at q; first | omega | simp_all))
    · refine xj_callV (pc := 10) d_RD_part_10 ml_RD_56 ok_RD_register (s_RD_register_n i_to) rfl rfl rfl rfl rfl (Nat.le_of_ble_eq_true rfl) (by decide) ?_
      rintro rv I1 F1 ⟨rfl, rfl, rfl⟩
      dsimp only [Option.toList, List.cons_append, List.nil_append]
      refine xj_astoreN (pc := 13) d_RD_part_13 (by decide) rfl ?_
      dsimp only [xset, xset2, xkill]
      refine xj_aloadN (pc := 15) d_RD_part_15 rfl ?_
      refine xj_ifnullN (pc := 17) (tgt := 35) d_RD_part_17 (by decide) ?_
      refine xj_iconst (pc := 35) (v := -1) d_RD_part_35 (by decide) ?_
      refine xj_iret (pc := 36) d_RD_part_36 rfl ?_
      exact ck_none hC (if_neg (fun q => by simp only [Bool.and_eq_true, decide_eq_true_eq] at q; first | omega | simp_all))
/-! cut -/
theorem cut_eq {L : List Int32} {k1 : Nat} {n : Int} {v : Int32} (hL : L.length ≤ 200) (hn : -1 ≤ n) (hv : v.toInt = if n = -1 then (L.length : Int) else min (k1 + n) L.length) :
    ((L.take k1).take (xcap 10) ++ L.drop v.toInt.toNat).take (xcap 10) = m_cut L k1 n := by
  rw [xcap10, tk_app, m_cut]
  split
  · rename_i h
    rw [hv, if_pos h, show ((L.length : Int)).toNat = L.length from rfl, List.drop_length, List.append_nil, List.take_of_length_le (by rw [List.length_take]; omega)]
  · rename_i h
    have e : L.drop v.toInt.toNat = L.drop (k1 + n.toNat) := by
      rw [hv, if_neg h]
      rcases Nat.lt_or_ge (k1 + n.toNat) L.length with q | q
      · rw [show (min ((k1 : Int) + n) L.length).toNat = k1 + n.toNat by omega]
      · rw [List.drop_eq_nil_of_le q, List.drop_eq_nil_of_le (by omega)]
    rw [e, List.take_of_length_le]
    rw [List.length_append, List.length_take, List.length_drop]; omega
theorem m_cut_len {L : List Int32} {k1 : Nat} {n : Int} (hL : L.length ≤ 200) : (m_cut L k1 n).length ≤ 200 := by
  rw [m_cut]
  split
  · rw [List.append_nil, List.length_take]; omega
  · rw [List.length_append, List.length_take, List.length_drop]; omega
theorem t_RD_cut {a k n to : Int32} (hS : OKS S) (hC : CI I F S) : XM m_RD_cut [.ref 24, .int a, .int k, .int n, .int to] I F (CQ (sp_cut S a k n to) I F) := by
  refine XM.of (by decide) (Nat.le_of_ble_eq_true rfl) ?_
  dsimp only [xargs]
  obtain ⟨M0, hM0⟩ := hC.2.2.2
  have := n_hi n
  have := n_hi k
  refine xj_aload_n (pc := 0) d_RD_cut_0 rfl rfl ?_
  refine xj_iload_n (pc := 1) d_RD_cut_1 rfl rfl ?_
  rcases regc a with ⟨k_a, hk_a, e_a, i_a, t_a⟩ | i_a
  · refine xj_callV (pc := 2) d_RD_cut_2 ml_RD_56 ok_RD_register (s_RD_register_k hk_a e_a) rfl rfl rfl rfl rfl (Nat.le_of_ble_eq_true rfl) (by decide) ?_
    rintro rv I1 F1 ⟨rfl, rfl, rfl⟩
    dsimp only [Option.toList, List.cons_append, List.nil_append]
    refine xj_astore (pc := 5) d_RD_cut_5 (by decide) rfl ?_
    dsimp only [xset, xset2, xkill]
    refine xj_aload_n (pc := 7) d_RD_cut_7 rfl rfl ?_
    refine xj_iload (pc := 8) d_RD_cut_8 rfl ?_
    rcases regc to with ⟨k_to, hk_to, e_to, i_to, t_to⟩ | i_to
    · refine xj_callV (pc := 10) d_RD_cut_10 ml_RD_56 ok_RD_register (s_RD_register_k hk_to e_to) rfl rfl rfl rfl rfl (Nat.le_of_ble_eq_true rfl) (by decide) ?_
      rintro rv I1 F1 ⟨rfl, rfl, rfl⟩
      dsimp only [Option.toList, List.cons_append, List.nil_append]
      refine xj_astore (pc := 13) d_RD_cut_13 (by decide) rfl ?_
      dsimp only [xset, xset2, xkill]
      refine xj_aload (pc := 15) d_RD_cut_15 rfl ?_
      refine xj_ifnull (pc := 17) d_RD_cut_17 ?_
      refine xj_aload (pc := 20) d_RD_cut_20 rfl ?_
      refine xj_ifnull (pc := 22) d_RD_cut_22 ?_
      refine xj_iload_n (pc := 25) d_RD_cut_25 rfl rfl ?_
      refine xj_iconst (pc := 26) (v := 1) d_RD_cut_26 (by decide) ?_
      refine xj_icmp_lt (pc := 27) (tgt := 35) d_RD_cut_27 (by decide) (fun h27 => ?_) (fun h27 => ?_)
      · simp only [n_lt, n_le, c_gt, c_le, c_lt, c_ge, not_lt_i, not_le_i, n_0, n_1, n_2, n_3, n_4, n_m1, n_10, n_200, n_240, n_256] at h27
        refine xj_iconst (pc := 35) (v := -1) d_RD_cut_35 (by decide) ?_
        refine xj_iret (pc := 36) d_RD_cut_36 rfl ?_
        exact ck_none hC (if_neg (fun q => by simp only [Bool.and_eq_true, decide_eq_true_eq] at q; first | omega | simp_all))
      · simp only [n_lt, n_le, c_gt, c_le, c_lt, c_ge, not_lt_i, not_le_i, n_0, n_1, n_2, n_3, n_4, n_m1, n_10, n_200, n_240, n_256] at h27
        refine xj_iload_n (pc := 30) d_RD_cut_30 rfl rfl ?_
        refine xj_iconst (pc := 31) (v := -1) d_RD_cut_31 (by decide) ?_
        refine xj_icmp_ge (pc := 32) (tgt := 37) d_RD_cut_32 (by decide) (fun h32 => ?_) (fun h32 => ?_)
        · simp only [n_lt, n_le, c_gt, c_le, c_lt, c_ge, not_lt_i, not_le_i, n_0, n_1, n_2, n_3, n_4, n_m1, n_10, n_200, n_240, n_256] at h32
          have hpos : (isR a && isR to && decide (1 ≤ k.toInt ∧ -1 ≤ n.toInt)) = true := by simp only [i_a, i_to, Bool.true_and, decide_eq_true_eq]; omega
          rw [sp_cut, if_pos hpos]
          have hLa := hC.at hk_a t_a
          have hLe := hS.le hk_a t_a
          have eL := hLa.ti
          have ek := n_k1 (k := k) (by omega)
          refine xj_aload_n (pc := 37) d_RD_cut_37 rfl rfl ?_
          refine xj_getR (pc := 38) d_RD_cut_38 fl_RD_22 rfl rfl ?_
          refine xj_iconst (pc := 41) (v := 0) d_RD_cut_41 (by decide) ?_
          refine xj_callV (pc := 42) d_RD_cut_42 ml_RD_53 ok_RW_shortenTo (s_RW_clear (by decide) hM0) rfl rfl (xsh_row (by omega)) rfl rfl (Nat.le_of_ble_eq_true rfl) (by decide) ?_
          rintro rv I1 F1 ⟨rfl, g1⟩
          dsimp only [Option.toList, List.cons_append, List.nil_append]
          refine xj_aload_n (pc := 45) d_RD_cut_45 rfl rfl ?_
          refine xj_getR (pc := 46) d_RD_cut_46 fl_RD_22 rfl rfl ?_
          refine xj_aload (pc := 49) d_RD_cut_49 rfl ?_
          refine xj_iconst (pc := 51) (v := 0) d_RD_cut_51 (by decide) ?_
          refine xj_iload_n (pc := 52) d_RD_cut_52 rfl rfl ?_
          refine xj_iconst (pc := 53) (v := 1) d_RD_cut_53 (by decide) ?_
          refine xj_isub (pc := 54) d_RD_cut_54 ?_
          refine xj_callV (pc := 55) d_RD_cut_55 ml_RD_72 ok_RW_addRange (s_RW_addRange (by decide) (by omega) (by omega) g1.2.2 (g1.kp (by omega) hLa)) rfl rfl (xsh_row (by omega)) rfl rfl (Nat.le_of_ble_eq_true rfl) (by decide) ?_
          rintro rv I2 F2 ⟨rfl, g2⟩
          rw [List.nil_append] at g2
          replace g2 := g1.tr g2
          dsimp only [Option.toList, List.cons_append, List.nil_append]
          refine xj_aload_n (pc := 58) d_RD_cut_58 rfl rfl ?_
          refine xj_getR (pc := 59) d_RD_cut_59 fl_RD_22 rfl rfl ?_
          refine xj_aload (pc := 62) d_RD_cut_62 rfl ?_
          refine xj_iload_n (pc := 64) d_RD_cut_64 rfl rfl ?_
          refine xj_iconst (pc := 65) (v := 1) d_RD_cut_65 (by decide) ?_
          refine xj_isub (pc := 66) d_RD_cut_66 ?_
          refine xj_iload_n (pc := 67) d_RD_cut_67 rfl rfl ?_
          refine xj_aload (pc := 68) d_RD_cut_68 rfl ?_
          refine xj_callV (pc := 70) d_RD_cut_70 ml_RD_46 ok_RW_length (s_RW_length (by omega)) rfl rfl (xsh_row (by omega)) rfl rfl (Nat.le_of_ble_eq_true rfl) (by decide) ?_
          rintro rv I1 F1 ⟨rfl, rfl, rfl⟩
          dsimp only [Option.toList, List.cons_append, List.nil_append]
          have eL1 : (I2 k_a).toInt = (sR S a).length := by rw [g2.1 k_a (by omega)]; exact eL
          refine xj_callS (pc := 73) d_RD_cut_73 ml_RD_83 ok_RD_behindRun (s_RD_behindRun (by omega) (by omega) (by omega)) rfl rfl rfl (Nat.le_of_ble_eq_true rfl) (by decide) ?_
          rintro rv I3 F3 ⟨v, ev, rfl, rfl, rfl⟩
          dsimp only [Option.toList, List.cons_append, List.nil_append]
          refine xj_aload (pc := 76) d_RD_cut_76 rfl ?_
          refine xj_callV (pc := 78) d_RD_cut_78 ml_RD_46 ok_RW_length (s_RW_length (by omega)) rfl rfl (xsh_row (by omega)) rfl rfl (Nat.le_of_ble_eq_true rfl) (by decide) ?_
          rintro rv I1 F1 ⟨rfl, rfl, rfl⟩
          dsimp only [Option.toList, List.cons_append, List.nil_append]
          refine xj_callV (pc := 81) d_RD_cut_81 ml_RD_72 ok_RW_addRange (s_RW_addRange (by decide) (by omega) (by omega) g2.2.2 (g2.kp (by omega) hLa)) rfl rfl (xsh_row (by omega)) rfl rfl (Nat.le_of_ble_eq_true rfl) (by decide) ?_
          rintro rv I4 F4 ⟨rfl, g4⟩
          replace g4 := g2.tr g4
          dsimp only [Option.toList, List.cons_append, List.nil_append]
          refine xj_aload_n (pc := 84) d_RD_cut_84 rfl rfl ?_
          refine xj_aload (pc := 85) d_RD_cut_85 rfl ?_
          refine xj_callV (pc := 87) d_RD_cut_87 ml_RD_79 ok_RD_keepMade (s_RD_keepMade hk_to g4.2.2) rfl rfl rfl rfl rfl (Nat.le_of_ble_eq_true rfl) (by decide) ?_
          rintro rv I5 F5 ⟨rfl, g5⟩
          dsimp only [Option.toList, List.cons_append, List.nil_append]
          refine xj_iret (pc := 90) d_RD_cut_90 rfl ?_
          refine ck_doneE hC g4 g5 hk_to t_to ?_ (m_cut_len hLe)
          rw [ek, show (k.toInt - 1).toNat = k.toInt.toNat - 1 by omega, eL1, show (((sR S a).length : Int)).toNat = (sR S a).length from rfl, List.take_length, n_0, show (0 : Int).toNat = 0 from rfl, List.drop_zero]
          refine cut_eq hLe (by omega) ?_
          rw [ev, eL1, ek]
          split <;> omega
        · simp only [n_lt, n_le, c_gt, c_le, c_lt, c_ge, not_lt_i, not_le_i, n_0, n_1, n_2, n_3, n_4, n_m1, n_10, n_200, n_240, n_256] at h32
          refine xj_iconst (pc := 35) (v := -1) d_RD_cut_35 (by decide) ?_
          refine xj_iret (pc := 36) d_RD_cut_36 rfl ?_
          exact ck_none hC (if_neg (fun q => by simp only [Bool.and_eq_true, decide_eq_true_eq] at q; first | omega | simp_all))
    · refine xj_callV (pc := 10) d_RD_cut_10 ml_RD_56 ok_RD_register (s_RD_register_n i_to) rfl rfl rfl rfl rfl (Nat.le_of_ble_eq_true rfl) (by decide) ?_
      rintro rv I1 F1 ⟨rfl, rfl, rfl⟩
      dsimp only [Option.toList, List.cons_append, List.nil_append]
      refine xj_astoreN (pc := 13) d_RD_cut_13 (by decide) rfl ?_
      dsimp only [xset, xset2, xkill]
      refine xj_aload (pc := 15) d_RD_cut_15 rfl ?_
      refine xj_ifnull (pc := 17) d_RD_cut_17 ?_
      refine xj_aloadN (pc := 20) d_RD_cut_20 rfl ?_
      refine xj_ifnullN (pc := 22) (tgt := 35) d_RD_cut_22 (by decide) ?_
      refine xj_iconst (pc := 35) (v := -1) d_RD_cut_35 (by decide) ?_
      refine xj_iret (pc := 36) d_RD_cut_36 rfl ?_
      exact ck_none hC (if_neg (fun q => by simp only [Bool.and_eq_true, decide_eq_true_eq] at q; first | omega | simp_all))
  · refine xj_callV (pc := 2) d_RD_cut_2 ml_RD_56 ok_RD_register (s_RD_register_n i_a) rfl rfl rfl rfl rfl (Nat.le_of_ble_eq_true rfl) (by decide) ?_
    rintro rv I1 F1 ⟨rfl, rfl, rfl⟩
    dsimp only [Option.toList, List.cons_append, List.nil_append]
    refine xj_astoreN (pc := 5) d_RD_cut_5 (by decide) rfl ?_
    dsimp only [xset, xset2, xkill]
    refine xj_aload_n (pc := 7) d_RD_cut_7 rfl rfl ?_
    refine xj_iload (pc := 8) d_RD_cut_8 rfl ?_
    rcases regc to with ⟨k_to, hk_to, e_to, i_to, t_to⟩ | i_to
    · refine xj_callV (pc := 10) d_RD_cut_10 ml_RD_56 ok_RD_register (s_RD_register_k hk_to e_to) rfl rfl rfl rfl rfl (Nat.le_of_ble_eq_true rfl) (by decide) ?_
      rintro rv I1 F1 ⟨rfl, rfl, rfl⟩
      dsimp only [Option.toList, List.cons_append, List.nil_append]
      refine xj_astore (pc := 13) d_RD_cut_13 (by decide) rfl ?_
      dsimp only [xset, xset2, xkill]
      refine xj_aloadN (pc := 15) d_RD_cut_15 rfl ?_
      refine xj_ifnullN (pc := 17) (tgt := 35) d_RD_cut_17 (by decide) ?_
      refine xj_iconst (pc := 35) (v := -1) d_RD_cut_35 (by decide) ?_
      refine xj_iret (pc := 36) d_RD_cut_36 rfl ?_
      exact ck_none hC (if_neg (fun q => by simp only [Bool.and_eq_true, decide_eq_true_eq] at q; first | omega | simp_all))
    · refine xj_callV (pc := 10) d_RD_cut_10 ml_RD_56 ok_RD_register (s_RD_register_n i_to) rfl rfl rfl rfl rfl (Nat.le_of_ble_eq_true rfl) (by decide) ?_
      rintro rv I1 F1 ⟨rfl, rfl, rfl⟩
      dsimp only [Option.toList, List.cons_append, List.nil_append]
      refine xj_astoreN (pc := 13) d_RD_cut_13 (by decide) rfl ?_
      dsimp only [xset, xset2, xkill]
      refine xj_aloadN (pc := 15) d_RD_cut_15 rfl ?_
      refine xj_ifnullN (pc := 17) (tgt := 35) d_RD_cut_17 (by decide) ?_
      refine xj_iconst (pc := 35) (v := -1) d_RD_cut_35 (by decide) ?_
      refine xj_iret (pc := 36) d_RD_cut_36 rfl ?_
      exact ck_none hC (if_neg (fun q => by simp only [Bool.and_eq_true, decide_eq_true_eq] at q; first | omega | simp_all))
/-! join -/
theorem t_RD_join {a b w to : Int32} (hS : OKS S) (hC : CI I F S) : XM m_RD_join [.ref 24, .int a, .int b, .int w, .int to] I F (CQ (sp_join S a b w to) I F) := by
  refine XM.of (by decide) (Nat.le_of_ble_eq_true rfl) ?_
  dsimp only [xargs]
  obtain ⟨M0, hM0⟩ := hC.2.2.2
  have := n_hi w
  refine xj_aload_n (pc := 0) d_RD_join_0 rfl rfl ?_
  refine xj_iload_n (pc := 1) d_RD_join_1 rfl rfl ?_
  rcases regc a with ⟨k_a, hk_a, e_a, i_a, t_a⟩ | i_a
  · refine xj_callV (pc := 2) d_RD_join_2 ml_RD_56 ok_RD_register (s_RD_register_k hk_a e_a) rfl rfl rfl rfl rfl (Nat.le_of_ble_eq_true rfl) (by decide) ?_
    rintro rv I1 F1 ⟨rfl, rfl, rfl⟩
    dsimp only [Option.toList, List.cons_append, List.nil_append]
    refine xj_astore (pc := 5) d_RD_join_5 (by decide) rfl ?_
    dsimp only [xset, xset2, xkill]
    refine xj_aload_n (pc := 7) d_RD_join_7 rfl rfl ?_
    refine xj_iload_n (pc := 8) d_RD_join_8 rfl rfl ?_
    rcases regc b with ⟨k_b, hk_b, e_b, i_b, t_b⟩ | i_b
    · refine xj_callV (pc := 9) d_RD_join_9 ml_RD_56 ok_RD_register (s_RD_register_k hk_b e_b) rfl rfl rfl rfl rfl (Nat.le_of_ble_eq_true rfl) (by decide) ?_
      rintro rv I1 F1 ⟨rfl, rfl, rfl⟩
      dsimp only [Option.toList, List.cons_append, List.nil_append]
      refine xj_astore (pc := 12) d_RD_join_12 (by decide) rfl ?_
      dsimp only [xset, xset2, xkill]
      refine xj_aload_n (pc := 14) d_RD_join_14 rfl rfl ?_
      refine xj_iload (pc := 15) d_RD_join_15 rfl ?_
      rcases regc to with ⟨k_to, hk_to, e_to, i_to, t_to⟩ | i_to
      · refine xj_callV (pc := 17) d_RD_join_17 ml_RD_56 ok_RD_register (s_RD_register_k hk_to e_to) rfl rfl rfl rfl rfl (Nat.le_of_ble_eq_true rfl) (by decide) ?_
        rintro rv I1 F1 ⟨rfl, rfl, rfl⟩
        dsimp only [Option.toList, List.cons_append, List.nil_append]
        refine xj_astore (pc := 20) d_RD_join_20 (by decide) rfl ?_
        dsimp only [xset, xset2, xkill]
        refine xj_aload (pc := 22) d_RD_join_22 rfl ?_
        refine xj_ifnull (pc := 24) d_RD_join_24 ?_
        refine xj_aload (pc := 27) d_RD_join_27 rfl ?_
        refine xj_ifnull (pc := 29) d_RD_join_29 ?_
        refine xj_aload (pc := 32) d_RD_join_32 rfl ?_
        refine xj_ifnull (pc := 34) d_RD_join_34 ?_
        refine xj_iload_n (pc := 37) d_RD_join_37 rfl rfl ?_
        refine xj_if_ge (pc := 38) (tgt := 43) d_RD_join_38 (by decide) (fun h38 => ?_) (fun h38 => ?_)
        · rw [n_le, n_0] at h38
          have hpos : (isR a && isR b && isR to && decide (0 ≤ w.toInt)) = true := by simp only [i_a, i_b, i_to, Bool.true_and, decide_eq_true_eq]; omega
          rw [sp_join, if_pos hpos]
          have hLa := hC.at hk_a t_a
          have hLe := hS.le hk_a t_a
          have hLb := hC.at hk_b t_b
          have hLf := hS.le hk_b t_b
          have eL := hLa.ti
          have eLb := hLb.ti
          refine xj_aload (pc := 43) d_RD_join_43 rfl ?_
          refine xj_callV (pc := 45) d_RD_join_45 ml_RD_46 ok_RW_length (s_RW_length (by omega)) rfl rfl (xsh_row (by omega)) rfl rfl (Nat.le_of_ble_eq_true rfl) (by decide) ?_
          rintro rv I1 F1 ⟨rfl, rfl, rfl⟩
          dsimp only [Option.toList, List.cons_append, List.nil_append]
          refine xj_i2l (pc := 48) d_RD_join_48 ?_
          refine xj_iload_n (pc := 49) d_RD_join_49 rfl rfl ?_
          refine xj_i2l (pc := 50) d_RD_join_50 ?_
          refine xj_ladd (pc := 51) d_RD_join_51 ?_
          refine xj_aload (pc := 52) d_RD_join_52 rfl ?_
          refine xj_callV (pc := 54) d_RD_join_54 ml_RD_46 ok_RW_length (s_RW_length (by omega)) rfl rfl (xsh_row (by omega)) rfl rfl (Nat.le_of_ble_eq_true rfl) (by decide) ?_
          rintro rv I1 F1 ⟨rfl, rfl, rfl⟩
          dsimp only [Option.toList, List.cons_append, List.nil_append]
          refine xj_i2l (pc := 57) d_RD_join_57 ?_
          refine xj_ladd (pc := 58) d_RD_join_58 ?_
          refine xj_ldc2 (pc := 59) (v := 200) d_RD_join_59 kc_RD_87 ?_
          refine xj_lcmp (pc := 62) d_RD_join_62 ?_
          have e1 : ((I k_a).toInt64 + w.toInt64 + (I k_b).toInt64).toInt = (sR S a).length + w.toInt + (sR S b).length := by rw [l_add (by rw [l_add (by rw [l_of, l_of]; omega) (by rw [l_of, l_of]; omega), l_of, l_of, l_of]; omega) (by rw [l_add (by rw [l_of, l_of]; omega) (by rw [l_of, l_of]; omega), l_of, l_of, l_of]; omega), l_add (by rw [l_of, l_of]; omega) (by rw [l_of, l_of]; omega), l_of, l_of, l_of]; omega
          refine xj_if_le (pc := 63) (tgt := 69) d_RD_join_63 (by decide) (fun h63 => ?_) (fun h63 => ?_)
          · rw [c_le, e1, l_200] at h63
            refine xj_aload_n (pc := 69) d_RD_join_69 rfl rfl ?_
            refine xj_getR (pc := 70) d_RD_join_70 fl_RD_22 rfl rfl ?_
            refine xj_iconst (pc := 73) (v := 0) d_RD_join_73 (by decide) ?_
            refine xj_callV (pc := 74) d_RD_join_74 ml_RD_53 ok_RW_shortenTo (s_RW_clear (by decide) hM0) rfl rfl (xsh_row (by omega)) rfl rfl (Nat.le_of_ble_eq_true rfl) (by decide) ?_
            rintro rv I1 F1 ⟨rfl, g1⟩
            dsimp only [Option.toList, List.cons_append, List.nil_append]
            refine xj_aload_n (pc := 77) d_RD_join_77 rfl rfl ?_
            refine xj_getR (pc := 78) d_RD_join_78 fl_RD_22 rfl rfl ?_
            refine xj_aload (pc := 81) d_RD_join_81 rfl ?_
            refine xj_callV (pc := 83) d_RD_join_83 ml_RD_89 ok_RW_addRow (s_RW_addRow (by decide) (by omega) (by omega) g1.2.2 (g1.kp (by omega) hLa)) rfl rfl (xsh_row (by omega)) rfl rfl (Nat.le_of_ble_eq_true rfl) (by decide) ?_
            rintro rv I2 F2 ⟨rfl, g2⟩
            rw [List.nil_append] at g2
            replace g2 := g1.tr g2
            dsimp only [Option.toList, List.cons_append, List.nil_append]
            refine xj_aload_n (pc := 86) d_RD_join_86 rfl rfl ?_
            refine xj_getR (pc := 87) d_RD_join_87 fl_RD_22 rfl rfl ?_
            refine xj_aload_n (pc := 90) d_RD_join_90 rfl rfl ?_
            refine xj_getI (pc := 91) d_RD_join_91 fl_RD_42 rfl rfl ?_
            refine xj_iload_n (pc := 94) d_RD_join_94 rfl rfl ?_
            refine xj_callV (pc := 95) d_RD_join_95 ml_RD_68 ok_RW_addTimes (s_RW_addTimes (by decide) g2.2.2) rfl rfl (xsh_row (by omega)) rfl rfl (Nat.le_of_ble_eq_true rfl) (by decide) ?_
            rintro rv I3 F3 ⟨rfl, g3⟩
            replace g3 := g2.tr g3
            dsimp only [Option.toList, List.cons_append, List.nil_append]
            refine xj_aload_n (pc := 98) d_RD_join_98 rfl rfl ?_
            refine xj_getR (pc := 99) d_RD_join_99 fl_RD_22 rfl rfl ?_
            refine xj_aload (pc := 102) d_RD_join_102 rfl ?_
            refine xj_callV (pc := 104) d_RD_join_104 ml_RD_89 ok_RW_addRow (s_RW_addRow (by decide) (by omega) (by omega) g3.2.2 (g3.kp (by omega) hLb)) rfl rfl (xsh_row (by omega)) rfl rfl (Nat.le_of_ble_eq_true rfl) (by decide) ?_
            rintro rv I4 F4 ⟨rfl, g4⟩
            replace g4 := g3.tr g4
            dsimp only [Option.toList, List.cons_append, List.nil_append]
            refine xj_aload_n (pc := 107) d_RD_join_107 rfl rfl ?_
            refine xj_aload (pc := 108) d_RD_join_108 rfl ?_
            refine xj_callV (pc := 110) d_RD_join_110 ml_RD_79 ok_RD_keepMade (s_RD_keepMade hk_to g4.2.2) rfl rfl rfl rfl rfl (Nat.le_of_ble_eq_true rfl) (by decide) ?_
            rintro rv I5 F5 ⟨rfl, g5⟩
            dsimp only [Option.toList, List.cons_append, List.nil_append]
            refine xj_iret (pc := 113) d_RD_join_113 rfl ?_
            refine ck_doneE hC g4 g5 hk_to t_to ?_ (by simp only [List.length_append, List.length_replicate]; omega)
            rw [hC.pd g2, tk_app, List.append_assoc, tk_app, ← List.append_assoc, n_cl, xcap10, List.take_of_length_le]
            simp only [List.length_append, List.length_replicate]; omega
          · refine xj_bipush (pc := 66) (v := -4) d_RD_join_66 (by decide) ?_
            refine xj_iret (pc := 68) d_RD_join_68 rfl ?_
            rw [c_le, e1, l_200] at h63
            exact ck_full hC (by simp only [List.length_append, List.length_replicate]; omega)
        · refine xj_iconst (pc := 41) (v := -1) d_RD_join_41 (by decide) ?_
          refine xj_iret (pc := 42) d_RD_join_42 rfl ?_
          exact ck_none hC (if_neg (fun q => by simp only [Bool.and_eq_true, decide_eq_true_eq] at q; first | (rw [n_le, n_0] at h38; omega) | simp_all))
      · refine xj_callV (pc := 17) d_RD_join_17 ml_RD_56 ok_RD_register (s_RD_register_n i_to) rfl rfl rfl rfl rfl (Nat.le_of_ble_eq_true rfl) (by decide) ?_
        rintro rv I1 F1 ⟨rfl, rfl, rfl⟩
        dsimp only [Option.toList, List.cons_append, List.nil_append]
        refine xj_astoreN (pc := 20) d_RD_join_20 (by decide) rfl ?_
        dsimp only [xset, xset2, xkill]
        refine xj_aload (pc := 22) d_RD_join_22 rfl ?_
        refine xj_ifnull (pc := 24) d_RD_join_24 ?_
        refine xj_aload (pc := 27) d_RD_join_27 rfl ?_
        refine xj_ifnull (pc := 29) d_RD_join_29 ?_
        refine xj_aloadN (pc := 32) d_RD_join_32 rfl ?_
        refine xj_ifnullN (pc := 34) (tgt := 41) d_RD_join_34 (by decide) ?_
        refine xj_iconst (pc := 41) (v := -1) d_RD_join_41 (by decide) ?_
        refine xj_iret (pc := 42) d_RD_join_42 rfl ?_
        exact ck_none hC (if_neg (fun q => by simp only [Bool.and_eq_true, decide_eq_true_eq] at q; first | (rw [n_le, n_0] at h38; omega) | simp_all))
    · refine xj_callV (pc := 9) d_RD_join_9 ml_RD_56 ok_RD_register (s_RD_register_n i_b) rfl rfl rfl rfl rfl (Nat.le_of_ble_eq_true rfl) (by decide) ?_
      rintro rv I1 F1 ⟨rfl, rfl, rfl⟩
      dsimp only [Option.toList, List.cons_append, List.nil_append]
      refine xj_astoreN (pc := 12) d_RD_join_12 (by decide) rfl ?_
      dsimp only [xset, xset2, xkill]
      refine xj_aload_n (pc := 14) d_RD_join_14 rfl rfl ?_
      refine xj_iload (pc := 15) d_RD_join_15 rfl ?_
      rcases regc to with ⟨k_to, hk_to, e_to, i_to, t_to⟩ | i_to
      · refine xj_callV (pc := 17) d_RD_join_17 ml_RD_56 ok_RD_register (s_RD_register_k hk_to e_to) rfl rfl rfl rfl rfl (Nat.le_of_ble_eq_true rfl) (by decide) ?_
        rintro rv I1 F1 ⟨rfl, rfl, rfl⟩
        dsimp only [Option.toList, List.cons_append, List.nil_append]
        refine xj_astore (pc := 20) d_RD_join_20 (by decide) rfl ?_
        dsimp only [xset, xset2, xkill]
        refine xj_aload (pc := 22) d_RD_join_22 rfl ?_
        refine xj_ifnull (pc := 24) d_RD_join_24 ?_
        refine xj_aloadN (pc := 27) d_RD_join_27 rfl ?_
        refine xj_ifnullN (pc := 29) (tgt := 41) d_RD_join_29 (by decide) ?_
        refine xj_iconst (pc := 41) (v := -1) d_RD_join_41 (by decide) ?_
        refine xj_iret (pc := 42) d_RD_join_42 rfl ?_
        exact ck_none hC (if_neg (fun q => by simp only [Bool.and_eq_true, decide_eq_true_eq] at q; first | (rw [n_le, n_0] at h38; omega) | simp_all))
      · refine xj_callV (pc := 17) d_RD_join_17 ml_RD_56 ok_RD_register (s_RD_register_n i_to) rfl rfl rfl rfl rfl (Nat.le_of_ble_eq_true rfl) (by decide) ?_
        rintro rv I1 F1 ⟨rfl, rfl, rfl⟩
        dsimp only [Option.toList, List.cons_append, List.nil_append]
        refine xj_astoreN (pc := 20) d_RD_join_20 (by decide) rfl ?_
        dsimp only [xset, xset2, xkill]
        refine xj_aload (pc := 22) d_RD_join_22 rfl ?_
        refine xj_ifnull (pc := 24) d_RD_join_24 ?_
        refine xj_aloadN (pc := 27) d_RD_join_27 rfl ?_
        refine xj_ifnullN (pc := 29) (tgt := 41) d_RD_join_29 (by decide) ?_
        refine xj_iconst (pc := 41) (v := -1) d_RD_join_41 (by decide) ?_
        refine xj_iret (pc := 42) d_RD_join_42 rfl ?_
        exact ck_none hC (if_neg (fun q => by simp only [Bool.and_eq_true, decide_eq_true_eq] at q; first | (rw [n_le, n_0] at h38; omega) | simp_all))
  · refine xj_callV (pc := 2) d_RD_join_2 ml_RD_56 ok_RD_register (s_RD_register_n i_a) rfl rfl rfl rfl rfl (Nat.le_of_ble_eq_true rfl) (by decide) ?_
    rintro rv I1 F1 ⟨rfl, rfl, rfl⟩
    dsimp only [Option.toList, List.cons_append, List.nil_append]
    refine xj_astoreN (pc := 5) d_RD_join_5 (by decide) rfl ?_
    dsimp only [xset, xset2, xkill]
    refine xj_aload_n (pc := 7) d_RD_join_7 rfl rfl ?_
    refine xj_iload_n (pc := 8) d_RD_join_8 rfl rfl ?_
    rcases regc b with ⟨k_b, hk_b, e_b, i_b, t_b⟩ | i_b
    · refine xj_callV (pc := 9) d_RD_join_9 ml_RD_56 ok_RD_register (s_RD_register_k hk_b e_b) rfl rfl rfl rfl rfl (Nat.le_of_ble_eq_true rfl) (by decide) ?_
      rintro rv I1 F1 ⟨rfl, rfl, rfl⟩
      dsimp only [Option.toList, List.cons_append, List.nil_append]
      refine xj_astore (pc := 12) d_RD_join_12 (by decide) rfl ?_
      dsimp only [xset, xset2, xkill]
      refine xj_aload_n (pc := 14) d_RD_join_14 rfl rfl ?_
      refine xj_iload (pc := 15) d_RD_join_15 rfl ?_
      rcases regc to with ⟨k_to, hk_to, e_to, i_to, t_to⟩ | i_to
      · refine xj_callV (pc := 17) d_RD_join_17 ml_RD_56 ok_RD_register (s_RD_register_k hk_to e_to) rfl rfl rfl rfl rfl (Nat.le_of_ble_eq_true rfl) (by decide) ?_
        rintro rv I1 F1 ⟨rfl, rfl, rfl⟩
        dsimp only [Option.toList, List.cons_append, List.nil_append]
        refine xj_astore (pc := 20) d_RD_join_20 (by decide) rfl ?_
        dsimp only [xset, xset2, xkill]
        refine xj_aloadN (pc := 22) d_RD_join_22 rfl ?_
        refine xj_ifnullN (pc := 24) (tgt := 41) d_RD_join_24 (by decide) ?_
        refine xj_iconst (pc := 41) (v := -1) d_RD_join_41 (by decide) ?_
        refine xj_iret (pc := 42) d_RD_join_42 rfl ?_
        exact ck_none hC (if_neg (fun q => by simp only [Bool.and_eq_true, decide_eq_true_eq] at q; first | (rw [n_le, n_0] at h38; omega) | simp_all))
      · refine xj_callV (pc := 17) d_RD_join_17 ml_RD_56 ok_RD_register (s_RD_register_n i_to) rfl rfl rfl rfl rfl (Nat.le_of_ble_eq_true rfl) (by decide) ?_
        rintro rv I1 F1 ⟨rfl, rfl, rfl⟩
        dsimp only [Option.toList, List.cons_append, List.nil_append]
        refine xj_astoreN (pc := 20) d_RD_join_20 (by decide) rfl ?_
        dsimp only [xset, xset2, xkill]
        refine xj_aloadN (pc := 22) d_RD_join_22 rfl ?_
        refine xj_ifnullN (pc := 24) (tgt := 41) d_RD_join_24 (by decide) ?_
        refine xj_iconst (pc := 41) (v := -1) d_RD_join_41 (by decide) ?_
        refine xj_iret (pc := 42) d_RD_join_42 rfl ?_
        exact ck_none hC (if_neg (fun q => by simp only [Bool.and_eq_true, decide_eq_true_eq] at q; first | (rw [n_le, n_0] at h38; omega) | simp_all))
    · refine xj_callV (pc := 9) d_RD_join_9 ml_RD_56 ok_RD_register (s_RD_register_n i_b) rfl rfl rfl rfl rfl (Nat.le_of_ble_eq_true rfl) (by decide) ?_
      rintro rv I1 F1 ⟨rfl, rfl, rfl⟩
      dsimp only [Option.toList, List.cons_append, List.nil_append]
      refine xj_astoreN (pc := 12) d_RD_join_12 (by decide) rfl ?_
      dsimp only [xset, xset2, xkill]
      refine xj_aload_n (pc := 14) d_RD_join_14 rfl rfl ?_
      refine xj_iload (pc := 15) d_RD_join_15 rfl ?_
      rcases regc to with ⟨k_to, hk_to, e_to, i_to, t_to⟩ | i_to
      · refine xj_callV (pc := 17) d_RD_join_17 ml_RD_56 ok_RD_register (s_RD_register_k hk_to e_to) rfl rfl rfl rfl rfl (Nat.le_of_ble_eq_true rfl) (by decide) ?_
        rintro rv I1 F1 ⟨rfl, rfl, rfl⟩
        dsimp only [Option.toList, List.cons_append, List.nil_append]
        refine xj_astore (pc := 20) d_RD_join_20 (by decide) rfl ?_
        dsimp only [xset, xset2, xkill]
        refine xj_aloadN (pc := 22) d_RD_join_22 rfl ?_
        refine xj_ifnullN (pc := 24) (tgt := 41) d_RD_join_24 (by decide) ?_
        refine xj_iconst (pc := 41) (v := -1) d_RD_join_41 (by decide) ?_
        refine xj_iret (pc := 42) d_RD_join_42 rfl ?_
        exact ck_none hC (if_neg (fun q => by simp only [Bool.and_eq_true, decide_eq_true_eq] at q; first | (rw [n_le, n_0] at h38; omega) | simp_all))
      · refine xj_callV (pc := 17) d_RD_join_17 ml_RD_56 ok_RD_register (s_RD_register_n i_to) rfl rfl rfl rfl rfl (Nat.le_of_ble_eq_true rfl) (by decide) ?_
        rintro rv I1 F1 ⟨rfl, rfl, rfl⟩
        dsimp only [Option.toList, List.cons_append, List.nil_append]
        refine xj_astoreN (pc := 20) d_RD_join_20 (by decide) rfl ?_
        dsimp only [xset, xset2, xkill]
        refine xj_aloadN (pc := 22) d_RD_join_22 rfl ?_
        refine xj_ifnullN (pc := 24) (tgt := 41) d_RD_join_24 (by decide) ?_
        refine xj_iconst (pc := 41) (v := -1) d_RD_join_41 (by decide) ?_
        refine xj_iret (pc := 42) d_RD_join_42 rfl ?_
        exact ck_none hC (if_neg (fun q => by simp only [Bool.and_eq_true, decide_eq_true_eq] at q; first | (rw [n_le, n_0] at h38; omega) | simp_all))
end RDB
