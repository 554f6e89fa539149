section MOD
variable {I I1 I2 : XI} {F F1 F2 : XF} {S : XSt} {r k : Nat} {M X L T : List Int32}
theorem l_k1 {k : Int32} : (k.toInt64 - 1).toInt = k.toInt - 1 := by
  have := n_hi k
  have := n_lo k
  rw [l_sub (by rw [l_of, l_1]; omega) (by rw [l_of, l_1]; omega), l_of, l_1]
theorem l_k1n {k n : Int32} : (k.toInt64 - 1 + n.toInt64).toInt = k.toInt - 1 + n.toInt := by
  have := n_hi k
  have := n_lo k
  have := n_hi n
  have := n_lo n
  rw [l_add (by rw [l_k1, l_of]; omega) (by rw [l_k1, l_of]; omega), l_k1, l_of]
theorem t_MO_part {a k n to : Int32} (hI : MI I F S) : XM m_MO_part [.ref 36, .int a, .int k, .int n, .int to] I F (NQ (sp_part S a k n to) I F) := by
  refine XM.of (by decide) (Nat.le_of_ble_eq_true rfl) ?_
  dsimp only [xargs]
  have := n_hi n
  have := n_hi k
  have g0 : Ms [] I F (upd I 18 0) F := Ms.zero
  by_cases hn1 : n = -1
  · have hn2 : n.toInt = -1 := by rw [hn1, n_m1]
    refine xj_iload_n (pc := 0) d_MO_part_0 rfl rfl ?_
    refine xj_callS (pc := 1) d_MO_part_1 ml_MO_42 ok_MO_is (s_MO_is) rfl rfl rfl (Nat.le_of_ble_eq_true rfl) (by decide) ?_
    rintro rv I1 F1 ⟨rfl, rfl, rfl⟩
    dsimp only [Option.toList, List.cons_append, List.nil_append]
    refine xj_if_eq (pc := 4) (tgt := 25) d_MO_part_4 (by decide) (fun h4 => ?_) (fun h4 => ?_)
    · refine xj_iconst (pc := 25) (v := -1) d_MO_part_25 (by decide) ?_
      refine xj_iret (pc := 26) d_MO_part_26 rfl ?_
      exact nk_none hI (if_neg (fun q => by simp only [Bool.and_eq_true, decide_eq_true_eq] at q; first | (rw [n_lt, n_1] at h17; omega) | (rw [b01_eq h12] at q; simp at q; done) | (rw [b01_eq h4] at q; simp at q; done)))
    · refine xj_iload (pc := 7) d_MO_part_7 rfl ?_
      refine xj_callS (pc := 9) d_MO_part_9 ml_MO_42 ok_MO_is (s_MO_is) rfl rfl rfl (Nat.le_of_ble_eq_true rfl) (by decide) ?_
      rintro rv I1 F1 ⟨rfl, rfl, rfl⟩
      dsimp only [Option.toList, List.cons_append, List.nil_append]
      refine xj_if_eq (pc := 12) (tgt := 25) d_MO_part_12 (by decide) (fun h12 => ?_) (fun h12 => ?_)
      · refine xj_iconst (pc := 25) (v := -1) d_MO_part_25 (by decide) ?_
        refine xj_iret (pc := 26) d_MO_part_26 rfl ?_
        exact nk_none hI (if_neg (fun q => by simp only [Bool.and_eq_true, decide_eq_true_eq] at q; first | (rw [n_lt, n_1] at h17; omega) | (rw [b01_eq h12] at q; simp at q; done) | (rw [b01_eq h4] at q; simp at q; done)))
      · refine xj_iload_n (pc := 15) d_MO_part_15 rfl rfl ?_
        refine xj_iconst (pc := 16) (v := 1) d_MO_part_16 (by decide) ?_
        refine xj_icmp_lt (pc := 17) (tgt := 25) d_MO_part_17 (by decide) (fun h17 => ?_) (fun h17 => ?_)
        · refine xj_iconst (pc := 25) (v := -1) d_MO_part_25 (by decide) ?_
          refine xj_iret (pc := 26) d_MO_part_26 rfl ?_
          exact nk_none hI (if_neg (fun q => by simp only [Bool.and_eq_true, decide_eq_true_eq] at q; first | (rw [n_lt, n_1] at h17; omega) | (rw [b01_eq h12] at q; simp at q; done) | (rw [b01_eq h4] at q; simp at q; done)))
        · refine xj_iload_n (pc := 20) d_MO_part_20 rfl rfl ?_
          refine xj_iconst (pc := 21) (v := -1) d_MO_part_21 (by decide) ?_
          refine xj_icmp_ge (pc := 22) (tgt := 27) d_MO_part_22 (by decide) (fun h22 => ?_) (fun h22 => absurd (by rw [n_le, n_m1]; omega) h22)
          have ha := b01_ne h4
          have hto := b01_ne h12
          rw [n_lt, n_1] at h17
          rw [sp_part, if_pos (by simp only [ha, hto, Bool.true_and, decide_eq_true_eq]; omega)]
          obtain ⟨ka, hka, rfl, ta⟩ := isR_k ha
          obtain ⟨kt, hkt, rfl, tt⟩ := isR_k hto
          have hL := hI.at hka ta
          have h200 := hL.2.1
          refine xj_aload_n (pc := 27) d_MO_part_27 rfl rfl ?_
          refine xj_iconst (pc := 28) (v := 0) d_MO_part_28 (by decide) ?_
          refine xj_putI (pc := 29) d_MO_part_29 fl_MO_50 fp_MO_many rfl rfl ?_
          refine xj_iload_n (pc := 32) d_MO_part_32 rfl rfl ?_
          refine xj_iconst (pc := 33) (v := -1) d_MO_part_33 (by decide) ?_
          refine xj_icmp_ne (pc := 34) (tgt := 43) d_MO_part_34 (by decide) (fun h34 => absurd (hn1) h34) (fun h34 => ?_)
          refine xj_ldc2 (pc := 37) (v := 200) d_MO_part_37 kc_MO_68 ?_
          refine xj_goto (pc := 40) (tgt := 50) d_MO_part_40 (by decide) ?_
          refine xj_lstore (pc := 50) d_MO_part_50 (by decide) rfl ?_
          dsimp only [xset, xset2, xkill]
          refine xj_aload_n (pc := 52) d_MO_part_52 rfl rfl ?_
          refine xj_iload_n (pc := 53) d_MO_part_53 rfl rfl ?_
          refine xj_iload_n (pc := 54) d_MO_part_54 rfl rfl ?_
          refine xj_i2l (pc := 55) d_MO_part_55 ?_
          refine xj_lconst (pc := 56) (v := 1) d_MO_part_56 (by decide) ?_
          refine xj_lsub (pc := 57) d_MO_part_57 ?_
          refine xj_lload (pc := 58) d_MO_part_58 rfl ?_
          refine xj_callV (pc := 60) d_MO_part_60 ml_MO_60 ok_MO_lay (s_MO_lay hka (g0.nx.mr hL) g0.2.2 (by rw [l_k1]; omega)) rfl rfl rfl rfl rfl (Nat.le_of_ble_eq_true rfl) (by decide) ?_
          rintro rv I2 F2 ⟨rfl, g2⟩
          replace g2 := g0.tr g2
          dsimp only [Option.toList, List.cons_append, List.nil_append]
          refine xj_iload_n (pc := 63) d_MO_part_63 rfl rfl ?_
          refine xj_iconst (pc := 64) (v := -1) d_MO_part_64 (by decide) ?_
          refine xj_icmp_eq (pc := 65) (tgt := 80) d_MO_part_65 (by decide) (fun h65 => ?_) (fun h65 => absurd (hn1) h65)
          refine xj_aload_n (pc := 80) d_MO_part_80 rfl rfl ?_
          refine xj_iload (pc := 81) d_MO_part_81 rfl ?_
          refine xj_callV (pc := 83) d_MO_part_83 ml_MO_64 ok_MO_keep (s_MO_keep hI g2.nx g2.2.2 hkt) rfl rfl rfl rfl rfl (Nat.le_of_ble_eq_true rfl) (by decide) ?_
          rintro rv I4 F4 ⟨rfl, g4⟩
          dsimp only [Option.toList, List.cons_append, List.nil_append]
          refine xj_iret (pc := 86) d_MO_part_86 rfl ?_
          refine nk_E ⟨rfl, g4⟩ ?_
          rw [l_k1, l_200, m_part, if_pos hn2, List.take_of_length_le (show (sR S (nI ka)).length ≤ (200 : Int).toNat by omega), show (k.toInt - 1).toNat = k.toInt.toNat - 1 by omega]
  · have hn2 : ¬ n.toInt = -1 := fun q => hn1 (by rw [n_eq, n_m1]; exact q)
    refine xj_iload_n (pc := 0) d_MO_part_0 rfl rfl ?_
    refine xj_callS (pc := 1) d_MO_part_1 ml_MO_42 ok_MO_is (s_MO_is) rfl rfl rfl (Nat.le_of_ble_eq_true rfl) (by decide) ?_
    rintro rv I1 F1 ⟨rfl, rfl, rfl⟩
    dsimp only [Option.toList, List.cons_append, List.nil_append]
    refine xj_if_eq (pc := 4) (tgt := 25) d_MO_part_4 (by decide) (fun h4 => ?_) (fun h4 => ?_)
    · refine xj_iconst (pc := 25) (v := -1) d_MO_part_25 (by decide) ?_
      refine xj_iret (pc := 26) d_MO_part_26 rfl ?_
      exact nk_none hI (if_neg (fun q => by simp only [Bool.and_eq_true, decide_eq_true_eq] at q; first | (rw [n_le, n_m1] at h22; omega) | (rw [n_lt, n_1] at h17; omega) | (rw [b01_eq h12] at q; simp at q; done) | (rw [b01_eq h4] at q; simp at q; done)))
    · refine xj_iload (pc := 7) d_MO_part_7 rfl ?_
      refine xj_callS (pc := 9) d_MO_part_9 ml_MO_42 ok_MO_is (s_MO_is) rfl rfl rfl (Nat.le_of_ble_eq_true rfl) (by decide) ?_
      rintro rv I1 F1 ⟨rfl, rfl, rfl⟩
      dsimp only [Option.toList, List.cons_append, List.nil_append]
      refine xj_if_eq (pc := 12) (tgt := 25) d_MO_part_12 (by decide) (fun h12 => ?_) (fun h12 => ?_)
      · refine xj_iconst (pc := 25) (v := -1) d_MO_part_25 (by decide) ?_
        refine xj_iret (pc := 26) d_MO_part_26 rfl ?_
        exact nk_none hI (if_neg (fun q => by simp only [Bool.and_eq_true, decide_eq_true_eq] at q; first | (rw [n_le, n_m1] at h22; omega) | (rw [n_lt, n_1] at h17; omega) | (rw [b01_eq h12] at q; simp at q; done) | (rw [b01_eq h4] at q; simp at q; done)))
      · refine xj_iload_n (pc := 15) d_MO_part_15 rfl rfl ?_
        refine xj_iconst (pc := 16) (v := 1) d_MO_part_16 (by decide) ?_
        refine xj_icmp_lt (pc := 17) (tgt := 25) d_MO_part_17 (by decide) (fun h17 => ?_) (fun h17 => ?_)
        · refine xj_iconst (pc := 25) (v := -1) d_MO_part_25 (by decide) ?_
          refine xj_iret (pc := 26) d_MO_part_26 rfl ?_
          exact nk_none hI (if_neg (fun q => by simp only [Bool.and_eq_true, decide_eq_true_eq] at q; first | (rw [n_le, n_m1] at h22; omega) | (rw [n_lt, n_1] at h17; omega) | (rw [b01_eq h12] at q; simp at q; done) | (rw [b01_eq h4] at q; simp at q; done)))
        · refine xj_iload_n (pc := 20) d_MO_part_20 rfl rfl ?_
          refine xj_iconst (pc := 21) (v := -1) d_MO_part_21 (by decide) ?_
          refine xj_icmp_ge (pc := 22) (tgt := 27) d_MO_part_22 (by decide) (fun h22 => ?_) (fun h22 => ?_)
          · have ha := b01_ne h4
            have hto := b01_ne h12
            rw [n_lt, n_1] at h17
            rw [n_le, n_m1] at h22
            rw [sp_part, if_pos (by simp only [ha, hto, Bool.true_and, decide_eq_true_eq]; omega)]
            obtain ⟨ka, hka, rfl, ta⟩ := isR_k ha
            obtain ⟨kt, hkt, rfl, tt⟩ := isR_k hto
            have hL := hI.at hka ta
            have h200 := hL.2.1
            refine xj_aload_n (pc := 27) d_MO_part_27 rfl rfl ?_
            refine xj_iconst (pc := 28) (v := 0) d_MO_part_28 (by decide) ?_
            refine xj_putI (pc := 29) d_MO_part_29 fl_MO_50 fp_MO_many rfl rfl ?_
            refine xj_iload_n (pc := 32) d_MO_part_32 rfl rfl ?_
            refine xj_iconst (pc := 33) (v := -1) d_MO_part_33 (by decide) ?_
            refine xj_icmp_ne (pc := 34) (tgt := 43) d_MO_part_34 (by decide) (fun h34 => ?_) (fun h34 => absurd h34 (hn1))
            refine xj_iload_n (pc := 43) d_MO_part_43 rfl rfl ?_
            refine xj_i2l (pc := 44) d_MO_part_44 ?_
            refine xj_lconst (pc := 45) (v := 1) d_MO_part_45 (by decide) ?_
            refine xj_lsub (pc := 46) d_MO_part_46 ?_
            refine xj_iload_n (pc := 47) d_MO_part_47 rfl rfl ?_
            refine xj_i2l (pc := 48) d_MO_part_48 ?_
            refine xj_ladd (pc := 49) d_MO_part_49 ?_
            refine xj_lstore (pc := 50) d_MO_part_50 (by decide) rfl ?_
            dsimp only [xset, xset2, xkill]
            refine xj_aload_n (pc := 52) d_MO_part_52 rfl rfl ?_
            refine xj_iload_n (pc := 53) d_MO_part_53 rfl rfl ?_
            refine xj_iload_n (pc := 54) d_MO_part_54 rfl rfl ?_
            refine xj_i2l (pc := 55) d_MO_part_55 ?_
            refine xj_lconst (pc := 56) (v := 1) d_MO_part_56 (by decide) ?_
            refine xj_lsub (pc := 57) d_MO_part_57 ?_
            refine xj_lload (pc := 58) d_MO_part_58 rfl ?_
            refine xj_callV (pc := 60) d_MO_part_60 ml_MO_60 ok_MO_lay (s_MO_lay hka (g0.nx.mr hL) g0.2.2 (by rw [l_k1]; omega)) rfl rfl rfl rfl rfl (Nat.le_of_ble_eq_true rfl) (by decide) ?_
            rintro rv I2 F2 ⟨rfl, g2⟩
            replace g2 := g0.tr g2
            have et := g2.2.2.ti
            have el : (n.toInt64 - (I2 18).toInt64).toInt = n.toInt - (I2 18).toInt := by (rw [l_sub (by rw [l_of, l_of]; omega) (by rw [l_of, l_of]; omega), l_of, l_of])
            dsimp only [Option.toList, List.cons_append, List.nil_append]
            refine xj_iload_n (pc := 63) d_MO_part_63 rfl rfl ?_
            refine xj_iconst (pc := 64) (v := -1) d_MO_part_64 (by decide) ?_
            refine xj_icmp_eq (pc := 65) (tgt := 80) d_MO_part_65 (by decide) (fun h65 => absurd h65 (hn1)) (fun h65 => ?_)
            refine xj_aload_n (pc := 68) d_MO_part_68 rfl rfl ?_
            refine xj_iload_n (pc := 69) d_MO_part_69 rfl rfl ?_
            refine xj_i2l (pc := 70) d_MO_part_70 ?_
            refine xj_aload_n (pc := 71) d_MO_part_71 rfl rfl ?_
            refine xj_getI (pc := 72) d_MO_part_72 fl_MO_50 rfl rfl ?_
            refine xj_i2l (pc := 75) d_MO_part_75 ?_
            refine xj_lsub (pc := 76) d_MO_part_76 ?_
            refine xj_callV (pc := 77) d_MO_part_77 ml_MO_56 ok_MO_pads (s_MO_pads (hI.pd g2.nx) g2.2.2) rfl rfl rfl rfl rfl (Nat.le_of_ble_eq_true rfl) (by decide) ?_
            rintro rv I3 F3 ⟨rfl, g3⟩
            replace g3 := g2.tr g3
            dsimp only [Option.toList, List.cons_append, List.nil_append]
            refine xj_aload_n (pc := 80) d_MO_part_80 rfl rfl ?_
            refine xj_iload (pc := 81) d_MO_part_81 rfl ?_
            refine xj_callV (pc := 83) d_MO_part_83 ml_MO_64 ok_MO_keep (s_MO_keep hI g3.nx g3.2.2 hkt) rfl rfl rfl rfl rfl (Nat.le_of_ble_eq_true rfl) (by decide) ?_
            rintro rv I4 F4 ⟨rfl, g4⟩
            dsimp only [Option.toList, List.cons_append, List.nil_append]
            refine xj_iret (pc := 86) d_MO_part_86 rfl ?_
            refine nk_E ⟨rfl, g4⟩ ?_
            rw [el, et]
            have eS : ((sR S (nI ka)).take (k.toInt64 - 1 + n.toInt64).toInt.toNat).drop (k.toInt64 - 1).toInt.toNat = ((sR S (nI ka)).drop (k.toInt.toNat - 1)).take n.toInt.toNat := by (rw [l_k1, l_k1n, show (k.toInt - 1).toNat = k.toInt.toNat - 1 by omega]; apply sl_dt; intro i hi; omega)
            rw [m_part, if_neg hn2]
            simp only [List.nil_append, eS]
            congr 2
            have : (((sR S (nI ka)).drop (k.toInt.toNat - 1)).take n.toInt.toNat).length ≤ 200 := (by rw [List.length_take, List.length_drop]; omega)
            omega
          · refine xj_iconst (pc := 25) (v := -1) d_MO_part_25 (by decide) ?_
            refine xj_iret (pc := 26) d_MO_part_26 rfl ?_
            exact nk_none hI (if_neg (fun q => by simp only [Bool.and_eq_true, decide_eq_true_eq] at q; first | (rw [n_le, n_m1] at h22; omega) | (rw [n_lt, n_1] at h17; omega) | (rw [b01_eq h12] at q; simp at q; done) | (rw [b01_eq h4] at q; simp at q; done)))
theorem t_MO_cut {a k n to : Int32} (hI : MI I F S) : XM m_MO_cut [.ref 36, .int a, .int k, .int n, .int to] I F (NQ (sp_cut S a k n to) I F) := by
  refine XM.of (by decide) (Nat.le_of_ble_eq_true rfl) ?_
  dsimp only [xargs]
  have := n_hi n
  have := n_hi k
  have g0 : Ms [] I F (upd I 18 0) F := Ms.zero
  refine xj_iload_n (pc := 0) d_MO_cut_0 rfl rfl ?_
  refine xj_callS (pc := 1) d_MO_cut_1 ml_MO_42 ok_MO_is (s_MO_is) rfl rfl rfl (Nat.le_of_ble_eq_true rfl) (by decide) ?_
  rintro rv I1 F1 ⟨rfl, rfl, rfl⟩
  dsimp only [Option.toList, List.cons_append, List.nil_append]
  refine xj_if_eq (pc := 4) (tgt := 25) d_MO_cut_4 (by decide) (fun h4 => ?_) (fun h4 => ?_)
  · refine xj_iconst (pc := 25) (v := -1) d_MO_cut_25 (by decide) ?_
    refine xj_iret (pc := 26) d_MO_cut_26 rfl ?_
    exact nk_none hI (if_neg (fun q => by simp only [Bool.and_eq_true, decide_eq_true_eq] at q; first | (rw [n_le, n_m1] at h22; omega) | (rw [n_lt, n_1] at h17; omega) | (rw [b01_eq h12] at q; simp at q; done) | (rw [b01_eq h4] at q; simp at q; done)))
  · refine xj_iload (pc := 7) d_MO_cut_7 rfl ?_
    refine xj_callS (pc := 9) d_MO_cut_9 ml_MO_42 ok_MO_is (s_MO_is) rfl rfl rfl (Nat.le_of_ble_eq_true rfl) (by decide) ?_
    rintro rv I1 F1 ⟨rfl, rfl, rfl⟩
    dsimp only [Option.toList, List.cons_append, List.nil_append]
    refine xj_if_eq (pc := 12) (tgt := 25) d_MO_cut_12 (by decide) (fun h12 => ?_) (fun h12 => ?_)
    · refine xj_iconst (pc := 25) (v := -1) d_MO_cut_25 (by decide) ?_
      refine xj_iret (pc := 26) d_MO_cut_26 rfl ?_
      exact nk_none hI (if_neg (fun q => by simp only [Bool.and_eq_true, decide_eq_true_eq] at q; first | (rw [n_le, n_m1] at h22; omega) | (rw [n_lt, n_1] at h17; omega) | (rw [b01_eq h12] at q; simp at q; done) | (rw [b01_eq h4] at q; simp at q; done)))
    · refine xj_iload_n (pc := 15) d_MO_cut_15 rfl rfl ?_
      refine xj_iconst (pc := 16) (v := 1) d_MO_cut_16 (by decide) ?_
      refine xj_icmp_lt (pc := 17) (tgt := 25) d_MO_cut_17 (by decide) (fun h17 => ?_) (fun h17 => ?_)
      · refine xj_iconst (pc := 25) (v := -1) d_MO_cut_25 (by decide) ?_
        refine xj_iret (pc := 26) d_MO_cut_26 rfl ?_
        exact nk_none hI (if_neg (fun q => by simp only [Bool.and_eq_true, decide_eq_true_eq] at q; first | (rw [n_le, n_m1] at h22; omega) | (rw [n_lt, n_1] at h17; omega) | (rw [b01_eq h12] at q; simp at q; done) | (rw [b01_eq h4] at q; simp at q; done)))
      · refine xj_iload_n (pc := 20) d_MO_cut_20 rfl rfl ?_
        refine xj_iconst (pc := 21) (v := -1) d_MO_cut_21 (by decide) ?_
        refine xj_icmp_ge (pc := 22) (tgt := 27) d_MO_cut_22 (by decide) (fun h22 => ?_) (fun h22 => ?_)
        · have ha := b01_ne h4
          have hto := b01_ne h12
          rw [n_lt, n_1] at h17
          rw [n_le, n_m1] at h22
          rw [sp_cut, if_pos (by simp only [ha, hto, Bool.true_and, decide_eq_true_eq]; omega)]
          obtain ⟨ka, hka, rfl, ta⟩ := isR_k ha
          obtain ⟨kt, hkt, rfl, tt⟩ := isR_k hto
          have hL := hI.at hka ta
          have h200 := hL.2.1
          refine xj_aload_n (pc := 27) d_MO_cut_27 rfl rfl ?_
          refine xj_iconst (pc := 28) (v := 0) d_MO_cut_28 (by decide) ?_
          refine xj_putI (pc := 29) d_MO_cut_29 fl_MO_50 fp_MO_many rfl rfl ?_
          refine xj_aload_n (pc := 32) d_MO_cut_32 rfl rfl ?_
          refine xj_iload_n (pc := 33) d_MO_cut_33 rfl rfl ?_
          refine xj_lconst (pc := 34) (v := 0) d_MO_cut_34 (by decide) ?_
          refine xj_iload_n (pc := 35) d_MO_cut_35 rfl rfl ?_
          refine xj_i2l (pc := 36) d_MO_cut_36 ?_
          refine xj_lconst (pc := 37) (v := 1) d_MO_cut_37 (by decide) ?_
          refine xj_lsub (pc := 38) d_MO_cut_38 ?_
          refine xj_callV (pc := 39) d_MO_cut_39 ml_MO_60 ok_MO_lay (s_MO_lay hka (g0.nx.mr hL) g0.2.2 (by rw [l_0]; omega)) rfl rfl rfl rfl rfl (Nat.le_of_ble_eq_true rfl) (by decide) ?_
          rintro rv I2 F2 ⟨rfl, g2⟩
          replace g2 := g0.tr g2
          dsimp only [Option.toList, List.cons_append, List.nil_append]
          refine xj_iload_n (pc := 42) d_MO_cut_42 rfl rfl ?_
          refine xj_iconst (pc := 43) (v := -1) d_MO_cut_43 (by decide) ?_
          refine xj_icmp_eq (pc := 44) (tgt := 62) d_MO_cut_44 (by decide) (fun h44 => ?_) (fun h44 => ?_)
          · refine xj_aload_n (pc := 62) d_MO_cut_62 rfl rfl ?_
            refine xj_iload (pc := 63) d_MO_cut_63 rfl ?_
            refine xj_callV (pc := 65) d_MO_cut_65 ml_MO_64 ok_MO_keep (s_MO_keep hI (by first | exact g3.nx | exact g2.nx) (by first | exact g3.2.2 | exact g2.2.2) hkt) rfl rfl rfl rfl rfl (Nat.le_of_ble_eq_true rfl) (by decide) ?_
            rintro rv I4 F4 ⟨rfl, g4⟩
            dsimp only [Option.toList, List.cons_append, List.nil_append]
            refine xj_iret (pc := 68) d_MO_cut_68 rfl ?_
            refine nk_E ⟨rfl, g4⟩ ?_
            rw [m_cut, l_k1, l_0, show (k.toInt - 1).toNat = k.toInt.toNat - 1 by omega, show (0 : Int).toNat = 0 from rfl, List.drop_zero]
            first | (rw [if_pos (by rw [h44, n_m1]), List.append_nil]; done) | (rw [if_neg (fun q => h44 (by rw [n_eq, n_m1]; exact q)), l_200, l_k1n, List.take_of_length_le (show (sR S (nI ka)).length ≤ (200 : Int).toNat by omega), show (k.toInt - 1 + n.toInt).toNat = k.toInt.toNat - 1 + n.toInt.toNat by (have : ¬ n.toInt = -1 := fun q => h44 (by rw [n_eq, n_m1]; exact q); omega)])
          · refine xj_aload_n (pc := 47) d_MO_cut_47 rfl rfl ?_
            refine xj_iload_n (pc := 48) d_MO_cut_48 rfl rfl ?_
            refine xj_iload_n (pc := 49) d_MO_cut_49 rfl rfl ?_
            refine xj_i2l (pc := 50) d_MO_cut_50 ?_
            refine xj_lconst (pc := 51) (v := 1) d_MO_cut_51 (by decide) ?_
            refine xj_lsub (pc := 52) d_MO_cut_52 ?_
            refine xj_iload_n (pc := 53) d_MO_cut_53 rfl rfl ?_
            refine xj_i2l (pc := 54) d_MO_cut_54 ?_
            refine xj_ladd (pc := 55) d_MO_cut_55 ?_
            refine xj_ldc2 (pc := 56) (v := 200) d_MO_cut_56 kc_MO_68 ?_
            refine xj_callV (pc := 59) d_MO_cut_59 ml_MO_60 ok_MO_lay (s_MO_lay hka (g2.nx.mr hL) g2.2.2 (by rw [l_k1n]; omega)) rfl rfl rfl rfl rfl (Nat.le_of_ble_eq_true rfl) (by decide) ?_
            rintro rv I3 F3 ⟨rfl, g3⟩
            replace g3 := g2.tr g3
            dsimp only [Option.toList, List.cons_append, List.nil_append]
            refine xj_aload_n (pc := 62) d_MO_cut_62 rfl rfl ?_
            refine xj_iload (pc := 63) d_MO_cut_63 rfl ?_
            refine xj_callV (pc := 65) d_MO_cut_65 ml_MO_64 ok_MO_keep (s_MO_keep hI (by first | exact g3.nx | exact g2.nx) (by first | exact g3.2.2 | exact g2.2.2) hkt) rfl rfl rfl rfl rfl (Nat.le_of_ble_eq_true rfl) (by decide) ?_
            rintro rv I4 F4 ⟨rfl, g4⟩
            dsimp only [Option.toList, List.cons_append, List.nil_append]
            refine xj_iret (pc := 68) d_MO_cut_68 rfl ?_
            refine nk_E ⟨rfl, g4⟩ ?_
            rw [m_cut, l_k1, l_0, show (k.toInt - 1).toNat = k.toInt.toNat - 1 by omega, show (0 : Int).toNat = 0 from rfl, List.drop_zero]
            first | (rw [if_pos (by rw [h44, n_m1]), List.append_nil]; done) | (rw [if_neg (fun q => h44 (by rw [n_eq, n_m1]; exact q)), l_200, l_k1n, List.take_of_length_le (show (sR S (nI ka)).length ≤ (200 : Int).toNat by omega), show (k.toInt - 1 + n.toInt).toNat = k.toInt.toNat - 1 + n.toInt.toNat by (have : ¬ n.toInt = -1 := fun q => h44 (by rw [n_eq, n_m1]; exact q); omega)])
        · refine xj_iconst (pc := 25) (v := -1) d_MO_cut_25 (by decide) ?_
          refine xj_iret (pc := 26) d_MO_cut_26 rfl ?_
          exact nk_none hI (if_neg (fun q => by simp only [Bool.and_eq_true, decide_eq_true_eq] at q; first | (rw [n_le, n_m1] at h22; omega) | (rw [n_lt, n_1] at h17; omega) | (rw [b01_eq h12] at q; simp at q; done) | (rw [b01_eq h4] at q; simp at q; done)))
theorem t_MO_join {a b w to : Int32} (hI : MI I F S) : XM m_MO_join [.ref 36, .int a, .int b, .int w, .int to] I F (NQ (sp_join S a b w to) I F) := by
  refine XM.of (by decide) (Nat.le_of_ble_eq_true rfl) ?_
  dsimp only [xargs]
  have g0 : Ms [] I F (upd I 18 0) F := Ms.zero
  refine xj_iload_n (pc := 0) d_MO_join_0 rfl rfl ?_
  refine xj_callS (pc := 1) d_MO_join_1 ml_MO_42 ok_MO_is (s_MO_is) rfl rfl rfl (Nat.le_of_ble_eq_true rfl) (by decide) ?_
  rintro rv I1 F1 ⟨rfl, rfl, rfl⟩
  dsimp only [Option.toList, List.cons_append, List.nil_append]
  refine xj_if_eq (pc := 4) (tgt := 26) d_MO_join_4 (by decide) (fun h4 => ?_) (fun h4 => ?_)
  · refine xj_iconst (pc := 26) (v := -1) d_MO_join_26 (by decide) ?_
    refine xj_iret (pc := 27) d_MO_join_27 rfl ?_
    exact nk_none hI (if_neg (fun q => by simp only [Bool.and_eq_true, decide_eq_true_eq] at q; first | (rw [n_le, n_0] at h23; omega) | (rw [b01_eq h19] at q; simp at q; done) | (rw [b01_eq h11] at q; simp at q; done) | (rw [b01_eq h4] at q; simp at q; done)))
  · refine xj_iload_n (pc := 7) d_MO_join_7 rfl rfl ?_
    refine xj_callS (pc := 8) d_MO_join_8 ml_MO_42 ok_MO_is (s_MO_is) rfl rfl rfl (Nat.le_of_ble_eq_true rfl) (by decide) ?_
    rintro rv I1 F1 ⟨rfl, rfl, rfl⟩
    dsimp only [Option.toList, List.cons_append, List.nil_append]
    refine xj_if_eq (pc := 11) (tgt := 26) d_MO_join_11 (by decide) (fun h11 => ?_) (fun h11 => ?_)
    · refine xj_iconst (pc := 26) (v := -1) d_MO_join_26 (by decide) ?_
      refine xj_iret (pc := 27) d_MO_join_27 rfl ?_
      exact nk_none hI (if_neg (fun q => by simp only [Bool.and_eq_true, decide_eq_true_eq] at q; first | (rw [n_le, n_0] at h23; omega) | (rw [b01_eq h19] at q; simp at q; done) | (rw [b01_eq h11] at q; simp at q; done) | (rw [b01_eq h4] at q; simp at q; done)))
    · refine xj_iload (pc := 14) d_MO_join_14 rfl ?_
      refine xj_callS (pc := 16) d_MO_join_16 ml_MO_42 ok_MO_is (s_MO_is) rfl rfl rfl (Nat.le_of_ble_eq_true rfl) (by decide) ?_
      rintro rv I1 F1 ⟨rfl, rfl, rfl⟩
      dsimp only [Option.toList, List.cons_append, List.nil_append]
      refine xj_if_eq (pc := 19) (tgt := 26) d_MO_join_19 (by decide) (fun h19 => ?_) (fun h19 => ?_)
      · refine xj_iconst (pc := 26) (v := -1) d_MO_join_26 (by decide) ?_
        refine xj_iret (pc := 27) d_MO_join_27 rfl ?_
        exact nk_none hI (if_neg (fun q => by simp only [Bool.and_eq_true, decide_eq_true_eq] at q; first | (rw [n_le, n_0] at h23; omega) | (rw [b01_eq h19] at q; simp at q; done) | (rw [b01_eq h11] at q; simp at q; done) | (rw [b01_eq h4] at q; simp at q; done)))
      · refine xj_iload_n (pc := 22) d_MO_join_22 rfl rfl ?_
        refine xj_if_ge (pc := 23) (tgt := 28) d_MO_join_23 (by decide) (fun h23 => ?_) (fun h23 => ?_)
        · have ha := b01_ne h4
          have hb := b01_ne h11
          have hto := b01_ne h19
          rw [n_le, n_0] at h23
          rw [sp_join, if_pos (by simp only [ha, hb, hto, Bool.true_and, decide_eq_true_eq]; omega)]
          obtain ⟨ka, hka, rfl, ta⟩ := isR_k ha
          obtain ⟨kb, hkb, rfl, tb⟩ := isR_k hb
          obtain ⟨kt, hkt, rfl, tt⟩ := isR_k hto
          have hL := hI.at hka ta
          have h200 := hL.2.1
          have hLb := hI.at hkb tb
          have h200b := hLb.2.1
          refine xj_aload_n (pc := 28) d_MO_join_28 rfl rfl ?_
          refine xj_iconst (pc := 29) (v := 0) d_MO_join_29 (by decide) ?_
          refine xj_putI (pc := 30) d_MO_join_30 fl_MO_50 fp_MO_many rfl rfl ?_
          refine xj_aload_n (pc := 33) d_MO_join_33 rfl rfl ?_
          refine xj_iload_n (pc := 34) d_MO_join_34 rfl rfl ?_
          refine xj_lconst (pc := 35) (v := 0) d_MO_join_35 (by decide) ?_
          refine xj_ldc2 (pc := 36) (v := 200) d_MO_join_36 kc_MO_68 ?_
          refine xj_callV (pc := 39) d_MO_join_39 ml_MO_60 ok_MO_lay (s_MO_lay hka (g0.nx.mr hL) g0.2.2 (by rw [l_0]; omega)) rfl rfl rfl rfl rfl (Nat.le_of_ble_eq_true rfl) (by decide) ?_
          rintro rv I2 F2 ⟨rfl, g2⟩
          replace g2 := g0.tr g2
          dsimp only [Option.toList, List.cons_append, List.nil_append]
          refine xj_aload_n (pc := 42) d_MO_join_42 rfl rfl ?_
          refine xj_iload_n (pc := 43) d_MO_join_43 rfl rfl ?_
          refine xj_i2l (pc := 44) d_MO_join_44 ?_
          refine xj_callV (pc := 45) d_MO_join_45 ml_MO_56 ok_MO_pads (s_MO_pads (hI.pd g2.nx) g2.2.2) rfl rfl rfl rfl rfl (Nat.le_of_ble_eq_true rfl) (by decide) ?_
          rintro rv I3 F3 ⟨rfl, g3⟩
          replace g3 := g2.tr g3
          dsimp only [Option.toList, List.cons_append, List.nil_append]
          refine xj_aload_n (pc := 48) d_MO_join_48 rfl rfl ?_
          refine xj_iload_n (pc := 49) d_MO_join_49 rfl rfl ?_
          refine xj_lconst (pc := 50) (v := 0) d_MO_join_50 (by decide) ?_
          refine xj_ldc2 (pc := 51) (v := 200) d_MO_join_51 kc_MO_68 ?_
          refine xj_callV (pc := 54) d_MO_join_54 ml_MO_60 ok_MO_lay (s_MO_lay hkb (g3.nx.mr hLb) g3.2.2 (by rw [l_0]; omega)) rfl rfl rfl rfl rfl (Nat.le_of_ble_eq_true rfl) (by decide) ?_
          rintro rv I4 F4 ⟨rfl, g4⟩
          replace g4 := g3.tr g4
          dsimp only [Option.toList, List.cons_append, List.nil_append]
          refine xj_aload_n (pc := 57) d_MO_join_57 rfl rfl ?_
          refine xj_iload (pc := 58) d_MO_join_58 rfl ?_
          refine xj_callV (pc := 60) d_MO_join_60 ml_MO_64 ok_MO_keep (s_MO_keep hI g4.nx g4.2.2 hkt) rfl rfl rfl rfl rfl (Nat.le_of_ble_eq_true rfl) (by decide) ?_
          rintro rv I5 F5 ⟨rfl, g5⟩
          dsimp only [Option.toList, List.cons_append, List.nil_append]
          refine xj_iret (pc := 63) d_MO_join_63 rfl ?_
          refine nk_E ⟨rfl, g5⟩ ?_
          rw [l_0, l_200, l_of, show (0 : Int).toNat = 0 from rfl, List.drop_zero, List.drop_zero, List.take_of_length_le (show (sR S (nI ka)).length ≤ (200 : Int).toNat by omega), List.take_of_length_le (show (sR S (nI kb)).length ≤ (200 : Int).toNat by omega)]
        · refine xj_iconst (pc := 26) (v := -1) d_MO_join_26 (by decide) ?_
          refine xj_iret (pc := 27) d_MO_join_27 rfl ?_
          exact nk_none hI (if_neg (fun q => by simp only [Bool.and_eq_true, decide_eq_true_eq] at q; first | (rw [n_le, n_0] at h23; omega) | (rw [b01_eq h19] at q; simp at q; done) | (rw [b01_eq h11] at q; simp at q; done) | (rw [b01_eq h4] at q; simp at q; done)))
theorem nk_F {to : Int32} {rv : Option Value} (h : NQ (sMk S to X) I F rv I1 F1) (h1 : 200 < X.length) (h2 : 200 < M.length) : NQ (sMk S to M) I F rv I1 F1 := by
  rw [sMk, if_pos h1] at h; rw [sMk, if_pos h2]; exact h
theorem t_MO_copies_l {n : Int32} {ka kt : Nat} (hI : MI I F S) (hka : ka < 10) (hkt : kt < 10) (hL : Mr F ka L) (hn : 0 ≤ n.toInt) : ∀ (m i : Nat) (I1 : XI) (F1 : XF), 201 - (List.replicate i L).flatten.length = m → i ≤ n.toInt.toNat → i < 2147483648 → Ms (List.replicate i L).flatten I F I1 F1 →
    XJ none m_MO_copies 28 [some (.ref 36), some (.int (nI ka)), some (.int n), some (.int (nI kt)), some (.int (nI i))] [] I1 F1 (NQ (sMk S (nI kt) (List.replicate n.toInt.toNat L).flatten) I F) := by
  have := n_hi n
  have h200 := hL.2.1
  intro m
  induction m using Nat.strongRecOn with
  | ind m ih =>
    intro i I1 F1 hm hi hi2 g1
    have hL1 := g1.nx.mr hL
    have hsz := hL1.sz
    have ht := g1.2.2.ti
    refine xj_iload (pc := 28) d_MO_copies_28 rfl ?_
    refine xj_iload_n (pc := 30) d_MO_copies_30 rfl rfl ?_
    refine xj_icmp_ge (pc := 31) (tgt := 68) d_MO_copies_31 (by decide) (fun h31 => ?_) (fun h31 => ?_)
    · refine xj_aload_n (pc := 68) d_MO_copies_68 rfl rfl ?_
      refine xj_iload_n (pc := 69) d_MO_copies_69 rfl rfl ?_
      refine xj_callV (pc := 70) d_MO_copies_70 ml_MO_64 ok_MO_keep (s_MO_keep hI g1.nx g1.2.2 hkt) rfl rfl rfl rfl rfl (Nat.le_of_ble_eq_true rfl) (by decide) ?_
      rintro rv I4 F4 ⟨rfl, g4⟩
      dsimp only [Option.toList, List.cons_append, List.nil_append]
      refine xj_iret (pc := 73) d_MO_copies_73 rfl ?_
      first | (refine nk_E ⟨rfl, g4⟩ ?_; rw [n_le, n_nI (by omega)] at h31; rw [show i = n.toInt.toNat by omega]; done) | (refine nk_E ⟨rfl, g4⟩ ?_; rw [n_le, n_0, hsz] at h40; rw [fr_nil _ (by omega), fr_nil _ (by omega)]; done) | (rw [n_lt, n_200, ht] at h50; exact nk_F ⟨rfl, g4⟩ (by omega) (by rw [fr_len]; have := Nat.mul_le_mul_right L.length hi; rw [fr_len] at h50; omega))
    · refine xj_aload_n (pc := 34) d_MO_copies_34 rfl rfl ?_
      refine xj_getR (pc := 35) d_MO_copies_35 fl_MO_16 rfl rfl ?_
      refine xj_iload_n (pc := 38) d_MO_copies_38 rfl rfl ?_
      refine xj_iald (pc := 39) d_MO_copies_39 (n := 10) (x := 21) rfl rfl hka (by decide) ?_
      refine xj_if_le (pc := 40) (tgt := 68) d_MO_copies_40 (by decide) (fun h40 => ?_) (fun h40 => ?_)
      · refine xj_aload_n (pc := 68) d_MO_copies_68 rfl rfl ?_
        refine xj_iload_n (pc := 69) d_MO_copies_69 rfl rfl ?_
        refine xj_callV (pc := 70) d_MO_copies_70 ml_MO_64 ok_MO_keep (s_MO_keep hI g1.nx g1.2.2 hkt) rfl rfl rfl rfl rfl (Nat.le_of_ble_eq_true rfl) (by decide) ?_
        rintro rv I4 F4 ⟨rfl, g4⟩
        dsimp only [Option.toList, List.cons_append, List.nil_append]
        refine xj_iret (pc := 73) d_MO_copies_73 rfl ?_
        first | (refine nk_E ⟨rfl, g4⟩ ?_; rw [n_le, n_nI (by omega)] at h31; rw [show i = n.toInt.toNat by omega]; done) | (refine nk_E ⟨rfl, g4⟩ ?_; rw [n_le, n_0, hsz] at h40; rw [fr_nil _ (by omega), fr_nil _ (by omega)]; done) | (rw [n_lt, n_200, ht] at h50; exact nk_F ⟨rfl, g4⟩ (by omega) (by rw [fr_len]; have := Nat.mul_le_mul_right L.length hi; rw [fr_len] at h50; omega))
      · refine xj_aload_n (pc := 43) d_MO_copies_43 rfl rfl ?_
        refine xj_getI (pc := 44) d_MO_copies_44 fl_MO_50 rfl rfl ?_
        refine xj_sipush (pc := 47) (v := 200) d_MO_copies_47 (by decide) ?_
        refine xj_icmp_gt (pc := 50) (tgt := 68) d_MO_copies_50 (by decide) (fun h50 => ?_) (fun h50 => ?_)
        · refine xj_aload_n (pc := 68) d_MO_copies_68 rfl rfl ?_
          refine xj_iload_n (pc := 69) d_MO_copies_69 rfl rfl ?_
          refine xj_callV (pc := 70) d_MO_copies_70 ml_MO_64 ok_MO_keep (s_MO_keep hI g1.nx g1.2.2 hkt) rfl rfl rfl rfl rfl (Nat.le_of_ble_eq_true rfl) (by decide) ?_
          rintro rv I4 F4 ⟨rfl, g4⟩
          dsimp only [Option.toList, List.cons_append, List.nil_append]
          refine xj_iret (pc := 73) d_MO_copies_73 rfl ?_
          first | (refine nk_E ⟨rfl, g4⟩ ?_; rw [n_le, n_nI (by omega)] at h31; rw [show i = n.toInt.toNat by omega]; done) | (refine nk_E ⟨rfl, g4⟩ ?_; rw [n_le, n_0, hsz] at h40; rw [fr_nil _ (by omega), fr_nil _ (by omega)]; done) | (rw [n_lt, n_200, ht] at h50; exact nk_F ⟨rfl, g4⟩ (by omega) (by rw [fr_len]; have := Nat.mul_le_mul_right L.length hi; rw [fr_len] at h50; omega))
        · refine xj_aload_n (pc := 53) d_MO_copies_53 rfl rfl ?_
          refine xj_iload_n (pc := 54) d_MO_copies_54 rfl rfl ?_
          refine xj_lconst (pc := 55) (v := 0) d_MO_copies_55 (by decide) ?_
          refine xj_ldc2 (pc := 56) (v := 200) d_MO_copies_56 kc_MO_68 ?_
          refine xj_callV (pc := 59) d_MO_copies_59 ml_MO_60 ok_MO_lay (s_MO_lay hka hL1 g1.2.2 (by rw [l_0]; omega)) rfl rfl rfl rfl rfl (Nat.le_of_ble_eq_true rfl) (by decide) ?_
          rintro rv I2 F2 ⟨rfl, g2⟩
          rw [l_0, l_200, show (0 : Int).toNat = 0 from rfl, List.drop_zero, List.take_of_length_le (show L.length ≤ (200 : Int).toNat by omega), ← fr_succ] at g2
          replace g2 := g1.tr g2
          dsimp only [Option.toList, List.cons_append, List.nil_append]
          refine xj_inc1 (pc := 62) d_MO_copies_62 rfl (by decide) rfl ?_
          dsimp only [xset, xset2, xkill]
          rw [n_up]
          refine xj_goto (pc := 65) (tgt := 28) d_MO_copies_65 (by decide) ?_
          rw [n_le, n_nI (by omega)] at h31
          rw [n_le, n_0, hsz] at h40
          rw [n_lt, n_200, ht] at h50
          have hfs := fr_succ i L
          have hfl : (List.replicate (i + 1) L).flatten.length = (List.replicate i L).flatten.length + L.length := by (rw [hfs, List.length_append])
          exact ih (201 - (List.replicate (i + 1) L).flatten.length) (by omega) (i + 1) I2 F2 rfl (by omega) (by omega) g2
theorem t_MO_copies {a n to : Int32} (hI : MI I F S) : XM m_MO_copies [.ref 36, .int a, .int n, .int to] I F (NQ (sp_copies S a n to) I F) := by
  refine XM.of (by decide) (Nat.le_of_ble_eq_true rfl) ?_
  dsimp only [xargs]
  have g0 : Ms [] I F (upd I 18 0) F := Ms.zero
  refine xj_iload_n (pc := 0) d_MO_copies_0 rfl rfl ?_
  refine xj_callS (pc := 1) d_MO_copies_1 ml_MO_42 ok_MO_is (s_MO_is) rfl rfl rfl (Nat.le_of_ble_eq_true rfl) (by decide) ?_
  rintro rv I1 F1 ⟨rfl, rfl, rfl⟩
  dsimp only [Option.toList, List.cons_append, List.nil_append]
  refine xj_if_eq (pc := 4) (tgt := 18) d_MO_copies_4 (by decide) (fun h4 => ?_) (fun h4 => ?_)
  · refine xj_iconst (pc := 18) (v := -1) d_MO_copies_18 (by decide) ?_
    refine xj_iret (pc := 19) d_MO_copies_19 rfl ?_
    exact nk_none hI (if_neg (fun q => by simp only [Bool.and_eq_true, decide_eq_true_eq] at q; first | (rw [n_le, n_0] at h15; omega) | (rw [b01_eq h11] at q; simp at q; done) | (rw [b01_eq h4] at q; simp at q; done)))
  · refine xj_iload_n (pc := 7) d_MO_copies_7 rfl rfl ?_
    refine xj_callS (pc := 8) d_MO_copies_8 ml_MO_42 ok_MO_is (s_MO_is) rfl rfl rfl (Nat.le_of_ble_eq_true rfl) (by decide) ?_
    rintro rv I1 F1 ⟨rfl, rfl, rfl⟩
    dsimp only [Option.toList, List.cons_append, List.nil_append]
    refine xj_if_eq (pc := 11) (tgt := 18) d_MO_copies_11 (by decide) (fun h11 => ?_) (fun h11 => ?_)
    · refine xj_iconst (pc := 18) (v := -1) d_MO_copies_18 (by decide) ?_
      refine xj_iret (pc := 19) d_MO_copies_19 rfl ?_
      exact nk_none hI (if_neg (fun q => by simp only [Bool.and_eq_true, decide_eq_true_eq] at q; first | (rw [n_le, n_0] at h15; omega) | (rw [b01_eq h11] at q; simp at q; done) | (rw [b01_eq h4] at q; simp at q; done)))
    · refine xj_iload_n (pc := 14) d_MO_copies_14 rfl rfl ?_
      refine xj_if_ge (pc := 15) (tgt := 20) d_MO_copies_15 (by decide) (fun h15 => ?_) (fun h15 => ?_)
      · have ha := b01_ne h4
        have hto := b01_ne h11
        rw [n_le, n_0] at h15
        rw [sp_copies, if_pos (by simp only [ha, hto, Bool.true_and, decide_eq_true_eq]; omega)]
        obtain ⟨ka, hka, rfl, ta⟩ := isR_k ha
        obtain ⟨kt, hkt, rfl, tt⟩ := isR_k hto
        refine xj_aload_n (pc := 20) d_MO_copies_20 rfl rfl ?_
        refine xj_iconst (pc := 21) (v := 0) d_MO_copies_21 (by decide) ?_
        refine xj_putI (pc := 22) d_MO_copies_22 fl_MO_50 fp_MO_many rfl rfl ?_
        refine xj_iconst (pc := 25) (v := 0) d_MO_copies_25 (by decide) ?_
        refine xj_istore (pc := 26) d_MO_copies_26 (by decide) rfl ?_
        dsimp only [xset, xset2, xkill]
        exact t_MO_copies_l hI hka hkt (hI.at hka ta) h15 _ 0 _ F rfl (by omega) (by omega) g0
      · refine xj_iconst (pc := 18) (v := -1) d_MO_copies_18 (by decide) ?_
        refine xj_iret (pc := 19) d_MO_copies_19 rfl ?_
        exact nk_none hI (if_neg (fun q => by simp only [Bool.and_eq_true, decide_eq_true_eq] at q; first | (rw [n_le, n_0] at h15; omega) | (rw [b01_eq h11] at q; simp at q; done) | (rw [b01_eq h4] at q; simp at q; done)))
theorem t_MO_set {a b n over to : Int32} (hI : MI I F S) : XM m_MO_set [.ref 36, .int a, .int b, .int n, .int over, .int to] I F (NQ (sp_set S a b n over to) I F) := by
  refine XM.of (by decide) (Nat.le_of_ble_eq_true rfl) ?_
  dsimp only [xargs]
  have := n_hi n
  have g0 : Ms [] I F (upd I 18 0) F := Ms.zero
  refine xj_iload_n (pc := 0) d_MO_set_0 rfl rfl ?_
  refine xj_callS (pc := 1) d_MO_set_1 ml_MO_42 ok_MO_is (s_MO_is) rfl rfl rfl (Nat.le_of_ble_eq_true rfl) (by decide) ?_
  rintro rv I1 F1 ⟨rfl, rfl, rfl⟩
  dsimp only [Option.toList, List.cons_append, List.nil_append]
  refine xj_if_eq (pc := 4) (tgt := 26) d_MO_set_4 (by decide) (fun h4 => ?_) (fun h4 => ?_)
  · refine xj_iconst (pc := 26) (v := -1) d_MO_set_26 (by decide) ?_
    refine xj_iret (pc := 27) d_MO_set_27 rfl ?_
    exact nk_none hI (if_neg (fun q => by simp only [Bool.and_eq_true, decide_eq_true_eq] at q; first | (rw [n_le, n_0] at h23; omega) | (rw [b01_eq h19] at q; simp at q; done) | (rw [b01_eq h11] at q; simp at q; done) | (rw [b01_eq h4] at q; simp at q; done)))
  · refine xj_iload_n (pc := 7) d_MO_set_7 rfl rfl ?_
    refine xj_callS (pc := 8) d_MO_set_8 ml_MO_42 ok_MO_is (s_MO_is) rfl rfl rfl (Nat.le_of_ble_eq_true rfl) (by decide) ?_
    rintro rv I1 F1 ⟨rfl, rfl, rfl⟩
    dsimp only [Option.toList, List.cons_append, List.nil_append]
    refine xj_if_eq (pc := 11) (tgt := 26) d_MO_set_11 (by decide) (fun h11 => ?_) (fun h11 => ?_)
    · refine xj_iconst (pc := 26) (v := -1) d_MO_set_26 (by decide) ?_
      refine xj_iret (pc := 27) d_MO_set_27 rfl ?_
      exact nk_none hI (if_neg (fun q => by simp only [Bool.and_eq_true, decide_eq_true_eq] at q; first | (rw [n_le, n_0] at h23; omega) | (rw [b01_eq h19] at q; simp at q; done) | (rw [b01_eq h11] at q; simp at q; done) | (rw [b01_eq h4] at q; simp at q; done)))
    · refine xj_iload (pc := 14) d_MO_set_14 rfl ?_
      refine xj_callS (pc := 16) d_MO_set_16 ml_MO_42 ok_MO_is (s_MO_is) rfl rfl rfl (Nat.le_of_ble_eq_true rfl) (by decide) ?_
      rintro rv I1 F1 ⟨rfl, rfl, rfl⟩
      dsimp only [Option.toList, List.cons_append, List.nil_append]
      refine xj_if_eq (pc := 19) (tgt := 26) d_MO_set_19 (by decide) (fun h19 => ?_) (fun h19 => ?_)
      · refine xj_iconst (pc := 26) (v := -1) d_MO_set_26 (by decide) ?_
        refine xj_iret (pc := 27) d_MO_set_27 rfl ?_
        exact nk_none hI (if_neg (fun q => by simp only [Bool.and_eq_true, decide_eq_true_eq] at q; first | (rw [n_le, n_0] at h23; omega) | (rw [b01_eq h19] at q; simp at q; done) | (rw [b01_eq h11] at q; simp at q; done) | (rw [b01_eq h4] at q; simp at q; done)))
      · refine xj_iload_n (pc := 22) d_MO_set_22 rfl rfl ?_
        refine xj_if_ge (pc := 23) (tgt := 28) d_MO_set_23 (by decide) (fun h23 => ?_) (fun h23 => ?_)
        · have ha := b01_ne h4
          have hb := b01_ne h11
          have hto := b01_ne h19
          rw [n_le, n_0] at h23
          rw [sp_set, if_pos (by simp only [ha, hb, hto, Bool.true_and, decide_eq_true_eq]; omega)]
          obtain ⟨ka, hka, rfl, ta⟩ := isR_k ha
          obtain ⟨kb, hkb, rfl, tb⟩ := isR_k hb
          obtain ⟨kt, hkt, rfl, tt⟩ := isR_k hto
          have hL := hI.at hka ta
          have h200 := hL.2.1
          have hLb := hI.at hkb tb
          have h200b := hLb.2.1
          refine xj_aload_n (pc := 28) d_MO_set_28 rfl rfl ?_
          refine xj_iconst (pc := 29) (v := 0) d_MO_set_29 (by decide) ?_
          refine xj_putI (pc := 30) d_MO_set_30 fl_MO_50 fp_MO_many rfl rfl ?_
          refine xj_aload_n (pc := 33) d_MO_set_33 rfl rfl ?_
          refine xj_iload_n (pc := 34) d_MO_set_34 rfl rfl ?_
          refine xj_lconst (pc := 35) (v := 0) d_MO_set_35 (by decide) ?_
          refine xj_iload_n (pc := 36) d_MO_set_36 rfl rfl ?_
          refine xj_i2l (pc := 37) d_MO_set_37 ?_
          refine xj_callV (pc := 38) d_MO_set_38 ml_MO_60 ok_MO_lay (s_MO_lay hkb (g0.nx.mr hLb) g0.2.2 (by rw [l_0]; omega)) rfl rfl rfl rfl rfl (Nat.le_of_ble_eq_true rfl) (by decide) ?_
          rintro rv I2 F2 ⟨rfl, g2⟩
          rw [l_0, l_of, show (0 : Int).toNat = 0 from rfl, List.drop_zero, List.nil_append] at g2
          replace g2 := g0.tr g2
          have et := g2.2.2.ti
          have el : (n.toInt64 - (I2 18).toInt64).toInt = n.toInt - (I2 18).toInt := by (rw [l_sub (by rw [l_of, l_of]; omega) (by rw [l_of, l_of]; omega), l_of, l_of])
          dsimp only [Option.toList, List.cons_append, List.nil_append]
          refine xj_aload_n (pc := 41) d_MO_set_41 rfl rfl ?_
          refine xj_iload_n (pc := 42) d_MO_set_42 rfl rfl ?_
          refine xj_i2l (pc := 43) d_MO_set_43 ?_
          refine xj_aload_n (pc := 44) d_MO_set_44 rfl rfl ?_
          refine xj_getI (pc := 45) d_MO_set_45 fl_MO_50 rfl rfl ?_
          refine xj_i2l (pc := 48) d_MO_set_48 ?_
          refine xj_lsub (pc := 49) d_MO_set_49 ?_
          refine xj_callV (pc := 50) d_MO_set_50 ml_MO_56 ok_MO_pads (s_MO_pads (hI.pd g2.nx) g2.2.2) rfl rfl rfl rfl rfl (Nat.le_of_ble_eq_true rfl) (by decide) ?_
          rintro rv I3 F3 ⟨rfl, g3⟩
          rw [el, et, show (n.toInt - (min (List.take n.toInt.toNat (sR S (nI kb))).length 201 : Nat)).toNat = n.toInt.toNat - (sR S (nI kb)).length by (rw [List.length_take]; omega)] at g3
          replace g3 := g2.tr g3
          dsimp only [Option.toList, List.cons_append, List.nil_append]
          refine xj_aload_n (pc := 53) d_MO_set_53 rfl rfl ?_
          refine xj_iload_n (pc := 54) d_MO_set_54 rfl rfl ?_
          refine xj_lconst (pc := 55) (v := 0) d_MO_set_55 (by decide) ?_
          refine xj_ldc2 (pc := 56) (v := 200) d_MO_set_56 kc_MO_68 ?_
          refine xj_callV (pc := 59) d_MO_set_59 ml_MO_60 ok_MO_lay (s_MO_lay hka (g3.nx.mr hL) g3.2.2 (by rw [l_0]; omega)) rfl rfl rfl rfl rfl (Nat.le_of_ble_eq_true rfl) (by decide) ?_
          rintro rv I4 F4 ⟨rfl, g4⟩
          rw [l_0, l_200, show (0 : Int).toNat = 0 from rfl, List.drop_zero, List.take_of_length_le (show (sR S (nI ka)).length ≤ (200 : Int).toNat by omega)] at g4
          replace g4 := g3.tr g4
          have hsz := (g4.nx.mr hL).sz
          have e5 : (n.toInt64 + (F4 21 ka).toInt64).toInt = n.toInt + (sR S (nI ka)).length := by (rw [l_add (by rw [l_of, l_of]; omega) (by rw [l_of, l_of]; omega), l_of, l_of, hsz])
          dsimp only [Option.toList, List.cons_append, List.nil_append]
          refine xj_aload_n (pc := 62) d_MO_set_62 rfl rfl ?_
          refine xj_iload_n (pc := 63) d_MO_set_63 rfl rfl ?_
          refine xj_iload (pc := 64) d_MO_set_64 rfl ?_
          refine xj_if_eq (pc := 66) (tgt := 82) d_MO_set_66 (by decide) (fun h66 => ?_) (fun h66 => ?_)
          · refine xj_iload_n (pc := 82) d_MO_set_82 rfl rfl ?_
            refine xj_i2l (pc := 83) d_MO_set_83 ?_
            refine xj_ldc2 (pc := 84) (v := 200) d_MO_set_84 kc_MO_68 ?_
            refine xj_callV (pc := 87) d_MO_set_87 ml_MO_60 ok_MO_lay (s_MO_lay hkb (g4.nx.mr hLb) g4.2.2 (by first | (rw [e5]; omega) | (rw [l_of]; omega))) rfl rfl rfl rfl rfl (Nat.le_of_ble_eq_true rfl) (by decide) ?_
            rintro rv I5 F5 ⟨rfl, g5⟩
            rw [l_200, List.take_of_length_le (show (sR S (nI kb)).length ≤ (200 : Int).toNat by omega)] at g5
            replace g5 := g4.tr g5
            dsimp only [Option.toList, List.cons_append, List.nil_append]
            refine xj_aload_n (pc := 90) d_MO_set_90 rfl rfl ?_
            refine xj_iload (pc := 91) d_MO_set_91 rfl ?_
            refine xj_callV (pc := 93) d_MO_set_93 ml_MO_64 ok_MO_keep (s_MO_keep hI g5.nx g5.2.2 hkt) rfl rfl rfl rfl rfl (Nat.le_of_ble_eq_true rfl) (by decide) ?_
            rintro rv I6 F6 ⟨rfl, g6⟩
            dsimp only [Option.toList, List.cons_append, List.nil_append]
            refine xj_iret (pc := 96) d_MO_set_96 rfl ?_
            refine nk_E ⟨rfl, g6⟩ ?_
            rw [m_set]
            first | (rw [if_pos h66, l_of]; done) | (rw [if_neg h66, e5, show (n.toInt + ((sR S (nI ka)).length : Int)).toNat = n.toInt.toNat + (sR S (nI ka)).length by omega])
          · refine xj_iload_n (pc := 69) d_MO_set_69 rfl rfl ?_
            refine xj_i2l (pc := 70) d_MO_set_70 ?_
            refine xj_aload_n (pc := 71) d_MO_set_71 rfl rfl ?_
            refine xj_getR (pc := 72) d_MO_set_72 fl_MO_16 rfl rfl ?_
            refine xj_iload_n (pc := 75) d_MO_set_75 rfl rfl ?_
            refine xj_iald (pc := 76) d_MO_set_76 (n := 10) (x := 21) rfl rfl hka (by decide) ?_
            refine xj_i2l (pc := 77) d_MO_set_77 ?_
            refine xj_ladd (pc := 78) d_MO_set_78 ?_
            refine xj_goto (pc := 79) (tgt := 84) d_MO_set_79 (by decide) ?_
            refine xj_ldc2 (pc := 84) (v := 200) d_MO_set_84 kc_MO_68 ?_
            refine xj_callV (pc := 87) d_MO_set_87 ml_MO_60 ok_MO_lay (s_MO_lay hkb (g4.nx.mr hLb) g4.2.2 (by first | (rw [e5]; omega) | (rw [l_of]; omega))) rfl rfl rfl rfl rfl (Nat.le_of_ble_eq_true rfl) (by decide) ?_
            rintro rv I5 F5 ⟨rfl, g5⟩
            rw [l_200, List.take_of_length_le (show (sR S (nI kb)).length ≤ (200 : Int).toNat by omega)] at g5
            replace g5 := g4.tr g5
            dsimp only [Option.toList, List.cons_append, List.nil_append]
            refine xj_aload_n (pc := 90) d_MO_set_90 rfl rfl ?_
            refine xj_iload (pc := 91) d_MO_set_91 rfl ?_
            refine xj_callV (pc := 93) d_MO_set_93 ml_MO_64 ok_MO_keep (s_MO_keep hI g5.nx g5.2.2 hkt) rfl rfl rfl rfl rfl (Nat.le_of_ble_eq_true rfl) (by decide) ?_
            rintro rv I6 F6 ⟨rfl, g6⟩
            dsimp only [Option.toList, List.cons_append, List.nil_append]
            refine xj_iret (pc := 96) d_MO_set_96 rfl ?_
            refine nk_E ⟨rfl, g6⟩ ?_
            rw [m_set]
            first | (rw [if_pos h66, l_of]; done) | (rw [if_neg h66, e5, show (n.toInt + ((sR S (nI ka)).length : Int)).toNat = n.toInt.toNat + (sR S (nI ka)).length by omega])
        · refine xj_iconst (pc := 26) (v := -1) d_MO_set_26 (by decide) ?_
          refine xj_iret (pc := 27) d_MO_set_27 rfl ?_
          exact nk_none hI (if_neg (fun q => by simp only [Bool.and_eq_true, decide_eq_true_eq] at q; first | (rw [n_le, n_0] at h23; omega) | (rw [b01_eq h19] at q; simp at q; done) | (rw [b01_eq h11] at q; simp at q; done) | (rw [b01_eq h4] at q; simp at q; done)))
end MOD
