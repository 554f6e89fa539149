section MOJ
variable {I I1 I2 : XI} {F F1 F2 : XF} {S : XSt} {r k : Nat} {M X L T : List Int32}
theorem t_MO_space_l {n : Int32} {ka kt : Nat} (hI : MI I F S) (hka : ka < 10) (hkt : kt < 10) (hL : Mr F ka L) : ∀ (m i : Nat) (I1 : XI) (F1 : XF), i + m = (wst L).length → Ms (m_sp S.2.2 L n.toInt.toNat i) I F I1 F1 →
    XJ none m_MO_space 35 [some (.ref 36), some (.int (nI ka)), some (.int n), some (.int (nI kt)), some (.int (nI (wst L).length)), some (.int (nI (i + 1)))] [] I1 F1 (NQ (sMk S (nI kt) (m_sp S.2.2 L n.toInt.toNat (wst L).length)) I F) := by
  have h200 := hL.2.1
  have hcn := wst_cnt h200
  intro m
  induction m with
  | zero =>
    intro i I1 F1 hi g1
    refine xj_iload (pc := 35) d_MO_space_35 rfl ?_
    refine xj_iload (pc := 37) d_MO_space_37 rfl ?_
    refine xj_icmp_gt (pc := 39) (tgt := 86) d_MO_space_39 (by decide) (fun h39 => ?_) (fun h39 => absurd (by rw [n_lt, n_nI (by omega), n_nI (by omega)]; omega) h39)
    refine xj_aload_n (pc := 86) d_MO_space_86 rfl rfl ?_
    refine xj_iload_n (pc := 87) d_MO_space_87 rfl rfl ?_
    refine xj_callV (pc := 88) d_MO_space_88 ml_MO_64 ok_MO_keep (s_MO_keep hI g1.nx g1.2.2 hkt) rfl rfl rfl rfl rfl (Nat.le_of_ble_eq_true rfl) (by decide) ?_
    rintro rv I4 F4 ⟨rfl, g4⟩
    dsimp only [Option.toList, List.cons_append, List.nil_append]
    refine xj_iret (pc := 91) d_MO_space_91 rfl ?_
    exact nk_E ⟨rfl, g4⟩ (by rw [show i = (wst L).length by omega])
  | succ m ih =>
    intro i I1 F1 hi g1
    have h1 := wbg_le L i
    have h2 := wen_le h1
    have hsp := m_sp_succ S.2.2 L n.toInt.toNat i
    have hwa : (L.take (wen L (wbg L i))).drop (wbg L i) = wat L i := by rw [← wsp_wen (by omega)]; exact wat_sl L i
    by_cases h0 : i = 0
    · subst h0
      rw [if_pos rfl, List.nil_append] at hsp
      refine xj_iload (pc := 35) d_MO_space_35 rfl ?_
      refine xj_iload (pc := 37) d_MO_space_37 rfl ?_
      refine xj_icmp_gt (pc := 39) (tgt := 86) d_MO_space_39 (by decide) (fun h39 => absurd h39 (by rw [n_lt, n_nI (by omega), n_nI (by omega)]; omega)) (fun h39 => ?_)
      refine xj_iload (pc := 42) d_MO_space_42 rfl ?_
      refine xj_iconst (pc := 44) (v := 1) d_MO_space_44 (by decide) ?_
      refine xj_icmp_le (pc := 45) (tgt := 54) d_MO_space_45 (by decide) (fun h45 => ?_) (fun h45 => absurd (by rw [n_le, n_1, n_nI (by omega)]; omega) h45)
      refine xj_aload_n (pc := 54) d_MO_space_54 rfl rfl ?_
      refine xj_iload_n (pc := 55) d_MO_space_55 rfl rfl ?_
      refine xj_aload_n (pc := 56) d_MO_space_56 rfl rfl ?_
      refine xj_iload_n (pc := 57) d_MO_space_57 rfl rfl ?_
      refine xj_iload (pc := 58) d_MO_space_58 rfl ?_
      refine xj_callV (pc := 60) d_MO_space_60 ml_MO_85 ok_MO_begin (s_MO_begin hka (g1.nx.mr hL) (by omega)) rfl rfl rfl rfl rfl (Nat.le_of_ble_eq_true rfl) (by decide) ?_
      rintro rv I1 F1 ⟨rfl, rfl, rfl⟩
      dsimp only [Option.toList, List.cons_append, List.nil_append]
      refine xj_i2l (pc := 63) d_MO_space_63 ?_
      refine xj_aload_n (pc := 64) d_MO_space_64 rfl rfl ?_
      refine xj_iload_n (pc := 65) d_MO_space_65 rfl rfl ?_
      refine xj_aload_n (pc := 66) d_MO_space_66 rfl rfl ?_
      refine xj_iload_n (pc := 67) d_MO_space_67 rfl rfl ?_
      refine xj_iload (pc := 68) d_MO_space_68 rfl ?_
      refine xj_callV (pc := 70) d_MO_space_70 ml_MO_85 ok_MO_begin (s_MO_begin hka (g1.nx.mr hL) (by omega)) rfl rfl rfl rfl rfl (Nat.le_of_ble_eq_true rfl) (by decide) ?_
      rintro rv I1 F1 ⟨rfl, rfl, rfl⟩
      dsimp only [Option.toList, List.cons_append, List.nil_append]
      refine xj_callV (pc := 73) d_MO_space_73 ml_MO_88 ok_MO_wordEnd (s_MO_wordEnd hka (g1.nx.mr hL) h1) rfl rfl rfl rfl rfl (Nat.le_of_ble_eq_true rfl) (by decide) ?_
      rintro rv I1 F1 ⟨rfl, rfl, rfl⟩
      dsimp only [Option.toList, List.cons_append, List.nil_append]
      refine xj_i2l (pc := 76) d_MO_space_76 ?_
      refine xj_callV (pc := 77) d_MO_space_77 ml_MO_60 ok_MO_lay (s_MO_lay hka (g1.nx.mr hL) g1.2.2 (by rw [l_of, n_nI (by omega)]; omega)) rfl rfl rfl rfl rfl (Nat.le_of_ble_eq_true rfl) (by decide) ?_
      rintro rv I2 F2 ⟨rfl, g2⟩
      rw [l_of, l_of, n_nI (by omega), n_nI (by omega), Int.toNat_natCast, Int.toNat_natCast, hwa, ← hsp] at g2
      replace g2 := g1.tr g2
      dsimp only [Option.toList, List.cons_append, List.nil_append]
      refine xj_inc1 (pc := 80) d_MO_space_80 rfl (by decide) rfl ?_
      dsimp only [xset, xset2, xkill]
      rw [n_up]
      refine xj_goto (pc := 83) (tgt := 35) d_MO_space_83 (by decide) ?_
      exact ih (0 + 1) I2 F2 (by omega) g2
    · rw [if_neg h0, ← List.append_assoc] at hsp
      refine xj_iload (pc := 35) d_MO_space_35 rfl ?_
      refine xj_iload (pc := 37) d_MO_space_37 rfl ?_
      refine xj_icmp_gt (pc := 39) (tgt := 86) d_MO_space_39 (by decide) (fun h39 => absurd h39 (by rw [n_lt, n_nI (by omega), n_nI (by omega)]; omega)) (fun h39 => ?_)
      refine xj_iload (pc := 42) d_MO_space_42 rfl ?_
      refine xj_iconst (pc := 44) (v := 1) d_MO_space_44 (by decide) ?_
      refine xj_icmp_le (pc := 45) (tgt := 54) d_MO_space_45 (by decide) (fun h45 => absurd h45 (by rw [n_le, n_1, n_nI (by omega)]; omega)) (fun h45 => ?_)
      refine xj_aload_n (pc := 48) d_MO_space_48 rfl rfl ?_
      refine xj_iload_n (pc := 49) d_MO_space_49 rfl rfl ?_
      refine xj_i2l (pc := 50) d_MO_space_50 ?_
      refine xj_callV (pc := 51) d_MO_space_51 ml_MO_56 ok_MO_pads (s_MO_pads (hI.pd g1.nx) g1.2.2) rfl rfl rfl rfl rfl (Nat.le_of_ble_eq_true rfl) (by decide) ?_
      rintro rv I2 F2 ⟨rfl, g2⟩
      rw [l_of] at g2
      replace g2 := g1.tr g2
      dsimp only [Option.toList, List.cons_append, List.nil_append]
      refine xj_aload_n (pc := 54) d_MO_space_54 rfl rfl ?_
      refine xj_iload_n (pc := 55) d_MO_space_55 rfl rfl ?_
      refine xj_aload_n (pc := 56) d_MO_space_56 rfl rfl ?_
      refine xj_iload_n (pc := 57) d_MO_space_57 rfl rfl ?_
      refine xj_iload (pc := 58) d_MO_space_58 rfl ?_
      refine xj_callV (pc := 60) d_MO_space_60 ml_MO_85 ok_MO_begin (s_MO_begin hka (g2.nx.mr hL) (by omega)) rfl rfl rfl rfl rfl (Nat.le_of_ble_eq_true rfl) (by decide) ?_
      rintro rv I1 F1 ⟨rfl, rfl, rfl⟩
      dsimp only [Option.toList, List.cons_append, List.nil_append]
      refine xj_i2l (pc := 63) d_MO_space_63 ?_
      refine xj_aload_n (pc := 64) d_MO_space_64 rfl rfl ?_
      refine xj_iload_n (pc := 65) d_MO_space_65 rfl rfl ?_
      refine xj_aload_n (pc := 66) d_MO_space_66 rfl rfl ?_
      refine xj_iload_n (pc := 67) d_MO_space_67 rfl rfl ?_
      refine xj_iload (pc := 68) d_MO_space_68 rfl ?_
      refine xj_callV (pc := 70) d_MO_space_70 ml_MO_85 ok_MO_begin (s_MO_begin hka (g2.nx.mr hL) (by omega)) rfl rfl rfl rfl rfl (Nat.le_of_ble_eq_true rfl) (by decide) ?_
      rintro rv I1 F1 ⟨rfl, rfl, rfl⟩
      dsimp only [Option.toList, List.cons_append, List.nil_append]
      refine xj_callV (pc := 73) d_MO_space_73 ml_MO_88 ok_MO_wordEnd (s_MO_wordEnd hka (g2.nx.mr hL) h1) rfl rfl rfl rfl rfl (Nat.le_of_ble_eq_true rfl) (by decide) ?_
      rintro rv I1 F1 ⟨rfl, rfl, rfl⟩
      dsimp only [Option.toList, List.cons_append, List.nil_append]
      refine xj_i2l (pc := 76) d_MO_space_76 ?_
      refine xj_callV (pc := 77) d_MO_space_77 ml_MO_60 ok_MO_lay (s_MO_lay hka (g2.nx.mr hL) g2.2.2 (by rw [l_of, n_nI (by omega)]; omega)) rfl rfl rfl rfl rfl (Nat.le_of_ble_eq_true rfl) (by decide) ?_
      rintro rv I3 F3 ⟨rfl, g3⟩
      rw [l_of, l_of, n_nI (by omega), n_nI (by omega), Int.toNat_natCast, Int.toNat_natCast, hwa, ← hsp] at g3
      replace g3 := g2.tr g3
      dsimp only [Option.toList, List.cons_append, List.nil_append]
      refine xj_inc1 (pc := 80) d_MO_space_80 rfl (by decide) rfl ?_
      dsimp only [xset, xset2, xkill]
      rw [n_up]
      refine xj_goto (pc := 83) (tgt := 35) d_MO_space_83 (by decide) ?_
      exact ih (i + 1) I3 F3 (by omega) g3
theorem t_MO_space {a n to : Int32} (hI : MI I F S) : XM m_MO_space [.ref 36, .int a, .int n, .int to] I F (NQ (sp_space S a n to) I F) := by
  refine XM.of (by decide) (Nat.le_of_ble_eq_true rfl) ?_
  dsimp only [xargs]
  have g0 : Ms [] I F (upd I 18 0) F := Ms.zero
  refine xj_iload_n (pc := 0) d_MO_space_0 rfl rfl ?_
  refine xj_callS (pc := 1) d_MO_space_1 ml_MO_42 ok_MO_is (s_MO_is) rfl rfl rfl (Nat.le_of_ble_eq_true rfl) (by decide) ?_
  rintro rv I1 F1 ⟨rfl, rfl, rfl⟩
  dsimp only [Option.toList, List.cons_append, List.nil_append]
  refine xj_if_eq (pc := 4) (tgt := 18) d_MO_space_4 (by decide) (fun h4 => ?_) (fun h4 => ?_)
  · refine xj_iconst (pc := 18) (v := -1) d_MO_space_18 (by decide) ?_
    refine xj_iret (pc := 19) d_MO_space_19 rfl ?_
    exact nk_none hI (if_neg (fun q => by simp only [Bool.and_eq_true, decide_eq_true_eq] at q; first | (rw [n_le, n_0] at h15; omega) | (rw [b01_eq h11] at q; simp at q; done) | (rw [b01_eq h4] at q; simp at q; done)))
  · refine xj_iload_n (pc := 7) d_MO_space_7 rfl rfl ?_
    refine xj_callS (pc := 8) d_MO_space_8 ml_MO_42 ok_MO_is (s_MO_is) rfl rfl rfl (Nat.le_of_ble_eq_true rfl) (by decide) ?_
    rintro rv I1 F1 ⟨rfl, rfl, rfl⟩
    dsimp only [Option.toList, List.cons_append, List.nil_append]
    refine xj_if_eq (pc := 11) (tgt := 18) d_MO_space_11 (by decide) (fun h11 => ?_) (fun h11 => ?_)
    · refine xj_iconst (pc := 18) (v := -1) d_MO_space_18 (by decide) ?_
      refine xj_iret (pc := 19) d_MO_space_19 rfl ?_
      exact nk_none hI (if_neg (fun q => by simp only [Bool.and_eq_true, decide_eq_true_eq] at q; first | (rw [n_le, n_0] at h15; omega) | (rw [b01_eq h11] at q; simp at q; done) | (rw [b01_eq h4] at q; simp at q; done)))
    · refine xj_iload_n (pc := 14) d_MO_space_14 rfl rfl ?_
      refine xj_if_ge (pc := 15) (tgt := 20) d_MO_space_15 (by decide) (fun h15 => ?_) (fun h15 => ?_)
      · have ha := b01_ne h4
        have hto := b01_ne h11
        rw [n_le, n_0] at h15
        rw [sp_space, if_pos (by simp only [ha, hto, Bool.true_and, decide_eq_true_eq]; omega)]
        obtain ⟨ka, hka, rfl, ta⟩ := isR_k ha
        obtain ⟨kt, hkt, rfl, tt⟩ := isR_k hto
        have hL := hI.at hka ta
        refine xj_aload_n (pc := 20) d_MO_space_20 rfl rfl ?_
        refine xj_iconst (pc := 21) (v := 0) d_MO_space_21 (by decide) ?_
        refine xj_putI (pc := 22) d_MO_space_22 fl_MO_50 fp_MO_many rfl rfl ?_
        refine xj_aload_n (pc := 25) d_MO_space_25 rfl rfl ?_
        refine xj_iload_n (pc := 26) d_MO_space_26 rfl rfl ?_
        refine xj_callV (pc := 27) d_MO_space_27 ml_MO_82 ok_MO_words (s_MO_words hka (g0.nx.mr hL)) rfl rfl rfl rfl rfl (Nat.le_of_ble_eq_true rfl) (by decide) ?_
        rintro rv I1 F1 ⟨rfl, rfl, rfl⟩
        dsimp only [Option.toList, List.cons_append, List.nil_append]
        refine xj_istore (pc := 30) d_MO_space_30 (by decide) rfl ?_
        dsimp only [xset, xset2, xkill]
        refine xj_iconst (pc := 32) (v := 1) d_MO_space_32 (by decide) ?_
        refine xj_istore (pc := 33) d_MO_space_33 (by decide) rfl ?_
        dsimp only [xset, xset2, xkill]
        exact t_MO_space_l hI hka hkt hL _ 0 _ F (by rw [Nat.zero_add]) g0
      · refine xj_iconst (pc := 18) (v := -1) d_MO_space_18 (by decide) ?_
        refine xj_iret (pc := 19) d_MO_space_19 rfl ?_
        exact nk_none hI (if_neg (fun q => by simp only [Bool.and_eq_true, decide_eq_true_eq] at q; first | (rw [n_le, n_0] at h15; omega) | (rw [b01_eq h11] at q; simp at q; done) | (rw [b01_eq h4] at q; simp at q; done)))
/-! some -/
theorem so_l {k n : Int32} : (k.toInt64 + n.toInt64 - 1).toInt = k.toInt + n.toInt - 1 := by
  have := n_hi k
  have := n_lo k
  have := n_hi n
  have := n_lo n
  have e : (k.toInt64 + n.toInt64).toInt = k.toInt + n.toInt := by rw [l_add (by rw [l_of, l_of]; omega) (by rw [l_of, l_of]; omega), l_of, l_of]
  rw [l_sub (by rw [e, l_1]; omega) (by rw [e, l_1]; omega), e, l_1]
theorem so_all {L : List Int32} {k1 b : Nat} {n : Int} {wo : Int32} (h : ¬ wo = 0) (hn : -1 ≤ n) (hb : b = if n = -1 then (wst L).length else min (min k1 (wst L).length + n.toNat) (wst L).length) (hlt : ¬ min k1 (wst L).length < b) : L = m_some L k1 n wo := by
  rw [← so_wo h hb, show b = min k1 (wst L).length by rw [hb] at hlt ⊢; split <;> (try split at hlt) <;> omega, List.take_append_drop]
theorem t_MO_some_e {k n wo : Int32} {ka kt b : Nat} {w : Int32} {ls : Int64} (hI : MI I F S) (hka : ka < 10) (hkt : kt < 10) (hL : Mr F ka L) (hk : 1 ≤ k.toInt) (hn : -1 ≤ n.toInt) (hb : b = if n.toInt = -1 then (wst L).length else min (min (k.toInt.toNat - 1) (wst L).length + n.toInt.toNat) (wst L).length) (hlt : min (k.toInt.toNat - 1) (wst L).length < b) (hls : ls.toInt = b) (g0 : Ms [] I F I1 F1) : XJ none m_MO_some 108 [some (.ref 36), some (.int (nI ka)), some (.int k), some (.int n), some (.int wo), some (.int (nI kt)), some (.int w), some (.long ls), none, some (.int 0)] [] I1 F1 (NQ (sMk S (nI kt) (m_some L (k.toInt.toNat - 1) n.toInt wo)) I F) := by
  have := n_hi k
  have h200 := hL.2.1
  have hcn := wst_cnt h200
  have hb2 : b ≤ (wst L).length := by rw [hb]; split <;> omega
  have hf : min (k.toInt.toNat - 1) (wst L).length = k.toInt.toNat - 1 := by omega
  have ek : k = nI (k.toInt.toNat - 1 + 1) := n_of (by omega)
  have els : ls.toInt32 = nI (b - 1 + 1) := n_of (by rw [l_i (by omega) (by omega), hls]; omega)
  have els2 : ls.toInt32 + 1 = nI (b + 1) := by rw [show ls.toInt32 = nI b from n_of (by rw [l_i (by omega) (by omega), hls]), n_up]
  have q1 := wbg_le L (k.toInt.toNat - 1)
  have q2 := wbg_le L (b - 1)
  have q3 := wen_le q2
  have q4 := wbg_le L b
  have hL1 := g0.nx.mr hL
  by_cases ho : wo = 0
  · have eM := so_in ho hb hlt hb2
    rw [hf, wsp_wen (by omega)] at eM
    refine xj_aload_n (pc := 108) d_MO_some_108 rfl rfl ?_
    refine xj_iload_n (pc := 109) d_MO_some_109 rfl rfl ?_
    refine xj_iload_n (pc := 110) d_MO_some_110 rfl rfl ?_
    rw [show (Value.int k) = Value.int (nI (k.toInt.toNat - 1 + 1)) by rw [← ek]]
    refine xj_callV (pc := 111) d_MO_some_111 ml_MO_85 ok_MO_begin (s_MO_begin hka hL1 (by omega)) rfl rfl rfl rfl rfl (Nat.le_of_ble_eq_true rfl) (by decide) ?_
    rintro rv I1 F1 ⟨rfl, rfl, rfl⟩
    dsimp only [Option.toList, List.cons_append, List.nil_append]
    refine xj_istore (pc := 114) d_MO_some_114 (by decide) rfl ?_
    dsimp only [xset, xset2, xkill]
    refine xj_iload (pc := 116) d_MO_some_116 rfl ?_
    refine xj_if_ne (pc := 118) (tgt := 155) d_MO_some_118 (by decide) (fun h118 => absurd (ho) h118) (fun h118 => ?_)
    refine xj_iload (pc := 121) d_MO_some_121 rfl ?_
    refine xj_if_ne (pc := 123) (tgt := 148) d_MO_some_123 (by decide) (fun h123 => absurd (rfl) h123) (fun h123 => ?_)
    refine xj_aload_n (pc := 126) d_MO_some_126 rfl rfl ?_
    refine xj_iload_n (pc := 127) d_MO_some_127 rfl rfl ?_
    refine xj_iload (pc := 128) d_MO_some_128 rfl ?_
    refine xj_i2l (pc := 130) d_MO_some_130 ?_
    refine xj_aload_n (pc := 131) d_MO_some_131 rfl rfl ?_
    refine xj_iload_n (pc := 132) d_MO_some_132 rfl rfl ?_
    refine xj_aload_n (pc := 133) d_MO_some_133 rfl rfl ?_
    refine xj_iload_n (pc := 134) d_MO_some_134 rfl rfl ?_
    refine xj_lload (pc := 135) d_MO_some_135 rfl ?_
    refine xj_l2i (pc := 137) d_MO_some_137 ?_
    rw [els]
    refine xj_callV (pc := 138) d_MO_some_138 ml_MO_85 ok_MO_begin (s_MO_begin hka hL1 (by omega)) rfl rfl rfl rfl rfl (Nat.le_of_ble_eq_true rfl) (by decide) ?_
    rintro rv I1 F1 ⟨rfl, rfl, rfl⟩
    dsimp only [Option.toList, List.cons_append, List.nil_append]
    refine xj_callV (pc := 141) d_MO_some_141 ml_MO_88 ok_MO_wordEnd (s_MO_wordEnd hka hL1 q2) rfl rfl rfl rfl rfl (Nat.le_of_ble_eq_true rfl) (by decide) ?_
    rintro rv I1 F1 ⟨rfl, rfl, rfl⟩
    dsimp only [Option.toList, List.cons_append, List.nil_append]
    refine xj_i2l (pc := 144) d_MO_some_144 ?_
    refine xj_callV (pc := 145) d_MO_some_145 ml_MO_60 ok_MO_lay (s_MO_lay hka hL1 g0.2.2 (by rw [l_of, n_nI (by omega)]; omega)) rfl rfl rfl rfl rfl (Nat.le_of_ble_eq_true rfl) (by decide) ?_
    rintro rv I2 F2 ⟨rfl, g2⟩
    rw [l_of, l_of, n_nI (by omega), n_nI (by omega), Int.toNat_natCast, Int.toNat_natCast, List.nil_append, eM] at g2
    replace g2 := g0.tr g2
    dsimp only [Option.toList, List.cons_append, List.nil_append]
    refine xj_aload_n (pc := 148) d_MO_some_148 rfl rfl ?_
    refine xj_iload (pc := 149) d_MO_some_149 rfl ?_
    refine xj_callV (pc := 151) d_MO_some_151 ml_MO_64 ok_MO_keep (s_MO_keep hI g2.nx g2.2.2 hkt) rfl rfl rfl rfl rfl (Nat.le_of_ble_eq_true rfl) (by decide) ?_
    rintro rv I4 F4 ⟨rfl, g4⟩
    dsimp only [Option.toList, List.cons_append, List.nil_append]
    refine xj_iret (pc := 154) d_MO_some_154 rfl ?_
    exact ⟨rfl, g4⟩
  · have eM := so_wo ho hb
    rw [hf] at eM
    refine xj_aload_n (pc := 108) d_MO_some_108 rfl rfl ?_
    refine xj_iload_n (pc := 109) d_MO_some_109 rfl rfl ?_
    refine xj_iload_n (pc := 110) d_MO_some_110 rfl rfl ?_
    rw [show (Value.int k) = Value.int (nI (k.toInt.toNat - 1 + 1)) by rw [← ek]]
    refine xj_callV (pc := 111) d_MO_some_111 ml_MO_85 ok_MO_begin (s_MO_begin hka hL1 (by omega)) rfl rfl rfl rfl rfl (Nat.le_of_ble_eq_true rfl) (by decide) ?_
    rintro rv I1 F1 ⟨rfl, rfl, rfl⟩
    dsimp only [Option.toList, List.cons_append, List.nil_append]
    refine xj_istore (pc := 114) d_MO_some_114 (by decide) rfl ?_
    dsimp only [xset, xset2, xkill]
    refine xj_iload (pc := 116) d_MO_some_116 rfl ?_
    refine xj_if_ne (pc := 118) (tgt := 155) d_MO_some_118 (by decide) (fun h118 => ?_) (fun h118 => absurd h118 (ho))
    refine xj_aload_n (pc := 155) d_MO_some_155 rfl rfl ?_
    refine xj_iload_n (pc := 156) d_MO_some_156 rfl rfl ?_
    refine xj_lconst (pc := 157) (v := 0) d_MO_some_157 (by decide) ?_
    refine xj_iload (pc := 158) d_MO_some_158 rfl ?_
    refine xj_i2l (pc := 160) d_MO_some_160 ?_
    refine xj_callV (pc := 161) d_MO_some_161 ml_MO_60 ok_MO_lay (s_MO_lay hka hL1 g0.2.2 (by rw [l_0]; omega)) rfl rfl rfl rfl rfl (Nat.le_of_ble_eq_true rfl) (by decide) ?_
    rintro rv I2 F2 ⟨rfl, g2⟩
    rw [l_of, l_0, n_nI (by omega), Int.toNat_natCast, show (0 : Int).toNat = 0 from rfl, List.drop_zero, List.nil_append] at g2
    replace g2 := g0.tr g2
    dsimp only [Option.toList, List.cons_append, List.nil_append]
    refine xj_iload (pc := 164) d_MO_some_164 rfl ?_
    refine xj_if_ne (pc := 166) (tgt := 188) d_MO_some_166 (by decide) (fun h166 => absurd (rfl) h166) (fun h166 => ?_)
    refine xj_aload_n (pc := 169) d_MO_some_169 rfl rfl ?_
    refine xj_iload_n (pc := 170) d_MO_some_170 rfl rfl ?_
    refine xj_aload_n (pc := 171) d_MO_some_171 rfl rfl ?_
    refine xj_iload_n (pc := 172) d_MO_some_172 rfl rfl ?_
    refine xj_lload (pc := 173) d_MO_some_173 rfl ?_
    refine xj_l2i (pc := 175) d_MO_some_175 ?_
    refine xj_iconst (pc := 176) (v := 1) d_MO_some_176 (by decide) ?_
    refine xj_iadd (pc := 177) d_MO_some_177 ?_
    rw [els2]
    refine xj_callV (pc := 178) d_MO_some_178 ml_MO_85 ok_MO_begin (s_MO_begin hka (g2.nx.mr hL) (by omega)) rfl rfl rfl rfl rfl (Nat.le_of_ble_eq_true rfl) (by decide) ?_
    rintro rv I1 F1 ⟨rfl, rfl, rfl⟩
    dsimp only [Option.toList, List.cons_append, List.nil_append]
    refine xj_i2l (pc := 181) d_MO_some_181 ?_
    refine xj_ldc2 (pc := 182) (v := 200) d_MO_some_182 kc_MO_68 ?_
    refine xj_callV (pc := 185) d_MO_some_185 ml_MO_60 ok_MO_lay (s_MO_lay hka (g2.nx.mr hL) g2.2.2 (by rw [l_of, n_nI (by omega)]; omega)) rfl rfl rfl rfl rfl (Nat.le_of_ble_eq_true rfl) (by decide) ?_
    rintro rv I3 F3 ⟨rfl, g3⟩
    rw [l_of, l_200, n_nI (by omega), Int.toNat_natCast, List.take_of_length_le (show L.length ≤ (200 : Int).toNat by omega), eM] at g3
    replace g3 := g2.tr g3
    dsimp only [Option.toList, List.cons_append, List.nil_append]
    refine xj_aload_n (pc := 188) d_MO_some_188 rfl rfl ?_
    refine xj_iload (pc := 189) d_MO_some_189 rfl ?_
    refine xj_callV (pc := 191) d_MO_some_191 ml_MO_64 ok_MO_keep (s_MO_keep hI g3.nx g3.2.2 hkt) rfl rfl rfl rfl rfl (Nat.le_of_ble_eq_true rfl) (by decide) ?_
    rintro rv I4 F4 ⟨rfl, g4⟩
    dsimp only [Option.toList, List.cons_append, List.nil_append]
    refine xj_iret (pc := 194) d_MO_some_194 rfl ?_
    exact ⟨rfl, g4⟩
theorem t_MO_some_n {k n wo : Int32} {ka kt b : Nat} {w : Int32} {ls : Int64} (hI : MI I F S) (hka : ka < 10) (hkt : kt < 10) (hL : Mr F ka L) (hn : -1 ≤ n.toInt) (hb : b = if n.toInt = -1 then (wst L).length else min (min (k.toInt.toNat - 1) (wst L).length + n.toInt.toNat) (wst L).length) (hlt : ¬ min (k.toInt.toNat - 1) (wst L).length < b) (g0 : Ms [] I F I1 F1) : XJ none m_MO_some 99 [some (.ref 36), some (.int (nI ka)), some (.int k), some (.int n), some (.int wo), some (.int (nI kt)), some (.int w), some (.long ls), none, some (.int 1)] [] I1 F1 (NQ (sMk S (nI kt) (m_some L (k.toInt.toNat - 1) n.toInt wo)) I F) := by
  have h200 := hL.2.1
  have hL1 := g0.nx.mr hL
  by_cases ho : wo = 0
  · have eM := so_no ho hb hlt
    refine xj_aload_n (pc := 99) d_MO_some_99 rfl rfl ?_
    refine xj_getR (pc := 100) d_MO_some_100 fl_MO_16 rfl rfl ?_
    refine xj_iload_n (pc := 103) d_MO_some_103 rfl rfl ?_
    refine xj_iald (pc := 104) d_MO_some_104 (n := 10) (x := 21) rfl rfl hka (by decide) ?_
    refine xj_goto (pc := 105) (tgt := 114) d_MO_some_105 (by decide) ?_
    refine xj_istore (pc := 114) d_MO_some_114 (by decide) rfl ?_
    dsimp only [xset, xset2, xkill]
    refine xj_iload (pc := 116) d_MO_some_116 rfl ?_
    refine xj_if_ne (pc := 118) (tgt := 155) d_MO_some_118 (by decide) (fun h118 => absurd (ho) h118) (fun h118 => ?_)
    refine xj_iload (pc := 121) d_MO_some_121 rfl ?_
    refine xj_if_ne (pc := 123) (tgt := 148) d_MO_some_123 (by decide) (fun h123 => ?_) (fun h123 => absurd h123 (by decide))
    refine xj_aload_n (pc := 148) d_MO_some_148 rfl rfl ?_
    refine xj_iload (pc := 149) d_MO_some_149 rfl ?_
    refine xj_callV (pc := 151) d_MO_some_151 ml_MO_64 ok_MO_keep (s_MO_keep hI g0.nx g0.2.2 hkt) rfl rfl rfl rfl rfl (Nat.le_of_ble_eq_true rfl) (by decide) ?_
    rintro rv I4 F4 ⟨rfl, g4⟩
    dsimp only [Option.toList, List.cons_append, List.nil_append]
    refine xj_iret (pc := 154) d_MO_some_154 rfl ?_
    exact nk_E ⟨rfl, g4⟩ eM
  · have eM := so_all ho hn hb hlt
    refine xj_aload_n (pc := 99) d_MO_some_99 rfl rfl ?_
    refine xj_getR (pc := 100) d_MO_some_100 fl_MO_16 rfl rfl ?_
    refine xj_iload_n (pc := 103) d_MO_some_103 rfl rfl ?_
    refine xj_iald (pc := 104) d_MO_some_104 (n := 10) (x := 21) rfl rfl hka (by decide) ?_
    refine xj_goto (pc := 105) (tgt := 114) d_MO_some_105 (by decide) ?_
    refine xj_istore (pc := 114) d_MO_some_114 (by decide) rfl ?_
    dsimp only [xset, xset2, xkill]
    refine xj_iload (pc := 116) d_MO_some_116 rfl ?_
    refine xj_if_ne (pc := 118) (tgt := 155) d_MO_some_118 (by decide) (fun h118 => ?_) (fun h118 => absurd h118 (ho))
    refine xj_aload_n (pc := 155) d_MO_some_155 rfl rfl ?_
    refine xj_iload_n (pc := 156) d_MO_some_156 rfl rfl ?_
    refine xj_lconst (pc := 157) (v := 0) d_MO_some_157 (by decide) ?_
    refine xj_iload (pc := 158) d_MO_some_158 rfl ?_
    refine xj_i2l (pc := 160) d_MO_some_160 ?_
    refine xj_callV (pc := 161) d_MO_some_161 ml_MO_60 ok_MO_lay (s_MO_lay hka hL1 g0.2.2 (by rw [l_0]; omega)) rfl rfl rfl rfl rfl (Nat.le_of_ble_eq_true rfl) (by decide) ?_
    rintro rv I2 F2 ⟨rfl, g2⟩
    rw [l_of, l_0, hL1.sz, Int.toNat_natCast, show (0 : Int).toNat = 0 from rfl, List.drop_zero, List.take_length, List.nil_append] at g2
    replace g2 := g0.tr g2
    dsimp only [Option.toList, List.cons_append, List.nil_append]
    refine xj_iload (pc := 164) d_MO_some_164 rfl ?_
    refine xj_if_ne (pc := 166) (tgt := 188) d_MO_some_166 (by decide) (fun h166 => ?_) (fun h166 => absurd h166 (by decide))
    refine xj_aload_n (pc := 188) d_MO_some_188 rfl rfl ?_
    refine xj_iload (pc := 189) d_MO_some_189 rfl ?_
    refine xj_callV (pc := 191) d_MO_some_191 ml_MO_64 ok_MO_keep (s_MO_keep hI g2.nx g2.2.2 hkt) rfl rfl rfl rfl rfl (Nat.le_of_ble_eq_true rfl) (by decide) ?_
    rintro rv I4 F4 ⟨rfl, g4⟩
    dsimp only [Option.toList, List.cons_append, List.nil_append]
    refine xj_iret (pc := 194) d_MO_some_194 rfl ?_
    exact nk_E ⟨rfl, g4⟩ eM
theorem t_MO_some {a k n wo to : Int32} (hI : MI I F S) : XM m_MO_some [.ref 36, .int a, .int k, .int n, .int wo, .int to] I F (NQ (sp_some S a k n wo to) I F) := by
  refine XM.of (by decide) (Nat.le_of_ble_eq_true rfl) ?_
  dsimp only [xargs]
  have := n_hi k
  have := n_hi n
  have g0 : Ms [] I F (upd I 18 0) F := Ms.zero
  have hmid : ∀ (ka kt : Nat) (ls : Int64), ka < 10 → kt < 10 → (nI ka).toInt.toNat = ka → 1 ≤ k.toInt → -1 ≤ n.toInt → ls.toInt = (if n.toInt = -1 ∨ ((wst (sR S (nI ka))).length : Int) < k.toInt + n.toInt - 1 then ((wst (sR S (nI ka))).length : Int) else k.toInt + n.toInt - 1) → XJ none m_MO_some 73 [some (.ref 36), some (.int (nI ka)), some (.int k), some (.int n), some (.int wo), some (.int (nI kt)), some (.int (nI (wst (sR S (nI ka))).length)), some (.long ls), none] [] (upd I 18 0) F (NQ (sMk S (nI kt) (m_some (sR S (nI ka)) (k.toInt.toNat - 1) n.toInt wo)) I F) := by
    intro ka kt ls hka hkt ta hk hn hls
    have hL := hI.at hka ta
    have h200 := hL.2.1
    have hcn := wst_cnt h200
    have elk : (k.toInt64).toInt = k.toInt := l_of k
    obtain ⟨b, hb⟩ : ∃ b, b = if n.toInt = -1 then (wst (sR S (nI ka))).length else min (min (k.toInt.toNat - 1) (wst (sR S (nI ka))).length + n.toInt.toNat) (wst (sR S (nI ka))).length := ⟨_, rfl⟩
    by_cases c1 : ((wst (sR S (nI ka))).length : Int) < k.toInt
    · refine xj_iload_n (pc := 73) d_MO_some_73 rfl rfl ?_
      refine xj_iload (pc := 74) d_MO_some_74 rfl ?_
      refine xj_icmp_gt (pc := 76) (tgt := 87) d_MO_some_76 (by decide) (fun h76 => ?_) (fun h76 => absurd (by rw [n_lt, n_nI (by omega)]; omega) h76)
      refine xj_iconst (pc := 87) (v := 1) d_MO_some_87 (by decide) ?_
      refine xj_goto (pc := 88) (tgt := 92) d_MO_some_88 (by decide) ?_
      refine xj_istore (pc := 92) d_MO_some_92 (by decide) rfl ?_
      dsimp only [xset, xset2, xkill]
      refine xj_iload (pc := 94) d_MO_some_94 rfl ?_
      refine xj_if_eq (pc := 96) (tgt := 108) d_MO_some_96 (by decide) (fun h96 => absurd h96 (by decide)) (fun h96 => ?_)
      exact t_MO_some_n hI hka hkt hL hn hb (by rw [hb]; split <;> omega) g0
    · by_cases c2 : ls.toInt < k.toInt
      · refine xj_iload_n (pc := 73) d_MO_some_73 rfl rfl ?_
        refine xj_iload (pc := 74) d_MO_some_74 rfl ?_
        refine xj_icmp_gt (pc := 76) (tgt := 87) d_MO_some_76 (by decide) (fun h76 => absurd h76 (by rw [n_lt, n_nI (by omega)]; omega)) (fun h76 => ?_)
        refine xj_lload (pc := 79) d_MO_some_79 rfl ?_
        refine xj_iload_n (pc := 81) d_MO_some_81 rfl rfl ?_
        refine xj_i2l (pc := 82) d_MO_some_82 ?_
        refine xj_lcmp (pc := 83) d_MO_some_83 ?_
        refine xj_if_ge (pc := 84) (tgt := 91) d_MO_some_84 (by decide) (fun h84 => absurd h84 (by rw [c_ge, elk]; omega)) (fun h84 => ?_)
        refine xj_iconst (pc := 87) (v := 1) d_MO_some_87 (by decide) ?_
        refine xj_goto (pc := 88) (tgt := 92) d_MO_some_88 (by decide) ?_
        refine xj_istore (pc := 92) d_MO_some_92 (by decide) rfl ?_
        dsimp only [xset, xset2, xkill]
        refine xj_iload (pc := 94) d_MO_some_94 rfl ?_
        refine xj_if_eq (pc := 96) (tgt := 108) d_MO_some_96 (by decide) (fun h96 => absurd h96 (by decide)) (fun h96 => ?_)
        exact t_MO_some_n hI hka hkt hL hn hb (by rw [hb]; rw [hls] at c2; split at c2 <;> split <;> omega) g0
      · refine xj_iload_n (pc := 73) d_MO_some_73 rfl rfl ?_
        refine xj_iload (pc := 74) d_MO_some_74 rfl ?_
        refine xj_icmp_gt (pc := 76) (tgt := 87) d_MO_some_76 (by decide) (fun h76 => absurd h76 (by rw [n_lt, n_nI (by omega)]; omega)) (fun h76 => ?_)
        refine xj_lload (pc := 79) d_MO_some_79 rfl ?_
        refine xj_iload_n (pc := 81) d_MO_some_81 rfl rfl ?_
        refine xj_i2l (pc := 82) d_MO_some_82 ?_
        refine xj_lcmp (pc := 83) d_MO_some_83 ?_
        refine xj_if_ge (pc := 84) (tgt := 91) d_MO_some_84 (by decide) (fun h84 => ?_) (fun h84 => absurd (by rw [c_ge, elk]; omega) h84)
        refine xj_iconst (pc := 91) (v := 0) d_MO_some_91 (by decide) ?_
        refine xj_istore (pc := 92) d_MO_some_92 (by decide) rfl ?_
        dsimp only [xset, xset2, xkill]
        refine xj_iload (pc := 94) d_MO_some_94 rfl ?_
        refine xj_if_eq (pc := 96) (tgt := 108) d_MO_some_96 (by decide) (fun h96 => ?_) (fun h96 => absurd (rfl) h96)
        exact t_MO_some_e hI hka hkt hL hk hn hb (by rw [hb]; rw [hls] at c2; split at c2 <;> split <;> omega) (by rw [hls, hb]; rw [hls] at c2; split at c2 <;> split <;> split <;> omega) g0
  refine xj_iload_n (pc := 0) d_MO_some_0 rfl rfl ?_
  refine xj_callS (pc := 1) d_MO_some_1 ml_MO_42 ok_MO_is (s_MO_is) rfl rfl rfl (Nat.le_of_ble_eq_true rfl) (by decide) ?_
  rintro rv I1 F1 ⟨rfl, rfl, rfl⟩
  dsimp only [Option.toList, List.cons_append, List.nil_append]
  refine xj_if_eq (pc := 4) (tgt := 25) d_MO_some_4 (by decide) (fun h4 => ?_) (fun h4 => ?_)
  · refine xj_iconst (pc := 25) (v := -1) d_MO_some_25 (by decide) ?_
    refine xj_iret (pc := 26) d_MO_some_26 rfl ?_
    exact nk_none hI (if_neg (fun q => by simp only [Bool.and_eq_true, decide_eq_true_eq] at q; first | (rw [n_le, n_m1] at h22; omega) | (rw [n_lt, n_1] at h17; omega) | (rw [b01_eq h12] at q; simp at q; done) | (rw [b01_eq h4] at q; simp at q; done)))
  · refine xj_iload (pc := 7) d_MO_some_7 rfl ?_
    refine xj_callS (pc := 9) d_MO_some_9 ml_MO_42 ok_MO_is (s_MO_is) rfl rfl rfl (Nat.le_of_ble_eq_true rfl) (by decide) ?_
    rintro rv I1 F1 ⟨rfl, rfl, rfl⟩
    dsimp only [Option.toList, List.cons_append, List.nil_append]
    refine xj_if_eq (pc := 12) (tgt := 25) d_MO_some_12 (by decide) (fun h12 => ?_) (fun h12 => ?_)
    · refine xj_iconst (pc := 25) (v := -1) d_MO_some_25 (by decide) ?_
      refine xj_iret (pc := 26) d_MO_some_26 rfl ?_
      exact nk_none hI (if_neg (fun q => by simp only [Bool.and_eq_true, decide_eq_true_eq] at q; first | (rw [n_le, n_m1] at h22; omega) | (rw [n_lt, n_1] at h17; omega) | (rw [b01_eq h12] at q; simp at q; done) | (rw [b01_eq h4] at q; simp at q; done)))
    · refine xj_iload_n (pc := 15) d_MO_some_15 rfl rfl ?_
      refine xj_iconst (pc := 16) (v := 1) d_MO_some_16 (by decide) ?_
      refine xj_icmp_lt (pc := 17) (tgt := 25) d_MO_some_17 (by decide) (fun h17 => ?_) (fun h17 => ?_)
      · refine xj_iconst (pc := 25) (v := -1) d_MO_some_25 (by decide) ?_
        refine xj_iret (pc := 26) d_MO_some_26 rfl ?_
        exact nk_none hI (if_neg (fun q => by simp only [Bool.and_eq_true, decide_eq_true_eq] at q; first | (rw [n_le, n_m1] at h22; omega) | (rw [n_lt, n_1] at h17; omega) | (rw [b01_eq h12] at q; simp at q; done) | (rw [b01_eq h4] at q; simp at q; done)))
      · refine xj_iload_n (pc := 20) d_MO_some_20 rfl rfl ?_
        refine xj_iconst (pc := 21) (v := -1) d_MO_some_21 (by decide) ?_
        refine xj_icmp_ge (pc := 22) (tgt := 27) d_MO_some_22 (by decide) (fun h22 => ?_) (fun h22 => ?_)
        · have ha := b01_ne h4
          have hto := b01_ne h12
          rw [n_lt, n_1] at h17
          rw [n_le, n_m1] at h22
          rw [sp_some, if_pos (by simp only [ha, hto, Bool.true_and, decide_eq_true_eq]; omega)]
          obtain ⟨ka, hka, rfl, ta⟩ := isR_k ha
          obtain ⟨kt, hkt, rfl, tt⟩ := isR_k hto
          have hL := hI.at hka ta
          have hcn := wst_cnt hL.2.1
          have e1 : (k.toInt64 + n.toInt64 - 1).toInt = k.toInt + n.toInt - 1 := so_l
          have e2 : (nI (wst (sR S (nI ka))).length).toInt64.toInt = (wst (sR S (nI ka))).length := by rw [l_of, n_nI (by omega)]
          refine xj_aload_n (pc := 27) d_MO_some_27 rfl rfl ?_
          refine xj_iconst (pc := 28) (v := 0) d_MO_some_28 (by decide) ?_
          refine xj_putI (pc := 29) d_MO_some_29 fl_MO_50 fp_MO_many rfl rfl ?_
          refine xj_aload_n (pc := 32) d_MO_some_32 rfl rfl ?_
          refine xj_iload_n (pc := 33) d_MO_some_33 rfl rfl ?_
          refine xj_callV (pc := 34) d_MO_some_34 ml_MO_82 ok_MO_words (s_MO_words hka (g0.nx.mr hL)) rfl rfl rfl rfl rfl (Nat.le_of_ble_eq_true rfl) (by decide) ?_
          rintro rv I1 F1 ⟨rfl, rfl, rfl⟩
          dsimp only [Option.toList, List.cons_append, List.nil_append]
          refine xj_istore (pc := 37) d_MO_some_37 (by decide) rfl ?_
          dsimp only [xset, xset2, xkill]
          refine xj_iload_n (pc := 39) d_MO_some_39 rfl rfl ?_
          refine xj_iconst (pc := 40) (v := -1) d_MO_some_40 (by decide) ?_
          refine xj_icmp_eq (pc := 41) (tgt := 58) d_MO_some_41 (by decide) (fun h41 => ?_) (fun h41 => ?_)
          · refine xj_iload (pc := 58) d_MO_some_58 rfl ?_
            refine xj_i2l (pc := 60) d_MO_some_60 ?_
            refine xj_goto (pc := 61) (tgt := 71) d_MO_some_61 (by decide) ?_
            refine xj_lstore (pc := 71) d_MO_some_71 (by decide) rfl ?_
            dsimp only [xset, xset2, xkill]
            refine hmid ka kt _ hka hkt ta (by omega) (by omega) ?_
            first | (rw [if_pos (Or.inl (by rw [h41, n_m1])), e2]; done) | (rw [c_le, e1, e2] at h55; first | (rw [if_pos (Or.inr (by omega)), e2]; done) | (rw [if_neg (by rintro (z | z); exact h41 (by rw [n_eq, n_m1]; exact z); omega), e1]))
          · refine xj_iload_n (pc := 44) d_MO_some_44 rfl rfl ?_
            refine xj_i2l (pc := 45) d_MO_some_45 ?_
            refine xj_iload_n (pc := 46) d_MO_some_46 rfl rfl ?_
            refine xj_i2l (pc := 47) d_MO_some_47 ?_
            refine xj_ladd (pc := 48) d_MO_some_48 ?_
            refine xj_lconst (pc := 49) (v := 1) d_MO_some_49 (by decide) ?_
            refine xj_lsub (pc := 50) d_MO_some_50 ?_
            refine xj_iload (pc := 51) d_MO_some_51 rfl ?_
            refine xj_i2l (pc := 53) d_MO_some_53 ?_
            refine xj_lcmp (pc := 54) d_MO_some_54 ?_
            refine xj_if_le (pc := 55) (tgt := 64) d_MO_some_55 (by decide) (fun h55 => ?_) (fun h55 => ?_)
            · refine xj_iload_n (pc := 64) d_MO_some_64 rfl rfl ?_
              refine xj_i2l (pc := 65) d_MO_some_65 ?_
              refine xj_iload_n (pc := 66) d_MO_some_66 rfl rfl ?_
              refine xj_i2l (pc := 67) d_MO_some_67 ?_
              refine xj_ladd (pc := 68) d_MO_some_68 ?_
              refine xj_lconst (pc := 69) (v := 1) d_MO_some_69 (by decide) ?_
              refine xj_lsub (pc := 70) d_MO_some_70 ?_
              refine xj_lstore (pc := 71) d_MO_some_71 (by decide) rfl ?_
              dsimp only [xset, xset2, xkill]
              refine hmid ka kt _ hka hkt ta (by omega) (by omega) ?_
              first | (rw [if_pos (Or.inl (by rw [h41, n_m1])), e2]; done) | (rw [c_le, e1, e2] at h55; first | (rw [if_pos (Or.inr (by omega)), e2]; done) | (rw [if_neg (by rintro (z | z); exact h41 (by rw [n_eq, n_m1]; exact z); omega), e1]))
            · refine xj_iload (pc := 58) d_MO_some_58 rfl ?_
              refine xj_i2l (pc := 60) d_MO_some_60 ?_
              refine xj_goto (pc := 61) (tgt := 71) d_MO_some_61 (by decide) ?_
              refine xj_lstore (pc := 71) d_MO_some_71 (by decide) rfl ?_
              dsimp only [xset, xset2, xkill]
              refine hmid ka kt _ hka hkt ta (by omega) (by omega) ?_
              first | (rw [if_pos (Or.inl (by rw [h41, n_m1])), e2]; done) | (rw [c_le, e1, e2] at h55; first | (rw [if_pos (Or.inr (by omega)), e2]; done) | (rw [if_neg (by rintro (z | z); exact h41 (by rw [n_eq, n_m1]; exact z); omega), e1]))
        · refine xj_iconst (pc := 25) (v := -1) d_MO_some_25 (by decide) ?_
          refine xj_iret (pc := 26) d_MO_some_26 rfl ?_
          exact nk_none hI (if_neg (fun q => by simp only [Bool.and_eq_true, decide_eq_true_eq] at q; first | (rw [n_le, n_m1] at h22; omega) | (rw [n_lt, n_1] at h17; omega) | (rw [b01_eq h12] at q; simp at q; done) | (rw [b01_eq h4] at q; simp at q; done)))
/-! place -/
theorem s_MO_areAlike_l {ka kb j i : Nat} {A B : List Int32} (hka : ka < 10) (hkb : kb < 10) (hA : Mr F ka A) (hB : Mr F kb B) : ∀ (m q : Nat) (is : Int32), (is = 0 ∧ ¬ wat A j = wat B i ∨ is = 1 ∧ (wat A j).length = (wat B i).length ∧ q + m = (wat A j).length ∧ ∀ t, t < q → (wat A j)[t]? = (wat B i)[t]?) →
    XJ none m_MO_areAlike 35 [some (.ref 36), some (.int (nI ka)), some (.int (nI (wbg A j))), some (.int (nI kb)), some (.int (nI (wbg B i))), some (.int (nI (wat A j).length)), some (.int is), some (.int (nI q))] [] I F (xpi (b01 (decide (wat A j = wat B i))) I F) := by
  have h1 := hA.2.1
  have h2 := hB.2.1
  have l1 := wat_len A j
  have l2 := wat_len B i
  have s1 := wsp_le A j
  have s2 := wsp_le B i
  have b1 := wbg_sp A j
  have b2 := wbg_sp B i
  have zero : ∀ (q : Nat), ¬ wat A j = wat B i → XJ none m_MO_areAlike 35 [some (.ref 36), some (.int (nI ka)), some (.int (nI (wbg A j))), some (.int (nI kb)), some (.int (nI (wbg B i))), some (.int (nI (wat A j).length)), some (.int 0), some (.int (nI q))] [] I F (xpi (b01 (decide (wat A j = wat B i))) I F) := by
    intro q hne
    refine xj_iload (pc := 35) d_MO_areAlike_35 rfl ?_
    refine xj_iload (pc := 37) d_MO_areAlike_37 rfl ?_
    refine xj_icmp_ge (pc := 39) (tgt := 82) d_MO_areAlike_39 (by decide) (fun h39 => ?_) (fun h39 => ?_)
    · refine xj_iload (pc := 82) d_MO_areAlike_82 rfl ?_
      refine xj_zret (pc := 84) d_MO_areAlike_84 rfl (by first | exact Or.inl rfl | exact Or.inr rfl | assumption | omega) ?_
      rw [decide_eq_false hne]
      exact ⟨rfl, rfl, rfl⟩
    · refine xj_iload (pc := 42) d_MO_areAlike_42 rfl ?_
      refine xj_if_eq (pc := 44) (tgt := 82) d_MO_areAlike_44 (by decide) (fun h44 => ?_) (fun h44 => absurd (rfl) h44)
      refine xj_iload (pc := 82) d_MO_areAlike_82 rfl ?_
      refine xj_zret (pc := 84) d_MO_areAlike_84 rfl (by first | exact Or.inl rfl | exact Or.inr rfl | assumption | omega) ?_
      rw [decide_eq_false hne]
      exact ⟨rfl, rfl, rfl⟩
  intro m
  induction m with
  | zero =>
    intro q is h
    rcases h with ⟨rfl, hne⟩ | ⟨rfl, hl, hq, ht⟩
    · exact zero q hne
    · have heq : wat A j = wat B i := List.ext_getElem? (fun t => by rcases Nat.lt_or_ge t (wat A j).length with z | z; exact ht t (by omega); rw [List.getElem?_eq_none (by omega), List.getElem?_eq_none (by omega)])
      refine xj_iload (pc := 35) d_MO_areAlike_35 rfl ?_
      refine xj_iload (pc := 37) d_MO_areAlike_37 rfl ?_
      refine xj_icmp_ge (pc := 39) (tgt := 82) d_MO_areAlike_39 (by decide) (fun h39 => ?_) (fun h39 => absurd (by rw [n_le, n_nI (by omega), n_nI (by omega)]; omega) h39)
      refine xj_iload (pc := 82) d_MO_areAlike_82 rfl ?_
      refine xj_zret (pc := 84) d_MO_areAlike_84 rfl (by first | exact Or.inl rfl | exact Or.inr rfl | assumption | omega) ?_
      rw [decide_eq_true heq]
      exact ⟨rfl, rfl, rfl⟩
  | succ m ih =>
    intro q is h
    rcases h with ⟨rfl, hne⟩ | ⟨rfl, hl, hq, ht⟩
    · exact zero q hne
    · have ga : A[wbg A j + q]? = some A[wbg A j + q] := List.getElem?_eq_getElem (by omega)
      have gb : B[wbg B i + q]? = some B[wbg B i + q] := List.getElem?_eq_getElem (by omega)
      have wa := wat_get A j (show q < (wat A j).length by omega)
      have wb2 := wat_get B i (show q < (wat B i).length by omega)
      refine xj_iload (pc := 35) d_MO_areAlike_35 rfl ?_
      refine xj_iload (pc := 37) d_MO_areAlike_37 rfl ?_
      refine xj_icmp_ge (pc := 39) (tgt := 82) d_MO_areAlike_39 (by decide) (fun h39 => absurd h39 (by rw [n_le, n_nI (by omega), n_nI (by omega)]; omega)) (fun h39 => ?_)
      refine xj_iload (pc := 42) d_MO_areAlike_42 rfl ?_
      refine xj_if_eq (pc := 44) (tgt := 82) d_MO_areAlike_44 (by decide) (fun h44 => absurd h44 (by decide)) (fun h44 => ?_)
      refine xj_aload_n (pc := 47) d_MO_areAlike_47 rfl rfl ?_
      refine xj_iload_n (pc := 48) d_MO_areAlike_48 rfl rfl ?_
      refine xj_iload_n (pc := 49) d_MO_areAlike_49 rfl rfl ?_
      refine xj_iload (pc := 50) d_MO_areAlike_50 rfl ?_
      refine xj_iadd (pc := 52) d_MO_areAlike_52 ?_
      rw [n_addN]
      refine xj_callV (pc := 53) d_MO_areAlike_53 ml_MO_46 ok_MO_of (s_MO_ofL hka hA ga) rfl rfl rfl rfl rfl (Nat.le_of_ble_eq_true rfl) (by decide) ?_
      rintro rv I1 F1 ⟨rfl, rfl, rfl⟩
      dsimp only [Option.toList, List.cons_append, List.nil_append]
      refine xj_aload_n (pc := 56) d_MO_areAlike_56 rfl rfl ?_
      refine xj_iload_n (pc := 57) d_MO_areAlike_57 rfl rfl ?_
      refine xj_iload (pc := 58) d_MO_areAlike_58 rfl ?_
      refine xj_iload (pc := 60) d_MO_areAlike_60 rfl ?_
      refine xj_iadd (pc := 62) d_MO_areAlike_62 ?_
      rw [n_addN]
      refine xj_callV (pc := 63) d_MO_areAlike_63 ml_MO_46 ok_MO_of (s_MO_ofL hkb hB gb) rfl rfl rfl rfl rfl (Nat.le_of_ble_eq_true rfl) (by decide) ?_
      rintro rv I1 F1 ⟨rfl, rfl, rfl⟩
      dsimp only [Option.toList, List.cons_append, List.nil_append]
      refine xj_icmp_ne (pc := 66) (tgt := 73) d_MO_areAlike_66 (by decide) (fun h66 => ?_) (fun h66 => ?_)
      · refine xj_iconst (pc := 73) (v := 0) d_MO_areAlike_73 (by decide) ?_
        refine xj_istore (pc := 74) d_MO_areAlike_74 (by decide) rfl ?_
        dsimp only [xset, xset2, xkill]
        refine xj_inc1 (pc := 76) d_MO_areAlike_76 rfl (by decide) rfl ?_
        dsimp only [xset, xset2, xkill]
        rw [n_up]
        refine xj_goto (pc := 79) (tgt := 35) d_MO_areAlike_79 (by decide) ?_
        first | (exact ih (q + 1) 1 (Or.inr ⟨rfl, hl, by omega, fun t z => by rcases Nat.lt_or_ge t q with y | y; exact ht t y; rw [show t = q by omega, wa, wb2, ga, gb, h66]⟩); done) | (exact ih (q + 1) 0 (Or.inl ⟨rfl, fun z => h66 (by rw [z, wb2, gb, ga] at wa; exact (Option.some.inj wa).symm)⟩))
      · refine xj_iconst (pc := 69) (v := 1) d_MO_areAlike_69 (by decide) ?_
        refine xj_goto (pc := 70) (tgt := 74) d_MO_areAlike_70 (by decide) ?_
        refine xj_istore (pc := 74) d_MO_areAlike_74 (by decide) rfl ?_
        dsimp only [xset, xset2, xkill]
        refine xj_inc1 (pc := 76) d_MO_areAlike_76 rfl (by decide) rfl ?_
        dsimp only [xset, xset2, xkill]
        rw [n_up]
        refine xj_goto (pc := 79) (tgt := 35) d_MO_areAlike_79 (by decide) ?_
        first | (exact ih (q + 1) 1 (Or.inr ⟨rfl, hl, by omega, fun t z => by rcases Nat.lt_or_ge t q with y | y; exact ht t y; rw [show t = q by omega, wa, wb2, ga, gb, h66]⟩); done) | (exact ih (q + 1) 0 (Or.inl ⟨rfl, fun z => h66 (by rw [z, wb2, gb, ga] at wa; exact (Option.some.inj wa).symm)⟩))
theorem s_MO_areAlike {ka kb j i : Nat} {A B : List Int32} (hka : ka < 10) (hkb : kb < 10) (hA : Mr F ka A) (hB : Mr F kb B) (hj : j < (wst A).length) (hi : i < (wst B).length) : XM m_MO_areAlike [.ref 36, .int (nI ka), .int (nI (wbg A j)), .int (nI kb), .int (nI (wbg B i))] I F (xpi (b01 (decide (wat A j = wat B i))) I F) := by
  refine XM.of (by decide) (Nat.le_of_ble_eq_true rfl) ?_
  dsimp only [xargs]
  have h1 := hA.2.1
  have h2 := hB.2.1
  have l1 := wat_len A j
  have l2 := wat_len B i
  have s1 := wsp_le A j
  have s2 := wsp_le B i
  refine xj_aload_n (pc := 0) d_MO_areAlike_0 rfl rfl ?_
  refine xj_iload_n (pc := 1) d_MO_areAlike_1 rfl rfl ?_
  refine xj_iload_n (pc := 2) d_MO_areAlike_2 rfl rfl ?_
  refine xj_callV (pc := 3) d_MO_areAlike_3 ml_MO_88 ok_MO_wordEnd (s_MO_wordEnd hka hA (wbg_le A j)) rfl rfl rfl rfl rfl (Nat.le_of_ble_eq_true rfl) (by decide) ?_
  rintro rv I1 F1 ⟨rfl, rfl, rfl⟩
  dsimp only [Option.toList, List.cons_append, List.nil_append]
  refine xj_iload_n (pc := 6) d_MO_areAlike_6 rfl rfl ?_
  refine xj_isub (pc := 7) d_MO_areAlike_7 ?_
  rw [n_subN (wen_ge _ _), ← wsp_wen hj, ← l1]
  refine xj_istore (pc := 8) d_MO_areAlike_8 (by decide) rfl ?_
  dsimp only [xset, xset2, xkill]
  refine xj_aload_n (pc := 10) d_MO_areAlike_10 rfl rfl ?_
  refine xj_iload_n (pc := 11) d_MO_areAlike_11 rfl rfl ?_
  refine xj_iload (pc := 12) d_MO_areAlike_12 rfl ?_
  refine xj_callV (pc := 14) d_MO_areAlike_14 ml_MO_88 ok_MO_wordEnd (s_MO_wordEnd hkb hB (wbg_le B i)) rfl rfl rfl rfl rfl (Nat.le_of_ble_eq_true rfl) (by decide) ?_
  rintro rv I1 F1 ⟨rfl, rfl, rfl⟩
  dsimp only [Option.toList, List.cons_append, List.nil_append]
  refine xj_iload (pc := 17) d_MO_areAlike_17 rfl ?_
  refine xj_isub (pc := 19) d_MO_areAlike_19 ?_
  rw [n_subN (wen_ge _ _), ← wsp_wen hi, ← l2]
  refine xj_iload (pc := 20) d_MO_areAlike_20 rfl ?_
  refine xj_icmp_ne (pc := 22) (tgt := 29) d_MO_areAlike_22 (by decide) (fun h22 => ?_) (fun h22 => ?_)
  · refine xj_iconst (pc := 29) (v := 0) d_MO_areAlike_29 (by decide) ?_
    refine xj_istore (pc := 30) d_MO_areAlike_30 (by decide) rfl ?_
    dsimp only [xset, xset2, xkill]
    refine xj_iconst (pc := 32) (v := 0) d_MO_areAlike_32 (by decide) ?_
    refine xj_istore (pc := 33) d_MO_areAlike_33 (by decide) rfl ?_
    dsimp only [xset, xset2, xkill]
    first | (exact s_MO_areAlike_l hka hkb hA hB (wat A j).length 0 1 (Or.inr ⟨rfl, (pl_leq h22 (by omega) (by omega)).symm, by omega, fun t z => absurd z (by omega)⟩); done) | exact s_MO_areAlike_l hka hkb hA hB 0 0 0 (Or.inl ⟨rfl, fun z => h22 (by rw [z])⟩)
  · refine xj_iconst (pc := 25) (v := 1) d_MO_areAlike_25 (by decide) ?_
    refine xj_goto (pc := 26) (tgt := 30) d_MO_areAlike_26 (by decide) ?_
    refine xj_istore (pc := 30) d_MO_areAlike_30 (by decide) rfl ?_
    dsimp only [xset, xset2, xkill]
    refine xj_iconst (pc := 32) (v := 0) d_MO_areAlike_32 (by decide) ?_
    refine xj_istore (pc := 33) d_MO_areAlike_33 (by decide) rfl ?_
    dsimp only [xset, xset2, xkill]
    first | (exact s_MO_areAlike_l hka hkb hA hB (wat A j).length 0 1 (Or.inr ⟨rfl, (pl_leq h22 (by omega) (by omega)).symm, by omega, fun t z => absurd z (by omega)⟩); done) | exact s_MO_areAlike_l hka hkb hA hB 0 0 0 (Or.inl ⟨rfl, fun z => h22 (by rw [z])⟩)
theorem t_MO_place_i {kk : Int32} {ka kb i : Nat} {A B : List Int32} {P : XP} (hka : ka < 10) (hkb : kb < 10) (hA : Mr F ka A) (hB : Mr F kb B) (hi : i + (wst A).length ≤ (wst B).length) (k2 : XJ none m_MO_place 106 [some (.ref 36), some (.int (nI ka)), some (.int (nI kb)), some (.int kk), some (.int (nI (wst A).length)), some (.int (nI (wst B).length)), some (.int (nI (i + 1))), some (.int (b01 (plc A B i)))] [] I F P) : ∀ (m j : Nat) (al : Bool), (al = false ∧ plc A B i = false ∨ al = true ∧ j + m = (wst A).length ∧ ∀ t, t < j → wat A t = wat B (i + t)) →
    XJ none m_MO_place 61 [some (.ref 36), some (.int (nI ka)), some (.int (nI kb)), some (.int kk), some (.int (nI (wst A).length)), some (.int (nI (wst B).length)), some (.int (nI (i + 1))), some (.int (b01 al)), some (.int (nI (j + 1)))] [] I F P := by
  have c1 := wst_cnt hA.2.1
  have c2 := wst_cnt hB.2.1
  have zero : ∀ (j : Nat), plc A B i = false → XJ none m_MO_place 61 [some (.ref 36), some (.int (nI ka)), some (.int (nI kb)), some (.int kk), some (.int (nI (wst A).length)), some (.int (nI (wst B).length)), some (.int (nI (i + 1))), some (.int (b01 false)), some (.int (nI (j + 1)))] [] I F P := by
    intro j hne
    rw [hne] at k2
    refine xj_iload (pc := 61) d_MO_place_61 rfl ?_
    refine xj_iload (pc := 63) d_MO_place_63 rfl ?_
    refine xj_icmp_gt (pc := 65) (tgt := 106) d_MO_place_65 (by decide) (fun h65 => ?_) (fun h65 => ?_)
    · exact xj_take 8 k2
    · refine xj_iload (pc := 68) d_MO_place_68 rfl ?_
      refine xj_if_eq (pc := 70) (tgt := 106) d_MO_place_70 (by decide) (fun h70 => ?_) (fun h70 => absurd (rfl) h70)
      exact xj_take 8 k2
  intro m
  induction m with
  | zero =>
    intro j al h
    rcases h with ⟨rfl, hne⟩ | ⟨rfl, hj, ht⟩
    · exact zero j hne
    · rw [plc_t.mpr (fun t z => ht t (by omega))] at k2
      refine xj_iload (pc := 61) d_MO_place_61 rfl ?_
      refine xj_iload (pc := 63) d_MO_place_63 rfl ?_
      refine xj_icmp_gt (pc := 65) (tgt := 106) d_MO_place_65 (by decide) (fun h65 => ?_) (fun h65 => absurd (by rw [n_lt, n_nI (by omega), n_nI (by omega)]; omega) h65)
      exact xj_take 8 k2
  | succ m ih =>
    intro j al h
    rcases h with ⟨rfl, hne⟩ | ⟨rfl, hj, ht⟩
    · exact zero j hne
    · refine xj_iload (pc := 61) d_MO_place_61 rfl ?_
      refine xj_iload (pc := 63) d_MO_place_63 rfl ?_
      refine xj_icmp_gt (pc := 65) (tgt := 106) d_MO_place_65 (by decide) (fun h65 => absurd h65 (by rw [n_lt, n_nI (by omega), n_nI (by omega)]; omega)) (fun h65 => ?_)
      refine xj_iload (pc := 68) d_MO_place_68 rfl ?_
      refine xj_if_eq (pc := 70) (tgt := 106) d_MO_place_70 (by decide) (fun h70 => absurd h70 (by decide)) (fun h70 => ?_)
      refine xj_aload_n (pc := 73) d_MO_place_73 rfl rfl ?_
      refine xj_iload_n (pc := 74) d_MO_place_74 rfl rfl ?_
      refine xj_aload_n (pc := 75) d_MO_place_75 rfl rfl ?_
      refine xj_iload_n (pc := 76) d_MO_place_76 rfl rfl ?_
      refine xj_iload (pc := 77) d_MO_place_77 rfl ?_
      refine xj_callV (pc := 79) d_MO_place_79 ml_MO_85 ok_MO_begin (s_MO_begin hka hA (by omega)) rfl rfl rfl rfl rfl (Nat.le_of_ble_eq_true rfl) (by decide) ?_
      rintro rv I1 F1 ⟨rfl, rfl, rfl⟩
      dsimp only [Option.toList, List.cons_append, List.nil_append]
      refine xj_iload_n (pc := 82) d_MO_place_82 rfl rfl ?_
      refine xj_aload_n (pc := 83) d_MO_place_83 rfl rfl ?_
      refine xj_iload_n (pc := 84) d_MO_place_84 rfl rfl ?_
      refine xj_iload (pc := 85) d_MO_place_85 rfl ?_
      refine xj_iload (pc := 87) d_MO_place_87 rfl ?_
      refine xj_iadd (pc := 89) d_MO_place_89 ?_
      refine xj_iconst (pc := 90) (v := 1) d_MO_place_90 (by decide) ?_
      refine xj_isub (pc := 91) d_MO_place_91 ?_
      rw [n_addN, show nI (i + 1 + (j + 1)) - 1 = nI (i + j + 1) from n_of (by rw [n_k1 (by rw [n_nI (by omega)]; omega), n_nI (by omega)]; omega)]
      refine xj_callV (pc := 92) d_MO_place_92 ml_MO_85 ok_MO_begin (s_MO_begin hkb hB (by omega)) rfl rfl rfl rfl rfl (Nat.le_of_ble_eq_true rfl) (by decide) ?_
      rintro rv I1 F1 ⟨rfl, rfl, rfl⟩
      dsimp only [Option.toList, List.cons_append, List.nil_append]
      refine xj_callV (pc := 95) d_MO_place_95 ml_MO_94 ok_MO_areAlike (s_MO_areAlike hka hkb hA hB (by omega) (by omega)) rfl rfl rfl rfl rfl (Nat.le_of_ble_eq_true rfl) (by decide) ?_
      rintro rv I1 F1 ⟨rfl, rfl, rfl⟩
      dsimp only [Option.toList, List.cons_append, List.nil_append]
      refine xj_istore (pc := 98) d_MO_place_98 (by decide) rfl ?_
      dsimp only [xset, xset2, xkill]
      refine xj_inc1 (pc := 100) d_MO_place_100 rfl (by decide) rfl ?_
      dsimp only [xset, xset2, xkill]
      rw [n_up]
      refine xj_goto (pc := 103) (tgt := 61) d_MO_place_103 (by decide) ?_
      by_cases e : wat A j = wat B (i + j)
      · rw [decide_eq_true e]; exact ih (j + 1) true (Or.inr ⟨rfl, by omega, fun t z => by rcases Nat.lt_or_ge t j with y | y; exact ht t y; rw [show t = j by omega]; exact e⟩)
      · rw [decide_eq_false e]; exact ih (j + 1) false (Or.inl ⟨rfl, by (cases hp : plc A B i with | false => rfl | true => exact absurd (plc_t.mp hp j (by omega)) e)⟩)
theorem t_MO_place_l {kk : Int32} {ka kb : Nat} {A B : List Int32} (hI : MI I F S) (hka : ka < 10) (hkb : kb < 10) (hA : Mr F ka A) (hB : Mr F kb B) (h0 : 0 < (wst A).length) : ∀ (m i : Nat), (wst B).length + 1 - (wst A).length - i = m → i < 2147483647 →
    XJ none m_MO_place 38 [some (.ref 36), some (.int (nI ka)), some (.int (nI kb)), some (.int kk), some (.int (nI (wst A).length)), some (.int (nI (wst B).length)), some (.int (nI (i + 1)))] [] I F (NQ (nI (ff (plc A B) m i), S) I F) := by
  have c1 := wst_cnt hA.2.1
  have c2 := wst_cnt hB.2.1
  have es : (nI (wst B).length - nI (wst A).length + 1).toInt = ((wst B).length : Int) - (wst A).length + 1 := by
    have e : (nI (wst B).length - nI (wst A).length).toInt = ((wst B).length : Int) - (wst A).length := by rw [n_sub (by rw [n_nI (by omega), n_nI (by omega)]; omega) (by rw [n_nI (by omega), n_nI (by omega)]; omega), n_nI (by omega), n_nI (by omega)]
    rw [n_add (by rw [e, n_1]; omega) (by rw [e, n_1]; omega), e, n_1]
  intro m
  induction m with
  | zero =>
    intro i hi hi2
    refine xj_iload (pc := 38) d_MO_place_38 rfl ?_
    refine xj_if_le (pc := 40) (tgt := 120) d_MO_place_40 (by decide) (fun h40 => absurd h40 (by rw [n_le, n_0, n_nI (by omega)]; omega)) (fun h40 => ?_)
    refine xj_iload (pc := 43) d_MO_place_43 rfl ?_
    refine xj_iload (pc := 45) d_MO_place_45 rfl ?_
    refine xj_iload (pc := 47) d_MO_place_47 rfl ?_
    refine xj_isub (pc := 49) d_MO_place_49 ?_
    refine xj_iconst (pc := 50) (v := 1) d_MO_place_50 (by decide) ?_
    refine xj_iadd (pc := 51) d_MO_place_51 ?_
    refine xj_icmp_gt (pc := 52) (tgt := 120) d_MO_place_52 (by decide) (fun h52 => ?_) (fun h52 => absurd (by rw [n_lt, es, n_nI (by omega)]; omega) h52)
    refine xj_iconst (pc := 120) (v := 0) d_MO_place_120 (by decide) ?_
    refine xj_iret (pc := 121) d_MO_place_121 rfl ?_
    exact nk_ans hI
  | succ m ih =>
    intro i hi hi2
    have hih := ih (i + 1) (by omega) (by omega)
    have hin : XJ none m_MO_place 106 [some (.ref 36), some (.int (nI ka)), some (.int (nI kb)), some (.int kk), some (.int (nI (wst A).length)), some (.int (nI (wst B).length)), some (.int (nI (i + 1))), some (.int (b01 (plc A B i)))] [] I F (NQ (nI (ff (plc A B) (m + 1) i), S) I F) := by
      refine xj_iload (pc := 106) d_MO_place_106 rfl ?_
      refine xj_if_eq (pc := 108) (tgt := 114) d_MO_place_108 (by decide) (fun h108 => ?_) (fun h108 => ?_)
      · refine xj_inc1 (pc := 114) d_MO_place_114 rfl (by decide) rfl ?_
        dsimp only [xset, xset2, xkill]
        rw [n_up]
        refine xj_goto (pc := 117) (tgt := 38) d_MO_place_117 (by decide) ?_
        rw [ff, b01_eq h108, if_neg (by decide)]
        exact xj_take 7 hih
      · refine xj_iload (pc := 111) d_MO_place_111 rfl ?_
        refine xj_iret (pc := 113) d_MO_place_113 rfl ?_
        rw [ff, b01_ne h108, if_pos rfl]
        exact nk_ans hI
    refine xj_iload (pc := 38) d_MO_place_38 rfl ?_
    refine xj_if_le (pc := 40) (tgt := 120) d_MO_place_40 (by decide) (fun h40 => absurd h40 (by rw [n_le, n_0, n_nI (by omega)]; omega)) (fun h40 => ?_)
    refine xj_iload (pc := 43) d_MO_place_43 rfl ?_
    refine xj_iload (pc := 45) d_MO_place_45 rfl ?_
    refine xj_iload (pc := 47) d_MO_place_47 rfl ?_
    refine xj_isub (pc := 49) d_MO_place_49 ?_
    refine xj_iconst (pc := 50) (v := 1) d_MO_place_50 (by decide) ?_
    refine xj_iadd (pc := 51) d_MO_place_51 ?_
    refine xj_icmp_gt (pc := 52) (tgt := 120) d_MO_place_52 (by decide) (fun h52 => absurd h52 (by rw [n_lt, es, n_nI (by omega)]; omega)) (fun h52 => ?_)
    refine xj_iconst (pc := 55) (v := 1) d_MO_place_55 (by decide) ?_
    refine xj_istore (pc := 56) d_MO_place_56 (by decide) rfl ?_
    dsimp only [xset, xset2, xkill]
    refine xj_iconst (pc := 58) (v := 1) d_MO_place_58 (by decide) ?_
    refine xj_istore (pc := 59) d_MO_place_59 (by decide) rfl ?_
    dsimp only [xset, xset2, xkill]
    exact t_MO_place_i hka hkb hA hB (by omega) hin _ 0 true (Or.inr ⟨rfl, by rw [Nat.zero_add], fun t z => absurd z (by omega)⟩)
theorem t_MO_place {a b k : Int32} (hI : MI I F S) : XM m_MO_place [.ref 36, .int a, .int b, .int k] I F (NQ (sp_place S a b k, S) I F) := by
  refine XM.of (by decide) (Nat.le_of_ble_eq_true rfl) ?_
  dsimp only [xargs]
  have := n_hi k
  have hz : ∀ (ka kb : Nat) (n : Int32), XJ none m_MO_place 38 [some (.ref 36), some (.int (nI ka)), some (.int (nI kb)), some (.int k), some (.int (nI 0)), some (.int n), some (.int k)] [] I F (NQ (0, S) I F) := by
    intro ka kb n
    refine xj_iload (pc := 38) d_MO_place_38 rfl ?_
    refine xj_if_le (pc := 40) (tgt := 120) d_MO_place_40 (by decide) (fun h40 => ?_) (fun h40 => absurd (by decide) h40)
    refine xj_iconst (pc := 120) (v := 0) d_MO_place_120 (by decide) ?_
    refine xj_iret (pc := 121) d_MO_place_121 rfl ?_
    exact nk_ans hI
  refine xj_iload_n (pc := 0) d_MO_place_0 rfl rfl ?_
  refine xj_callS (pc := 1) d_MO_place_1 ml_MO_42 ok_MO_is (s_MO_is) rfl rfl rfl (Nat.le_of_ble_eq_true rfl) (by decide) ?_
  rintro rv I1 F1 ⟨rfl, rfl, rfl⟩
  dsimp only [Option.toList, List.cons_append, List.nil_append]
  refine xj_if_eq (pc := 4) (tgt := 19) d_MO_place_4 (by decide) (fun h4 => ?_) (fun h4 => ?_)
  · refine xj_iconst (pc := 19) (v := -1) d_MO_place_19 (by decide) ?_
    refine xj_iret (pc := 20) d_MO_place_20 rfl ?_
    rw [sp_place, if_neg (fun q => by simp only [Bool.and_eq_true, decide_eq_true_eq] at q; first | (rw [n_le, n_1] at h16; omega) | (rw [b01_eq h11] at q; simp at q; done) | (rw [b01_eq h4] at q; simp at q; done))]
    exact nk_ans hI
  · refine xj_iload_n (pc := 7) d_MO_place_7 rfl rfl ?_
    refine xj_callS (pc := 8) d_MO_place_8 ml_MO_42 ok_MO_is (s_MO_is) rfl rfl rfl (Nat.le_of_ble_eq_true rfl) (by decide) ?_
    rintro rv I1 F1 ⟨rfl, rfl, rfl⟩
    dsimp only [Option.toList, List.cons_append, List.nil_append]
    refine xj_if_eq (pc := 11) (tgt := 19) d_MO_place_11 (by decide) (fun h11 => ?_) (fun h11 => ?_)
    · refine xj_iconst (pc := 19) (v := -1) d_MO_place_19 (by decide) ?_
      refine xj_iret (pc := 20) d_MO_place_20 rfl ?_
      rw [sp_place, if_neg (fun q => by simp only [Bool.and_eq_true, decide_eq_true_eq] at q; first | (rw [n_le, n_1] at h16; omega) | (rw [b01_eq h11] at q; simp at q; done) | (rw [b01_eq h4] at q; simp at q; done))]
      exact nk_ans hI
    · refine xj_iload_n (pc := 14) d_MO_place_14 rfl rfl ?_
      refine xj_iconst (pc := 15) (v := 1) d_MO_place_15 (by decide) ?_
      refine xj_icmp_ge (pc := 16) (tgt := 21) d_MO_place_16 (by decide) (fun h16 => ?_) (fun h16 => ?_)
      · have ha := b01_ne h4
        have hb := b01_ne h11
        rw [n_le, n_1] at h16
        rw [sp_place, if_pos (by simp only [ha, hb, Bool.true_and, decide_eq_true_eq]; omega)]
        obtain ⟨ka, hka, rfl, ta⟩ := isR_k ha
        obtain ⟨kb, hkb, rfl, tb⟩ := isR_k hb
        have hA := hI.at hka ta
        have hB := hI.at hkb tb
        refine xj_aload_n (pc := 21) d_MO_place_21 rfl rfl ?_
        refine xj_iload_n (pc := 22) d_MO_place_22 rfl rfl ?_
        refine xj_callV (pc := 23) d_MO_place_23 ml_MO_82 ok_MO_words (s_MO_words hka hA) rfl rfl rfl rfl rfl (Nat.le_of_ble_eq_true rfl) (by decide) ?_
        rintro rv I1 F1 ⟨rfl, rfl, rfl⟩
        dsimp only [Option.toList, List.cons_append, List.nil_append]
        refine xj_istore (pc := 26) d_MO_place_26 (by decide) rfl ?_
        dsimp only [xset, xset2, xkill]
        refine xj_aload_n (pc := 28) d_MO_place_28 rfl rfl ?_
        refine xj_iload_n (pc := 29) d_MO_place_29 rfl rfl ?_
        refine xj_callV (pc := 30) d_MO_place_30 ml_MO_82 ok_MO_words (s_MO_words hkb hB) rfl rfl rfl rfl rfl (Nat.le_of_ble_eq_true rfl) (by decide) ?_
        rintro rv I1 F1 ⟨rfl, rfl, rfl⟩
        dsimp only [Option.toList, List.cons_append, List.nil_append]
        refine xj_istore (pc := 33) d_MO_place_33 (by decide) rfl ?_
        dsimp only [xset, xset2, xkill]
        refine xj_iload_n (pc := 35) d_MO_place_35 rfl rfl ?_
        refine xj_istore (pc := 36) d_MO_place_36 (by decide) rfl ?_
        dsimp only [xset, xset2, xkill]
        by_cases h0 : (wst (sR S (nI ka))).length = 0
        · rw [if_pos h0, h0]; exact hz ka kb _
        · rw [if_neg h0]; have hm := t_MO_place_l (kk := k) hI hka hkb hA hB (by omega) _ (k.toInt.toNat - 1) rfl (by omega); rw [show nI (k.toInt.toNat - 1 + 1) = k from (n_of (by omega)).symm] at hm; exact hm
      · refine xj_iconst (pc := 19) (v := -1) d_MO_place_19 (by decide) ?_
        refine xj_iret (pc := 20) d_MO_place_20 rfl ?_
        rw [sp_place, if_neg (fun q => by simp only [Bool.and_eq_true, decide_eq_true_eq] at q; first | (rw [n_le, n_1] at h16; omega) | (rw [b01_eq h11] at q; simp at q; done) | (rw [b01_eq h4] at q; simp at q; done))]
        exact nk_ans hI
end MOJ
