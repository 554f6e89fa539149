section MOC
variable {I I1 I2 : XI} {F F1 F2 : XF} {S : XSt} {r k : Nat} {M X L T : List Int32}
theorem nk_E {to : Int32} {rv : Option Value} (h : NQ (sMk S to X) I F rv I1 F1) (e : X = M) : NQ (sMk S to M) I F rv I1 F1 := by subst e; exact h
theorem MI.pd (hI : MI I F S) (h : NX I F I1 F1) : I1 19 = S.2.2 := by rw [h.1 19 (by decide)]; exact hI.2.2
theorem ln_of {x : Int32} (h : 0 ≤ x.toInt) : x.toInt64.toInt.toNat = x.toInt.toNat := by rw [l_of]
theorem n_div2 {x : Int32} (h : 0 ≤ x.toInt) : (x / 2).toInt = x.toInt / 2 := by
  have := n_hi x
  rw [Int32.toInt_div, n_2, Int.tdiv_eq_ediv_of_nonneg h]
  exact n_bm (by omega) (by omega)
theorem t_MO_fill {way a n to : Int32} (hI : MI I F S) : XM m_MO_fill [.ref 36, .int way, .int a, .int n, .int to] I F (NQ (sp_fill S way a n to) I F) := by
  refine XM.of (by decide) (Nat.le_of_ble_eq_true rfl) ?_
  dsimp only [xargs]
  have := n_hi n
  have hend : ∀ (ka kt : Nat) (less more cut ah : Int32), ka < 10 → kt < 10 → (nI ka).toInt.toNat = ka → 0 ≤ n.toInt → less.toInt = ((sR S (nI ka)).length - n.toInt.toNat : Nat) → more.toInt = (n.toInt.toNat - (sR S (nI ka)).length : Nat) → cut.toInt = (if way = 0 then 0 else if way = 1 then (sR S (nI ka)).length - n.toInt.toNat else ((sR S (nI ka)).length - n.toInt.toNat) / 2 : Nat) → ah.toInt = (if way = 0 then 0 else if way = 1 then n.toInt.toNat - (sR S (nI ka)).length else (n.toInt.toNat - (sR S (nI ka)).length) / 2 : Nat) → XJ none m_MO_fill 131 [some (.ref 36), some (.int way), some (.int (nI ka)), some (.int n), some (.int (nI kt)), some (.int less), some (.int more), some (.int cut), some (.int ah)] [] (upd I 18 0) F (NQ (sMk S (nI kt) (m_fill S.2.2 (sR S (nI ka)) way n.toInt.toNat)) I F) := by
    intro ka kt less more cut ah hka hkt ta hn el em ec ea
    have hL := hI.at hka ta
    have h200 := hL.2.1
    have g0 : Ms [] I F (upd I 18 0) F := Ms.zero
    have hah : ah.toInt ≤ more.toInt := by rw [ea, em]; split; omega; split <;> omega
    have ha0 : 0 ≤ ah.toInt := by rw [ea]; omega
    have hc0 : 0 ≤ cut.toInt := by rw [ec]; omega
    have hc2 : cut.toInt ≤ 200 := by rw [ec]; split; omega; split <;> omega
    have e1 : (cut.toInt64 + n.toInt64).toInt = cut.toInt + n.toInt := by rw [l_add (by rw [l_of, l_of]; omega) (by rw [l_of, l_of]; omega), l_of, l_of]
    have e2 : (more - ah).toInt64.toInt = more.toInt - ah.toInt := by rw [l_of, n_sub (by omega) (by omega)]
    refine xj_aload_n (pc := 131) d_MO_fill_131 rfl rfl ?_
    refine xj_iload (pc := 132) d_MO_fill_132 rfl ?_
    refine xj_i2l (pc := 134) d_MO_fill_134 ?_
    refine xj_callV (pc := 135) d_MO_fill_135 ml_MO_56 ok_MO_pads (s_MO_pads (hI.pd g0.nx) g0.2.2) rfl rfl rfl rfl rfl (Nat.le_of_ble_eq_true rfl) (by decide) ?_
    rintro rv I1 F1 ⟨rfl, g1⟩
    replace g1 := g0.tr g1
    dsimp only [Option.toList, List.cons_append, List.nil_append]
    refine xj_aload_n (pc := 138) d_MO_fill_138 rfl rfl ?_
    refine xj_iload_n (pc := 139) d_MO_fill_139 rfl rfl ?_
    refine xj_iload (pc := 140) d_MO_fill_140 rfl ?_
    refine xj_i2l (pc := 142) d_MO_fill_142 ?_
    refine xj_iload (pc := 143) d_MO_fill_143 rfl ?_
    refine xj_i2l (pc := 145) d_MO_fill_145 ?_
    refine xj_iload_n (pc := 146) d_MO_fill_146 rfl rfl ?_
    refine xj_i2l (pc := 147) d_MO_fill_147 ?_
    refine xj_ladd (pc := 148) d_MO_fill_148 ?_
    refine xj_callV (pc := 149) d_MO_fill_149 ml_MO_60 ok_MO_lay (s_MO_lay hka (g1.nx.mr hL) g1.2.2 (by rw [l_of]; omega)) rfl rfl rfl rfl rfl (Nat.le_of_ble_eq_true rfl) (by decide) ?_
    rintro rv I2 F2 ⟨rfl, g2⟩
    replace g2 := g1.tr g2
    dsimp only [Option.toList, List.cons_append, List.nil_append]
    refine xj_aload_n (pc := 152) d_MO_fill_152 rfl rfl ?_
    refine xj_iload (pc := 153) d_MO_fill_153 rfl ?_
    refine xj_iload (pc := 155) d_MO_fill_155 rfl ?_
    refine xj_isub (pc := 157) d_MO_fill_157 ?_
    refine xj_i2l (pc := 158) d_MO_fill_158 ?_
    refine xj_callV (pc := 159) d_MO_fill_159 ml_MO_56 ok_MO_pads (s_MO_pads (hI.pd g2.nx) g2.2.2) rfl rfl rfl rfl rfl (Nat.le_of_ble_eq_true rfl) (by decide) ?_
    rintro rv I3 F3 ⟨rfl, g3⟩
    replace g3 := g2.tr g3
    dsimp only [Option.toList, List.cons_append, List.nil_append]
    refine xj_aload_n (pc := 162) d_MO_fill_162 rfl rfl ?_
    refine xj_iload (pc := 163) d_MO_fill_163 rfl ?_
    refine xj_callV (pc := 165) d_MO_fill_165 ml_MO_64 ok_MO_keep (s_MO_keep hI g3.nx g3.2.2 hkt) rfl rfl rfl rfl rfl (Nat.le_of_ble_eq_true rfl) (by decide) ?_
    rintro rv I4 F4 ⟨rfl, g4⟩
    dsimp only [Option.toList, List.cons_append, List.nil_append]
    refine xj_iret (pc := 168) d_MO_fill_168 rfl ?_
    refine nk_E ⟨rfl, g4⟩ ?_
    rw [e1, e2, l_of, l_of, m_fill]
    try dsimp only
    rw [ea, em, ec, Int.toNat_natCast, Int.toNat_natCast]
    congr 1
    · congr 1; apply sl_dt; intro i hi; omega
    · congr 1; split; omega; split <;> omega
  refine xj_iload_n (pc := 0) d_MO_fill_0 rfl rfl ?_
  refine xj_callS (pc := 1) d_MO_fill_1 ml_MO_42 ok_MO_is (s_MO_is) rfl rfl rfl (Nat.le_of_ble_eq_true rfl) (by decide) ?_
  rintro rv I1 F1 ⟨rfl, rfl, rfl⟩
  dsimp only [Option.toList, List.cons_append, List.nil_append]
  refine xj_if_eq (pc := 4) (tgt := 28) d_MO_fill_4 (by decide) (fun h4 => ?_) (fun h4 => ?_)
  · refine xj_iconst (pc := 28) (v := -1) d_MO_fill_28 (by decide) ?_
    refine xj_iret (pc := 29) d_MO_fill_29 rfl ?_
    exact nk_none hI (if_neg (fun q => by simp only [Bool.and_eq_true, decide_eq_true_eq] at q; first | (rw [n_le, n_0] at h25; omega) | (rw [n_lt, n_2] at h21; omega) | (rw [n_lt, n_0] at h16; omega) | (rw [b01_eq h12] at q; simp at q; done) | (rw [b01_eq h4] at q; simp at q; done)))
  · refine xj_iload (pc := 7) d_MO_fill_7 rfl ?_
    refine xj_callS (pc := 9) d_MO_fill_9 ml_MO_42 ok_MO_is (s_MO_is) rfl rfl rfl (Nat.le_of_ble_eq_true rfl) (by decide) ?_
    rintro rv I1 F1 ⟨rfl, rfl, rfl⟩
    dsimp only [Option.toList, List.cons_append, List.nil_append]
    refine xj_if_eq (pc := 12) (tgt := 28) d_MO_fill_12 (by decide) (fun h12 => ?_) (fun h12 => ?_)
    · refine xj_iconst (pc := 28) (v := -1) d_MO_fill_28 (by decide) ?_
      refine xj_iret (pc := 29) d_MO_fill_29 rfl ?_
      exact nk_none hI (if_neg (fun q => by simp only [Bool.and_eq_true, decide_eq_true_eq] at q; first | (rw [n_le, n_0] at h25; omega) | (rw [n_lt, n_2] at h21; omega) | (rw [n_lt, n_0] at h16; omega) | (rw [b01_eq h12] at q; simp at q; done) | (rw [b01_eq h4] at q; simp at q; done)))
    · refine xj_iload_n (pc := 15) d_MO_fill_15 rfl rfl ?_
      refine xj_if_lt (pc := 16) (tgt := 28) d_MO_fill_16 (by decide) (fun h16 => ?_) (fun h16 => ?_)
      · refine xj_iconst (pc := 28) (v := -1) d_MO_fill_28 (by decide) ?_
        refine xj_iret (pc := 29) d_MO_fill_29 rfl ?_
        exact nk_none hI (if_neg (fun q => by simp only [Bool.and_eq_true, decide_eq_true_eq] at q; first | (rw [n_le, n_0] at h25; omega) | (rw [n_lt, n_2] at h21; omega) | (rw [n_lt, n_0] at h16; omega) | (rw [b01_eq h12] at q; simp at q; done) | (rw [b01_eq h4] at q; simp at q; done)))
      · refine xj_iload_n (pc := 19) d_MO_fill_19 rfl rfl ?_
        refine xj_iconst (pc := 20) (v := 2) d_MO_fill_20 (by decide) ?_
        refine xj_icmp_gt (pc := 21) (tgt := 28) d_MO_fill_21 (by decide) (fun h21 => ?_) (fun h21 => ?_)
        · refine xj_iconst (pc := 28) (v := -1) d_MO_fill_28 (by decide) ?_
          refine xj_iret (pc := 29) d_MO_fill_29 rfl ?_
          exact nk_none hI (if_neg (fun q => by simp only [Bool.and_eq_true, decide_eq_true_eq] at q; first | (rw [n_le, n_0] at h25; omega) | (rw [n_lt, n_2] at h21; omega) | (rw [n_lt, n_0] at h16; omega) | (rw [b01_eq h12] at q; simp at q; done) | (rw [b01_eq h4] at q; simp at q; done)))
        · refine xj_iload_n (pc := 24) d_MO_fill_24 rfl rfl ?_
          refine xj_if_ge (pc := 25) (tgt := 30) d_MO_fill_25 (by decide) (fun h25 => ?_) (fun h25 => ?_)
          · have ha := b01_ne h4
            have hto := b01_ne h12
            rw [n_le, n_0] at h25
            rw [n_lt, n_2] at h21
            rw [n_lt, n_0] at h16
            rw [sp_fill, if_pos (by simp only [ha, hto, Bool.true_and, decide_eq_true_eq]; omega)]
            obtain ⟨ka, hka, rfl, ta⟩ := isR_k ha
            obtain ⟨kt, hkt, rfl, tt⟩ := isR_k hto
            have hL := hI.at hka ta
            have hsz := hL.sz
            have h200 := hL.2.1
            refine xj_aload_n (pc := 30) d_MO_fill_30 rfl rfl ?_
            refine xj_iconst (pc := 31) (v := 0) d_MO_fill_31 (by decide) ?_
            refine xj_putI (pc := 32) d_MO_fill_32 fl_MO_50 fp_MO_many rfl rfl ?_
            refine xj_aload_n (pc := 35) d_MO_fill_35 rfl rfl ?_
            refine xj_getR (pc := 36) d_MO_fill_36 fl_MO_16 rfl rfl ?_
            refine xj_iload_n (pc := 39) d_MO_fill_39 rfl rfl ?_
            refine xj_iald (pc := 40) d_MO_fill_40 (n := 10) (x := 21) rfl rfl hka (by decide) ?_
            refine xj_iload_n (pc := 41) d_MO_fill_41 rfl rfl ?_
            refine xj_icmp_le (pc := 42) (tgt := 56) d_MO_fill_42 (by decide) (fun h42 => ?_) (fun h42 => ?_)
            · refine xj_iconst (pc := 56) (v := 0) d_MO_fill_56 (by decide) ?_
              refine xj_istore (pc := 57) d_MO_fill_57 (by decide) rfl ?_
              dsimp only [xset, xset2, xkill]
              refine xj_iload_n (pc := 59) d_MO_fill_59 rfl rfl ?_
              refine xj_aload_n (pc := 60) d_MO_fill_60 rfl rfl ?_
              refine xj_getR (pc := 61) d_MO_fill_61 fl_MO_16 rfl rfl ?_
              refine xj_iload_n (pc := 64) d_MO_fill_64 rfl rfl ?_
              refine xj_iald (pc := 65) d_MO_fill_65 (n := 10) (x := 21) rfl rfl hka (by decide) ?_
              refine xj_icmp_le (pc := 66) (tgt := 80) d_MO_fill_66 (by decide) (fun h66 => ?_) (fun h66 => ?_)
              · refine xj_iconst (pc := 80) (v := 0) d_MO_fill_80 (by decide) ?_
                refine xj_istore (pc := 81) d_MO_fill_81 (by decide) rfl ?_
                dsimp only [xset, xset2, xkill]
                refine xj_iload_n (pc := 83) d_MO_fill_83 rfl rfl ?_
                refine xj_if_ne (pc := 84) (tgt := 91) d_MO_fill_84 (by decide) (fun h84 => ?_) (fun h84 => ?_)
                · refine xj_iload_n (pc := 91) d_MO_fill_91 rfl rfl ?_
                  refine xj_iconst (pc := 92) (v := 1) d_MO_fill_92 (by decide) ?_
                  refine xj_icmp_ne (pc := 93) (tgt := 101) d_MO_fill_93 (by decide) (fun h93 => ?_) (fun h93 => ?_)
                  · refine xj_iload (pc := 101) d_MO_fill_101 rfl ?_
                    refine xj_iconst (pc := 103) (v := 2) d_MO_fill_103 (by decide) ?_
                    refine xj_idiv (pc := 104) d_MO_fill_104 (by decide) ?_
                    refine xj_istore (pc := 105) d_MO_fill_105 (by decide) rfl ?_
                    dsimp only [xset, xset2, xkill]
                    refine xj_iload_n (pc := 107) d_MO_fill_107 rfl rfl ?_
                    refine xj_if_ne (pc := 108) (tgt := 115) d_MO_fill_108 (by decide) (fun h108 => ?_) (fun h108 => ?_)
                    · refine xj_iload_n (pc := 115) d_MO_fill_115 rfl rfl ?_
                      refine xj_iconst (pc := 116) (v := 1) d_MO_fill_116 (by decide) ?_
                      refine xj_icmp_ne (pc := 117) (tgt := 125) d_MO_fill_117 (by decide) (fun h117 => ?_) (fun h117 => ?_)
                      · refine xj_iload (pc := 125) d_MO_fill_125 rfl ?_
                        refine xj_iconst (pc := 127) (v := 2) d_MO_fill_127 (by decide) ?_
                        refine xj_idiv (pc := 128) d_MO_fill_128 (by decide) ?_
                        refine xj_istore (pc := 129) d_MO_fill_129 (by decide) rfl ?_
                        dsimp only [xset, xset2, xkill]
                        rw [n_le, hsz] at h42 h66
                        refine hend ka kt _ _ _ _ hka hkt ta h25 ?_ ?_ ?_ ?_
                        all_goals first | (rw [n_0]; omega) | (rw [n_sub (by omega) (by omega), hsz]; omega) | skip
                        all_goals first | (rw [if_pos h84]; rfl; done) | (rw [if_neg h84, if_pos h93]; first | (rw [n_0]; omega) | (rw [n_sub (by omega) (by omega), hsz]; omega); done) | (rw [if_neg h84, if_neg h93, n_div2 (by first | (rw [n_0]; omega) | (rw [n_sub (by omega) (by omega), hsz]; omega))]; first | (rw [n_0]; omega) | (rw [n_sub (by omega) (by omega), hsz]; omega); done) | (exact absurd h84 (by assumption)) | (exact absurd h108 (by assumption)) | (exact absurd h93 (by assumption)) | (exact absurd h117 (by assumption))
                      · refine xj_iload (pc := 120) d_MO_fill_120 rfl ?_
                        refine xj_goto (pc := 122) (tgt := 129) d_MO_fill_122 (by decide) ?_
                        refine xj_istore (pc := 129) d_MO_fill_129 (by decide) rfl ?_
                        dsimp only [xset, xset2, xkill]
                        rw [n_le, hsz] at h42 h66
                        refine hend ka kt _ _ _ _ hka hkt ta h25 ?_ ?_ ?_ ?_
                        all_goals first | (rw [n_0]; omega) | (rw [n_sub (by omega) (by omega), hsz]; omega) | skip
                        all_goals first | (rw [if_pos h84]; rfl; done) | (rw [if_neg h84, if_pos h93]; first | (rw [n_0]; omega) | (rw [n_sub (by omega) (by omega), hsz]; omega); done) | (rw [if_neg h84, if_neg h93, n_div2 (by first | (rw [n_0]; omega) | (rw [n_sub (by omega) (by omega), hsz]; omega))]; first | (rw [n_0]; omega) | (rw [n_sub (by omega) (by omega), hsz]; omega); done) | (exact absurd h84 (by assumption)) | (exact absurd h108 (by assumption)) | (exact absurd h93 (by assumption)) | (exact absurd h117 (by assumption))
                    · refine xj_iconst (pc := 111) (v := 0) d_MO_fill_111 (by decide) ?_
                      refine xj_goto (pc := 112) (tgt := 129) d_MO_fill_112 (by decide) ?_
                      refine xj_istore (pc := 129) d_MO_fill_129 (by decide) rfl ?_
                      dsimp only [xset, xset2, xkill]
                      rw [n_le, hsz] at h42 h66
                      refine hend ka kt _ _ _ _ hka hkt ta h25 ?_ ?_ ?_ ?_
                      all_goals first | (rw [n_0]; omega) | (rw [n_sub (by omega) (by omega), hsz]; omega) | skip
                      all_goals first | (rw [if_pos h84]; rfl; done) | (rw [if_neg h84, if_pos h93]; first | (rw [n_0]; omega) | (rw [n_sub (by omega) (by omega), hsz]; omega); done) | (rw [if_neg h84, if_neg h93, n_div2 (by first | (rw [n_0]; omega) | (rw [n_sub (by omega) (by omega), hsz]; omega))]; first | (rw [n_0]; omega) | (rw [n_sub (by omega) (by omega), hsz]; omega); done) | (exact absurd h84 (by assumption)) | (exact absurd h108 (by assumption)) | (exact absurd h93 (by assumption)) | (exact absurd h117 (by assumption))
                  · refine xj_iload (pc := 96) d_MO_fill_96 rfl ?_
                    refine xj_goto (pc := 98) (tgt := 105) d_MO_fill_98 (by decide) ?_
                    refine xj_istore (pc := 105) d_MO_fill_105 (by decide) rfl ?_
                    dsimp only [xset, xset2, xkill]
                    refine xj_iload_n (pc := 107) d_MO_fill_107 rfl rfl ?_
                    refine xj_if_ne (pc := 108) (tgt := 115) d_MO_fill_108 (by decide) (fun h108 => ?_) (fun h108 => ?_)
                    · refine xj_iload_n (pc := 115) d_MO_fill_115 rfl rfl ?_
                      refine xj_iconst (pc := 116) (v := 1) d_MO_fill_116 (by decide) ?_
                      refine xj_icmp_ne (pc := 117) (tgt := 125) d_MO_fill_117 (by decide) (fun h117 => ?_) (fun h117 => ?_)
                      · refine xj_iload (pc := 125) d_MO_fill_125 rfl ?_
                        refine xj_iconst (pc := 127) (v := 2) d_MO_fill_127 (by decide) ?_
                        refine xj_idiv (pc := 128) d_MO_fill_128 (by decide) ?_
                        refine xj_istore (pc := 129) d_MO_fill_129 (by decide) rfl ?_
                        dsimp only [xset, xset2, xkill]
                        rw [n_le, hsz] at h42 h66
                        refine hend ka kt _ _ _ _ hka hkt ta h25 ?_ ?_ ?_ ?_
                        all_goals first | (rw [n_0]; omega) | (rw [n_sub (by omega) (by omega), hsz]; omega) | skip
                        all_goals first | (rw [if_pos h84]; rfl; done) | (rw [if_neg h84, if_pos h93]; first | (rw [n_0]; omega) | (rw [n_sub (by omega) (by omega), hsz]; omega); done) | (rw [if_neg h84, if_neg h93, n_div2 (by first | (rw [n_0]; omega) | (rw [n_sub (by omega) (by omega), hsz]; omega))]; first | (rw [n_0]; omega) | (rw [n_sub (by omega) (by omega), hsz]; omega); done) | (exact absurd h84 (by assumption)) | (exact absurd h108 (by assumption)) | (exact absurd h93 (by assumption)) | (exact absurd h117 (by assumption))
                      · refine xj_iload (pc := 120) d_MO_fill_120 rfl ?_
                        refine xj_goto (pc := 122) (tgt := 129) d_MO_fill_122 (by decide) ?_
                        refine xj_istore (pc := 129) d_MO_fill_129 (by decide) rfl ?_
                        dsimp only [xset, xset2, xkill]
                        rw [n_le, hsz] at h42 h66
                        refine hend ka kt _ _ _ _ hka hkt ta h25 ?_ ?_ ?_ ?_
                        all_goals first | (rw [n_0]; omega) | (rw [n_sub (by omega) (by omega), hsz]; omega) | skip
                        all_goals first | (rw [if_pos h84]; rfl; done) | (rw [if_neg h84, if_pos h93]; first | (rw [n_0]; omega) | (rw [n_sub (by omega) (by omega), hsz]; omega); done) | (rw [if_neg h84, if_neg h93, n_div2 (by first | (rw [n_0]; omega) | (rw [n_sub (by omega) (by omega), hsz]; omega))]; first | (rw [n_0]; omega) | (rw [n_sub (by omega) (by omega), hsz]; omega); done) | (exact absurd h84 (by assumption)) | (exact absurd h108 (by assumption)) | (exact absurd h93 (by assumption)) | (exact absurd h117 (by assumption))
                    · refine xj_iconst (pc := 111) (v := 0) d_MO_fill_111 (by decide) ?_
                      refine xj_goto (pc := 112) (tgt := 129) d_MO_fill_112 (by decide) ?_
                      refine xj_istore (pc := 129) d_MO_fill_129 (by decide) rfl ?_
                      dsimp only [xset, xset2, xkill]
                      rw [n_le, hsz] at h42 h66
                      refine hend ka kt _ _ _ _ hka hkt ta h25 ?_ ?_ ?_ ?_
                      all_goals first | (rw [n_0]; omega) | (rw [n_sub (by omega) (by omega), hsz]; omega) | skip
                      all_goals first | (rw [if_pos h84]; rfl; done) | (rw [if_neg h84, if_pos h93]; first | (rw [n_0]; omega) | (rw [n_sub (by omega) (by omega), hsz]; omega); done) | (rw [if_neg h84, if_neg h93, n_div2 (by first | (rw [n_0]; omega) | (rw [n_sub (by omega) (by omega), hsz]; omega))]; first | (rw [n_0]; omega) | (rw [n_sub (by omega) (by omega), hsz]; omega); done) | (exact absurd h84 (by assumption)) | (exact absurd h108 (by assumption)) | (exact absurd h93 (by assumption)) | (exact absurd h117 (by assumption))
                · refine xj_iconst (pc := 87) (v := 0) d_MO_fill_87 (by decide) ?_
                  refine xj_goto (pc := 88) (tgt := 105) d_MO_fill_88 (by decide) ?_
                  refine xj_istore (pc := 105) d_MO_fill_105 (by decide) rfl ?_
                  dsimp only [xset, xset2, xkill]
                  refine xj_iload_n (pc := 107) d_MO_fill_107 rfl rfl ?_
                  refine xj_if_ne (pc := 108) (tgt := 115) d_MO_fill_108 (by decide) (fun h108 => ?_) (fun h108 => ?_)
                  · refine xj_iload_n (pc := 115) d_MO_fill_115 rfl rfl ?_
                    refine xj_iconst (pc := 116) (v := 1) d_MO_fill_116 (by decide) ?_
                    refine xj_icmp_ne (pc := 117) (tgt := 125) d_MO_fill_117 (by decide) (fun h117 => ?_) (fun h117 => ?_)
                    · refine xj_iload (pc := 125) d_MO_fill_125 rfl ?_
                      refine xj_iconst (pc := 127) (v := 2) d_MO_fill_127 (by decide) ?_
                      refine xj_idiv (pc := 128) d_MO_fill_128 (by decide) ?_
                      refine xj_istore (pc := 129) d_MO_fill_129 (by decide) rfl ?_
                      dsimp only [xset, xset2, xkill]
                      rw [n_le, hsz] at h42 h66
                      refine hend ka kt _ _ _ _ hka hkt ta h25 ?_ ?_ ?_ ?_
                      all_goals first | (rw [n_0]; omega) | (rw [n_sub (by omega) (by omega), hsz]; omega) | skip
                      all_goals first | (rw [if_pos h84]; rfl; done) | (rw [if_neg h84, if_pos h93]; first | (rw [n_0]; omega) | (rw [n_sub (by omega) (by omega), hsz]; omega); done) | (rw [if_neg h84, if_neg h93, n_div2 (by first | (rw [n_0]; omega) | (rw [n_sub (by omega) (by omega), hsz]; omega))]; first | (rw [n_0]; omega) | (rw [n_sub (by omega) (by omega), hsz]; omega); done) | (exact absurd h84 (by assumption)) | (exact absurd h108 (by assumption)) | (exact absurd h93 (by assumption)) | (exact absurd h117 (by assumption))
                    · refine xj_iload (pc := 120) d_MO_fill_120 rfl ?_
                      refine xj_goto (pc := 122) (tgt := 129) d_MO_fill_122 (by decide) ?_
                      refine xj_istore (pc := 129) d_MO_fill_129 (by decide) rfl ?_
                      dsimp only [xset, xset2, xkill]
                      rw [n_le, hsz] at h42 h66
                      refine hend ka kt _ _ _ _ hka hkt ta h25 ?_ ?_ ?_ ?_
                      all_goals first | (rw [n_0]; omega) | (rw [n_sub (by omega) (by omega), hsz]; omega) | skip
                      all_goals first | (rw [if_pos h84]; rfl; done) | (rw [if_neg h84, if_pos h93]; first | (rw [n_0]; omega) | (rw [n_sub (by omega) (by omega), hsz]; omega); done) | (rw [if_neg h84, if_neg h93, n_div2 (by first | (rw [n_0]; omega) | (rw [n_sub (by omega) (by omega), hsz]; omega))]; first | (rw [n_0]; omega) | (rw [n_sub (by omega) (by omega), hsz]; omega); done) | (exact absurd h84 (by assumption)) | (exact absurd h108 (by assumption)) | (exact absurd h93 (by assumption)) | (exact absurd h117 (by assumption))
                  · refine xj_iconst (pc := 111) (v := 0) d_MO_fill_111 (by decide) ?_
                    refine xj_goto (pc := 112) (tgt := 129) d_MO_fill_112 (by decide) ?_
                    refine xj_istore (pc := 129) d_MO_fill_129 (by decide) rfl ?_
                    dsimp only [xset, xset2, xkill]
                    rw [n_le, hsz] at h42 h66
                    refine hend ka kt _ _ _ _ hka hkt ta h25 ?_ ?_ ?_ ?_
                    all_goals first | (rw [n_0]; omega) | (rw [n_sub (by omega) (by omega), hsz]; omega) | skip
                    all_goals first | (rw [if_pos h84]; rfl; done) | (rw [if_neg h84, if_pos h93]; first | (rw [n_0]; omega) | (rw [n_sub (by omega) (by omega), hsz]; omega); done) | (rw [if_neg h84, if_neg h93, n_div2 (by first | (rw [n_0]; omega) | (rw [n_sub (by omega) (by omega), hsz]; omega))]; first | (rw [n_0]; omega) | (rw [n_sub (by omega) (by omega), hsz]; omega); done) | (exact absurd h84 (by assumption)) | (exact absurd h108 (by assumption)) | (exact absurd h93 (by assumption)) | (exact absurd h117 (by assumption))
              · refine xj_iload_n (pc := 69) d_MO_fill_69 rfl rfl ?_
                refine xj_aload_n (pc := 70) d_MO_fill_70 rfl rfl ?_
                refine xj_getR (pc := 71) d_MO_fill_71 fl_MO_16 rfl rfl ?_
                refine xj_iload_n (pc := 74) d_MO_fill_74 rfl rfl ?_
                refine xj_iald (pc := 75) d_MO_fill_75 (n := 10) (x := 21) rfl rfl hka (by decide) ?_
                refine xj_isub (pc := 76) d_MO_fill_76 ?_
                refine xj_goto (pc := 77) (tgt := 81) d_MO_fill_77 (by decide) ?_
                refine xj_istore (pc := 81) d_MO_fill_81 (by decide) rfl ?_
                dsimp only [xset, xset2, xkill]
                refine xj_iload_n (pc := 83) d_MO_fill_83 rfl rfl ?_
                refine xj_if_ne (pc := 84) (tgt := 91) d_MO_fill_84 (by decide) (fun h84 => ?_) (fun h84 => ?_)
                · refine xj_iload_n (pc := 91) d_MO_fill_91 rfl rfl ?_
                  refine xj_iconst (pc := 92) (v := 1) d_MO_fill_92 (by decide) ?_
                  refine xj_icmp_ne (pc := 93) (tgt := 101) d_MO_fill_93 (by decide) (fun h93 => ?_) (fun h93 => ?_)
                  · refine xj_iload (pc := 101) d_MO_fill_101 rfl ?_
                    refine xj_iconst (pc := 103) (v := 2) d_MO_fill_103 (by decide) ?_
                    refine xj_idiv (pc := 104) d_MO_fill_104 (by decide) ?_
                    refine xj_istore (pc := 105) d_MO_fill_105 (by decide) rfl ?_
                    dsimp only [xset, xset2, xkill]
                    refine xj_iload_n (pc := 107) d_MO_fill_107 rfl rfl ?_
                    refine xj_if_ne (pc := 108) (tgt := 115) d_MO_fill_108 (by decide) (fun h108 => ?_) (fun h108 => ?_)
                    · refine xj_iload_n (pc := 115) d_MO_fill_115 rfl rfl ?_
                      refine xj_iconst (pc := 116) (v := 1) d_MO_fill_116 (by decide) ?_
                      refine xj_icmp_ne (pc := 117) (tgt := 125) d_MO_fill_117 (by decide) (fun h117 => ?_) (fun h117 => ?_)
                      · refine xj_iload (pc := 125) d_MO_fill_125 rfl ?_
                        refine xj_iconst (pc := 127) (v := 2) d_MO_fill_127 (by decide) ?_
                        refine xj_idiv (pc := 128) d_MO_fill_128 (by decide) ?_
                        refine xj_istore (pc := 129) d_MO_fill_129 (by decide) rfl ?_
                        dsimp only [xset, xset2, xkill]
                        rw [n_le, hsz] at h42 h66
                        refine hend ka kt _ _ _ _ hka hkt ta h25 ?_ ?_ ?_ ?_
                        all_goals first | (rw [n_0]; omega) | (rw [n_sub (by omega) (by omega), hsz]; omega) | skip
                        all_goals first | (rw [if_pos h84]; rfl; done) | (rw [if_neg h84, if_pos h93]; first | (rw [n_0]; omega) | (rw [n_sub (by omega) (by omega), hsz]; omega); done) | (rw [if_neg h84, if_neg h93, n_div2 (by first | (rw [n_0]; omega) | (rw [n_sub (by omega) (by omega), hsz]; omega))]; first | (rw [n_0]; omega) | (rw [n_sub (by omega) (by omega), hsz]; omega); done) | (exact absurd h84 (by assumption)) | (exact absurd h108 (by assumption)) | (exact absurd h93 (by assumption)) | (exact absurd h117 (by assumption))
                      · refine xj_iload (pc := 120) d_MO_fill_120 rfl ?_
                        refine xj_goto (pc := 122) (tgt := 129) d_MO_fill_122 (by decide) ?_
                        refine xj_istore (pc := 129) d_MO_fill_129 (by decide) rfl ?_
                        dsimp only [xset, xset2, xkill]
                        rw [n_le, hsz] at h42 h66
                        refine hend ka kt _ _ _ _ hka hkt ta h25 ?_ ?_ ?_ ?_
                        all_goals first | (rw [n_0]; omega) | (rw [n_sub (by omega) (by omega), hsz]; omega) | skip
                        all_goals first | (rw [if_pos h84]; rfl; done) | (rw [if_neg h84, if_pos h93]; first | (rw [n_0]; omega) | (rw [n_sub (by omega) (by omega), hsz]; omega); done) | (rw [if_neg h84, if_neg h93, n_div2 (by first | (rw [n_0]; omega) | (rw [n_sub (by omega) (by omega), hsz]; omega))]; first | (rw [n_0]; omega) | (rw [n_sub (by omega) (by omega), hsz]; omega); done) | (exact absurd h84 (by assumption)) | (exact absurd h108 (by assumption)) | (exact absurd h93 (by assumption)) | (exact absurd h117 (by assumption))
                    · refine xj_iconst (pc := 111) (v := 0) d_MO_fill_111 (by decide) ?_
                      refine xj_goto (pc := 112) (tgt := 129) d_MO_fill_112 (by decide) ?_
                      refine xj_istore (pc := 129) d_MO_fill_129 (by decide) rfl ?_
                      dsimp only [xset, xset2, xkill]
                      rw [n_le, hsz] at h42 h66
                      refine hend ka kt _ _ _ _ hka hkt ta h25 ?_ ?_ ?_ ?_
                      all_goals first | (rw [n_0]; omega) | (rw [n_sub (by omega) (by omega), hsz]; omega) | skip
                      all_goals first | (rw [if_pos h84]; rfl; done) | (rw [if_neg h84, if_pos h93]; first | (rw [n_0]; omega) | (rw [n_sub (by omega) (by omega), hsz]; omega); done) | (rw [if_neg h84, if_neg h93, n_div2 (by first | (rw [n_0]; omega) | (rw [n_sub (by omega) (by omega), hsz]; omega))]; first | (rw [n_0]; omega) | (rw [n_sub (by omega) (by omega), hsz]; omega); done) | (exact absurd h84 (by assumption)) | (exact absurd h108 (by assumption)) | (exact absurd h93 (by assumption)) | (exact absurd h117 (by assumption))
                  · refine xj_iload (pc := 96) d_MO_fill_96 rfl ?_
                    refine xj_goto (pc := 98) (tgt := 105) d_MO_fill_98 (by decide) ?_
                    refine xj_istore (pc := 105) d_MO_fill_105 (by decide) rfl ?_
                    dsimp only [xset, xset2, xkill]
                    refine xj_iload_n (pc := 107) d_MO_fill_107 rfl rfl ?_
                    refine xj_if_ne (pc := 108) (tgt := 115) d_MO_fill_108 (by decide) (fun h108 => ?_) (fun h108 => ?_)
                    · refine xj_iload_n (pc := 115) d_MO_fill_115 rfl rfl ?_
                      refine xj_iconst (pc := 116) (v := 1) d_MO_fill_116 (by decide) ?_
                      refine xj_icmp_ne (pc := 117) (tgt := 125) d_MO_fill_117 (by decide) (fun h117 => ?_) (fun h117 => ?_)
                      · refine xj_iload (pc := 125) d_MO_fill_125 rfl ?_
                        refine xj_iconst (pc := 127) (v := 2) d_MO_fill_127 (by decide) ?_
                        refine xj_idiv (pc := 128) d_MO_fill_128 (by decide) ?_
                        refine xj_istore (pc := 129) d_MO_fill_129 (by decide) rfl ?_
                        dsimp only [xset, xset2, xkill]
                        rw [n_le, hsz] at h42 h66
                        refine hend ka kt _ _ _ _ hka hkt ta h25 ?_ ?_ ?_ ?_
                        all_goals first | (rw [n_0]; omega) | (rw [n_sub (by omega) (by omega), hsz]; omega) | skip
                        all_goals first | (rw [if_pos h84]; rfl; done) | (rw [if_neg h84, if_pos h93]; first | (rw [n_0]; omega) | (rw [n_sub (by omega) (by omega), hsz]; omega); done) | (rw [if_neg h84, if_neg h93, n_div2 (by first | (rw [n_0]; omega) | (rw [n_sub (by omega) (by omega), hsz]; omega))]; first | (rw [n_0]; omega) | (rw [n_sub (by omega) (by omega), hsz]; omega); done) | (exact absurd h84 (by assumption)) | (exact absurd h108 (by assumption)) | (exact absurd h93 (by assumption)) | (exact absurd h117 (by assumption))
                      · refine xj_iload (pc := 120) d_MO_fill_120 rfl ?_
                        refine xj_goto (pc := 122) (tgt := 129) d_MO_fill_122 (by decide) ?_
                        refine xj_istore (pc := 129) d_MO_fill_129 (by decide) rfl ?_
                        dsimp only [xset, xset2, xkill]
                        rw [n_le, hsz] at h42 h66
                        refine hend ka kt _ _ _ _ hka hkt ta h25 ?_ ?_ ?_ ?_
                        all_goals first | (rw [n_0]; omega) | (rw [n_sub (by omega) (by omega), hsz]; omega) | skip
                        all_goals first | (rw [if_pos h84]; rfl; done) | (rw [if_neg h84, if_pos h93]; first | (rw [n_0]; omega) | (rw [n_sub (by omega) (by omega), hsz]; omega); done) | (rw [if_neg h84, if_neg h93, n_div2 (by first | (rw [n_0]; omega) | (rw [n_sub (by omega) (by omega), hsz]; omega))]; first | (rw [n_0]; omega) | (rw [n_sub (by omega) (by omega), hsz]; omega); done) | (exact absurd h84 (by assumption)) | (exact absurd h108 (by assumption)) | (exact absurd h93 (by assumption)) | (exact absurd h117 (by assumption))
                    · refine xj_iconst (pc := 111) (v := 0) d_MO_fill_111 (by decide) ?_
                      refine xj_goto (pc := 112) (tgt := 129) d_MO_fill_112 (by decide) ?_
                      refine xj_istore (pc := 129) d_MO_fill_129 (by decide) rfl ?_
                      dsimp only [xset, xset2, xkill]
                      rw [n_le, hsz] at h42 h66
                      refine hend ka kt _ _ _ _ hka hkt ta h25 ?_ ?_ ?_ ?_
                      all_goals first | (rw [n_0]; omega) | (rw [n_sub (by omega) (by omega), hsz]; omega) | skip
                      all_goals first | (rw [if_pos h84]; rfl; done) | (rw [if_neg h84, if_pos h93]; first | (rw [n_0]; omega) | (rw [n_sub (by omega) (by omega), hsz]; omega); done) | (rw [if_neg h84, if_neg h93, n_div2 (by first | (rw [n_0]; omega) | (rw [n_sub (by omega) (by omega), hsz]; omega))]; first | (rw [n_0]; omega) | (rw [n_sub (by omega) (by omega), hsz]; omega); done) | (exact absurd h84 (by assumption)) | (exact absurd h108 (by assumption)) | (exact absurd h93 (by assumption)) | (exact absurd h117 (by assumption))
                · refine xj_iconst (pc := 87) (v := 0) d_MO_fill_87 (by decide) ?_
                  refine xj_goto (pc := 88) (tgt := 105) d_MO_fill_88 (by decide) ?_
                  refine xj_istore (pc := 105) d_MO_fill_105 (by decide) rfl ?_
                  dsimp only [xset, xset2, xkill]
                  refine xj_iload_n (pc := 107) d_MO_fill_107 rfl rfl ?_
                  refine xj_if_ne (pc := 108) (tgt := 115) d_MO_fill_108 (by decide) (fun h108 => ?_) (fun h108 => ?_)
                  · refine xj_iload_n (pc := 115) d_MO_fill_115 rfl rfl ?_
                    refine xj_iconst (pc := 116) (v := 1) d_MO_fill_116 (by decide) ?_
                    refine xj_icmp_ne (pc := 117) (tgt := 125) d_MO_fill_117 (by decide) (fun h117 => ?_) (fun h117 => ?_)
                    · refine xj_iload (pc := 125) d_MO_fill_125 rfl ?_
                      refine xj_iconst (pc := 127) (v := 2) d_MO_fill_127 (by decide) ?_
                      refine xj_idiv (pc := 128) d_MO_fill_128 (by decide) ?_
                      refine xj_istore (pc := 129) d_MO_fill_129 (by decide) rfl ?_
                      dsimp only [xset, xset2, xkill]
                      rw [n_le, hsz] at h42 h66
                      refine hend ka kt _ _ _ _ hka hkt ta h25 ?_ ?_ ?_ ?_
                      all_goals first | (rw [n_0]; omega) | (rw [n_sub (by omega) (by omega), hsz]; omega) | skip
                      all_goals first | (rw [if_pos h84]; rfl; done) | (rw [if_neg h84, if_pos h93]; first | (rw [n_0]; omega) | (rw [n_sub (by omega) (by omega), hsz]; omega); done) | (rw [if_neg h84, if_neg h93, n_div2 (by first | (rw [n_0]; omega) | (rw [n_sub (by omega) (by omega), hsz]; omega))]; first | (rw [n_0]; omega) | (rw [n_sub (by omega) (by omega), hsz]; omega); done) | (exact absurd h84 (by assumption)) | (exact absurd h108 (by assumption)) | (exact absurd h93 (by assumption)) | (exact absurd h117 (by assumption))
                    · refine xj_iload (pc := 120) d_MO_fill_120 rfl ?_
                      refine xj_goto (pc := 122) (tgt := 129) d_MO_fill_122 (by decide) ?_
                      refine xj_istore (pc := 129) d_MO_fill_129 (by decide) rfl ?_
                      dsimp only [xset, xset2, xkill]
                      rw [n_le, hsz] at h42 h66
                      refine hend ka kt _ _ _ _ hka hkt ta h25 ?_ ?_ ?_ ?_
                      all_goals first | (rw [n_0]; omega) | (rw [n_sub (by omega) (by omega), hsz]; omega) | skip
                      all_goals first | (rw [if_pos h84]; rfl; done) | (rw [if_neg h84, if_pos h93]; first | (rw [n_0]; omega) | (rw [n_sub (by omega) (by omega), hsz]; omega); done) | (rw [if_neg h84, if_neg h93, n_div2 (by first | (rw [n_0]; omega) | (rw [n_sub (by omega) (by omega), hsz]; omega))]; first | (rw [n_0]; omega) | (rw [n_sub (by omega) (by omega), hsz]; omega); done) | (exact absurd h84 (by assumption)) | (exact absurd h108 (by assumption)) | (exact absurd h93 (by assumption)) | (exact absurd h117 (by assumption))
                  · refine xj_iconst (pc := 111) (v := 0) d_MO_fill_111 (by decide) ?_
                    refine xj_goto (pc := 112) (tgt := 129) d_MO_fill_112 (by decide) ?_
                    refine xj_istore (pc := 129) d_MO_fill_129 (by decide) rfl ?_
                    dsimp only [xset, xset2, xkill]
                    rw [n_le, hsz] at h42 h66
                    refine hend ka kt _ _ _ _ hka hkt ta h25 ?_ ?_ ?_ ?_
                    all_goals first | (rw [n_0]; omega) | (rw [n_sub (by omega) (by omega), hsz]; omega) | skip
                    all_goals first | (rw [if_pos h84]; rfl; done) | (rw [if_neg h84, if_pos h93]; first | (rw [n_0]; omega) | (rw [n_sub (by omega) (by omega), hsz]; omega); done) | (rw [if_neg h84, if_neg h93, n_div2 (by first | (rw [n_0]; omega) | (rw [n_sub (by omega) (by omega), hsz]; omega))]; first | (rw [n_0]; omega) | (rw [n_sub (by omega) (by omega), hsz]; omega); done) | (exact absurd h84 (by assumption)) | (exact absurd h108 (by assumption)) | (exact absurd h93 (by assumption)) | (exact absurd h117 (by assumption))
            · refine xj_aload_n (pc := 45) d_MO_fill_45 rfl rfl ?_
              refine xj_getR (pc := 46) d_MO_fill_46 fl_MO_16 rfl rfl ?_
              refine xj_iload_n (pc := 49) d_MO_fill_49 rfl rfl ?_
              refine xj_iald (pc := 50) d_MO_fill_50 (n := 10) (x := 21) rfl rfl hka (by decide) ?_
              refine xj_iload_n (pc := 51) d_MO_fill_51 rfl rfl ?_
              refine xj_isub (pc := 52) d_MO_fill_52 ?_
              refine xj_goto (pc := 53) (tgt := 57) d_MO_fill_53 (by decide) ?_
              refine xj_istore (pc := 57) d_MO_fill_57 (by decide) rfl ?_
              dsimp only [xset, xset2, xkill]
              refine xj_iload_n (pc := 59) d_MO_fill_59 rfl rfl ?_
              refine xj_aload_n (pc := 60) d_MO_fill_60 rfl rfl ?_
              refine xj_getR (pc := 61) d_MO_fill_61 fl_MO_16 rfl rfl ?_
              refine xj_iload_n (pc := 64) d_MO_fill_64 rfl rfl ?_
              refine xj_iald (pc := 65) d_MO_fill_65 (n := 10) (x := 21) rfl rfl hka (by decide) ?_
              refine xj_icmp_le (pc := 66) (tgt := 80) d_MO_fill_66 (by decide) (fun h66 => ?_) (fun h66 => ?_)
              · refine xj_iconst (pc := 80) (v := 0) d_MO_fill_80 (by decide) ?_
                refine xj_istore (pc := 81) d_MO_fill_81 (by decide) rfl ?_
                dsimp only [xset, xset2, xkill]
                refine xj_iload_n (pc := 83) d_MO_fill_83 rfl rfl ?_
                refine xj_if_ne (pc := 84) (tgt := 91) d_MO_fill_84 (by decide) (fun h84 => ?_) (fun h84 => ?_)
                · refine xj_iload_n (pc := 91) d_MO_fill_91 rfl rfl ?_
                  refine xj_iconst (pc := 92) (v := 1) d_MO_fill_92 (by decide) ?_
                  refine xj_icmp_ne (pc := 93) (tgt := 101) d_MO_fill_93 (by decide) (fun h93 => ?_) (fun h93 => ?_)
                  · refine xj_iload (pc := 101) d_MO_fill_101 rfl ?_
                    refine xj_iconst (pc := 103) (v := 2) d_MO_fill_103 (by decide) ?_
                    refine xj_idiv (pc := 104) d_MO_fill_104 (by decide) ?_
                    refine xj_istore (pc := 105) d_MO_fill_105 (by decide) rfl ?_
                    dsimp only [xset, xset2, xkill]
                    refine xj_iload_n (pc := 107) d_MO_fill_107 rfl rfl ?_
                    refine xj_if_ne (pc := 108) (tgt := 115) d_MO_fill_108 (by decide) (fun h108 => ?_) (fun h108 => ?_)
                    · refine xj_iload_n (pc := 115) d_MO_fill_115 rfl rfl ?_
                      refine xj_iconst (pc := 116) (v := 1) d_MO_fill_116 (by decide) ?_
                      refine xj_icmp_ne (pc := 117) (tgt := 125) d_MO_fill_117 (by decide) (fun h117 => ?_) (fun h117 => ?_)
                      · refine xj_iload (pc := 125) d_MO_fill_125 rfl ?_
                        refine xj_iconst (pc := 127) (v := 2) d_MO_fill_127 (by decide) ?_
                        refine xj_idiv (pc := 128) d_MO_fill_128 (by decide) ?_
                        refine xj_istore (pc := 129) d_MO_fill_129 (by decide) rfl ?_
                        dsimp only [xset, xset2, xkill]
                        rw [n_le, hsz] at h42 h66
                        refine hend ka kt _ _ _ _ hka hkt ta h25 ?_ ?_ ?_ ?_
                        all_goals first | (rw [n_0]; omega) | (rw [n_sub (by omega) (by omega), hsz]; omega) | skip
                        all_goals first | (rw [if_pos h84]; rfl; done) | (rw [if_neg h84, if_pos h93]; first | (rw [n_0]; omega) | (rw [n_sub (by omega) (by omega), hsz]; omega); done) | (rw [if_neg h84, if_neg h93, n_div2 (by first | (rw [n_0]; omega) | (rw [n_sub (by omega) (by omega), hsz]; omega))]; first | (rw [n_0]; omega) | (rw [n_sub (by omega) (by omega), hsz]; omega); done) | (exact absurd h84 (by assumption)) | (exact absurd h108 (by assumption)) | (exact absurd h93 (by assumption)) | (exact absurd h117 (by assumption))
                      · refine xj_iload (pc := 120) d_MO_fill_120 rfl ?_
                        refine xj_goto (pc := 122) (tgt := 129) d_MO_fill_122 (by decide) ?_
                        refine xj_istore (pc := 129) d_MO_fill_129 (by decide) rfl ?_
                        dsimp only [xset, xset2, xkill]
                        rw [n_le, hsz] at h42 h66
                        refine hend ka kt _ _ _ _ hka hkt ta h25 ?_ ?_ ?_ ?_
                        all_goals first | (rw [n_0]; omega) | (rw [n_sub (by omega) (by omega), hsz]; omega) | skip
                        all_goals first | (rw [if_pos h84]; rfl; done) | (rw [if_neg h84, if_pos h93]; first | (rw [n_0]; omega) | (rw [n_sub (by omega) (by omega), hsz]; omega); done) | (rw [if_neg h84, if_neg h93, n_div2 (by first | (rw [n_0]; omega) | (rw [n_sub (by omega) (by omega), hsz]; omega))]; first | (rw [n_0]; omega) | (rw [n_sub (by omega) (by omega), hsz]; omega); done) | (exact absurd h84 (by assumption)) | (exact absurd h108 (by assumption)) | (exact absurd h93 (by assumption)) | (exact absurd h117 (by assumption))
                    · refine xj_iconst (pc := 111) (v := 0) d_MO_fill_111 (by decide) ?_
                      refine xj_goto (pc := 112) (tgt := 129) d_MO_fill_112 (by decide) ?_
                      refine xj_istore (pc := 129) d_MO_fill_129 (by decide) rfl ?_
                      dsimp only [xset, xset2, xkill]
                      rw [n_le, hsz] at h42 h66
                      refine hend ka kt _ _ _ _ hka hkt ta h25 ?_ ?_ ?_ ?_
                      all_goals first | (rw [n_0]; omega) | (rw [n_sub (by omega) (by omega), hsz]; omega) | skip
                      all_goals first | (rw [if_pos h84]; rfl; done) | (rw [if_neg h84, if_pos h93]; first | (rw [n_0]; omega) | (rw [n_sub (by omega) (by omega), hsz]; omega); done) | (rw [if_neg h84, if_neg h93, n_div2 (by first | (rw [n_0]; omega) | (rw [n_sub (by omega) (by omega), hsz]; omega))]; first | (rw [n_0]; omega) | (rw [n_sub (by omega) (by omega), hsz]; omega); done) | (exact absurd h84 (by assumption)) | (exact absurd h108 (by assumption)) | (exact absurd h93 (by assumption)) | (exact absurd h117 (by assumption))
                  · refine xj_iload (pc := 96) d_MO_fill_96 rfl ?_
                    refine xj_goto (pc := 98) (tgt := 105) d_MO_fill_98 (by decide) ?_
                    refine xj_istore (pc := 105) d_MO_fill_105 (by decide) rfl ?_
                    dsimp only [xset, xset2, xkill]
                    refine xj_iload_n (pc := 107) d_MO_fill_107 rfl rfl ?_
                    refine xj_if_ne (pc := 108) (tgt := 115) d_MO_fill_108 (by decide) (fun h108 => ?_) (fun h108 => ?_)
                    · refine xj_iload_n (pc := 115) d_MO_fill_115 rfl rfl ?_
                      refine xj_iconst (pc := 116) (v := 1) d_MO_fill_116 (by decide) ?_
                      refine xj_icmp_ne (pc := 117) (tgt := 125) d_MO_fill_117 (by decide) (fun h117 => ?_) (fun h117 => ?_)
                      · refine xj_iload (pc := 125) d_MO_fill_125 rfl ?_
                        refine xj_iconst (pc := 127) (v := 2) d_MO_fill_127 (by decide) ?_
                        refine xj_idiv (pc := 128) d_MO_fill_128 (by decide) ?_
                        refine xj_istore (pc := 129) d_MO_fill_129 (by decide) rfl ?_
                        dsimp only [xset, xset2, xkill]
                        rw [n_le, hsz] at h42 h66
                        refine hend ka kt _ _ _ _ hka hkt ta h25 ?_ ?_ ?_ ?_
                        all_goals first | (rw [n_0]; omega) | (rw [n_sub (by omega) (by omega), hsz]; omega) | skip
                        all_goals first | (rw [if_pos h84]; rfl; done) | (rw [if_neg h84, if_pos h93]; first | (rw [n_0]; omega) | (rw [n_sub (by omega) (by omega), hsz]; omega); done) | (rw [if_neg h84, if_neg h93, n_div2 (by first | (rw [n_0]; omega) | (rw [n_sub (by omega) (by omega), hsz]; omega))]; first | (rw [n_0]; omega) | (rw [n_sub (by omega) (by omega), hsz]; omega); done) | (exact absurd h84 (by assumption)) | (exact absurd h108 (by assumption)) | (exact absurd h93 (by assumption)) | (exact absurd h117 (by assumption))
                      · refine xj_iload (pc := 120) d_MO_fill_120 rfl ?_
                        refine xj_goto (pc := 122) (tgt := 129) d_MO_fill_122 (by decide) ?_
                        refine xj_istore (pc := 129) d_MO_fill_129 (by decide) rfl ?_
                        dsimp only [xset, xset2, xkill]
                        rw [n_le, hsz] at h42 h66
                        refine hend ka kt _ _ _ _ hka hkt ta h25 ?_ ?_ ?_ ?_
                        all_goals first | (rw [n_0]; omega) | (rw [n_sub (by omega) (by omega), hsz]; omega) | skip
                        all_goals first | (rw [if_pos h84]; rfl; done) | (rw [if_neg h84, if_pos h93]; first | (rw [n_0]; omega) | (rw [n_sub (by omega) (by omega), hsz]; omega); done) | (rw [if_neg h84, if_neg h93, n_div2 (by first | (rw [n_0]; omega) | (rw [n_sub (by omega) (by omega), hsz]; omega))]; first | (rw [n_0]; omega) | (rw [n_sub (by omega) (by omega), hsz]; omega); done) | (exact absurd h84 (by assumption)) | (exact absurd h108 (by assumption)) | (exact absurd h93 (by assumption)) | (exact absurd h117 (by assumption))
                    · refine xj_iconst (pc := 111) (v := 0) d_MO_fill_111 (by decide) ?_
                      refine xj_goto (pc := 112) (tgt := 129) d_MO_fill_112 (by decide) ?_
                      refine xj_istore (pc := 129) d_MO_fill_129 (by decide) rfl ?_
                      dsimp only [xset, xset2, xkill]
                      rw [n_le, hsz] at h42 h66
                      refine hend ka kt _ _ _ _ hka hkt ta h25 ?_ ?_ ?_ ?_
                      all_goals first | (rw [n_0]; omega) | (rw [n_sub (by omega) (by omega), hsz]; omega) | skip
                      all_goals first | (rw [if_pos h84]; rfl; done) | (rw [if_neg h84, if_pos h93]; first | (rw [n_0]; omega) | (rw [n_sub (by omega) (by omega), hsz]; omega); done) | (rw [if_neg h84, if_neg h93, n_div2 (by first | (rw [n_0]; omega) | (rw [n_sub (by omega) (by omega), hsz]; omega))]; first | (rw [n_0]; omega) | (rw [n_sub (by omega) (by omega), hsz]; omega); done) | (exact absurd h84 (by assumption)) | (exact absurd h108 (by assumption)) | (exact absurd h93 (by assumption)) | (exact absurd h117 (by assumption))
                · refine xj_iconst (pc := 87) (v := 0) d_MO_fill_87 (by decide) ?_
                  refine xj_goto (pc := 88) (tgt := 105) d_MO_fill_88 (by decide) ?_
                  refine xj_istore (pc := 105) d_MO_fill_105 (by decide) rfl ?_
                  dsimp only [xset, xset2, xkill]
                  refine xj_iload_n (pc := 107) d_MO_fill_107 rfl rfl ?_
                  refine xj_if_ne (pc := 108) (tgt := 115) d_MO_fill_108 (by decide) (fun h108 => ?_) (fun h108 => ?_)
                  · refine xj_iload_n (pc := 115) d_MO_fill_115 rfl rfl ?_
                    refine xj_iconst (pc := 116) (v := 1) d_MO_fill_116 (by decide) ?_
                    refine xj_icmp_ne (pc := 117) (tgt := 125) d_MO_fill_117 (by decide) (fun h117 => ?_) (fun h117 => ?_)
                    · refine xj_iload (pc := 125) d_MO_fill_125 rfl ?_
                      refine xj_iconst (pc := 127) (v := 2) d_MO_fill_127 (by decide) ?_
                      refine xj_idiv (pc := 128) d_MO_fill_128 (by decide) ?_
                      refine xj_istore (pc := 129) d_MO_fill_129 (by decide) rfl ?_
                      dsimp only [xset, xset2, xkill]
                      rw [n_le, hsz] at h42 h66
                      refine hend ka kt _ _ _ _ hka hkt ta h25 ?_ ?_ ?_ ?_
                      all_goals first | (rw [n_0]; omega) | (rw [n_sub (by omega) (by omega), hsz]; omega) | skip
                      all_goals first | (rw [if_pos h84]; rfl; done) | (rw [if_neg h84, if_pos h93]; first | (rw [n_0]; omega) | (rw [n_sub (by omega) (by omega), hsz]; omega); done) | (rw [if_neg h84, if_neg h93, n_div2 (by first | (rw [n_0]; omega) | (rw [n_sub (by omega) (by omega), hsz]; omega))]; first | (rw [n_0]; omega) | (rw [n_sub (by omega) (by omega), hsz]; omega); done) | (exact absurd h84 (by assumption)) | (exact absurd h108 (by assumption)) | (exact absurd h93 (by assumption)) | (exact absurd h117 (by assumption))
                    · refine xj_iload (pc := 120) d_MO_fill_120 rfl ?_
                      refine xj_goto (pc := 122) (tgt := 129) d_MO_fill_122 (by decide) ?_
                      refine xj_istore (pc := 129) d_MO_fill_129 (by decide) rfl ?_
                      dsimp only [xset, xset2, xkill]
                      rw [n_le, hsz] at h42 h66
                      refine hend ka kt _ _ _ _ hka hkt ta h25 ?_ ?_ ?_ ?_
                      all_goals first | (rw [n_0]; omega) | (rw [n_sub (by omega) (by omega), hsz]; omega) | skip
                      all_goals first | (rw [if_pos h84]; rfl; done) | (rw [if_neg h84, if_pos h93]; first | (rw [n_0]; omega) | (rw [n_sub (by omega) (by omega), hsz]; omega); done) | (rw [if_neg h84, if_neg h93, n_div2 (by first | (rw [n_0]; omega) | (rw [n_sub (by omega) (by omega), hsz]; omega))]; first | (rw [n_0]; omega) | (rw [n_sub (by omega) (by omega), hsz]; omega); done) | (exact absurd h84 (by assumption)) | (exact absurd h108 (by assumption)) | (exact absurd h93 (by assumption)) | (exact absurd h117 (by assumption))
                  · refine xj_iconst (pc := 111) (v := 0) d_MO_fill_111 (by decide) ?_
                    refine xj_goto (pc := 112) (tgt := 129) d_MO_fill_112 (by decide) ?_
                    refine xj_istore (pc := 129) d_MO_fill_129 (by decide) rfl ?_
                    dsimp only [xset, xset2, xkill]
                    rw [n_le, hsz] at h42 h66
                    refine hend ka kt _ _ _ _ hka hkt ta h25 ?_ ?_ ?_ ?_
                    all_goals first | (rw [n_0]; omega) | (rw [n_sub (by omega) (by omega), hsz]; omega) | skip
                    all_goals first | (rw [if_pos h84]; rfl; done) | (rw [if_neg h84, if_pos h93]; first | (rw [n_0]; omega) | (rw [n_sub (by omega) (by omega), hsz]; omega); done) | (rw [if_neg h84, if_neg h93, n_div2 (by first | (rw [n_0]; omega) | (rw [n_sub (by omega) (by omega), hsz]; omega))]; first | (rw [n_0]; omega) | (rw [n_sub (by omega) (by omega), hsz]; omega); done) | (exact absurd h84 (by assumption)) | (exact absurd h108 (by assumption)) | (exact absurd h93 (by assumption)) | (exact absurd h117 (by assumption))
              · refine xj_iload_n (pc := 69) d_MO_fill_69 rfl rfl ?_
                refine xj_aload_n (pc := 70) d_MO_fill_70 rfl rfl ?_
                refine xj_getR (pc := 71) d_MO_fill_71 fl_MO_16 rfl rfl ?_
                refine xj_iload_n (pc := 74) d_MO_fill_74 rfl rfl ?_
                refine xj_iald (pc := 75) d_MO_fill_75 (n := 10) (x := 21) rfl rfl hka (by decide) ?_
                refine xj_isub (pc := 76) d_MO_fill_76 ?_
                refine xj_goto (pc := 77) (tgt := 81) d_MO_fill_77 (by decide) ?_
                refine xj_istore (pc := 81) d_MO_fill_81 (by decide) rfl ?_
                dsimp only [xset, xset2, xkill]
                refine xj_iload_n (pc := 83) d_MO_fill_83 rfl rfl ?_
                refine xj_if_ne (pc := 84) (tgt := 91) d_MO_fill_84 (by decide) (fun h84 => ?_) (fun h84 => ?_)
                · refine xj_iload_n (pc := 91) d_MO_fill_91 rfl rfl ?_
                  refine xj_iconst (pc := 92) (v := 1) d_MO_fill_92 (by decide) ?_
                  refine xj_icmp_ne (pc := 93) (tgt := 101) d_MO_fill_93 (by decide) (fun h93 => ?_) (fun h93 => ?_)
                  · refine xj_iload (pc := 101) d_MO_fill_101 rfl ?_
                    refine xj_iconst (pc := 103) (v := 2) d_MO_fill_103 (by decide) ?_
                    refine xj_idiv (pc := 104) d_MO_fill_104 (by decide) ?_
                    refine xj_istore (pc := 105) d_MO_fill_105 (by decide) rfl ?_
                    dsimp only [xset, xset2, xkill]
                    refine xj_iload_n (pc := 107) d_MO_fill_107 rfl rfl ?_
                    refine xj_if_ne (pc := 108) (tgt := 115) d_MO_fill_108 (by decide) (fun h108 => ?_) (fun h108 => ?_)
                    · refine xj_iload_n (pc := 115) d_MO_fill_115 rfl rfl ?_
                      refine xj_iconst (pc := 116) (v := 1) d_MO_fill_116 (by decide) ?_
                      refine xj_icmp_ne (pc := 117) (tgt := 125) d_MO_fill_117 (by decide) (fun h117 => ?_) (fun h117 => ?_)
                      · refine xj_iload (pc := 125) d_MO_fill_125 rfl ?_
                        refine xj_iconst (pc := 127) (v := 2) d_MO_fill_127 (by decide) ?_
                        refine xj_idiv (pc := 128) d_MO_fill_128 (by decide) ?_
                        refine xj_istore (pc := 129) d_MO_fill_129 (by decide) rfl ?_
                        dsimp only [xset, xset2, xkill]
                        rw [n_le, hsz] at h42 h66
                        refine hend ka kt _ _ _ _ hka hkt ta h25 ?_ ?_ ?_ ?_
                        all_goals first | (rw [n_0]; omega) | (rw [n_sub (by omega) (by omega), hsz]; omega) | skip
                        all_goals first | (rw [if_pos h84]; rfl; done) | (rw [if_neg h84, if_pos h93]; first | (rw [n_0]; omega) | (rw [n_sub (by omega) (by omega), hsz]; omega); done) | (rw [if_neg h84, if_neg h93, n_div2 (by first | (rw [n_0]; omega) | (rw [n_sub (by omega) (by omega), hsz]; omega))]; first | (rw [n_0]; omega) | (rw [n_sub (by omega) (by omega), hsz]; omega); done) | (exact absurd h84 (by assumption)) | (exact absurd h108 (by assumption)) | (exact absurd h93 (by assumption)) | (exact absurd h117 (by assumption))
                      · refine xj_iload (pc := 120) d_MO_fill_120 rfl ?_
                        refine xj_goto (pc := 122) (tgt := 129) d_MO_fill_122 (by decide) ?_
                        refine xj_istore (pc := 129) d_MO_fill_129 (by decide) rfl ?_
                        dsimp only [xset, xset2, xkill]
                        rw [n_le, hsz] at h42 h66
                        refine hend ka kt _ _ _ _ hka hkt ta h25 ?_ ?_ ?_ ?_
                        all_goals first | (rw [n_0]; omega) | (rw [n_sub (by omega) (by omega), hsz]; omega) | skip
                        all_goals first | (rw [if_pos h84]; rfl; done) | (rw [if_neg h84, if_pos h93]; first | (rw [n_0]; omega) | (rw [n_sub (by omega) (by omega), hsz]; omega); done) | (rw [if_neg h84, if_neg h93, n_div2 (by first | (rw [n_0]; omega) | (rw [n_sub (by omega) (by omega), hsz]; omega))]; first | (rw [n_0]; omega) | (rw [n_sub (by omega) (by omega), hsz]; omega); done) | (exact absurd h84 (by assumption)) | (exact absurd h108 (by assumption)) | (exact absurd h93 (by assumption)) | (exact absurd h117 (by assumption))
                    · refine xj_iconst (pc := 111) (v := 0) d_MO_fill_111 (by decide) ?_
                      refine xj_goto (pc := 112) (tgt := 129) d_MO_fill_112 (by decide) ?_
                      refine xj_istore (pc := 129) d_MO_fill_129 (by decide) rfl ?_
                      dsimp only [xset, xset2, xkill]
                      rw [n_le, hsz] at h42 h66
                      refine hend ka kt _ _ _ _ hka hkt ta h25 ?_ ?_ ?_ ?_
                      all_goals first | (rw [n_0]; omega) | (rw [n_sub (by omega) (by omega), hsz]; omega) | skip
                      all_goals first | (rw [if_pos h84]; rfl; done) | (rw [if_neg h84, if_pos h93]; first | (rw [n_0]; omega) | (rw [n_sub (by omega) (by omega), hsz]; omega); done) | (rw [if_neg h84, if_neg h93, n_div2 (by first | (rw [n_0]; omega) | (rw [n_sub (by omega) (by omega), hsz]; omega))]; first | (rw [n_0]; omega) | (rw [n_sub (by omega) (by omega), hsz]; omega); done) | (exact absurd h84 (by assumption)) | (exact absurd h108 (by assumption)) | (exact absurd h93 (by assumption)) | (exact absurd h117 (by assumption))
                  · refine xj_iload (pc := 96) d_MO_fill_96 rfl ?_
                    refine xj_goto (pc := 98) (tgt := 105) d_MO_fill_98 (by decide) ?_
                    refine xj_istore (pc := 105) d_MO_fill_105 (by decide) rfl ?_
                    dsimp only [xset, xset2, xkill]
                    refine xj_iload_n (pc := 107) d_MO_fill_107 rfl rfl ?_
                    refine xj_if_ne (pc := 108) (tgt := 115) d_MO_fill_108 (by decide) (fun h108 => ?_) (fun h108 => ?_)
                    · refine xj_iload_n (pc := 115) d_MO_fill_115 rfl rfl ?_
                      refine xj_iconst (pc := 116) (v := 1) d_MO_fill_116 (by decide) ?_
                      refine xj_icmp_ne (pc := 117) (tgt := 125) d_MO_fill_117 (by decide) (fun h117 => ?_) (fun h117 => ?_)
                      · refine xj_iload (pc := 125) d_MO_fill_125 rfl ?_
                        refine xj_iconst (pc := 127) (v := 2) d_MO_fill_127 (by decide) ?_
                        refine xj_idiv (pc := 128) d_MO_fill_128 (by decide) ?_
                        refine xj_istore (pc := 129) d_MO_fill_129 (by decide) rfl ?_
                        dsimp only [xset, xset2, xkill]
                        rw [n_le, hsz] at h42 h66
                        refine hend ka kt _ _ _ _ hka hkt ta h25 ?_ ?_ ?_ ?_
                        all_goals first | (rw [n_0]; omega) | (rw [n_sub (by omega) (by omega), hsz]; omega) | skip
                        all_goals first | (rw [if_pos h84]; rfl; done) | (rw [if_neg h84, if_pos h93]; first | (rw [n_0]; omega) | (rw [n_sub (by omega) (by omega), hsz]; omega); done) | (rw [if_neg h84, if_neg h93, n_div2 (by first | (rw [n_0]; omega) | (rw [n_sub (by omega) (by omega), hsz]; omega))]; first | (rw [n_0]; omega) | (rw [n_sub (by omega) (by omega), hsz]; omega); done) | (exact absurd h84 (by assumption)) | (exact absurd h108 (by assumption)) | (exact absurd h93 (by assumption)) | (exact absurd h117 (by assumption))
                      · refine xj_iload (pc := 120) d_MO_fill_120 rfl ?_
                        refine xj_goto (pc := 122) (tgt := 129) d_MO_fill_122 (by decide) ?_
                        refine xj_istore (pc := 129) d_MO_fill_129 (by decide) rfl ?_
                        dsimp only [xset, xset2, xkill]
                        rw [n_le, hsz] at h42 h66
                        refine hend ka kt _ _ _ _ hka hkt ta h25 ?_ ?_ ?_ ?_
                        all_goals first | (rw [n_0]; omega) | (rw [n_sub (by omega) (by omega), hsz]; omega) | skip
                        all_goals first | (rw [if_pos h84]; rfl; done) | (rw [if_neg h84, if_pos h93]; first | (rw [n_0]; omega) | (rw [n_sub (by omega) (by omega), hsz]; omega); done) | (rw [if_neg h84, if_neg h93, n_div2 (by first | (rw [n_0]; omega) | (rw [n_sub (by omega) (by omega), hsz]; omega))]; first | (rw [n_0]; omega) | (rw [n_sub (by omega) (by omega), hsz]; omega); done) | (exact absurd h84 (by assumption)) | (exact absurd h108 (by assumption)) | (exact absurd h93 (by assumption)) | (exact absurd h117 (by assumption))
                    · refine xj_iconst (pc := 111) (v := 0) d_MO_fill_111 (by decide) ?_
                      refine xj_goto (pc := 112) (tgt := 129) d_MO_fill_112 (by decide) ?_
                      refine xj_istore (pc := 129) d_MO_fill_129 (by decide) rfl ?_
                      dsimp only [xset, xset2, xkill]
                      rw [n_le, hsz] at h42 h66
                      refine hend ka kt _ _ _ _ hka hkt ta h25 ?_ ?_ ?_ ?_
                      all_goals first | (rw [n_0]; omega) | (rw [n_sub (by omega) (by omega), hsz]; omega) | skip
                      all_goals first | (rw [if_pos h84]; rfl; done) | (rw [if_neg h84, if_pos h93]; first | (rw [n_0]; omega) | (rw [n_sub (by omega) (by omega), hsz]; omega); done) | (rw [if_neg h84, if_neg h93, n_div2 (by first | (rw [n_0]; omega) | (rw [n_sub (by omega) (by omega), hsz]; omega))]; first | (rw [n_0]; omega) | (rw [n_sub (by omega) (by omega), hsz]; omega); done) | (exact absurd h84 (by assumption)) | (exact absurd h108 (by assumption)) | (exact absurd h93 (by assumption)) | (exact absurd h117 (by assumption))
                · refine xj_iconst (pc := 87) (v := 0) d_MO_fill_87 (by decide) ?_
                  refine xj_goto (pc := 88) (tgt := 105) d_MO_fill_88 (by decide) ?_
                  refine xj_istore (pc := 105) d_MO_fill_105 (by decide) rfl ?_
                  dsimp only [xset, xset2, xkill]
                  refine xj_iload_n (pc := 107) d_MO_fill_107 rfl rfl ?_
                  refine xj_if_ne (pc := 108) (tgt := 115) d_MO_fill_108 (by decide) (fun h108 => ?_) (fun h108 => ?_)
                  · refine xj_iload_n (pc := 115) d_MO_fill_115 rfl rfl ?_
                    refine xj_iconst (pc := 116) (v := 1) d_MO_fill_116 (by decide) ?_
                    refine xj_icmp_ne (pc := 117) (tgt := 125) d_MO_fill_117 (by decide) (fun h117 => ?_) (fun h117 => ?_)
                    · refine xj_iload (pc := 125) d_MO_fill_125 rfl ?_
                      refine xj_iconst (pc := 127) (v := 2) d_MO_fill_127 (by decide) ?_
                      refine xj_idiv (pc := 128) d_MO_fill_128 (by decide) ?_
                      refine xj_istore (pc := 129) d_MO_fill_129 (by decide) rfl ?_
                      dsimp only [xset, xset2, xkill]
                      rw [n_le, hsz] at h42 h66
                      refine hend ka kt _ _ _ _ hka hkt ta h25 ?_ ?_ ?_ ?_
                      all_goals first | (rw [n_0]; omega) | (rw [n_sub (by omega) (by omega), hsz]; omega) | skip
                      all_goals first | (rw [if_pos h84]; rfl; done) | (rw [if_neg h84, if_pos h93]; first | (rw [n_0]; omega) | (rw [n_sub (by omega) (by omega), hsz]; omega); done) | (rw [if_neg h84, if_neg h93, n_div2 (by first | (rw [n_0]; omega) | (rw [n_sub (by omega) (by omega), hsz]; omega))]; first | (rw [n_0]; omega) | (rw [n_sub (by omega) (by omega), hsz]; omega); done) | (exact absurd h84 (by assumption)) | (exact absurd h108 (by assumption)) | (exact absurd h93 (by assumption)) | (exact absurd h117 (by assumption))
                    · refine xj_iload (pc := 120) d_MO_fill_120 rfl ?_
                      refine xj_goto (pc := 122) (tgt := 129) d_MO_fill_122 (by decide) ?_
                      refine xj_istore (pc := 129) d_MO_fill_129 (by decide) rfl ?_
                      dsimp only [xset, xset2, xkill]
                      rw [n_le, hsz] at h42 h66
                      refine hend ka kt _ _ _ _ hka hkt ta h25 ?_ ?_ ?_ ?_
                      all_goals first | (rw [n_0]; omega) | (rw [n_sub (by omega) (by omega), hsz]; omega) | skip
                      all_goals first | (rw [if_pos h84]; rfl; done) | (rw [if_neg h84, if_pos h93]; first | (rw [n_0]; omega) | (rw [n_sub (by omega) (by omega), hsz]; omega); done) | (rw [if_neg h84, if_neg h93, n_div2 (by first | (rw [n_0]; omega) | (rw [n_sub (by omega) (by omega), hsz]; omega))]; first | (rw [n_0]; omega) | (rw [n_sub (by omega) (by omega), hsz]; omega); done) | (exact absurd h84 (by assumption)) | (exact absurd h108 (by assumption)) | (exact absurd h93 (by assumption)) | (exact absurd h117 (by assumption))
                  · refine xj_iconst (pc := 111) (v := 0) d_MO_fill_111 (by decide) ?_
                    refine xj_goto (pc := 112) (tgt := 129) d_MO_fill_112 (by decide) ?_
                    refine xj_istore (pc := 129) d_MO_fill_129 (by decide) rfl ?_
                    dsimp only [xset, xset2, xkill]
                    rw [n_le, hsz] at h42 h66
                    refine hend ka kt _ _ _ _ hka hkt ta h25 ?_ ?_ ?_ ?_
                    all_goals first | (rw [n_0]; omega) | (rw [n_sub (by omega) (by omega), hsz]; omega) | skip
                    all_goals first | (rw [if_pos h84]; rfl; done) | (rw [if_neg h84, if_pos h93]; first | (rw [n_0]; omega) | (rw [n_sub (by omega) (by omega), hsz]; omega); done) | (rw [if_neg h84, if_neg h93, n_div2 (by first | (rw [n_0]; omega) | (rw [n_sub (by omega) (by omega), hsz]; omega))]; first | (rw [n_0]; omega) | (rw [n_sub (by omega) (by omega), hsz]; omega); done) | (exact absurd h84 (by assumption)) | (exact absurd h108 (by assumption)) | (exact absurd h93 (by assumption)) | (exact absurd h117 (by assumption))
          · refine xj_iconst (pc := 28) (v := -1) d_MO_fill_28 (by decide) ?_
            refine xj_iret (pc := 29) d_MO_fill_29 rfl ?_
            exact nk_none hI (if_neg (fun q => by simp only [Bool.and_eq_true, decide_eq_true_eq] at q; first | (rw [n_le, n_0] at h25; omega) | (rw [n_lt, n_2] at h21; omega) | (rw [n_lt, n_0] at h16; omega) | (rw [b01_eq h12] at q; simp at q; done) | (rw [b01_eq h4] at q; simp at q; done)))
end MOC
