section RDD
variable {I I1 I2 : XI} {F F1 F2 : XF} {S : XSt} {k : Nat} {M X : List Int32}
/-! set -/
theorem m_set_len (p : Int32) (A B : List Int32) (n : Nat) (over : Int32) : (m_set p A B n over).length = if over = 0 then max n B.length + A.length else max (n + A.length) B.length := by
  unfold m_set
  simp only [List.length_append, List.length_replicate, List.length_take, List.length_drop]
  split <;> omega
theorem set_eq {p p1 : Int32} {A B : List Int32} {n d : Nat} {over : Int32} (h1 : p1 = p) (hd : d = if over = 0 then n else n + A.length) (hl : (m_set p A B n over).length ≤ 200) :
    (((((B.take n).take (xcap 10) ++ List.replicate (n - ((B.take n).take (xcap 10)).length) p1).take (xcap 10)) ++ A).take (xcap 10) ++ B.drop d).take (xcap 10) = m_set p A B n over := by
  have hl2 := hl
  rw [m_set_len] at hl2
  have hn : n ≤ 200 ∧ B.length ≤ 200 := by split at hl2 <;> omega
  rw [h1, xcap10, tk_app, List.take_of_length_le (l := B.take n) (i := 200) (by rw [List.length_take]; omega), show n - (B.take n).length = n - B.length by rw [List.length_take]; omega]
  rw [List.append_assoc, tk_app, hd, List.take_of_length_le]
  · simp only [m_set, List.append_assoc]
  · rw [m_set] at hl; simp only [List.length_append] at hl ⊢; omega
theorem set_x1 {y : Int32} {z : Int64} : (if y.toInt64 < z then z else y.toInt64).toInt = max z.toInt y.toInt := by
  split
  · rename_i q; rw [l_lt, l_of] at q; omega
  · rename_i q; rw [l_lt, l_of] at q; rw [l_of]; omega
theorem set_x2 {n y x : Int32} (h1 : 0 ≤ x.toInt) (h2 : x.toInt ≤ 1000) : ((if n < y then y else n).toInt64 + x.toInt64).toInt = max n.toInt y.toInt + x.toInt := by
  have := n_hi n
  have := n_hi y
  have := n_lo n
  have := n_lo y
  have e : (if n < y then y else n).toInt64.toInt = max n.toInt y.toInt := by
    rw [l_of]
    split
    · rename_i q; rw [n_lt] at q; omega
    · rename_i q; rw [n_lt] at q; omega
  rw [l_add (by rw [e, l_of]; omega) (by rw [e, l_of]; omega), e, l_of]
theorem t_RD_set {a b n over to : Int32} (hS : OKS S) (hC : CI I F S) : XM m_RD_set [.ref 24, .int a, .int b, .int n, .int over, .int to] I F (CQ (sp_set S a b n over to) I F) := by
  refine XM.of (by decide) (Nat.le_of_ble_eq_true rfl) ?_
  dsimp only [xargs]
  obtain ⟨M0, hM0⟩ := hC.2.2.2
  have := n_hi n
  by_cases ho : over = 0
  · refine xj_aload_n (pc := 0) d_RD_set_0 rfl rfl ?_
    refine xj_iload_n (pc := 1) d_RD_set_1 rfl rfl ?_
    rcases regc a with ⟨k_a, hk_a, e_a, i_a, t_a⟩ | i_a
    · refine xj_callV (pc := 2) d_RD_set_2 ml_RD_56 ok_RD_register (s_RD_register_k hk_a e_a) rfl rfl rfl rfl rfl (Nat.le_of_ble_eq_true rfl) (by decide) ?_
      rintro rv I1 F1 ⟨rfl, rfl, rfl⟩
      dsimp only [Option.toList, List.cons_append, List.nil_append]
      refine xj_astore (pc := 5) d_RD_set_5 (by decide) rfl ?_
      dsimp only [xset, xset2, xkill]
      refine xj_aload_n (pc := 7) d_RD_set_7 rfl rfl ?_
      refine xj_iload_n (pc := 8) d_RD_set_8 rfl rfl ?_
      rcases regc b with ⟨k_b, hk_b, e_b, i_b, t_b⟩ | i_b
      · refine xj_callV (pc := 9) d_RD_set_9 ml_RD_56 ok_RD_register (s_RD_register_k hk_b e_b) rfl rfl rfl rfl rfl (Nat.le_of_ble_eq_true rfl) (by decide) ?_
        rintro rv I1 F1 ⟨rfl, rfl, rfl⟩
        dsimp only [Option.toList, List.cons_append, List.nil_append]
        refine xj_astore (pc := 12) d_RD_set_12 (by decide) rfl ?_
        dsimp only [xset, xset2, xkill]
        refine xj_aload_n (pc := 14) d_RD_set_14 rfl rfl ?_
        refine xj_iload (pc := 15) d_RD_set_15 rfl ?_
        rcases regc to with ⟨k_to, hk_to, e_to, i_to, t_to⟩ | i_to
        · refine xj_callV (pc := 17) d_RD_set_17 ml_RD_56 ok_RD_register (s_RD_register_k hk_to e_to) rfl rfl rfl rfl rfl (Nat.le_of_ble_eq_true rfl) (by decide) ?_
          rintro rv I1 F1 ⟨rfl, rfl, rfl⟩
          dsimp only [Option.toList, List.cons_append, List.nil_append]
          refine xj_astore (pc := 20) d_RD_set_20 (by decide) rfl ?_
          dsimp only [xset, xset2, xkill]
          refine xj_aload (pc := 22) d_RD_set_22 rfl ?_
          refine xj_ifnull (pc := 24) d_RD_set_24 ?_
          refine xj_aload (pc := 27) d_RD_set_27 rfl ?_
          refine xj_ifnull (pc := 29) d_RD_set_29 ?_
          refine xj_aload (pc := 32) d_RD_set_32 rfl ?_
          refine xj_ifnull (pc := 34) d_RD_set_34 ?_
          refine xj_iload_n (pc := 37) d_RD_set_37 rfl rfl ?_
          refine xj_if_ge (pc := 38) (tgt := 43) d_RD_set_38 (by decide) (fun h38 => ?_) (fun h38 => ?_)
          · rw [n_le, n_0] at h38
            have hpos : (isR a && isR b && isR to && decide (0 ≤ n.toInt)) = true := by simp only [i_a, i_b, i_to, Bool.true_and, decide_eq_true_eq]; omega
            rw [sp_set, if_pos hpos]
            have hLa := hC.at hk_a t_a
            have hLe := hS.le hk_a t_a
            have hLb := hC.at hk_b t_b
            have hLf := hS.le hk_b t_b
            have eL := hLa.ti
            have eLb := hLb.ti
            have e1 : (n.toInt64 + (I k_a).toInt64).toInt = n.toInt + (sR S a).length := by rw [l_add (by rw [l_of, l_of]; omega) (by rw [l_of, l_of]; omega), l_of, l_of, eL]
            have eM := m_set_len S.2.2 (sR S a) (sR S b) n.toInt.toNat over
            rw [if_pos ho] at eM
            refine xj_iload_n (pc := 43) d_RD_set_43 rfl rfl ?_
            refine xj_i2l (pc := 44) d_RD_set_44 ?_
            refine xj_aload (pc := 45) d_RD_set_45 rfl ?_
            refine xj_callV (pc := 47) d_RD_set_47 ml_RD_46 ok_RW_length (s_RW_length (by omega)) rfl rfl (xsh_row (by omega)) rfl rfl (Nat.le_of_ble_eq_true rfl) (by decide) ?_
            rintro rv I1 F1 ⟨rfl, rfl, rfl⟩
            dsimp only [Option.toList, List.cons_append, List.nil_append]
            refine xj_i2l (pc := 50) d_RD_set_50 ?_
            refine xj_ladd (pc := 51) d_RD_set_51 ?_
            refine xj_lstore (pc := 52) d_RD_set_52 (by decide) rfl ?_
            dsimp only [xset, xset2, xkill]
            refine xj_iload (pc := 54) d_RD_set_54 rfl ?_
            refine xj_if_eq (pc := 56) (tgt := 73) d_RD_set_56 (by decide) (fun h56 => ?_) (fun h56 => absurd (ho) h56)
            refine xj_iload_n (pc := 73) d_RD_set_73 rfl rfl ?_
            refine xj_aload (pc := 74) d_RD_set_74 rfl ?_
            refine xj_callV (pc := 76) d_RD_set_76 ml_RD_46 ok_RW_length (s_RW_length (by omega)) rfl rfl (xsh_row (by omega)) rfl rfl (Nat.le_of_ble_eq_true rfl) (by decide) ?_
            rintro rv I1 F1 ⟨rfl, rfl, rfl⟩
            dsimp only [Option.toList, List.cons_append, List.nil_append]
            refine xj_mmax (pc := 79) d_RD_set_79 ml_RD_98 (by decide) (Nat.le_of_ble_eq_true rfl) ?_
            refine xj_i2l (pc := 82) d_RD_set_82 ?_
            refine xj_aload (pc := 83) d_RD_set_83 rfl ?_
            refine xj_callV (pc := 85) d_RD_set_85 ml_RD_46 ok_RW_length (s_RW_length (by omega)) rfl rfl (xsh_row (by omega)) rfl rfl (Nat.le_of_ble_eq_true rfl) (by decide) ?_
            rintro rv I1 F1 ⟨rfl, rfl, rfl⟩
            dsimp only [Option.toList, List.cons_append, List.nil_append]
            refine xj_i2l (pc := 88) d_RD_set_88 ?_
            refine xj_ladd (pc := 89) d_RD_set_89 ?_
            refine xj_lstore (pc := 90) d_RD_set_90 (by decide) rfl ?_
            dsimp only [xset, xset2, xkill]
            refine xj_lload (pc := 92) d_RD_set_92 rfl ?_
            refine xj_ldc2 (pc := 94) (v := 200) d_RD_set_94 kc_RD_87 ?_
            refine xj_lcmp (pc := 97) d_RD_set_97 ?_
            refine xj_if_le (pc := 98) (tgt := 104) d_RD_set_98 (by decide) (fun h98 => ?_) (fun h98 => ?_)
            · rw [c_le, l_200, set_x2 (by omega) (by omega)] at h98
              refine xj_aload_n (pc := 104) d_RD_set_104 rfl rfl ?_
              refine xj_getR (pc := 105) d_RD_set_105 fl_RD_22 rfl rfl ?_
              refine xj_iconst (pc := 108) (v := 0) d_RD_set_108 (by decide) ?_
              refine xj_callV (pc := 109) d_RD_set_109 ml_RD_53 ok_RW_shortenTo (s_RW_clear (by decide) hM0) rfl rfl (xsh_row (by omega)) rfl rfl (Nat.le_of_ble_eq_true rfl) (by decide) ?_
              rintro rv I1 F1 ⟨rfl, g1⟩
              dsimp only [Option.toList, List.cons_append, List.nil_append]
              refine xj_aload_n (pc := 112) d_RD_set_112 rfl rfl ?_
              refine xj_getR (pc := 113) d_RD_set_113 fl_RD_22 rfl rfl ?_
              refine xj_aload (pc := 116) d_RD_set_116 rfl ?_
              refine xj_iconst (pc := 118) (v := 0) d_RD_set_118 (by decide) ?_
              refine xj_iload_n (pc := 119) d_RD_set_119 rfl rfl ?_
              refine xj_callV (pc := 120) d_RD_set_120 ml_RD_72 ok_RW_addRange (s_RW_addRange (by decide) (by omega) (by omega) g1.2.2 (g1.kp (by omega) hLb)) rfl rfl (xsh_row (by omega)) rfl rfl (Nat.le_of_ble_eq_true rfl) (by decide) ?_
              rintro rv I2 F2 ⟨rfl, g2⟩
              rw [List.nil_append, n_0, show (0 : Int).toNat = 0 from rfl, List.drop_zero] at g2
              replace g2 := g1.tr g2
              dsimp only [Option.toList, List.cons_append, List.nil_append]
              refine xj_aload_n (pc := 123) d_RD_set_123 rfl rfl ?_
              refine xj_getR (pc := 124) d_RD_set_124 fl_RD_22 rfl rfl ?_
              refine xj_iload_n (pc := 127) d_RD_set_127 rfl rfl ?_
              refine xj_aload_n (pc := 128) d_RD_set_128 rfl rfl ?_
              refine xj_getI (pc := 129) d_RD_set_129 fl_RD_42 rfl rfl ?_
              refine xj_callV (pc := 132) d_RD_set_132 ml_RD_76 ok_RW_lengthenTo (s_RW_lengthenTo (by decide) g2.2.2 (by omega)) rfl rfl (xsh_row (by omega)) rfl rfl (Nat.le_of_ble_eq_true rfl) (by decide) ?_
              rintro rv I3 F3 ⟨rfl, g3⟩
              replace g3 := g2.tr g3
              dsimp only [Option.toList, List.cons_append, List.nil_append]
              refine xj_aload_n (pc := 135) d_RD_set_135 rfl rfl ?_
              refine xj_getR (pc := 136) d_RD_set_136 fl_RD_22 rfl rfl ?_
              refine xj_aload (pc := 139) d_RD_set_139 rfl ?_
              refine xj_callV (pc := 141) d_RD_set_141 ml_RD_89 ok_RW_addRow (s_RW_addRow (by decide) (by omega) (by omega) g3.2.2 (g3.kp (by omega) hLa)) rfl rfl (xsh_row (by omega)) rfl rfl (Nat.le_of_ble_eq_true rfl) (by decide) ?_
              rintro rv I4 F4 ⟨rfl, g4⟩
              replace g4 := g3.tr g4
              dsimp only [Option.toList, List.cons_append, List.nil_append]
              refine xj_aload_n (pc := 144) d_RD_set_144 rfl rfl ?_
              refine xj_getR (pc := 145) d_RD_set_145 fl_RD_22 rfl rfl ?_
              refine xj_aload (pc := 148) d_RD_set_148 rfl ?_
              refine xj_iload (pc := 150) d_RD_set_150 rfl ?_
              refine xj_if_eq (pc := 152) (tgt := 165) d_RD_set_152 (by decide) (fun h152 => ?_) (fun h152 => absurd (ho) h152)
              refine xj_iload_n (pc := 165) d_RD_set_165 rfl rfl ?_
              refine xj_aload (pc := 166) d_RD_set_166 rfl ?_
              refine xj_callV (pc := 168) d_RD_set_168 ml_RD_46 ok_RW_length (s_RW_length (by omega)) rfl rfl (xsh_row (by omega)) rfl rfl (Nat.le_of_ble_eq_true rfl) (by decide) ?_
              rintro rv I1 F1 ⟨rfl, rfl, rfl⟩
              dsimp only [Option.toList, List.cons_append, List.nil_append]
              refine xj_callV (pc := 171) d_RD_set_171 ml_RD_72 ok_RW_addRange (s_RW_addRange (by decide) (by omega) (by omega) g4.2.2 (g4.kp (by omega) hLb)) rfl rfl (xsh_row (by omega)) rfl rfl (Nat.le_of_ble_eq_true rfl) (by decide) ?_
              rintro rv I5 F5 ⟨rfl, g5⟩
              rw [(g4.kp (by omega) hLb).ti, show (((sR S b).length : Int)).toNat = (sR S b).length from rfl, List.take_length] at g5
              replace g5 := g4.tr g5
              dsimp only [Option.toList, List.cons_append, List.nil_append]
              refine xj_aload_n (pc := 174) d_RD_set_174 rfl rfl ?_
              refine xj_aload (pc := 175) d_RD_set_175 rfl ?_
              refine xj_callV (pc := 177) d_RD_set_177 ml_RD_79 ok_RD_keepMade (s_RD_keepMade hk_to g5.2.2) rfl rfl rfl rfl rfl (Nat.le_of_ble_eq_true rfl) (by decide) ?_
              rintro rv I6 F6 ⟨rfl, g6⟩
              dsimp only [Option.toList, List.cons_append, List.nil_append]
              refine xj_iret (pc := 180) d_RD_set_180 rfl ?_
              refine ck_doneE hC g5 g6 hk_to t_to (set_eq (over := over) (hC.pd g2) ?_ (by omega)) (by omega)
              rw [if_pos ho]
            · rw [c_le, l_200, set_x2 (by omega) (by omega)] at h98
              refine xj_bipush (pc := 101) (v := -4) d_RD_set_101 (by decide) ?_
              refine xj_iret (pc := 103) d_RD_set_103 rfl ?_
              exact ck_full hC (by omega)
          · refine xj_iconst (pc := 41) (v := -1) d_RD_set_41 (by decide) ?_
            refine xj_iret (pc := 42) d_RD_set_42 rfl ?_
            exact ck_none hC (if_neg (fun q => by simp only [Bool.and_eq_true, decide_eq_true_eq] at q; first | (rw [n_le, n_0] at h38; omega) | simp_all))
        · refine xj_callV (pc := 17) d_RD_set_17 ml_RD_56 ok_RD_register (s_RD_register_n i_to) rfl rfl rfl rfl rfl (Nat.le_of_ble_eq_true rfl) (by decide) ?_
          rintro rv I1 F1 ⟨rfl, rfl, rfl⟩
          dsimp only [Option.toList, List.cons_append, List.nil_append]
          refine xj_astoreN (pc := 20) d_RD_set_20 (by decide) rfl ?_
          dsimp only [xset, xset2, xkill]
          refine xj_aload (pc := 22) d_RD_set_22 rfl ?_
          refine xj_ifnull (pc := 24) d_RD_set_24 ?_
          refine xj_aload (pc := 27) d_RD_set_27 rfl ?_
          refine xj_ifnull (pc := 29) d_RD_set_29 ?_
          refine xj_aloadN (pc := 32) d_RD_set_32 rfl ?_
          refine xj_ifnullN (pc := 34) (tgt := 41) d_RD_set_34 (by decide) ?_
          refine xj_iconst (pc := 41) (v := -1) d_RD_set_41 (by decide) ?_
          refine xj_iret (pc := 42) d_RD_set_42 rfl ?_
          exact ck_none hC (if_neg (fun q => by simp only [Bool.and_eq_true, decide_eq_true_eq] at q; first | (rw [n_le, n_0] at h38; omega) | simp_all))
      · refine xj_callV (pc := 9) d_RD_set_9 ml_RD_56 ok_RD_register (s_RD_register_n i_b) rfl rfl rfl rfl rfl (Nat.le_of_ble_eq_true rfl) (by decide) ?_
        rintro rv I1 F1 ⟨rfl, rfl, rfl⟩
        dsimp only [Option.toList, List.cons_append, List.nil_append]
        refine xj_astoreN (pc := 12) d_RD_set_12 (by decide) rfl ?_
        dsimp only [xset, xset2, xkill]
        refine xj_aload_n (pc := 14) d_RD_set_14 rfl rfl ?_
        refine xj_iload (pc := 15) d_RD_set_15 rfl ?_
        rcases regc to with ⟨k_to, hk_to, e_to, i_to, t_to⟩ | i_to
        · refine xj_callV (pc := 17) d_RD_set_17 ml_RD_56 ok_RD_register (s_RD_register_k hk_to e_to) rfl rfl rfl rfl rfl (Nat.le_of_ble_eq_true rfl) (by decide) ?_
          rintro rv I1 F1 ⟨rfl, rfl, rfl⟩
          dsimp only [Option.toList, List.cons_append, List.nil_append]
          refine xj_astore (pc := 20) d_RD_set_20 (by decide) rfl ?_
          dsimp only [xset, xset2, xkill]
          refine xj_aload (pc := 22) d_RD_set_22 rfl ?_
          refine xj_ifnull (pc := 24) d_RD_set_24 ?_
          refine xj_aloadN (pc := 27) d_RD_set_27 rfl ?_
          refine xj_ifnullN (pc := 29) (tgt := 41) d_RD_set_29 (by decide) ?_
          refine xj_iconst (pc := 41) (v := -1) d_RD_set_41 (by decide) ?_
          refine xj_iret (pc := 42) d_RD_set_42 rfl ?_
          exact ck_none hC (if_neg (fun q => by simp only [Bool.and_eq_true, decide_eq_true_eq] at q; first | (rw [n_le, n_0] at h38; omega) | simp_all))
        · refine xj_callV (pc := 17) d_RD_set_17 ml_RD_56 ok_RD_register (s_RD_register_n i_to) rfl rfl rfl rfl rfl (Nat.le_of_ble_eq_true rfl) (by decide) ?_
          rintro rv I1 F1 ⟨rfl, rfl, rfl⟩
          dsimp only [Option.toList, List.cons_append, List.nil_append]
          refine xj_astoreN (pc := 20) d_RD_set_20 (by decide) rfl ?_
          dsimp only [xset, xset2, xkill]
          refine xj_aload (pc := 22) d_RD_set_22 rfl ?_
          refine xj_ifnull (pc := 24) d_RD_set_24 ?_
          refine xj_aloadN (pc := 27) d_RD_set_27 rfl ?_
          refine xj_ifnullN (pc := 29) (tgt := 41) d_RD_set_29 (by decide) ?_
          refine xj_iconst (pc := 41) (v := -1) d_RD_set_41 (by decide) ?_
          refine xj_iret (pc := 42) d_RD_set_42 rfl ?_
          exact ck_none hC (if_neg (fun q => by simp only [Bool.and_eq_true, decide_eq_true_eq] at q; first | (rw [n_le, n_0] at h38; omega) | simp_all))
    · refine xj_callV (pc := 2) d_RD_set_2 ml_RD_56 ok_RD_register (s_RD_register_n i_a) rfl rfl rfl rfl rfl (Nat.le_of_ble_eq_true rfl) (by decide) ?_
      rintro rv I1 F1 ⟨rfl, rfl, rfl⟩
      dsimp only [Option.toList, List.cons_append, List.nil_append]
      refine xj_astoreN (pc := 5) d_RD_set_5 (by decide) rfl ?_
      dsimp only [xset, xset2, xkill]
      refine xj_aload_n (pc := 7) d_RD_set_7 rfl rfl ?_
      refine xj_iload_n (pc := 8) d_RD_set_8 rfl rfl ?_
      rcases regc b with ⟨k_b, hk_b, e_b, i_b, t_b⟩ | i_b
      · refine xj_callV (pc := 9) d_RD_set_9 ml_RD_56 ok_RD_register (s_RD_register_k hk_b e_b) rfl rfl rfl rfl rfl (Nat.le_of_ble_eq_true rfl) (by decide) ?_
        rintro rv I1 F1 ⟨rfl, rfl, rfl⟩
        dsimp only [Option.toList, List.cons_append, List.nil_append]
        refine xj_astore (pc := 12) d_RD_set_12 (by decide) rfl ?_
        dsimp only [xset, xset2, xkill]
        refine xj_aload_n (pc := 14) d_RD_set_14 rfl rfl ?_
        refine xj_iload (pc := 15) d_RD_set_15 rfl ?_
        rcases regc to with ⟨k_to, hk_to, e_to, i_to, t_to⟩ | i_to
        · refine xj_callV (pc := 17) d_RD_set_17 ml_RD_56 ok_RD_register (s_RD_register_k hk_to e_to) rfl rfl rfl rfl rfl (Nat.le_of_ble_eq_true rfl) (by decide) ?_
          rintro rv I1 F1 ⟨rfl, rfl, rfl⟩
          dsimp only [Option.toList, List.cons_append, List.nil_append]
          refine xj_astore (pc := 20) d_RD_set_20 (by decide) rfl ?_
          dsimp only [xset, xset2, xkill]
          refine xj_aloadN (pc := 22) d_RD_set_22 rfl ?_
          refine xj_ifnullN (pc := 24) (tgt := 41) d_RD_set_24 (by decide) ?_
          refine xj_iconst (pc := 41) (v := -1) d_RD_set_41 (by decide) ?_
          refine xj_iret (pc := 42) d_RD_set_42 rfl ?_
          exact ck_none hC (if_neg (fun q => by simp only [Bool.and_eq_true, decide_eq_true_eq] at q; first | (rw [n_le, n_0] at h38; omega) | simp_all))
        · refine xj_callV (pc := 17) d_RD_set_17 ml_RD_56 ok_RD_register (s_RD_register_n i_to) rfl rfl rfl rfl rfl (Nat.le_of_ble_eq_true rfl) (by decide) ?_
          rintro rv I1 F1 ⟨rfl, rfl, rfl⟩
          dsimp only [Option.toList, List.cons_append, List.nil_append]
          refine xj_astoreN (pc := 20) d_RD_set_20 (by decide) rfl ?_
          dsimp only [xset, xset2, xkill]
          refine xj_aloadN (pc := 22) d_RD_set_22 rfl ?_
          refine xj_ifnullN (pc := 24) (tgt := 41) d_RD_set_24 (by decide) ?_
          refine xj_iconst (pc := 41) (v := -1) d_RD_set_41 (by decide) ?_
          refine xj_iret (pc := 42) d_RD_set_42 rfl ?_
          exact ck_none hC (if_neg (fun q => by simp only [Bool.and_eq_true, decide_eq_true_eq] at q; first | (rw [n_le, n_0] at h38; omega) | simp_all))
      · refine xj_callV (pc := 9) d_RD_set_9 ml_RD_56 ok_RD_register (s_RD_register_n i_b) rfl rfl rfl rfl rfl (Nat.le_of_ble_eq_true rfl) (by decide) ?_
        rintro rv I1 F1 ⟨rfl, rfl, rfl⟩
        dsimp only [Option.toList, List.cons_append, List.nil_append]
        refine xj_astoreN (pc := 12) d_RD_set_12 (by decide) rfl ?_
        dsimp only [xset, xset2, xkill]
        refine xj_aload_n (pc := 14) d_RD_set_14 rfl rfl ?_
        refine xj_iload (pc := 15) d_RD_set_15 rfl ?_
        rcases regc to with ⟨k_to, hk_to, e_to, i_to, t_to⟩ | i_to
        · refine xj_callV (pc := 17) d_RD_set_17 ml_RD_56 ok_RD_register (s_RD_register_k hk_to e_to) rfl rfl rfl rfl rfl (Nat.le_of_ble_eq_true rfl) (by decide) ?_
          rintro rv I1 F1 ⟨rfl, rfl, rfl⟩
          dsimp only [Option.toList, List.cons_append, List.nil_append]
          refine xj_astore (pc := 20) d_RD_set_20 (by decide) rfl ?_
          dsimp only [xset, xset2, xkill]
          refine xj_aloadN (pc := 22) d_RD_set_22 rfl ?_
          refine xj_ifnullN (pc := 24) (tgt := 41) d_RD_set_24 (by decide) ?_
          refine xj_iconst (pc := 41) (v := -1) d_RD_set_41 (by decide) ?_
          refine xj_iret (pc := 42) d_RD_set_42 rfl ?_
          exact ck_none hC (if_neg (fun q => by simp only [Bool.and_eq_true, decide_eq_true_eq] at q; first | (rw [n_le, n_0] at h38; omega) | simp_all))
        · refine xj_callV (pc := 17) d_RD_set_17 ml_RD_56 ok_RD_register (s_RD_register_n i_to) rfl rfl rfl rfl rfl (Nat.le_of_ble_eq_true rfl) (by decide) ?_
          rintro rv I1 F1 ⟨rfl, rfl, rfl⟩
          dsimp only [Option.toList, List.cons_append, List.nil_append]
          refine xj_astoreN (pc := 20) d_RD_set_20 (by decide) rfl ?_
          dsimp only [xset, xset2, xkill]
          refine xj_aloadN (pc := 22) d_RD_set_22 rfl ?_
          refine xj_ifnullN (pc := 24) (tgt := 41) d_RD_set_24 (by decide) ?_
          refine xj_iconst (pc := 41) (v := -1) d_RD_set_41 (by decide) ?_
          refine xj_iret (pc := 42) d_RD_set_42 rfl ?_
          exact ck_none hC (if_neg (fun q => by simp only [Bool.and_eq_true, decide_eq_true_eq] at q; first | (rw [n_le, n_0] at h38; omega) | simp_all))
  · refine xj_aload_n (pc := 0) d_RD_set_0 rfl rfl ?_
    refine xj_iload_n (pc := 1) d_RD_set_1 rfl rfl ?_
    rcases regc a with ⟨k_a, hk_a, e_a, i_a, t_a⟩ | i_a
    · refine xj_callV (pc := 2) d_RD_set_2 ml_RD_56 ok_RD_register (s_RD_register_k hk_a e_a) rfl rfl rfl rfl rfl (Nat.le_of_ble_eq_true rfl) (by decide) ?_
      rintro rv I1 F1 ⟨rfl, rfl, rfl⟩
      dsimp only [Option.toList, List.cons_append, List.nil_append]
      refine xj_astore (pc := 5) d_RD_set_5 (by decide) rfl ?_
      dsimp only [xset, xset2, xkill]
      refine xj_aload_n (pc := 7) d_RD_set_7 rfl rfl ?_
      refine xj_iload_n (pc := 8) d_RD_set_8 rfl rfl ?_
      rcases regc b with ⟨k_b, hk_b, e_b, i_b, t_b⟩ | i_b
      · refine xj_callV (pc := 9) d_RD_set_9 ml_RD_56 ok_RD_register (s_RD_register_k hk_b e_b) rfl rfl rfl rfl rfl (Nat.le_of_ble_eq_true rfl) (by decide) ?_
        rintro rv I1 F1 ⟨rfl, rfl, rfl⟩
        dsimp only [Option.toList, List.cons_append, List.nil_append]
        refine xj_astore (pc := 12) d_RD_set_12 (by decide) rfl ?_
        dsimp only [xset, xset2, xkill]
        refine xj_aload_n (pc := 14) d_RD_set_14 rfl rfl ?_
        refine xj_iload (pc := 15) d_RD_set_15 rfl ?_
        rcases regc to with ⟨k_to, hk_to, e_to, i_to, t_to⟩ | i_to
        · refine xj_callV (pc := 17) d_RD_set_17 ml_RD_56 ok_RD_register (s_RD_register_k hk_to e_to) rfl rfl rfl rfl rfl (Nat.le_of_ble_eq_true rfl) (by decide) ?_
          rintro rv I1 F1 ⟨rfl, rfl, rfl⟩
          dsimp only [Option.toList, List.cons_append, List.nil_append]
          refine xj_astore (pc := 20) d_RD_set_20 (by decide) rfl ?_
          dsimp only [xset, xset2, xkill]
          refine xj_aload (pc := 22) d_RD_set_22 rfl ?_
          refine xj_ifnull (pc := 24) d_RD_set_24 ?_
          refine xj_aload (pc := 27) d_RD_set_27 rfl ?_
          refine xj_ifnull (pc := 29) d_RD_set_29 ?_
          refine xj_aload (pc := 32) d_RD_set_32 rfl ?_
          refine xj_ifnull (pc := 34) d_RD_set_34 ?_
          refine xj_iload_n (pc := 37) d_RD_set_37 rfl rfl ?_
          refine xj_if_ge (pc := 38) (tgt := 43) d_RD_set_38 (by decide) (fun h38 => ?_) (fun h38 => ?_)
          · rw [n_le, n_0] at h38
            have hpos : (isR a && isR b && isR to && decide (0 ≤ n.toInt)) = true := by simp only [i_a, i_b, i_to, Bool.true_and, decide_eq_true_eq]; omega
            rw [sp_set, if_pos hpos]
            have hLa := hC.at hk_a t_a
            have hLe := hS.le hk_a t_a
            have hLb := hC.at hk_b t_b
            have hLf := hS.le hk_b t_b
            have eL := hLa.ti
            have eLb := hLb.ti
            have e1 : (n.toInt64 + (I k_a).toInt64).toInt = n.toInt + (sR S a).length := by rw [l_add (by rw [l_of, l_of]; omega) (by rw [l_of, l_of]; omega), l_of, l_of, eL]
            have eM := m_set_len S.2.2 (sR S a) (sR S b) n.toInt.toNat over
            rw [if_neg ho] at eM
            refine xj_iload_n (pc := 43) d_RD_set_43 rfl rfl ?_
            refine xj_i2l (pc := 44) d_RD_set_44 ?_
            refine xj_aload (pc := 45) d_RD_set_45 rfl ?_
            refine xj_callV (pc := 47) d_RD_set_47 ml_RD_46 ok_RW_length (s_RW_length (by omega)) rfl rfl (xsh_row (by omega)) rfl rfl (Nat.le_of_ble_eq_true rfl) (by decide) ?_
            rintro rv I1 F1 ⟨rfl, rfl, rfl⟩
            dsimp only [Option.toList, List.cons_append, List.nil_append]
            refine xj_i2l (pc := 50) d_RD_set_50 ?_
            refine xj_ladd (pc := 51) d_RD_set_51 ?_
            refine xj_lstore (pc := 52) d_RD_set_52 (by decide) rfl ?_
            dsimp only [xset, xset2, xkill]
            refine xj_iload (pc := 54) d_RD_set_54 rfl ?_
            refine xj_if_eq (pc := 56) (tgt := 73) d_RD_set_56 (by decide) (fun h56 => absurd h56 (ho)) (fun h56 => ?_)
            refine xj_lload (pc := 59) d_RD_set_59 rfl ?_
            refine xj_aload (pc := 61) d_RD_set_61 rfl ?_
            refine xj_callV (pc := 63) d_RD_set_63 ml_RD_46 ok_RW_length (s_RW_length (by omega)) rfl rfl (xsh_row (by omega)) rfl rfl (Nat.le_of_ble_eq_true rfl) (by decide) ?_
            rintro rv I1 F1 ⟨rfl, rfl, rfl⟩
            dsimp only [Option.toList, List.cons_append, List.nil_append]
            refine xj_i2l (pc := 66) d_RD_set_66 ?_
            refine xj_lmax (pc := 67) d_RD_set_67 ml_RD_92 (by decide) (Nat.le_of_ble_eq_true rfl) ?_
            refine xj_goto (pc := 70) (tgt := 90) d_RD_set_70 (by decide) ?_
            refine xj_lstore (pc := 90) d_RD_set_90 (by decide) rfl ?_
            dsimp only [xset, xset2, xkill]
            refine xj_lload (pc := 92) d_RD_set_92 rfl ?_
            refine xj_ldc2 (pc := 94) (v := 200) d_RD_set_94 kc_RD_87 ?_
            refine xj_lcmp (pc := 97) d_RD_set_97 ?_
            refine xj_if_le (pc := 98) (tgt := 104) d_RD_set_98 (by decide) (fun h98 => ?_) (fun h98 => ?_)
            · rw [c_le, l_200, set_x1, e1] at h98
              refine xj_aload_n (pc := 104) d_RD_set_104 rfl rfl ?_
              refine xj_getR (pc := 105) d_RD_set_105 fl_RD_22 rfl rfl ?_
              refine xj_iconst (pc := 108) (v := 0) d_RD_set_108 (by decide) ?_
              refine xj_callV (pc := 109) d_RD_set_109 ml_RD_53 ok_RW_shortenTo (s_RW_clear (by decide) hM0) rfl rfl (xsh_row (by omega)) rfl rfl (Nat.le_of_ble_eq_true rfl) (by decide) ?_
              rintro rv I1 F1 ⟨rfl, g1⟩
              dsimp only [Option.toList, List.cons_append, List.nil_append]
              refine xj_aload_n (pc := 112) d_RD_set_112 rfl rfl ?_
              refine xj_getR (pc := 113) d_RD_set_113 fl_RD_22 rfl rfl ?_
              refine xj_aload (pc := 116) d_RD_set_116 rfl ?_
              refine xj_iconst (pc := 118) (v := 0) d_RD_set_118 (by decide) ?_
              refine xj_iload_n (pc := 119) d_RD_set_119 rfl rfl ?_
              refine xj_callV (pc := 120) d_RD_set_120 ml_RD_72 ok_RW_addRange (s_RW_addRange (by decide) (by omega) (by omega) g1.2.2 (g1.kp (by omega) hLb)) rfl rfl (xsh_row (by omega)) rfl rfl (Nat.le_of_ble_eq_true rfl) (by decide) ?_
              rintro rv I2 F2 ⟨rfl, g2⟩
              rw [List.nil_append, n_0, show (0 : Int).toNat = 0 from rfl, List.drop_zero] at g2
              replace g2 := g1.tr g2
              dsimp only [Option.toList, List.cons_append, List.nil_append]
              refine xj_aload_n (pc := 123) d_RD_set_123 rfl rfl ?_
              refine xj_getR (pc := 124) d_RD_set_124 fl_RD_22 rfl rfl ?_
              refine xj_iload_n (pc := 127) d_RD_set_127 rfl rfl ?_
              refine xj_aload_n (pc := 128) d_RD_set_128 rfl rfl ?_
              refine xj_getI (pc := 129) d_RD_set_129 fl_RD_42 rfl rfl ?_
              refine xj_callV (pc := 132) d_RD_set_132 ml_RD_76 ok_RW_lengthenTo (s_RW_lengthenTo (by decide) g2.2.2 (by omega)) rfl rfl (xsh_row (by omega)) rfl rfl (Nat.le_of_ble_eq_true rfl) (by decide) ?_
              rintro rv I3 F3 ⟨rfl, g3⟩
              replace g3 := g2.tr g3
              dsimp only [Option.toList, List.cons_append, List.nil_append]
              refine xj_aload_n (pc := 135) d_RD_set_135 rfl rfl ?_
              refine xj_getR (pc := 136) d_RD_set_136 fl_RD_22 rfl rfl ?_
              refine xj_aload (pc := 139) d_RD_set_139 rfl ?_
              refine xj_callV (pc := 141) d_RD_set_141 ml_RD_89 ok_RW_addRow (s_RW_addRow (by decide) (by omega) (by omega) g3.2.2 (g3.kp (by omega) hLa)) rfl rfl (xsh_row (by omega)) rfl rfl (Nat.le_of_ble_eq_true rfl) (by decide) ?_
              rintro rv I4 F4 ⟨rfl, g4⟩
              replace g4 := g3.tr g4
              dsimp only [Option.toList, List.cons_append, List.nil_append]
              refine xj_aload_n (pc := 144) d_RD_set_144 rfl rfl ?_
              refine xj_getR (pc := 145) d_RD_set_145 fl_RD_22 rfl rfl ?_
              refine xj_aload (pc := 148) d_RD_set_148 rfl ?_
              refine xj_iload (pc := 150) d_RD_set_150 rfl ?_
              refine xj_if_eq (pc := 152) (tgt := 165) d_RD_set_152 (by decide) (fun h152 => absurd h152 (ho)) (fun h152 => ?_)
              refine xj_aload_n (pc := 155) d_RD_set_155 rfl rfl ?_
              refine xj_getR (pc := 156) d_RD_set_156 fl_RD_22 rfl rfl ?_
              refine xj_callV (pc := 159) d_RD_set_159 ml_RD_46 ok_RW_length (s_RW_length (by omega)) rfl rfl (xsh_row (by omega)) rfl rfl (Nat.le_of_ble_eq_true rfl) (by decide) ?_
              rintro rv I1 F1 ⟨rfl, rfl, rfl⟩
              dsimp only [Option.toList, List.cons_append, List.nil_append]
              refine xj_goto (pc := 162) (tgt := 166) d_RD_set_162 (by decide) ?_
              refine xj_aload (pc := 166) d_RD_set_166 rfl ?_
              refine xj_callV (pc := 168) d_RD_set_168 ml_RD_46 ok_RW_length (s_RW_length (by omega)) rfl rfl (xsh_row (by omega)) rfl rfl (Nat.le_of_ble_eq_true rfl) (by decide) ?_
              rintro rv I1 F1 ⟨rfl, rfl, rfl⟩
              dsimp only [Option.toList, List.cons_append, List.nil_append]
              refine xj_callV (pc := 171) d_RD_set_171 ml_RD_72 ok_RW_addRange (s_RW_addRange (by decide) (by omega) (by omega) g4.2.2 (g4.kp (by omega) hLb)) rfl rfl (xsh_row (by omega)) rfl rfl (Nat.le_of_ble_eq_true rfl) (by decide) ?_
              rintro rv I5 F5 ⟨rfl, g5⟩
              rw [(g4.kp (by omega) hLb).ti, show (((sR S b).length : Int)).toNat = (sR S b).length from rfl, List.take_length] at g5
              replace g5 := g4.tr g5
              dsimp only [Option.toList, List.cons_append, List.nil_append]
              refine xj_aload_n (pc := 174) d_RD_set_174 rfl rfl ?_
              refine xj_aload (pc := 175) d_RD_set_175 rfl ?_
              refine xj_callV (pc := 177) d_RD_set_177 ml_RD_79 ok_RD_keepMade (s_RD_keepMade hk_to g5.2.2) rfl rfl rfl rfl rfl (Nat.le_of_ble_eq_true rfl) (by decide) ?_
              rintro rv I6 F6 ⟨rfl, g6⟩
              dsimp only [Option.toList, List.cons_append, List.nil_append]
              refine xj_iret (pc := 180) d_RD_set_180 rfl ?_
              refine ck_doneE hC g5 g6 hk_to t_to (set_eq (over := over) (hC.pd g2) ?_ (by omega)) (by omega)
              rw [if_neg ho, g4.2.2.ti, xcap10, tk_app, List.take_of_length_le (by simp only [List.length_append, List.length_replicate, List.length_take]; omega)]
              simp only [List.length_append, List.length_replicate, List.length_take]; omega
            · rw [c_le, l_200, set_x1, e1] at h98
              refine xj_bipush (pc := 101) (v := -4) d_RD_set_101 (by decide) ?_
              refine xj_iret (pc := 103) d_RD_set_103 rfl ?_
              exact ck_full hC (by omega)
          · refine xj_iconst (pc := 41) (v := -1) d_RD_set_41 (by decide) ?_
            refine xj_iret (pc := 42) d_RD_set_42 rfl ?_
            exact ck_none hC (if_neg (fun q => by simp only [Bool.and_eq_true, decide_eq_true_eq] at q; first | (rw [n_le, n_0] at h38; omega) | simp_all))
        · refine xj_callV (pc := 17) d_RD_set_17 ml_RD_56 ok_RD_register (s_RD_register_n i_to) rfl rfl rfl rfl rfl (Nat.le_of_ble_eq_true rfl) (by decide) ?_
          rintro rv I1 F1 ⟨rfl, rfl, rfl⟩
          dsimp only [Option.toList, List.cons_append, List.nil_append]
          refine xj_astoreN (pc := 20) d_RD_set_20 (by decide) rfl ?_
          dsimp only [xset, xset2, xkill]
          refine xj_aload (pc := 22) d_RD_set_22 rfl ?_
          refine xj_ifnull (pc := 24) d_RD_set_24 ?_
          refine xj_aload (pc := 27) d_RD_set_27 rfl ?_
          refine xj_ifnull (pc := 29) d_RD_set_29 ?_
          refine xj_aloadN (pc := 32) d_RD_set_32 rfl ?_
          refine xj_ifnullN (pc := 34) (tgt := 41) d_RD_set_34 (by decide) ?_
          refine xj_iconst (pc := 41) (v := -1) d_RD_set_41 (by decide) ?_
          refine xj_iret (pc := 42) d_RD_set_42 rfl ?_
          exact ck_none hC (if_neg (fun q => by simp only [Bool.and_eq_true, decide_eq_true_eq] at q; first | (rw [n_le, n_0] at h38; omega) | simp_all))
      · refine xj_callV (pc := 9) d_RD_set_9 ml_RD_56 ok_RD_register (s_RD_register_n i_b) rfl rfl rfl rfl rfl (Nat.le_of_ble_eq_true rfl) (by decide) ?_
        rintro rv I1 F1 ⟨rfl, rfl, rfl⟩
        dsimp only [Option.toList, List.cons_append, List.nil_append]
        refine xj_astoreN (pc := 12) d_RD_set_12 (by decide) rfl ?_
        dsimp only [xset, xset2, xkill]
        refine xj_aload_n (pc := 14) d_RD_set_14 rfl rfl ?_
        refine xj_iload (pc := 15) d_RD_set_15 rfl ?_
        rcases regc to with ⟨k_to, hk_to, e_to, i_to, t_to⟩ | i_to
        · refine xj_callV (pc := 17) d_RD_set_17 ml_RD_56 ok_RD_register (s_RD_register_k hk_to e_to) rfl rfl rfl rfl rfl (Nat.le_of_ble_eq_true rfl) (by decide) ?_
          rintro rv I1 F1 ⟨rfl, rfl, rfl⟩
          dsimp only [Option.toList, List.cons_append, List.nil_append]
          refine xj_astore (pc := 20) d_RD_set_20 (by decide) rfl ?_
          dsimp only [xset, xset2, xkill]
          refine xj_aload (pc := 22) d_RD_set_22 rfl ?_
          refine xj_ifnull (pc := 24) d_RD_set_24 ?_
          refine xj_aloadN (pc := 27) d_RD_set_27 rfl ?_
          refine xj_ifnullN (pc := 29) (tgt := 41) d_RD_set_29 (by decide) ?_
          refine xj_iconst (pc := 41) (v := -1) d_RD_set_41 (by decide) ?_
          refine xj_iret (pc := 42) d_RD_set_42 rfl ?_
          exact ck_none hC (if_neg (fun q => by simp only [Bool.and_eq_true, decide_eq_true_eq] at q; first | (rw [n_le, n_0] at h38; omega) | simp_all))
        · refine xj_callV (pc := 17) d_RD_set_17 ml_RD_56 ok_RD_register (s_RD_register_n i_to) rfl rfl rfl rfl rfl (Nat.le_of_ble_eq_true rfl) (by decide) ?_
          rintro rv I1 F1 ⟨rfl, rfl, rfl⟩
          dsimp only [Option.toList, List.cons_append, List.nil_append]
          refine xj_astoreN (pc := 20) d_RD_set_20 (by decide) rfl ?_
          dsimp only [xset, xset2, xkill]
          refine xj_aload (pc := 22) d_RD_set_22 rfl ?_
          refine xj_ifnull (pc := 24) d_RD_set_24 ?_
          refine xj_aloadN (pc := 27) d_RD_set_27 rfl ?_
          refine xj_ifnullN (pc := 29) (tgt := 41) d_RD_set_29 (by decide) ?_
          refine xj_iconst (pc := 41) (v := -1) d_RD_set_41 (by decide) ?_
          refine xj_iret (pc := 42) d_RD_set_42 rfl ?_
          exact ck_none hC (if_neg (fun q => by simp only [Bool.and_eq_true, decide_eq_true_eq] at q; first | (rw [n_le, n_0] at h38; omega) | simp_all))
    · refine xj_callV (pc := 2) d_RD_set_2 ml_RD_56 ok_RD_register (s_RD_register_n i_a) rfl rfl rfl rfl rfl (Nat.le_of_ble_eq_true rfl) (by decide) ?_
      rintro rv I1 F1 ⟨rfl, rfl, rfl⟩
      dsimp only [Option.toList, List.cons_append, List.nil_append]
      refine xj_astoreN (pc := 5) d_RD_set_5 (by decide) rfl ?_
      dsimp only [xset, xset2, xkill]
      refine xj_aload_n (pc := 7) d_RD_set_7 rfl rfl ?_
      refine xj_iload_n (pc := 8) d_RD_set_8 rfl rfl ?_
      rcases regc b with ⟨k_b, hk_b, e_b, i_b, t_b⟩ | i_b
      · refine xj_callV (pc := 9) d_RD_set_9 ml_RD_56 ok_RD_register (s_RD_register_k hk_b e_b) rfl rfl rfl rfl rfl (Nat.le_of_ble_eq_true rfl) (by decide) ?_
        rintro rv I1 F1 ⟨rfl, rfl, rfl⟩
        dsimp only [Option.toList, List.cons_append, List.nil_append]
        refine xj_astore (pc := 12) d_RD_set_12 (by decide) rfl ?_
        dsimp only [xset, xset2, xkill]
        refine xj_aload_n (pc := 14) d_RD_set_14 rfl rfl ?_
        refine xj_iload (pc := 15) d_RD_set_15 rfl ?_
        rcases regc to with ⟨k_to, hk_to, e_to, i_to, t_to⟩ | i_to
        · refine xj_callV (pc := 17) d_RD_set_17 ml_RD_56 ok_RD_register (s_RD_register_k hk_to e_to) rfl rfl rfl rfl rfl (Nat.le_of_ble_eq_true rfl) (by decide) ?_
          rintro rv I1 F1 ⟨rfl, rfl, rfl⟩
          dsimp only [Option.toList, List.cons_append, List.nil_append]
          refine xj_astore (pc := 20) d_RD_set_20 (by decide) rfl ?_
          dsimp only [xset, xset2, xkill]
          refine xj_aloadN (pc := 22) d_RD_set_22 rfl ?_
          refine xj_ifnullN (pc := 24) (tgt := 41) d_RD_set_24 (by decide) ?_
          refine xj_iconst (pc := 41) (v := -1) d_RD_set_41 (by decide) ?_
          refine xj_iret (pc := 42) d_RD_set_42 rfl ?_
          exact ck_none hC (if_neg (fun q => by simp only [Bool.and_eq_true, decide_eq_true_eq] at q; first | (rw [n_le, n_0] at h38; omega) | simp_all))
        · refine xj_callV (pc := 17) d_RD_set_17 ml_RD_56 ok_RD_register (s_RD_register_n i_to) rfl rfl rfl rfl rfl (Nat.le_of_ble_eq_true rfl) (by decide) ?_
          rintro rv I1 F1 ⟨rfl, rfl, rfl⟩
          dsimp only [Option.toList, List.cons_append, List.nil_append]
          refine xj_astoreN (pc := 20) d_RD_set_20 (by decide) rfl ?_
          dsimp only [xset, xset2, xkill]
          refine xj_aloadN (pc := 22) d_RD_set_22 rfl ?_
          refine xj_ifnullN (pc := 24) (tgt := 41) d_RD_set_24 (by decide) ?_
          refine xj_iconst (pc := 41) (v := -1) d_RD_set_41 (by decide) ?_
          refine xj_iret (pc := 42) d_RD_set_42 rfl ?_
          exact ck_none hC (if_neg (fun q => by simp only [Bool.and_eq_true, decide_eq_true_eq] at q; first | (rw [n_le, n_0] at h38; omega) | simp_all))
      · refine xj_callV (pc := 9) d_RD_set_9 ml_RD_56 ok_RD_register (s_RD_register_n i_b) rfl rfl rfl rfl rfl (Nat.le_of_ble_eq_true rfl) (by decide) ?_
        rintro rv I1 F1 ⟨rfl, rfl, rfl⟩
        dsimp only [Option.toList, List.cons_append, List.nil_append]
        refine xj_astoreN (pc := 12) d_RD_set_12 (by decide) rfl ?_
        dsimp only [xset, xset2, xkill]
        refine xj_aload_n (pc := 14) d_RD_set_14 rfl rfl ?_
        refine xj_iload (pc := 15) d_RD_set_15 rfl ?_
        rcases regc to with ⟨k_to, hk_to, e_to, i_to, t_to⟩ | i_to
        · refine xj_callV (pc := 17) d_RD_set_17 ml_RD_56 ok_RD_register (s_RD_register_k hk_to e_to) rfl rfl rfl rfl rfl (Nat.le_of_ble_eq_true rfl) (by decide) ?_
          rintro rv I1 F1 ⟨rfl, rfl, rfl⟩
          dsimp only [Option.toList, List.cons_append, List.nil_append]
          refine xj_astore (pc := 20) d_RD_set_20 (by decide) rfl ?_
          dsimp only [xset, xset2, xkill]
          refine xj_aloadN (pc := 22) d_RD_set_22 rfl ?_
          refine xj_ifnullN (pc := 24) (tgt := 41) d_RD_set_24 (by decide) ?_
          refine xj_iconst (pc := 41) (v := -1) d_RD_set_41 (by decide) ?_
          refine xj_iret (pc := 42) d_RD_set_42 rfl ?_
          exact ck_none hC (if_neg (fun q => by simp only [Bool.and_eq_true, decide_eq_true_eq] at q; first | (rw [n_le, n_0] at h38; omega) | simp_all))
        · refine xj_callV (pc := 17) d_RD_set_17 ml_RD_56 ok_RD_register (s_RD_register_n i_to) rfl rfl rfl rfl rfl (Nat.le_of_ble_eq_true rfl) (by decide) ?_
          rintro rv I1 F1 ⟨rfl, rfl, rfl⟩
          dsimp only [Option.toList, List.cons_append, List.nil_append]
          refine xj_astoreN (pc := 20) d_RD_set_20 (by decide) rfl ?_
          dsimp only [xset, xset2, xkill]
          refine xj_aloadN (pc := 22) d_RD_set_22 rfl ?_
          refine xj_ifnullN (pc := 24) (tgt := 41) d_RD_set_24 (by decide) ?_
          refine xj_iconst (pc := 41) (v := -1) d_RD_set_41 (by decide) ?_
          refine xj_iret (pc := 42) d_RD_set_42 rfl ?_
          exact ck_none hC (if_neg (fun q => by simp only [Bool.and_eq_true, decide_eq_true_eq] at q; first | (rw [n_le, n_0] at h38; omega) | simp_all))
/-! find -/
theorem st_eq (A B : List Int32) (p : Nat) : (decide (0 < A.length) && rng B p A 0 A.length) = stands A B p := by
  rw [Bool.eq_iff_iff]
  simp only [stands, Bool.and_eq_true, decide_eq_true_eq, rng_t, Bool.not_eq_true', List.isEmpty_eq_false_iff, List.isPrefixOf_iff_prefix, Nat.zero_add]
  constructor
  · rintro ⟨h0, h1, h2⟩
    refine ⟨fun e => by rw [e] at h0; exact absurd h0 (by decide), List.prefix_iff_eq_take.mpr ?_⟩
    apply List.ext_getElem?
    intro i
    rw [List.getElem?_take, List.getElem?_drop]
    by_cases hi : i < A.length
    · have := h2 i hi
      rw [if_pos hi]
      rw [List.getElem?_eq_getElem (show p + i < B.length by omega), List.getElem?_eq_getElem hi] at this ⊢
      simp only [Option.getD_some] at this
      rw [this]
    · rw [if_neg hi, List.getElem?_eq_none (by omega)]
  · rintro ⟨h0, h1⟩
    have hA : 0 < A.length := by
      rcases Nat.eq_zero_or_pos A.length with q | q
      · exact absurd (List.eq_nil_of_length_eq_zero q) h0
      · exact q
    have hle := h1.length_le
    rw [List.length_drop] at hle
    refine ⟨hA, by omega, fun q hq => ?_⟩
    have e := List.prefix_iff_eq_take.mp h1
    have e2 : A[q]? = ((B.drop p).take A.length)[q]? := by rw [← e]
    rw [List.getElem?_take, if_pos hq, List.getElem?_drop] at e2
    rw [e2]
theorem s_RD_firstPlace_l {ka kb : Nat} {kk : Int32} {A B : List Int32} (hka : ka < 12) (hkb : kb < 12) (hA : Rl I F ka A) (hB : Rl I F kb B) : ∀ (m i : Nat), B.length - i = m → i < 2147483648 →
    XJ none m_RD_firstPlace 4 [some (.ref ka), some (.ref kb), some (.int kk), some (.int (nI i))] [] I F (xpi (nI (ff (stands A B) m i)) I F) := by
  have eB := hB.ti
  have hBl := hB.lt
  intro m
  induction m with
  | zero =>
    intro i hi hi2
    refine xj_iload_n (pc := 4) d_RD_firstPlace_4 rfl rfl ?_
    refine xj_aload_n (pc := 5) d_RD_firstPlace_5 rfl rfl ?_
    refine xj_callV (pc := 6) d_RD_firstPlace_6 ml_RD_46 ok_RW_length (s_RW_length (by omega)) rfl rfl (xsh_row (by omega)) rfl rfl (Nat.le_of_ble_eq_true rfl) (by decide) ?_
    rintro rv I1 F1 ⟨rfl, rfl, rfl⟩
    dsimp only [Option.toList, List.cons_append, List.nil_append]
    refine xj_icmp_ge (pc := 9) (tgt := 31) d_RD_firstPlace_9 (by decide) (fun h9 => ?_) (fun h9 => absurd (by rw [n_le, eB, n_nI (by omega)]; omega) h9)
    refine xj_iconst (pc := 31) (v := 0) d_RD_firstPlace_31 (by decide) ?_
    refine xj_iret (pc := 32) d_RD_firstPlace_32 rfl ?_
    exact ⟨rfl, rfl, rfl⟩
  | succ m ih =>
    intro i hi hi2
    refine xj_iload_n (pc := 4) d_RD_firstPlace_4 rfl rfl ?_
    refine xj_aload_n (pc := 5) d_RD_firstPlace_5 rfl rfl ?_
    refine xj_callV (pc := 6) d_RD_firstPlace_6 ml_RD_46 ok_RW_length (s_RW_length (by omega)) rfl rfl (xsh_row (by omega)) rfl rfl (Nat.le_of_ble_eq_true rfl) (by decide) ?_
    rintro rv I1 F1 ⟨rfl, rfl, rfl⟩
    dsimp only [Option.toList, List.cons_append, List.nil_append]
    refine xj_icmp_ge (pc := 9) (tgt := 31) d_RD_firstPlace_9 (by decide) (fun h9 => absurd h9 (by rw [n_le, eB, n_nI (by omega)]; omega)) (fun h9 => ?_)
    refine xj_aload_n (pc := 12) d_RD_firstPlace_12 rfl rfl ?_
    refine xj_iload_n (pc := 13) d_RD_firstPlace_13 rfl rfl ?_
    refine xj_aload_n (pc := 14) d_RD_firstPlace_14 rfl rfl ?_
    refine xj_callV (pc := 15) d_RD_firstPlace_15 ml_RD_176 ok_RW_hasAt (s_RW_hasAt hkb hka hB hA (by omega)) rfl rfl (xsh_row (by omega)) rfl rfl (Nat.le_of_ble_eq_true rfl) (by decide) ?_
    rintro rv I1 F1 ⟨rfl, rfl, rfl⟩
    dsimp only [Option.toList, List.cons_append, List.nil_append]
    rw [st_eq]
    refine xj_if_eq (pc := 18) (tgt := 25) d_RD_firstPlace_18 (by decide) (fun h18 => ?_) (fun h18 => ?_)
    · refine xj_inc1 (pc := 25) d_RD_firstPlace_25 rfl (by decide) rfl ?_
      dsimp only [xset, xset2, xkill]
      rw [n_up]
      refine xj_goto (pc := 28) (tgt := 4) d_RD_firstPlace_28 (by decide) ?_
      rw [ff, b01_eq h18, if_neg (by decide)]
      exact ih (i + 1) (by omega) (by omega)
    · refine xj_iload_n (pc := 21) d_RD_firstPlace_21 rfl rfl ?_
      refine xj_iconst (pc := 22) (v := 1) d_RD_firstPlace_22 (by decide) ?_
      refine xj_iadd (pc := 23) d_RD_firstPlace_23 ?_
      refine xj_iret (pc := 24) d_RD_firstPlace_24 rfl ?_
      rw [ff, b01_ne h18, if_pos rfl, n_up]
      exact ⟨rfl, rfl, rfl⟩
theorem s_RD_firstPlace {ka kb : Nat} {kk : Int32} {A B : List Int32} (hka : ka < 12) (hkb : kb < 12) (hA : Rl I F ka A) (hB : Rl I F kb B) (hk : 1 ≤ kk.toInt) : XM m_RD_firstPlace [.ref ka, .ref kb, .int kk] I F (xpi (nI (ff (stands A B) (B.length - (kk.toInt.toNat - 1)) (kk.toInt.toNat - 1))) I F) := by
  refine XM.of (by decide) (Nat.le_of_ble_eq_true rfl) ?_
  dsimp only [xargs]
  have := n_hi kk
  refine xj_iload_n (pc := 0) d_RD_firstPlace_0 rfl rfl ?_
  refine xj_iconst (pc := 1) (v := 1) d_RD_firstPlace_1 (by decide) ?_
  refine xj_isub (pc := 2) d_RD_firstPlace_2 ?_
  refine xj_istore_n (pc := 3) d_RD_firstPlace_3 rfl (by decide) rfl ?_
  dsimp only [xset, xset2, xkill]
  rw [n_of (x := kk - 1) (n := kk.toInt.toNat - 1) (by rw [n_k1 hk]; omega)]
  exact s_RD_firstPlace_l hka hkb hA hB _ _ rfl (by omega)
theorem s_RD_lastPlace_l {ka kb : Nat} {kk : Int32} {A B : List Int32} (hka : ka < 12) (hkb : kb < 12) (hA : Rl I F ka A) (hB : Rl I F kb B) : ∀ (m : Nat) (x : Int32), x.toInt = (m : Int) - 1 → m < 100000 →
    XJ none m_RD_lastPlace 7 [some (.ref ka), some (.ref kb), some (.int kk), some (.int x)] [] I F (xpi (nI (fl (stands A B) m)) I F) := by
  intro m
  induction m with
  | zero =>
    intro x hx hm
    refine xj_iload_n (pc := 7) d_RD_lastPlace_7 rfl rfl ?_
    refine xj_if_lt (pc := 8) (tgt := 30) d_RD_lastPlace_8 (by decide) (fun h8 => ?_) (fun h8 => absurd (by rw [n_lt, n_0]; omega) h8)
    refine xj_iconst (pc := 30) (v := 0) d_RD_lastPlace_30 (by decide) ?_
    refine xj_iret (pc := 31) d_RD_lastPlace_31 rfl ?_
    exact ⟨rfl, rfl, rfl⟩
  | succ m ih =>
    intro x hx hm
    have ex : x = nI m := n_of (by omega)
    subst ex
    refine xj_iload_n (pc := 7) d_RD_lastPlace_7 rfl rfl ?_
    refine xj_if_lt (pc := 8) (tgt := 30) d_RD_lastPlace_8 (by decide) (fun h8 => absurd h8 (by rw [n_lt, n_0]; omega)) (fun h8 => ?_)
    refine xj_aload_n (pc := 11) d_RD_lastPlace_11 rfl rfl ?_
    refine xj_iload_n (pc := 12) d_RD_lastPlace_12 rfl rfl ?_
    refine xj_aload_n (pc := 13) d_RD_lastPlace_13 rfl rfl ?_
    refine xj_callV (pc := 14) d_RD_lastPlace_14 ml_RD_176 ok_RW_hasAt (s_RW_hasAt hkb hka hB hA (by omega)) rfl rfl (xsh_row (by omega)) rfl rfl (Nat.le_of_ble_eq_true rfl) (by decide) ?_
    rintro rv I1 F1 ⟨rfl, rfl, rfl⟩
    dsimp only [Option.toList, List.cons_append, List.nil_append]
    rw [st_eq]
    refine xj_if_eq (pc := 17) (tgt := 24) d_RD_lastPlace_17 (by decide) (fun h17 => ?_) (fun h17 => ?_)
    · refine xj_incm1 (pc := 24) d_RD_lastPlace_24 rfl (by decide) rfl ?_
      dsimp only [xset, xset2, xkill]
      refine xj_goto (pc := 27) (tgt := 7) d_RD_lastPlace_27 (by decide) ?_
      rw [fl, b01_eq h17, if_neg (by decide)]
      exact ih _ (by rw [n_add (by rw [n_m1]; omega) (by rw [n_m1]; omega), n_m1]; omega) (by omega)
    · refine xj_iload_n (pc := 20) d_RD_lastPlace_20 rfl rfl ?_
      refine xj_iconst (pc := 21) (v := 1) d_RD_lastPlace_21 (by decide) ?_
      refine xj_iadd (pc := 22) d_RD_lastPlace_22 ?_
      refine xj_iret (pc := 23) d_RD_lastPlace_23 rfl ?_
      rw [fl, b01_ne h17, if_pos rfl, n_up]
      exact ⟨rfl, rfl, rfl⟩
theorem ls_neg {ka kb : Nat} {kk x : Int32} {A B : List Int32} (hka : ka < 12) (hkb : kb < 12) (hx : x.toInt < 0) : XJ none m_RD_lastPlace 7 [some (.ref ka), some (.ref kb), some (.int kk), some (.int x)] [] I F (xpi (nI (fl (stands A B) 0)) I F) := by
  refine xj_iload_n (pc := 7) d_RD_lastPlace_7 rfl rfl ?_
  refine xj_if_lt (pc := 8) (tgt := 30) d_RD_lastPlace_8 (by decide) (fun h8 => ?_) (fun h8 => absurd (by rw [n_lt, n_0]; omega) h8)
  refine xj_iconst (pc := 30) (v := 0) d_RD_lastPlace_30 (by decide) ?_
  refine xj_iret (pc := 31) d_RD_lastPlace_31 rfl ?_
  exact ⟨rfl, rfl, rfl⟩
theorem s_RD_lastPlace {ka kb : Nat} {e : Int32} {A B : List Int32} (hka : ka < 12) (hkb : kb < 12) (hA : Rl I F ka A) (hB : Rl I F kb B) (he : 0 ≤ e.toInt) (he2 : e.toInt ≤ 240) : XM m_RD_lastPlace [.ref ka, .ref kb, .int e] I F (xpi (nI (fl (stands A B) (e.toInt.toNat + 1 - A.length))) I F) := by
  refine XM.of (by decide) (Nat.le_of_ble_eq_true rfl) ?_
  dsimp only [xargs]
  have eA := hA.ti
  have hAl := hA.lt
  refine xj_iload_n (pc := 0) d_RD_lastPlace_0 rfl rfl ?_
  refine xj_aload_n (pc := 1) d_RD_lastPlace_1 rfl rfl ?_
  refine xj_callV (pc := 2) d_RD_lastPlace_2 ml_RD_46 ok_RW_length (s_RW_length (by omega)) rfl rfl (xsh_row (by omega)) rfl rfl (Nat.le_of_ble_eq_true rfl) (by decide) ?_
  rintro rv I1 F1 ⟨rfl, rfl, rfl⟩
  dsimp only [Option.toList, List.cons_append, List.nil_append]
  refine xj_isub (pc := 5) d_RD_lastPlace_5 ?_
  refine xj_istore_n (pc := 6) d_RD_lastPlace_6 rfl (by decide) rfl ?_
  dsimp only [xset, xset2, xkill]
  rcases Nat.lt_or_ge e.toInt.toNat A.length with q | q
  · rw [show e.toInt.toNat + 1 - A.length = 0 by omega]; exact ls_neg hka hkb (by rw [n_sub (by omega) (by omega), eA]; omega)
  · exact s_RD_lastPlace_l hka hkb hA hB _ _ (by rw [n_sub (by omega) (by omega), eA]; omega) (by omega)
theorem ck_find_none {a b k last : Int32} (h : CI I F S) (hq : isR a = false ∨ isR b = false ∨ (last = 0 ∧ k.toInt < 1) ∨ (¬ k = -1 ∧ k.toInt < 1)) : CQ (sp_find S a b k last, S) I F (some (.int (-1))) I F := by
  have e : sp_find S a b k last = -1 := by
    rw [sp_find, if_neg]
    intro q
    simp only [Bool.and_eq_true, Bool.or_eq_true, decide_eq_true_eq] at q
    rcases hq with hq | hq | hq | hq
    · rw [hq] at q; exact absurd q.1.1 (by decide)
    · rw [hq] at q; exact absurd q.1.2 (by decide)
    · rcases q.2 with q2 | q2
      · omega
      · exact q2.2 hq.1
    · rcases q.2 with q2 | q2
      · omega
      · exact hq.1 (by rw [n_eq, n_m1]; exact q2.1)
  rw [e]; exact ck_ans h
theorem t_RD_find {a b k last : Int32} (hS : OKS S) (hC : CI I F S) : XM m_RD_find [.ref 24, .int a, .int b, .int k, .int last] I F (CQ (sp_find S a b k last, S) I F) := by
  refine XM.of (by decide) (Nat.le_of_ble_eq_true rfl) ?_
  dsimp only [xargs]
  have := n_hi k
  by_cases ho : last = 0
  · refine xj_aload_n (pc := 0) d_RD_find_0 rfl rfl ?_
    refine xj_iload_n (pc := 1) d_RD_find_1 rfl rfl ?_
    rcases regc a with ⟨k_a, hk_a, e_a, i_a, t_a⟩ | i_a
    · refine xj_callV (pc := 2) d_RD_find_2 ml_RD_56 ok_RD_register (s_RD_register_k hk_a e_a) rfl rfl rfl rfl rfl (Nat.le_of_ble_eq_true rfl) (by decide) ?_
      rintro rv I1 F1 ⟨rfl, rfl, rfl⟩
      dsimp only [Option.toList, List.cons_append, List.nil_append]
      refine xj_astore (pc := 5) d_RD_find_5 (by decide) rfl ?_
      dsimp only [xset, xset2, xkill]
      refine xj_aload_n (pc := 7) d_RD_find_7 rfl rfl ?_
      refine xj_iload_n (pc := 8) d_RD_find_8 rfl rfl ?_
      rcases regc b with ⟨k_b, hk_b, e_b, i_b, t_b⟩ | i_b
      · refine xj_callV (pc := 9) d_RD_find_9 ml_RD_56 ok_RD_register (s_RD_register_k hk_b e_b) rfl rfl rfl rfl rfl (Nat.le_of_ble_eq_true rfl) (by decide) ?_
        rintro rv I1 F1 ⟨rfl, rfl, rfl⟩
        dsimp only [Option.toList, List.cons_append, List.nil_append]
        refine xj_astore (pc := 12) d_RD_find_12 (by decide) rfl ?_
        dsimp only [xset, xset2, xkill]
        refine xj_iload (pc := 14) d_RD_find_14 rfl ?_
        refine xj_if_eq (pc := 16) (tgt := 28) d_RD_find_16 (by decide) (fun h16 => ?_) (fun h16 => absurd (ho) h16)
        refine xj_iconst (pc := 28) (v := 0) d_RD_find_28 (by decide) ?_
        refine xj_istore (pc := 29) d_RD_find_29 (by decide) rfl ?_
        dsimp only [xset, xset2, xkill]
        refine xj_aload (pc := 31) d_RD_find_31 rfl ?_
        refine xj_ifnull (pc := 33) d_RD_find_33 ?_
        refine xj_aload (pc := 36) d_RD_find_36 rfl ?_
        refine xj_ifnull (pc := 38) d_RD_find_38 ?_
        refine xj_iload_n (pc := 41) d_RD_find_41 rfl rfl ?_
        refine xj_iconst (pc := 42) (v := 1) d_RD_find_42 (by decide) ?_
        skip
        refine xj_icmp_ge (pc := 43) (tgt := 53) d_RD_find_43 (by decide) (fun h43 => ?_) (fun h43 => ?_)
        · rw [sp_find]
          have hLa := hC.at hk_a t_a
          have hLb := hC.at hk_b t_b
          have hLf := hS.le hk_b t_b
          have eB := hLb.ti
          refine xj_iload (pc := 53) d_RD_find_53 rfl ?_
          refine xj_if_eq (pc := 55) (tgt := 88) d_RD_find_55 (by decide) (fun h55 => ?_) (fun h55 => absurd (ho) h55)
          refine xj_aload (pc := 88) d_RD_find_88 rfl ?_
          refine xj_aload (pc := 90) d_RD_find_90 rfl ?_
          refine xj_iload_n (pc := 92) d_RD_find_92 rfl rfl ?_
          refine xj_callS (pc := 93) d_RD_find_93 ml_RD_107 ok_RD_firstPlace (s_RD_firstPlace (by omega) (by omega) hLa hLb (by rw [n_le, n_1] at h43; omega)) rfl rfl rfl (Nat.le_of_ble_eq_true rfl) (by decide) ?_
          rintro rv I1 F1 ⟨rfl, rfl, rfl⟩
          dsimp only [Option.toList, List.cons_append, List.nil_append]
          refine xj_iret (pc := 96) d_RD_find_96 rfl ?_
          rw [n_le, n_1] at h43
          rw [if_pos (by simp only [i_a, i_b, Bool.true_and, Bool.or_eq_true, decide_eq_true_eq]; omega)]
          try dsimp only
          rw [if_pos ho]
          exact ck_ans hC
        · refine xj_iload (pc := 46) d_RD_find_46 rfl ?_
          refine xj_if_ne (pc := 48) (tgt := 53) d_RD_find_48 (by decide) (fun h48 => absurd (rfl) h48) (fun h48 => ?_)
          refine xj_iconst (pc := 51) (v := -1) d_RD_find_51 (by decide) ?_
          refine xj_iret (pc := 52) d_RD_find_52 rfl ?_
          first | (rw [n_le, n_1] at h43; exact ck_find_none hC (Or.inr (Or.inr (Or.inl ⟨ho, by omega⟩)))) | exact ck_find_none hC (Or.inl i_a) | exact ck_find_none hC (Or.inr (Or.inl i_b))
      · refine xj_callV (pc := 9) d_RD_find_9 ml_RD_56 ok_RD_register (s_RD_register_n i_b) rfl rfl rfl rfl rfl (Nat.le_of_ble_eq_true rfl) (by decide) ?_
        rintro rv I1 F1 ⟨rfl, rfl, rfl⟩
        dsimp only [Option.toList, List.cons_append, List.nil_append]
        refine xj_astoreN (pc := 12) d_RD_find_12 (by decide) rfl ?_
        dsimp only [xset, xset2, xkill]
        refine xj_iload (pc := 14) d_RD_find_14 rfl ?_
        refine xj_if_eq (pc := 16) (tgt := 28) d_RD_find_16 (by decide) (fun h16 => ?_) (fun h16 => absurd (ho) h16)
        refine xj_iconst (pc := 28) (v := 0) d_RD_find_28 (by decide) ?_
        refine xj_istore (pc := 29) d_RD_find_29 (by decide) rfl ?_
        dsimp only [xset, xset2, xkill]
        refine xj_aload (pc := 31) d_RD_find_31 rfl ?_
        refine xj_ifnull (pc := 33) d_RD_find_33 ?_
        refine xj_aloadN (pc := 36) d_RD_find_36 rfl ?_
        refine xj_ifnullN (pc := 38) (tgt := 51) d_RD_find_38 (by decide) ?_
        refine xj_iconst (pc := 51) (v := -1) d_RD_find_51 (by decide) ?_
        refine xj_iret (pc := 52) d_RD_find_52 rfl ?_
        first | (rw [n_le, n_1] at h43; exact ck_find_none hC (Or.inr (Or.inr (Or.inl ⟨ho, by omega⟩)))) | exact ck_find_none hC (Or.inl i_a) | exact ck_find_none hC (Or.inr (Or.inl i_b))
    · refine xj_callV (pc := 2) d_RD_find_2 ml_RD_56 ok_RD_register (s_RD_register_n i_a) rfl rfl rfl rfl rfl (Nat.le_of_ble_eq_true rfl) (by decide) ?_
      rintro rv I1 F1 ⟨rfl, rfl, rfl⟩
      dsimp only [Option.toList, List.cons_append, List.nil_append]
      refine xj_astoreN (pc := 5) d_RD_find_5 (by decide) rfl ?_
      dsimp only [xset, xset2, xkill]
      refine xj_aload_n (pc := 7) d_RD_find_7 rfl rfl ?_
      refine xj_iload_n (pc := 8) d_RD_find_8 rfl rfl ?_
      rcases regc b with ⟨k_b, hk_b, e_b, i_b, t_b⟩ | i_b
      · refine xj_callV (pc := 9) d_RD_find_9 ml_RD_56 ok_RD_register (s_RD_register_k hk_b e_b) rfl rfl rfl rfl rfl (Nat.le_of_ble_eq_true rfl) (by decide) ?_
        rintro rv I1 F1 ⟨rfl, rfl, rfl⟩
        dsimp only [Option.toList, List.cons_append, List.nil_append]
        refine xj_astore (pc := 12) d_RD_find_12 (by decide) rfl ?_
        dsimp only [xset, xset2, xkill]
        refine xj_iload (pc := 14) d_RD_find_14 rfl ?_
        refine xj_if_eq (pc := 16) (tgt := 28) d_RD_find_16 (by decide) (fun h16 => ?_) (fun h16 => absurd (ho) h16)
        refine xj_iconst (pc := 28) (v := 0) d_RD_find_28 (by decide) ?_
        refine xj_istore (pc := 29) d_RD_find_29 (by decide) rfl ?_
        dsimp only [xset, xset2, xkill]
        refine xj_aloadN (pc := 31) d_RD_find_31 rfl ?_
        refine xj_ifnullN (pc := 33) (tgt := 51) d_RD_find_33 (by decide) ?_
        refine xj_iconst (pc := 51) (v := -1) d_RD_find_51 (by decide) ?_
        refine xj_iret (pc := 52) d_RD_find_52 rfl ?_
        first | (rw [n_le, n_1] at h43; exact ck_find_none hC (Or.inr (Or.inr (Or.inl ⟨ho, by omega⟩)))) | exact ck_find_none hC (Or.inl i_a) | exact ck_find_none hC (Or.inr (Or.inl i_b))
      · refine xj_callV (pc := 9) d_RD_find_9 ml_RD_56 ok_RD_register (s_RD_register_n i_b) rfl rfl rfl rfl rfl (Nat.le_of_ble_eq_true rfl) (by decide) ?_
        rintro rv I1 F1 ⟨rfl, rfl, rfl⟩
        dsimp only [Option.toList, List.cons_append, List.nil_append]
        refine xj_astoreN (pc := 12) d_RD_find_12 (by decide) rfl ?_
        dsimp only [xset, xset2, xkill]
        refine xj_iload (pc := 14) d_RD_find_14 rfl ?_
        refine xj_if_eq (pc := 16) (tgt := 28) d_RD_find_16 (by decide) (fun h16 => ?_) (fun h16 => absurd (ho) h16)
        refine xj_iconst (pc := 28) (v := 0) d_RD_find_28 (by decide) ?_
        refine xj_istore (pc := 29) d_RD_find_29 (by decide) rfl ?_
        dsimp only [xset, xset2, xkill]
        refine xj_aloadN (pc := 31) d_RD_find_31 rfl ?_
        refine xj_ifnullN (pc := 33) (tgt := 51) d_RD_find_33 (by decide) ?_
        refine xj_iconst (pc := 51) (v := -1) d_RD_find_51 (by decide) ?_
        refine xj_iret (pc := 52) d_RD_find_52 rfl ?_
        first | (rw [n_le, n_1] at h43; exact ck_find_none hC (Or.inr (Or.inr (Or.inl ⟨ho, by omega⟩)))) | exact ck_find_none hC (Or.inl i_a) | exact ck_find_none hC (Or.inr (Or.inl i_b))
  · by_cases hk : k = -1
    · refine xj_aload_n (pc := 0) d_RD_find_0 rfl rfl ?_
      refine xj_iload_n (pc := 1) d_RD_find_1 rfl rfl ?_
      rcases regc a with ⟨k_a, hk_a, e_a, i_a, t_a⟩ | i_a
      · refine xj_callV (pc := 2) d_RD_find_2 ml_RD_56 ok_RD_register (s_RD_register_k hk_a e_a) rfl rfl rfl rfl rfl (Nat.le_of_ble_eq_true rfl) (by decide) ?_
        rintro rv I1 F1 ⟨rfl, rfl, rfl⟩
        dsimp only [Option.toList, List.cons_append, List.nil_append]
        refine xj_astore (pc := 5) d_RD_find_5 (by decide) rfl ?_
        dsimp only [xset, xset2, xkill]
        refine xj_aload_n (pc := 7) d_RD_find_7 rfl rfl ?_
        refine xj_iload_n (pc := 8) d_RD_find_8 rfl rfl ?_
        rcases regc b with ⟨k_b, hk_b, e_b, i_b, t_b⟩ | i_b
        · refine xj_callV (pc := 9) d_RD_find_9 ml_RD_56 ok_RD_register (s_RD_register_k hk_b e_b) rfl rfl rfl rfl rfl (Nat.le_of_ble_eq_true rfl) (by decide) ?_
          rintro rv I1 F1 ⟨rfl, rfl, rfl⟩
          dsimp only [Option.toList, List.cons_append, List.nil_append]
          refine xj_astore (pc := 12) d_RD_find_12 (by decide) rfl ?_
          dsimp only [xset, xset2, xkill]
          refine xj_iload (pc := 14) d_RD_find_14 rfl ?_
          refine xj_if_eq (pc := 16) (tgt := 28) d_RD_find_16 (by decide) (fun h16 => absurd h16 (ho)) (fun h16 => ?_)
          refine xj_iload_n (pc := 19) d_RD_find_19 rfl rfl ?_
          refine xj_iconst (pc := 20) (v := -1) d_RD_find_20 (by decide) ?_
          refine xj_icmp_ne (pc := 21) (tgt := 28) d_RD_find_21 (by decide) (fun h21 => absurd (hk) h21) (fun h21 => ?_)
          refine xj_iconst (pc := 24) (v := 1) d_RD_find_24 (by decide) ?_
          refine xj_goto (pc := 25) (tgt := 29) d_RD_find_25 (by decide) ?_
          refine xj_istore (pc := 29) d_RD_find_29 (by decide) rfl ?_
          dsimp only [xset, xset2, xkill]
          refine xj_aload (pc := 31) d_RD_find_31 rfl ?_
          refine xj_ifnull (pc := 33) d_RD_find_33 ?_
          refine xj_aload (pc := 36) d_RD_find_36 rfl ?_
          refine xj_ifnull (pc := 38) d_RD_find_38 ?_
          refine xj_iload_n (pc := 41) d_RD_find_41 rfl rfl ?_
          refine xj_iconst (pc := 42) (v := 1) d_RD_find_42 (by decide) ?_
          refine xj_icmp_ge (pc := 43) (tgt := 53) d_RD_find_43 (by decide) (fun h43 => absurd h43 (by rw [hk]; decide)) (fun h43 => ?_)
          refine xj_iload (pc := 46) d_RD_find_46 rfl ?_
          refine xj_if_ne (pc := 48) (tgt := 53) d_RD_find_48 (by decide) (fun h48 => ?_) (fun h48 => absurd h48 (by decide))
          rw [sp_find]
          have hLa := hC.at hk_a t_a
          have hLb := hC.at hk_b t_b
          have hLf := hS.le hk_b t_b
          have eB := hLb.ti
          refine xj_iload (pc := 53) d_RD_find_53 rfl ?_
          refine xj_if_eq (pc := 55) (tgt := 88) d_RD_find_55 (by decide) (fun h55 => absurd h55 (ho)) (fun h55 => ?_)
          refine xj_aload (pc := 58) d_RD_find_58 rfl ?_
          refine xj_aload (pc := 60) d_RD_find_60 rfl ?_
          refine xj_iload (pc := 62) d_RD_find_62 rfl ?_
          refine xj_if_eq (pc := 64) (tgt := 75) d_RD_find_64 (by decide) (fun h64 => absurd h64 (by decide)) (fun h64 => ?_)
          refine xj_aload (pc := 67) d_RD_find_67 rfl ?_
          refine xj_callV (pc := 69) d_RD_find_69 ml_RD_46 ok_RW_length (s_RW_length (by omega)) rfl rfl (xsh_row (by omega)) rfl rfl (Nat.le_of_ble_eq_true rfl) (by decide) ?_
          rintro rv I1 F1 ⟨rfl, rfl, rfl⟩
          dsimp only [Option.toList, List.cons_append, List.nil_append]
          refine xj_goto (pc := 72) (tgt := 84) d_RD_find_72 (by decide) ?_
          refine xj_callS (pc := 84) d_RD_find_84 ml_RD_103 ok_RD_lastPlace (s_RD_lastPlace (by omega) (by omega) hLa hLb (by omega) (by omega)) rfl rfl rfl (Nat.le_of_ble_eq_true rfl) (by decide) ?_
          rintro rv I1 F1 ⟨rfl, rfl, rfl⟩
          dsimp only [Option.toList, List.cons_append, List.nil_append]
          refine xj_iret (pc := 87) d_RD_find_87 rfl ?_
          rw [if_pos (by simp [i_a, i_b, hk, ho, n_m1])]
          try dsimp only
          rw [if_neg ho, if_pos (Or.inl (by rw [hk, n_m1])), eB]
          exact ck_ans hC
        · refine xj_callV (pc := 9) d_RD_find_9 ml_RD_56 ok_RD_register (s_RD_register_n i_b) rfl rfl rfl rfl rfl (Nat.le_of_ble_eq_true rfl) (by decide) ?_
          rintro rv I1 F1 ⟨rfl, rfl, rfl⟩
          dsimp only [Option.toList, List.cons_append, List.nil_append]
          refine xj_astoreN (pc := 12) d_RD_find_12 (by decide) rfl ?_
          dsimp only [xset, xset2, xkill]
          refine xj_iload (pc := 14) d_RD_find_14 rfl ?_
          refine xj_if_eq (pc := 16) (tgt := 28) d_RD_find_16 (by decide) (fun h16 => absurd h16 (ho)) (fun h16 => ?_)
          refine xj_iload_n (pc := 19) d_RD_find_19 rfl rfl ?_
          refine xj_iconst (pc := 20) (v := -1) d_RD_find_20 (by decide) ?_
          refine xj_icmp_ne (pc := 21) (tgt := 28) d_RD_find_21 (by decide) (fun h21 => absurd (hk) h21) (fun h21 => ?_)
          refine xj_iconst (pc := 24) (v := 1) d_RD_find_24 (by decide) ?_
          refine xj_goto (pc := 25) (tgt := 29) d_RD_find_25 (by decide) ?_
          refine xj_istore (pc := 29) d_RD_find_29 (by decide) rfl ?_
          dsimp only [xset, xset2, xkill]
          refine xj_aload (pc := 31) d_RD_find_31 rfl ?_
          refine xj_ifnull (pc := 33) d_RD_find_33 ?_
          refine xj_aloadN (pc := 36) d_RD_find_36 rfl ?_
          refine xj_ifnullN (pc := 38) (tgt := 51) d_RD_find_38 (by decide) ?_
          refine xj_iconst (pc := 51) (v := -1) d_RD_find_51 (by decide) ?_
          refine xj_iret (pc := 52) d_RD_find_52 rfl ?_
          first | exact ck_find_none hC (Or.inl i_a) | exact ck_find_none hC (Or.inr (Or.inl i_b))
      · refine xj_callV (pc := 2) d_RD_find_2 ml_RD_56 ok_RD_register (s_RD_register_n i_a) rfl rfl rfl rfl rfl (Nat.le_of_ble_eq_true rfl) (by decide) ?_
        rintro rv I1 F1 ⟨rfl, rfl, rfl⟩
        dsimp only [Option.toList, List.cons_append, List.nil_append]
        refine xj_astoreN (pc := 5) d_RD_find_5 (by decide) rfl ?_
        dsimp only [xset, xset2, xkill]
        refine xj_aload_n (pc := 7) d_RD_find_7 rfl rfl ?_
        refine xj_iload_n (pc := 8) d_RD_find_8 rfl rfl ?_
        rcases regc b with ⟨k_b, hk_b, e_b, i_b, t_b⟩ | i_b
        · refine xj_callV (pc := 9) d_RD_find_9 ml_RD_56 ok_RD_register (s_RD_register_k hk_b e_b) rfl rfl rfl rfl rfl (Nat.le_of_ble_eq_true rfl) (by decide) ?_
          rintro rv I1 F1 ⟨rfl, rfl, rfl⟩
          dsimp only [Option.toList, List.cons_append, List.nil_append]
          refine xj_astore (pc := 12) d_RD_find_12 (by decide) rfl ?_
          dsimp only [xset, xset2, xkill]
          refine xj_iload (pc := 14) d_RD_find_14 rfl ?_
          refine xj_if_eq (pc := 16) (tgt := 28) d_RD_find_16 (by decide) (fun h16 => absurd h16 (ho)) (fun h16 => ?_)
          refine xj_iload_n (pc := 19) d_RD_find_19 rfl rfl ?_
          refine xj_iconst (pc := 20) (v := -1) d_RD_find_20 (by decide) ?_
          refine xj_icmp_ne (pc := 21) (tgt := 28) d_RD_find_21 (by decide) (fun h21 => absurd (hk) h21) (fun h21 => ?_)
          refine xj_iconst (pc := 24) (v := 1) d_RD_find_24 (by decide) ?_
          refine xj_goto (pc := 25) (tgt := 29) d_RD_find_25 (by decide) ?_
          refine xj_istore (pc := 29) d_RD_find_29 (by decide) rfl ?_
          dsimp only [xset, xset2, xkill]
          refine xj_aloadN (pc := 31) d_RD_find_31 rfl ?_
          refine xj_ifnullN (pc := 33) (tgt := 51) d_RD_find_33 (by decide) ?_
          refine xj_iconst (pc := 51) (v := -1) d_RD_find_51 (by decide) ?_
          refine xj_iret (pc := 52) d_RD_find_52 rfl ?_
          first | exact ck_find_none hC (Or.inl i_a) | exact ck_find_none hC (Or.inr (Or.inl i_b))
        · refine xj_callV (pc := 9) d_RD_find_9 ml_RD_56 ok_RD_register (s_RD_register_n i_b) rfl rfl rfl rfl rfl (Nat.le_of_ble_eq_true rfl) (by decide) ?_
          rintro rv I1 F1 ⟨rfl, rfl, rfl⟩
          dsimp only [Option.toList, List.cons_append, List.nil_append]
          refine xj_astoreN (pc := 12) d_RD_find_12 (by decide) rfl ?_
          dsimp only [xset, xset2, xkill]
          refine xj_iload (pc := 14) d_RD_find_14 rfl ?_
          refine xj_if_eq (pc := 16) (tgt := 28) d_RD_find_16 (by decide) (fun h16 => absurd h16 (ho)) (fun h16 => ?_)
          refine xj_iload_n (pc := 19) d_RD_find_19 rfl rfl ?_
          refine xj_iconst (pc := 20) (v := -1) d_RD_find_20 (by decide) ?_
          refine xj_icmp_ne (pc := 21) (tgt := 28) d_RD_find_21 (by decide) (fun h21 => absurd (hk) h21) (fun h21 => ?_)
          refine xj_iconst (pc := 24) (v := 1) d_RD_find_24 (by decide) ?_
          refine xj_goto (pc := 25) (tgt := 29) d_RD_find_25 (by decide) ?_
          refine xj_istore (pc := 29) d_RD_find_29 (by decide) rfl ?_
          dsimp only [xset, xset2, xkill]
          refine xj_aloadN (pc := 31) d_RD_find_31 rfl ?_
          refine xj_ifnullN (pc := 33) (tgt := 51) d_RD_find_33 (by decide) ?_
          refine xj_iconst (pc := 51) (v := -1) d_RD_find_51 (by decide) ?_
          refine xj_iret (pc := 52) d_RD_find_52 rfl ?_
          first | exact ck_find_none hC (Or.inl i_a) | exact ck_find_none hC (Or.inr (Or.inl i_b))
    · refine xj_aload_n (pc := 0) d_RD_find_0 rfl rfl ?_
      refine xj_iload_n (pc := 1) d_RD_find_1 rfl rfl ?_
      rcases regc a with ⟨k_a, hk_a, e_a, i_a, t_a⟩ | i_a
      · refine xj_callV (pc := 2) d_RD_find_2 ml_RD_56 ok_RD_register (s_RD_register_k hk_a e_a) rfl rfl rfl rfl rfl (Nat.le_of_ble_eq_true rfl) (by decide) ?_
        rintro rv I1 F1 ⟨rfl, rfl, rfl⟩
        dsimp only [Option.toList, List.cons_append, List.nil_append]
        refine xj_astore (pc := 5) d_RD_find_5 (by decide) rfl ?_
        dsimp only [xset, xset2, xkill]
        refine xj_aload_n (pc := 7) d_RD_find_7 rfl rfl ?_
        refine xj_iload_n (pc := 8) d_RD_find_8 rfl rfl ?_
        rcases regc b with ⟨k_b, hk_b, e_b, i_b, t_b⟩ | i_b
        · refine xj_callV (pc := 9) d_RD_find_9 ml_RD_56 ok_RD_register (s_RD_register_k hk_b e_b) rfl rfl rfl rfl rfl (Nat.le_of_ble_eq_true rfl) (by decide) ?_
          rintro rv I1 F1 ⟨rfl, rfl, rfl⟩
          dsimp only [Option.toList, List.cons_append, List.nil_append]
          refine xj_astore (pc := 12) d_RD_find_12 (by decide) rfl ?_
          dsimp only [xset, xset2, xkill]
          refine xj_iload (pc := 14) d_RD_find_14 rfl ?_
          refine xj_if_eq (pc := 16) (tgt := 28) d_RD_find_16 (by decide) (fun h16 => absurd h16 (ho)) (fun h16 => ?_)
          refine xj_iload_n (pc := 19) d_RD_find_19 rfl rfl ?_
          refine xj_iconst (pc := 20) (v := -1) d_RD_find_20 (by decide) ?_
          refine xj_icmp_ne (pc := 21) (tgt := 28) d_RD_find_21 (by decide) (fun h21 => ?_) (fun h21 => absurd h21 (hk))
          refine xj_iconst (pc := 28) (v := 0) d_RD_find_28 (by decide) ?_
          refine xj_istore (pc := 29) d_RD_find_29 (by decide) rfl ?_
          dsimp only [xset, xset2, xkill]
          refine xj_aload (pc := 31) d_RD_find_31 rfl ?_
          refine xj_ifnull (pc := 33) d_RD_find_33 ?_
          refine xj_aload (pc := 36) d_RD_find_36 rfl ?_
          refine xj_ifnull (pc := 38) d_RD_find_38 ?_
          refine xj_iload_n (pc := 41) d_RD_find_41 rfl rfl ?_
          refine xj_iconst (pc := 42) (v := 1) d_RD_find_42 (by decide) ?_
          refine xj_icmp_ge (pc := 43) (tgt := 53) d_RD_find_43 (by decide) (fun h43 => ?_) (fun h43 => ?_)
          · rw [sp_find]
            have hLa := hC.at hk_a t_a
            have hLb := hC.at hk_b t_b
            have hLf := hS.le hk_b t_b
            have eB := hLb.ti
            refine xj_iload (pc := 53) d_RD_find_53 rfl ?_
            refine xj_if_eq (pc := 55) (tgt := 88) d_RD_find_55 (by decide) (fun h55 => absurd h55 (ho)) (fun h55 => ?_)
            refine xj_aload (pc := 58) d_RD_find_58 rfl ?_
            refine xj_aload (pc := 60) d_RD_find_60 rfl ?_
            refine xj_iload (pc := 62) d_RD_find_62 rfl ?_
            refine xj_if_eq (pc := 64) (tgt := 75) d_RD_find_64 (by decide) (fun h64 => ?_) (fun h64 => absurd (rfl) h64)
            refine xj_iload_n (pc := 75) d_RD_find_75 rfl rfl ?_
            refine xj_aload (pc := 76) d_RD_find_76 rfl ?_
            refine xj_callV (pc := 78) d_RD_find_78 ml_RD_46 ok_RW_length (s_RW_length (by omega)) rfl rfl (xsh_row (by omega)) rfl rfl (Nat.le_of_ble_eq_true rfl) (by decide) ?_
            rintro rv I1 F1 ⟨rfl, rfl, rfl⟩
            dsimp only [Option.toList, List.cons_append, List.nil_append]
            refine xj_mmin (pc := 81) d_RD_find_81 ml_RD_100 (by decide) (Nat.le_of_ble_eq_true rfl) ?_
            rw [n_le, n_1] at h43
            refine xj_callS (pc := 84) d_RD_find_84 ml_RD_103 ok_RD_lastPlace (s_RD_lastPlace (by omega) (by omega) hLa hLb (by split <;> omega) (by (split <;> rename_i q) <;> rw [n_lt] at q <;> omega)) rfl rfl rfl (Nat.le_of_ble_eq_true rfl) (by decide) ?_
            rintro rv I1 F1 ⟨rfl, rfl, rfl⟩
            dsimp only [Option.toList, List.cons_append, List.nil_append]
            refine xj_iret (pc := 87) d_RD_find_87 rfl ?_
            rw [if_pos (by simp only [i_a, i_b, Bool.true_and, Bool.or_eq_true, decide_eq_true_eq]; omega)]
            try dsimp only
            rw [if_neg ho]
            have ee : (if I k_b < k then I k_b else k).toInt.toNat = (if k.toInt = -1 ∨ ((sR S b).length : Int) < k.toInt then (sR S b).length else k.toInt.toNat) := by (split <;> rename_i q <;> rw [n_lt, eB] at q <;> split <;> omega)
            rw [ee]
            exact ck_ans hC
          · refine xj_iload (pc := 46) d_RD_find_46 rfl ?_
            refine xj_if_ne (pc := 48) (tgt := 53) d_RD_find_48 (by decide) (fun h48 => absurd (rfl) h48) (fun h48 => ?_)
            refine xj_iconst (pc := 51) (v := -1) d_RD_find_51 (by decide) ?_
            refine xj_iret (pc := 52) d_RD_find_52 rfl ?_
            first | (rw [n_le, n_1] at h43; exact ck_find_none hC (Or.inr (Or.inr (Or.inr ⟨hk, by omega⟩)))) | exact ck_find_none hC (Or.inl i_a) | exact ck_find_none hC (Or.inr (Or.inl i_b))
        · refine xj_callV (pc := 9) d_RD_find_9 ml_RD_56 ok_RD_register (s_RD_register_n i_b) rfl rfl rfl rfl rfl (Nat.le_of_ble_eq_true rfl) (by decide) ?_
          rintro rv I1 F1 ⟨rfl, rfl, rfl⟩
          dsimp only [Option.toList, List.cons_append, List.nil_append]
          refine xj_astoreN (pc := 12) d_RD_find_12 (by decide) rfl ?_
          dsimp only [xset, xset2, xkill]
          refine xj_iload (pc := 14) d_RD_find_14 rfl ?_
          refine xj_if_eq (pc := 16) (tgt := 28) d_RD_find_16 (by decide) (fun h16 => absurd h16 (ho)) (fun h16 => ?_)
          refine xj_iload_n (pc := 19) d_RD_find_19 rfl rfl ?_
          refine xj_iconst (pc := 20) (v := -1) d_RD_find_20 (by decide) ?_
          refine xj_icmp_ne (pc := 21) (tgt := 28) d_RD_find_21 (by decide) (fun h21 => ?_) (fun h21 => absurd h21 (hk))
          refine xj_iconst (pc := 28) (v := 0) d_RD_find_28 (by decide) ?_
          refine xj_istore (pc := 29) d_RD_find_29 (by decide) rfl ?_
          dsimp only [xset, xset2, xkill]
          refine xj_aload (pc := 31) d_RD_find_31 rfl ?_
          refine xj_ifnull (pc := 33) d_RD_find_33 ?_
          refine xj_aloadN (pc := 36) d_RD_find_36 rfl ?_
          refine xj_ifnullN (pc := 38) (tgt := 51) d_RD_find_38 (by decide) ?_
          refine xj_iconst (pc := 51) (v := -1) d_RD_find_51 (by decide) ?_
          refine xj_iret (pc := 52) d_RD_find_52 rfl ?_
          first | (rw [n_le, n_1] at h43; exact ck_find_none hC (Or.inr (Or.inr (Or.inr ⟨hk, by omega⟩)))) | exact ck_find_none hC (Or.inl i_a) | exact ck_find_none hC (Or.inr (Or.inl i_b))
      · refine xj_callV (pc := 2) d_RD_find_2 ml_RD_56 ok_RD_register (s_RD_register_n i_a) rfl rfl rfl rfl rfl (Nat.le_of_ble_eq_true rfl) (by decide) ?_
        rintro rv I1 F1 ⟨rfl, rfl, rfl⟩
        dsimp only [Option.toList, List.cons_append, List.nil_append]
        refine xj_astoreN (pc := 5) d_RD_find_5 (by decide) rfl ?_
        dsimp only [xset, xset2, xkill]
        refine xj_aload_n (pc := 7) d_RD_find_7 rfl rfl ?_
        refine xj_iload_n (pc := 8) d_RD_find_8 rfl rfl ?_
        rcases regc b with ⟨k_b, hk_b, e_b, i_b, t_b⟩ | i_b
        · refine xj_callV (pc := 9) d_RD_find_9 ml_RD_56 ok_RD_register (s_RD_register_k hk_b e_b) rfl rfl rfl rfl rfl (Nat.le_of_ble_eq_true rfl) (by decide) ?_
          rintro rv I1 F1 ⟨rfl, rfl, rfl⟩
          dsimp only [Option.toList, List.cons_append, List.nil_append]
          refine xj_astore (pc := 12) d_RD_find_12 (by decide) rfl ?_
          dsimp only [xset, xset2, xkill]
          refine xj_iload (pc := 14) d_RD_find_14 rfl ?_
          refine xj_if_eq (pc := 16) (tgt := 28) d_RD_find_16 (by decide) (fun h16 => absurd h16 (ho)) (fun h16 => ?_)
          refine xj_iload_n (pc := 19) d_RD_find_19 rfl rfl ?_
          refine xj_iconst (pc := 20) (v := -1) d_RD_find_20 (by decide) ?_
          refine xj_icmp_ne (pc := 21) (tgt := 28) d_RD_find_21 (by decide) (fun h21 => ?_) (fun h21 => absurd h21 (hk))
          refine xj_iconst (pc := 28) (v := 0) d_RD_find_28 (by decide) ?_
          refine xj_istore (pc := 29) d_RD_find_29 (by decide) rfl ?_
          dsimp only [xset, xset2, xkill]
          refine xj_aloadN (pc := 31) d_RD_find_31 rfl ?_
          refine xj_ifnullN (pc := 33) (tgt := 51) d_RD_find_33 (by decide) ?_
          refine xj_iconst (pc := 51) (v := -1) d_RD_find_51 (by decide) ?_
          refine xj_iret (pc := 52) d_RD_find_52 rfl ?_
          first | (rw [n_le, n_1] at h43; exact ck_find_none hC (Or.inr (Or.inr (Or.inr ⟨hk, by omega⟩)))) | exact ck_find_none hC (Or.inl i_a) | exact ck_find_none hC (Or.inr (Or.inl i_b))
        · refine xj_callV (pc := 9) d_RD_find_9 ml_RD_56 ok_RD_register (s_RD_register_n i_b) rfl rfl rfl rfl rfl (Nat.le_of_ble_eq_true rfl) (by decide) ?_
          rintro rv I1 F1 ⟨rfl, rfl, rfl⟩
          dsimp only [Option.toList, List.cons_append, List.nil_append]
          refine xj_astoreN (pc := 12) d_RD_find_12 (by decide) rfl ?_
          dsimp only [xset, xset2, xkill]
          refine xj_iload (pc := 14) d_RD_find_14 rfl ?_
          refine xj_if_eq (pc := 16) (tgt := 28) d_RD_find_16 (by decide) (fun h16 => absurd h16 (ho)) (fun h16 => ?_)
          refine xj_iload_n (pc := 19) d_RD_find_19 rfl rfl ?_
          refine xj_iconst (pc := 20) (v := -1) d_RD_find_20 (by decide) ?_
          refine xj_icmp_ne (pc := 21) (tgt := 28) d_RD_find_21 (by decide) (fun h21 => ?_) (fun h21 => absurd h21 (hk))
          refine xj_iconst (pc := 28) (v := 0) d_RD_find_28 (by decide) ?_
          refine xj_istore (pc := 29) d_RD_find_29 (by decide) rfl ?_
          dsimp only [xset, xset2, xkill]
          refine xj_aloadN (pc := 31) d_RD_find_31 rfl ?_
          refine xj_ifnullN (pc := 33) (tgt := 51) d_RD_find_33 (by decide) ?_
          refine xj_iconst (pc := 51) (v := -1) d_RD_find_51 (by decide) ?_
          refine xj_iret (pc := 52) d_RD_find_52 rfl ?_
          first | (rw [n_le, n_1] at h43; exact ck_find_none hC (Or.inr (Or.inr (Or.inr ⟨hk, by omega⟩)))) | exact ck_find_none hC (Or.inl i_a) | exact ck_find_none hC (Or.inr (Or.inl i_b))
/-! unlike -/
theorem t_RD_unlike_l {a b mx : Int32} {ka kb : Nat} {A B : List Int32} (hC : CI I F S) (hka : ka < 10) (hkb : kb < 10) (hA : Rl I F ka A) (hB : Rl I F kb B) (hmx : mx.toInt = (max A.length B.length : Nat)) : ∀ (m i : Nat), max A.length B.length - i = m → i ≤ 1000 →
    XJ none m_RD_unlike 41 [some (.ref 24), some (.int a), some (.int b), some (.ref ka), some (.ref kb), some (.int mx), some (.int (nI i))] [] I F (CQ (nI (ff (fun q => decide ((A[q]?).getD S.2.2 ≠ (B[q]?).getD S.2.2)) m i), S) I F) := by
  have hp := hC.2.2.1
  have hAl := hA.lt
  have hBl := hB.lt
  intro m
  induction m with
  | zero =>
    intro i hi hi2
    refine xj_iload (pc := 41) d_RD_unlike_41 rfl ?_
    refine xj_iload (pc := 43) d_RD_unlike_43 rfl ?_
    refine xj_icmp_ge (pc := 45) (tgt := 83) d_RD_unlike_45 (by decide) (fun h45 => ?_) (fun h45 => absurd (by rw [n_le, hmx, n_nI (by omega)]; omega) h45)
    refine xj_iconst (pc := 83) (v := 0) d_RD_unlike_83 (by decide) ?_
    refine xj_iret (pc := 84) d_RD_unlike_84 rfl ?_
    exact ck_ans hC
  | succ m ih =>
    intro i hi hi2
    refine xj_iload (pc := 41) d_RD_unlike_41 rfl ?_
    refine xj_iload (pc := 43) d_RD_unlike_43 rfl ?_
    refine xj_icmp_ge (pc := 45) (tgt := 83) d_RD_unlike_45 (by decide) (fun h45 => absurd h45 (by rw [n_le, hmx, n_nI (by omega)]; omega)) (fun h45 => ?_)
    refine xj_aload_n (pc := 48) d_RD_unlike_48 rfl rfl ?_
    refine xj_iload (pc := 49) d_RD_unlike_49 rfl ?_
    refine xj_aload_n (pc := 51) d_RD_unlike_51 rfl rfl ?_
    refine xj_getI (pc := 52) d_RD_unlike_52 fl_RD_42 rfl rfl ?_
    refine xj_callV (pc := 55) d_RD_unlike_55 ml_RD_64 ok_RW_byteOr (s_RW_byteOr (by omega) hA) rfl rfl (xsh_row (by omega)) rfl rfl (Nat.le_of_ble_eq_true rfl) (by decide) ?_
    rintro rv I1 F1 ⟨rfl, rfl, rfl⟩
    dsimp only [Option.toList, List.cons_append, List.nil_append]
    refine xj_aload (pc := 58) d_RD_unlike_58 rfl ?_
    refine xj_iload (pc := 60) d_RD_unlike_60 rfl ?_
    refine xj_aload_n (pc := 62) d_RD_unlike_62 rfl rfl ?_
    refine xj_getI (pc := 63) d_RD_unlike_63 fl_RD_42 rfl rfl ?_
    refine xj_callV (pc := 66) d_RD_unlike_66 ml_RD_64 ok_RW_byteOr (s_RW_byteOr (by omega) hB) rfl rfl (xsh_row (by omega)) rfl rfl (Nat.le_of_ble_eq_true rfl) (by decide) ?_
    rintro rv I1 F1 ⟨rfl, rfl, rfl⟩
    dsimp only [Option.toList, List.cons_append, List.nil_append]
    rw [rg_n (by omega), rg_n (by omega), hp]
    refine xj_icmp_eq (pc := 69) (tgt := 77) d_RD_unlike_69 (by decide) (fun h69 => ?_) (fun h69 => ?_)
    · refine xj_inc1 (pc := 77) d_RD_unlike_77 rfl (by decide) rfl ?_
      dsimp only [xset, xset2, xkill]
      rw [n_up]
      refine xj_goto (pc := 80) (tgt := 41) d_RD_unlike_80 (by decide) ?_
      rw [ff, if_neg (by simpa using h69)]
      exact ih (i + 1) (by omega) (by omega)
    · refine xj_iload (pc := 72) d_RD_unlike_72 rfl ?_
      refine xj_iconst (pc := 74) (v := 1) d_RD_unlike_74 (by decide) ?_
      refine xj_iadd (pc := 75) d_RD_unlike_75 ?_
      refine xj_iret (pc := 76) d_RD_unlike_76 rfl ?_
      rw [ff, if_pos (by simpa using h69), n_up]
      exact ck_ans hC
theorem t_RD_unlike {a b : Int32} (hC : CI I F S) : XM m_RD_unlike [.ref 24, .int a, .int b] I F (CQ (sp_unlike S a b, S) I F) := by
  refine XM.of (by decide) (Nat.le_of_ble_eq_true rfl) ?_
  dsimp only [xargs]
  refine xj_aload_n (pc := 0) d_RD_unlike_0 rfl rfl ?_
  refine xj_iload_n (pc := 1) d_RD_unlike_1 rfl rfl ?_
  rcases regc a with ⟨k_a, hk_a, e_a, i_a, t_a⟩ | i_a
  · refine xj_callV (pc := 2) d_RD_unlike_2 ml_RD_56 ok_RD_register (s_RD_register_k hk_a e_a) rfl rfl rfl rfl rfl (Nat.le_of_ble_eq_true rfl) (by decide) ?_
    rintro rv I1 F1 ⟨rfl, rfl, rfl⟩
    dsimp only [Option.toList, List.cons_append, List.nil_append]
    refine xj_astore_n (pc := 5) d_RD_unlike_5 rfl (by decide) rfl ?_
    dsimp only [xset, xset2, xkill]
    refine xj_aload_n (pc := 6) d_RD_unlike_6 rfl rfl ?_
    refine xj_iload_n (pc := 7) d_RD_unlike_7 rfl rfl ?_
    rcases regc b with ⟨k_b, hk_b, e_b, i_b, t_b⟩ | i_b
    · refine xj_callV (pc := 8) d_RD_unlike_8 ml_RD_56 ok_RD_register (s_RD_register_k hk_b e_b) rfl rfl rfl rfl rfl (Nat.le_of_ble_eq_true rfl) (by decide) ?_
      rintro rv I1 F1 ⟨rfl, rfl, rfl⟩
      dsimp only [Option.toList, List.cons_append, List.nil_append]
      refine xj_astore (pc := 11) d_RD_unlike_11 (by decide) rfl ?_
      dsimp only [xset, xset2, xkill]
      refine xj_aload_n (pc := 13) d_RD_unlike_13 rfl rfl ?_
      refine xj_ifnull (pc := 14) d_RD_unlike_14 ?_
      refine xj_aload (pc := 17) d_RD_unlike_17 rfl ?_
      refine xj_ifnonnull (pc := 19) (tgt := 24) d_RD_unlike_19 (by decide) ?_
      rw [sp_unlike, if_pos (by rw [i_a, i_b]; rfl)]
      have hLa := hC.at hk_a t_a
      have hLb := hC.at hk_b t_b
      have eA := hLa.ti
      have eB := hLb.ti
      refine xj_aload_n (pc := 24) d_RD_unlike_24 rfl rfl ?_
      refine xj_callV (pc := 25) d_RD_unlike_25 ml_RD_46 ok_RW_length (s_RW_length (by omega)) rfl rfl (xsh_row (by omega)) rfl rfl (Nat.le_of_ble_eq_true rfl) (by decide) ?_
      rintro rv I1 F1 ⟨rfl, rfl, rfl⟩
      dsimp only [Option.toList, List.cons_append, List.nil_append]
      refine xj_aload (pc := 28) d_RD_unlike_28 rfl ?_
      refine xj_callV (pc := 30) d_RD_unlike_30 ml_RD_46 ok_RW_length (s_RW_length (by omega)) rfl rfl (xsh_row (by omega)) rfl rfl (Nat.le_of_ble_eq_true rfl) (by decide) ?_
      rintro rv I1 F1 ⟨rfl, rfl, rfl⟩
      dsimp only [Option.toList, List.cons_append, List.nil_append]
      refine xj_mmax (pc := 33) d_RD_unlike_33 ml_RD_98 (by decide) (Nat.le_of_ble_eq_true rfl) ?_
      refine xj_istore (pc := 36) d_RD_unlike_36 (by decide) rfl ?_
      dsimp only [xset, xset2, xkill]
      refine xj_iconst (pc := 38) (v := 0) d_RD_unlike_38 (by decide) ?_
      refine xj_istore (pc := 39) d_RD_unlike_39 (by decide) rfl ?_
      dsimp only [xset, xset2, xkill]
      exact t_RD_unlike_l hC hk_a hk_b hLa hLb (by (split <;> rename_i q) <;> rw [n_lt] at q <;> omega) _ 0 rfl (by omega)
    · refine xj_callV (pc := 8) d_RD_unlike_8 ml_RD_56 ok_RD_register (s_RD_register_n i_b) rfl rfl rfl rfl rfl (Nat.le_of_ble_eq_true rfl) (by decide) ?_
      rintro rv I1 F1 ⟨rfl, rfl, rfl⟩
      dsimp only [Option.toList, List.cons_append, List.nil_append]
      refine xj_astoreN (pc := 11) d_RD_unlike_11 (by decide) rfl ?_
      dsimp only [xset, xset2, xkill]
      refine xj_aload_n (pc := 13) d_RD_unlike_13 rfl rfl ?_
      refine xj_ifnull (pc := 14) d_RD_unlike_14 ?_
      refine xj_aloadN (pc := 17) d_RD_unlike_17 rfl ?_
      refine xj_ifnonnullN (pc := 19) d_RD_unlike_19 ?_
      refine xj_iconst (pc := 22) (v := -1) d_RD_unlike_22 (by decide) ?_
      refine xj_iret (pc := 23) d_RD_unlike_23 rfl ?_
      rw [sp_unlike, if_neg (by simp_all)]
      exact ck_ans hC
  · refine xj_callV (pc := 2) d_RD_unlike_2 ml_RD_56 ok_RD_register (s_RD_register_n i_a) rfl rfl rfl rfl rfl (Nat.le_of_ble_eq_true rfl) (by decide) ?_
    rintro rv I1 F1 ⟨rfl, rfl, rfl⟩
    dsimp only [Option.toList, List.cons_append, List.nil_append]
    refine xj_astore_nN (pc := 5) d_RD_unlike_5 rfl (by decide) rfl ?_
    dsimp only [xset, xset2, xkill]
    refine xj_aload_n (pc := 6) d_RD_unlike_6 rfl rfl ?_
    refine xj_iload_n (pc := 7) d_RD_unlike_7 rfl rfl ?_
    rcases regc b with ⟨k_b, hk_b, e_b, i_b, t_b⟩ | i_b
    · refine xj_callV (pc := 8) d_RD_unlike_8 ml_RD_56 ok_RD_register (s_RD_register_k hk_b e_b) rfl rfl rfl rfl rfl (Nat.le_of_ble_eq_true rfl) (by decide) ?_
      rintro rv I1 F1 ⟨rfl, rfl, rfl⟩
      dsimp only [Option.toList, List.cons_append, List.nil_append]
      refine xj_astore (pc := 11) d_RD_unlike_11 (by decide) rfl ?_
      dsimp only [xset, xset2, xkill]
      refine xj_aload_nN (pc := 13) d_RD_unlike_13 rfl rfl ?_
      refine xj_ifnullN (pc := 14) (tgt := 22) d_RD_unlike_14 (by decide) ?_
      refine xj_iconst (pc := 22) (v := -1) d_RD_unlike_22 (by decide) ?_
      refine xj_iret (pc := 23) d_RD_unlike_23 rfl ?_
      rw [sp_unlike, if_neg (by simp_all)]
      exact ck_ans hC
    · refine xj_callV (pc := 8) d_RD_unlike_8 ml_RD_56 ok_RD_register (s_RD_register_n i_b) rfl rfl rfl rfl rfl (Nat.le_of_ble_eq_true rfl) (by decide) ?_
      rintro rv I1 F1 ⟨rfl, rfl, rfl⟩
      dsimp only [Option.toList, List.cons_append, List.nil_append]
      refine xj_astoreN (pc := 11) d_RD_unlike_11 (by decide) rfl ?_
      dsimp only [xset, xset2, xkill]
      refine xj_aload_nN (pc := 13) d_RD_unlike_13 rfl rfl ?_
      refine xj_ifnullN (pc := 14) (tgt := 22) d_RD_unlike_14 (by decide) ?_
      refine xj_iconst (pc := 22) (v := -1) d_RD_unlike_22 (by decide) ?_
      refine xj_iret (pc := 23) d_RD_unlike_23 rfl ?_
      rw [sp_unlike, if_neg (by simp_all)]
      exact ck_ans hC
end RDD
