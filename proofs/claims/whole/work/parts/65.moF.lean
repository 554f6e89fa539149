section MOF
variable {I I1 I2 : XI} {F F1 F2 : XF} {S : XSt} {r k : Nat} {M X L T : List Int32}
theorem t_MO_often_l {ka kb : Nat} {A B : List Int32} (hI : MI I F S) (hka : ka < 10) (hkb : kb < 10) (hA : Mr F ka A) (hB : Mr F kb B) : ∀ (m q ct : Nat), B.length - q = m → q ≤ 1000 → ct + cN A (B.drop q) = cN A B →
    XJ none m_MO_often 21 [some (.ref 36), some (.int (nI ka)), some (.int (nI kb)), some (.int (nI ct)), some (.int (nI q))] [] I F (NQ (nI (cN A B), S) I F) := by
  have sB := hB.sz
  have h2 := hB.2.1
  have h1 := hA.2.1
  intro m
  induction m using Nat.strongRecOn with
  | ind m ih =>
    intro q ct hm hq he
    by_cases hlt : q < B.length
    · have hst := cN_step A B hlt
      by_cases hs : stands A B q = true
      · rw [hst, if_pos hs] at he
        have hp := st_pos hs
        have hfi := st_fit hs
        refine xj_iload (pc := 21) d_MO_often_21 rfl ?_
        refine xj_aload_n (pc := 23) d_MO_often_23 rfl rfl ?_
        refine xj_getR (pc := 24) d_MO_often_24 fl_MO_16 rfl rfl ?_
        refine xj_iload_n (pc := 27) d_MO_often_27 rfl rfl ?_
        refine xj_iald (pc := 28) d_MO_often_28 (n := 10) (x := 21) rfl rfl hkb (by decide) ?_
        refine xj_icmp_ge (pc := 29) (tgt := 78) d_MO_often_29 (by decide) (fun h29 => absurd h29 (by rw [n_le, sB, n_nI (by omega)]; omega)) (fun h29 => ?_)
        refine xj_aload_n (pc := 32) d_MO_often_32 rfl rfl ?_
        refine xj_iload_n (pc := 33) d_MO_often_33 rfl rfl ?_
        refine xj_iload_n (pc := 34) d_MO_often_34 rfl rfl ?_
        refine xj_iload (pc := 35) d_MO_often_35 rfl ?_
        refine xj_callV (pc := 37) d_MO_often_37 ml_MO_70 ok_MO_stands (s_MO_stands hka hkb hA hB (by omega)) rfl rfl rfl rfl rfl (Nat.le_of_ble_eq_true rfl) (by decide) ?_
        rintro rv I1 F1 ⟨rfl, rfl, rfl⟩
        dsimp only [Option.toList, List.cons_append, List.nil_append]
        refine xj_istore (pc := 40) d_MO_often_40 (by decide) rfl ?_
        dsimp only [xset, xset2, xkill]
        refine xj_iload_n (pc := 42) d_MO_often_42 rfl rfl ?_
        refine xj_iload (pc := 43) d_MO_often_43 rfl ?_
        refine xj_if_eq (pc := 45) (tgt := 52) d_MO_often_45 (by decide) (fun h45 => absurd h45 (by rw [hs]; decide)) (fun h45 => ?_)
        refine xj_iconst (pc := 48) (v := 1) d_MO_often_48 (by decide) ?_
        refine xj_goto (pc := 49) (tgt := 53) d_MO_often_49 (by decide) ?_
        refine xj_iadd (pc := 53) d_MO_often_53 ?_
        refine xj_istore_n (pc := 54) d_MO_often_54 rfl (by decide) rfl ?_
        dsimp only [xset, xset2, xkill]
        refine xj_iload (pc := 55) d_MO_often_55 rfl ?_
        refine xj_iload (pc := 57) d_MO_often_57 rfl ?_
        refine xj_if_eq (pc := 59) (tgt := 71) d_MO_often_59 (by decide) (fun h59 => absurd h59 (by rw [hs]; decide)) (fun h59 => ?_)
        refine xj_aload_n (pc := 62) d_MO_often_62 rfl rfl ?_
        refine xj_getR (pc := 63) d_MO_often_63 fl_MO_16 rfl rfl ?_
        refine xj_iload_n (pc := 66) d_MO_often_66 rfl rfl ?_
        refine xj_iald (pc := 67) d_MO_often_67 (n := 10) (x := 21) rfl rfl hka (by decide) ?_
        refine xj_goto (pc := 68) (tgt := 72) d_MO_often_68 (by decide) ?_
        refine xj_iadd (pc := 72) d_MO_often_72 ?_
        rw [hA.1, n_addN, n_up]
        refine xj_istore (pc := 73) d_MO_often_73 (by decide) rfl ?_
        dsimp only [xset, xset2, xkill]
        refine xj_goto (pc := 75) (tgt := 21) d_MO_often_75 (by decide) ?_
        exact xj_take 5 (ih (B.length - (q + A.length)) (by omega) (q + A.length) (ct + 1) rfl (by omega) (by omega))
      · have hs2 : stands A B q = false := by simpa using hs
        rw [hst, if_neg hs] at he
        refine xj_iload (pc := 21) d_MO_often_21 rfl ?_
        refine xj_aload_n (pc := 23) d_MO_often_23 rfl rfl ?_
        refine xj_getR (pc := 24) d_MO_often_24 fl_MO_16 rfl rfl ?_
        refine xj_iload_n (pc := 27) d_MO_often_27 rfl rfl ?_
        refine xj_iald (pc := 28) d_MO_often_28 (n := 10) (x := 21) rfl rfl hkb (by decide) ?_
        refine xj_icmp_ge (pc := 29) (tgt := 78) d_MO_often_29 (by decide) (fun h29 => absurd h29 (by rw [n_le, sB, n_nI (by omega)]; omega)) (fun h29 => ?_)
        refine xj_aload_n (pc := 32) d_MO_often_32 rfl rfl ?_
        refine xj_iload_n (pc := 33) d_MO_often_33 rfl rfl ?_
        refine xj_iload_n (pc := 34) d_MO_often_34 rfl rfl ?_
        refine xj_iload (pc := 35) d_MO_often_35 rfl ?_
        refine xj_callV (pc := 37) d_MO_often_37 ml_MO_70 ok_MO_stands (s_MO_stands hka hkb hA hB (by omega)) rfl rfl rfl rfl rfl (Nat.le_of_ble_eq_true rfl) (by decide) ?_
        rintro rv I1 F1 ⟨rfl, rfl, rfl⟩
        dsimp only [Option.toList, List.cons_append, List.nil_append]
        refine xj_istore (pc := 40) d_MO_often_40 (by decide) rfl ?_
        dsimp only [xset, xset2, xkill]
        refine xj_iload_n (pc := 42) d_MO_often_42 rfl rfl ?_
        refine xj_iload (pc := 43) d_MO_often_43 rfl ?_
        refine xj_if_eq (pc := 45) (tgt := 52) d_MO_often_45 (by decide) (fun h45 => ?_) (fun h45 => absurd (by rw [hs2]; rfl) h45)
        refine xj_iconst (pc := 52) (v := 0) d_MO_often_52 (by decide) ?_
        refine xj_iadd (pc := 53) d_MO_often_53 ?_
        rw [show nI ct + 0 = nI ct by simp]
        refine xj_istore_n (pc := 54) d_MO_often_54 rfl (by decide) rfl ?_
        dsimp only [xset, xset2, xkill]
        refine xj_iload (pc := 55) d_MO_often_55 rfl ?_
        refine xj_iload (pc := 57) d_MO_often_57 rfl ?_
        refine xj_if_eq (pc := 59) (tgt := 71) d_MO_often_59 (by decide) (fun h59 => ?_) (fun h59 => absurd (by rw [hs2]; rfl) h59)
        refine xj_iconst (pc := 71) (v := 1) d_MO_often_71 (by decide) ?_
        refine xj_iadd (pc := 72) d_MO_often_72 ?_
        rw [n_up]
        refine xj_istore (pc := 73) d_MO_often_73 (by decide) rfl ?_
        dsimp only [xset, xset2, xkill]
        refine xj_goto (pc := 75) (tgt := 21) d_MO_often_75 (by decide) ?_
        exact xj_take 5 (ih (B.length - (q + 1)) (by omega) (q + 1) ct rfl (by omega) he)
    · rw [cN_end A B (by omega)] at he
      refine xj_iload (pc := 21) d_MO_often_21 rfl ?_
      refine xj_aload_n (pc := 23) d_MO_often_23 rfl rfl ?_
      refine xj_getR (pc := 24) d_MO_often_24 fl_MO_16 rfl rfl ?_
      refine xj_iload_n (pc := 27) d_MO_often_27 rfl rfl ?_
      refine xj_iald (pc := 28) d_MO_often_28 (n := 10) (x := 21) rfl rfl hkb (by decide) ?_
      refine xj_icmp_ge (pc := 29) (tgt := 78) d_MO_often_29 (by decide) (fun h29 => ?_) (fun h29 => absurd (by rw [n_le, sB, n_nI (by omega)]; omega) h29)
      refine xj_iload_n (pc := 78) d_MO_often_78 rfl rfl ?_
      refine xj_iret (pc := 79) d_MO_often_79 rfl ?_
      rw [show ct = cN A B by omega]
      exact nk_ans hI
theorem t_MO_often {a b : Int32} (hI : MI I F S) : XM m_MO_often [.ref 36, .int a, .int b] I F (NQ (sp_often S a b, S) I F) := by
  refine XM.of (by decide) (Nat.le_of_ble_eq_true rfl) ?_
  dsimp only [xargs]
  refine xj_iload_n (pc := 0) d_MO_often_0 rfl rfl ?_
  refine xj_callS (pc := 1) d_MO_often_1 ml_MO_42 ok_MO_is (s_MO_is) rfl rfl rfl (Nat.le_of_ble_eq_true rfl) (by decide) ?_
  rintro rv I1 F1 ⟨rfl, rfl, rfl⟩
  dsimp only [Option.toList, List.cons_append, List.nil_append]
  refine xj_if_eq (pc := 4) (tgt := 14) d_MO_often_4 (by decide) (fun h4 => ?_) (fun h4 => ?_)
  · refine xj_iconst (pc := 14) (v := -1) d_MO_often_14 (by decide) ?_
    refine xj_iret (pc := 15) d_MO_often_15 rfl ?_
    rw [sp_often, if_neg (by first | (rw [b01_eq h11]; simp; done) | (rw [b01_eq h4]; simp))]
    exact nk_ans hI
  · refine xj_iload_n (pc := 7) d_MO_often_7 rfl rfl ?_
    refine xj_callS (pc := 8) d_MO_often_8 ml_MO_42 ok_MO_is (s_MO_is) rfl rfl rfl (Nat.le_of_ble_eq_true rfl) (by decide) ?_
    rintro rv I1 F1 ⟨rfl, rfl, rfl⟩
    dsimp only [Option.toList, List.cons_append, List.nil_append]
    refine xj_if_ne (pc := 11) (tgt := 16) d_MO_often_11 (by decide) (fun h11 => ?_) (fun h11 => ?_)
    · have ha := b01_ne h4
      have hb := b01_ne h11
      rw [sp_often, if_pos (by rw [ha, hb]; rfl)]
      obtain ⟨ka, hka, rfl, ta⟩ := isR_k ha
      obtain ⟨kb, hkb, rfl, tb⟩ := isR_k hb
      refine xj_iconst (pc := 16) (v := 0) d_MO_often_16 (by decide) ?_
      refine xj_istore_n (pc := 17) d_MO_often_17 rfl (by decide) rfl ?_
      dsimp only [xset, xset2, xkill]
      refine xj_iconst (pc := 18) (v := 0) d_MO_often_18 (by decide) ?_
      refine xj_istore (pc := 19) d_MO_often_19 (by decide) rfl ?_
      dsimp only [xset, xset2, xkill]
      exact t_MO_often_l hI hka hkb (hI.at hka ta) (hI.at hkb tb) _ 0 0 rfl (by omega) (by rw [List.drop_zero, Nat.zero_add])
    · refine xj_iconst (pc := 14) (v := -1) d_MO_often_14 (by decide) ?_
      refine xj_iret (pc := 15) d_MO_often_15 rfl ?_
      rw [sp_often, if_neg (by first | (rw [b01_eq h11]; simp; done) | (rw [b01_eq h4]; simp))]
      exact nk_ans hI
theorem t_MO_change_l {ka kb kc kt : Nat} {A B C : List Int32} (hI : MI I F S) (hka : ka < 10) (hkb : kb < 10) (hkc : kc < 10) (hkt : kt < 10) (hA : Mr F ka A) (hB : Mr F kb B) (hC : Mr F kc C) : ∀ (m q : Nat) (D : List Int32) (I1 : XI) (F1 : XF), B.length - q = m → q ≤ 1000 → D ++ cG A C (B.drop q) = cG A C B → Ms D I F I1 F1 →
    XJ none m_MO_change 39 [some (.ref 36), some (.int (nI ka)), some (.int (nI kb)), some (.int (nI kc)), some (.int (nI kt)), some (.int (nI q))] [] I1 F1 (NQ (sMk S (nI kt) (cG A C B)) I F) := by
  have h2 := hB.2.1
  have h1 := hA.2.1
  have h3 := hC.2.1
  intro m
  induction m using Nat.strongRecOn with
  | ind m ih =>
    intro q D I1 F1 hm hq he g1
    have hA1 := g1.nx.mr hA
    have hB1 := g1.nx.mr hB
    have hC1 := g1.nx.mr hC
    have sB := hB1.sz
    by_cases hlt : q < B.length
    · have hst := cG_step A C B hlt
      have hget : B[q]? = some B[q] := List.getElem?_eq_getElem hlt
      by_cases hs : stands A B q = true
      · rw [hst, if_pos hs, ← List.append_assoc] at he
        have hp := st_pos hs
        have hfi := st_fit hs
        refine xj_iload (pc := 39) d_MO_change_39 rfl ?_
        refine xj_aload_n (pc := 41) d_MO_change_41 rfl rfl ?_
        refine xj_getR (pc := 42) d_MO_change_42 fl_MO_16 rfl rfl ?_
        refine xj_iload_n (pc := 45) d_MO_change_45 rfl rfl ?_
        refine xj_iald (pc := 46) d_MO_change_46 (n := 10) (x := 21) rfl rfl hkb (by decide) ?_
        refine xj_icmp_ge (pc := 47) (tgt := 101) d_MO_change_47 (by decide) (fun h47 => absurd h47 (by rw [n_le, sB, n_nI (by omega)]; omega)) (fun h47 => ?_)
        refine xj_aload_n (pc := 50) d_MO_change_50 rfl rfl ?_
        refine xj_iload_n (pc := 51) d_MO_change_51 rfl rfl ?_
        refine xj_iload_n (pc := 52) d_MO_change_52 rfl rfl ?_
        refine xj_iload (pc := 53) d_MO_change_53 rfl ?_
        refine xj_callV (pc := 55) d_MO_change_55 ml_MO_70 ok_MO_stands (s_MO_stands hka hkb hA1 hB1 (by omega)) rfl rfl rfl rfl rfl (Nat.le_of_ble_eq_true rfl) (by decide) ?_
        rintro rv I1 F1 ⟨rfl, rfl, rfl⟩
        dsimp only [Option.toList, List.cons_append, List.nil_append]
        refine xj_if_eq (pc := 58) (tgt := 84) d_MO_change_58 (by decide) (fun h58 => absurd h58 (by rw [hs]; decide)) (fun h58 => ?_)
        refine xj_aload_n (pc := 61) d_MO_change_61 rfl rfl ?_
        refine xj_iload_n (pc := 62) d_MO_change_62 rfl rfl ?_
        refine xj_lconst (pc := 63) (v := 0) d_MO_change_63 (by decide) ?_
        refine xj_ldc2 (pc := 64) (v := 200) d_MO_change_64 kc_MO_68 ?_
        refine xj_callV (pc := 67) d_MO_change_67 ml_MO_60 ok_MO_lay (s_MO_lay hkc hC1 g1.2.2 (by rw [l_0]; omega)) rfl rfl rfl rfl rfl (Nat.le_of_ble_eq_true rfl) (by decide) ?_
        rintro rv I2 F2 ⟨rfl, g2⟩
        rw [l_0, l_200, show (0 : Int).toNat = 0 from rfl, List.drop_zero, List.take_of_length_le (show C.length ≤ (200 : Int).toNat by omega)] at g2
        replace g2 := g1.tr g2
        dsimp only [Option.toList, List.cons_append, List.nil_append]
        refine xj_iload (pc := 70) d_MO_change_70 rfl ?_
        refine xj_aload_n (pc := 72) d_MO_change_72 rfl rfl ?_
        refine xj_getR (pc := 73) d_MO_change_73 fl_MO_16 rfl rfl ?_
        refine xj_iload_n (pc := 76) d_MO_change_76 rfl rfl ?_
        refine xj_iald (pc := 77) d_MO_change_77 (n := 10) (x := 21) rfl rfl hka (by decide) ?_
        refine xj_iadd (pc := 78) d_MO_change_78 ?_
        rw [(g2.nx.mr hA).1, n_addN]
        refine xj_istore (pc := 79) d_MO_change_79 (by decide) rfl ?_
        dsimp only [xset, xset2, xkill]
        refine xj_goto (pc := 81) (tgt := 39) d_MO_change_81 (by decide) ?_
        exact ih (B.length - (q + A.length)) (by omega) (q + A.length) (D ++ C) I2 F2 rfl (by omega) he g2
      · have hs2 : stands A B q = false := by simpa using hs
        rw [hst, if_neg hs, ← List.singleton_append, ← List.append_assoc] at he
        refine xj_iload (pc := 39) d_MO_change_39 rfl ?_
        refine xj_aload_n (pc := 41) d_MO_change_41 rfl rfl ?_
        refine xj_getR (pc := 42) d_MO_change_42 fl_MO_16 rfl rfl ?_
        refine xj_iload_n (pc := 45) d_MO_change_45 rfl rfl ?_
        refine xj_iald (pc := 46) d_MO_change_46 (n := 10) (x := 21) rfl rfl hkb (by decide) ?_
        refine xj_icmp_ge (pc := 47) (tgt := 101) d_MO_change_47 (by decide) (fun h47 => absurd h47 (by rw [n_le, sB, n_nI (by omega)]; omega)) (fun h47 => ?_)
        refine xj_aload_n (pc := 50) d_MO_change_50 rfl rfl ?_
        refine xj_iload_n (pc := 51) d_MO_change_51 rfl rfl ?_
        refine xj_iload_n (pc := 52) d_MO_change_52 rfl rfl ?_
        refine xj_iload (pc := 53) d_MO_change_53 rfl ?_
        refine xj_callV (pc := 55) d_MO_change_55 ml_MO_70 ok_MO_stands (s_MO_stands hka hkb hA1 hB1 (by omega)) rfl rfl rfl rfl rfl (Nat.le_of_ble_eq_true rfl) (by decide) ?_
        rintro rv I1 F1 ⟨rfl, rfl, rfl⟩
        dsimp only [Option.toList, List.cons_append, List.nil_append]
        refine xj_if_eq (pc := 58) (tgt := 84) d_MO_change_58 (by decide) (fun h58 => ?_) (fun h58 => absurd (by rw [hs2]; rfl) h58)
        refine xj_aload_n (pc := 84) d_MO_change_84 rfl rfl ?_
        refine xj_aload_n (pc := 85) d_MO_change_85 rfl rfl ?_
        refine xj_iload_n (pc := 86) d_MO_change_86 rfl rfl ?_
        refine xj_iload (pc := 87) d_MO_change_87 rfl ?_
        refine xj_callV (pc := 89) d_MO_change_89 ml_MO_46 ok_MO_of (s_MO_ofL hkb hB1 hget) rfl rfl rfl rfl rfl (Nat.le_of_ble_eq_true rfl) (by decide) ?_
        rintro rv I1 F1 ⟨rfl, rfl, rfl⟩
        dsimp only [Option.toList, List.cons_append, List.nil_append]
        refine xj_callV (pc := 92) d_MO_change_92 ml_MO_53 ok_MO_add (s_MO_add g1.2.2) rfl rfl rfl rfl rfl (Nat.le_of_ble_eq_true rfl) (by decide) ?_
        rintro rv I2 F2 ⟨rfl, g2⟩
        replace g2 := g1.tr g2
        dsimp only [Option.toList, List.cons_append, List.nil_append]
        refine xj_inc1 (pc := 95) d_MO_change_95 rfl (by decide) rfl ?_
        dsimp only [xset, xset2, xkill]
        rw [n_up]
        refine xj_goto (pc := 98) (tgt := 39) d_MO_change_98 (by decide) ?_
        exact ih (B.length - (q + 1)) (by omega) (q + 1) (D ++ [B[q]]) I2 F2 rfl (by omega) he g2
    · rw [cG_end A C B (by omega), List.append_nil] at he
      refine xj_iload (pc := 39) d_MO_change_39 rfl ?_
      refine xj_aload_n (pc := 41) d_MO_change_41 rfl rfl ?_
      refine xj_getR (pc := 42) d_MO_change_42 fl_MO_16 rfl rfl ?_
      refine xj_iload_n (pc := 45) d_MO_change_45 rfl rfl ?_
      refine xj_iald (pc := 46) d_MO_change_46 (n := 10) (x := 21) rfl rfl hkb (by decide) ?_
      refine xj_icmp_ge (pc := 47) (tgt := 101) d_MO_change_47 (by decide) (fun h47 => ?_) (fun h47 => absurd (by rw [n_le, sB, n_nI (by omega)]; omega) h47)
      refine xj_aload_n (pc := 101) d_MO_change_101 rfl rfl ?_
      refine xj_iload (pc := 102) d_MO_change_102 rfl ?_
      refine xj_callV (pc := 104) d_MO_change_104 ml_MO_64 ok_MO_keep (s_MO_keep hI g1.nx g1.2.2 hkt) rfl rfl rfl rfl rfl (Nat.le_of_ble_eq_true rfl) (by decide) ?_
      rintro rv I4 F4 ⟨rfl, g4⟩
      dsimp only [Option.toList, List.cons_append, List.nil_append]
      refine xj_iret (pc := 107) d_MO_change_107 rfl ?_
      exact nk_E ⟨rfl, g4⟩ he
theorem t_MO_change {a b c to : Int32} (hI : MI I F S) : XM m_MO_change [.ref 36, .int a, .int b, .int c, .int to] I F (NQ (sp_change S a b c to) I F) := by
  refine XM.of (by decide) (Nat.le_of_ble_eq_true rfl) ?_
  dsimp only [xargs]
  have g0 : Ms [] I F (upd I 18 0) F := Ms.zero
  refine xj_iload_n (pc := 0) d_MO_change_0 rfl rfl ?_
  refine xj_callS (pc := 1) d_MO_change_1 ml_MO_42 ok_MO_is (s_MO_is) rfl rfl rfl (Nat.le_of_ble_eq_true rfl) (by decide) ?_
  rintro rv I1 F1 ⟨rfl, rfl, rfl⟩
  dsimp only [Option.toList, List.cons_append, List.nil_append]
  refine xj_if_eq (pc := 4) (tgt := 29) d_MO_change_4 (by decide) (fun h4 => ?_) (fun h4 => ?_)
  · refine xj_iconst (pc := 29) (v := -1) d_MO_change_29 (by decide) ?_
    refine xj_iret (pc := 30) d_MO_change_30 rfl ?_
    exact nk_none hI (if_neg (by first | (rw [b01_eq h26]; simp; done) | (rw [b01_eq h18]; simp; done) | (rw [b01_eq h11]; simp; done) | (rw [b01_eq h4]; simp)))
  · refine xj_iload_n (pc := 7) d_MO_change_7 rfl rfl ?_
    refine xj_callS (pc := 8) d_MO_change_8 ml_MO_42 ok_MO_is (s_MO_is) rfl rfl rfl (Nat.le_of_ble_eq_true rfl) (by decide) ?_
    rintro rv I1 F1 ⟨rfl, rfl, rfl⟩
    dsimp only [Option.toList, List.cons_append, List.nil_append]
    refine xj_if_eq (pc := 11) (tgt := 29) d_MO_change_11 (by decide) (fun h11 => ?_) (fun h11 => ?_)
    · refine xj_iconst (pc := 29) (v := -1) d_MO_change_29 (by decide) ?_
      refine xj_iret (pc := 30) d_MO_change_30 rfl ?_
      exact nk_none hI (if_neg (by first | (rw [b01_eq h26]; simp; done) | (rw [b01_eq h18]; simp; done) | (rw [b01_eq h11]; simp; done) | (rw [b01_eq h4]; simp)))
    · refine xj_iload_n (pc := 14) d_MO_change_14 rfl rfl ?_
      refine xj_callS (pc := 15) d_MO_change_15 ml_MO_42 ok_MO_is (s_MO_is) rfl rfl rfl (Nat.le_of_ble_eq_true rfl) (by decide) ?_
      rintro rv I1 F1 ⟨rfl, rfl, rfl⟩
      dsimp only [Option.toList, List.cons_append, List.nil_append]
      refine xj_if_eq (pc := 18) (tgt := 29) d_MO_change_18 (by decide) (fun h18 => ?_) (fun h18 => ?_)
      · refine xj_iconst (pc := 29) (v := -1) d_MO_change_29 (by decide) ?_
        refine xj_iret (pc := 30) d_MO_change_30 rfl ?_
        exact nk_none hI (if_neg (by first | (rw [b01_eq h26]; simp; done) | (rw [b01_eq h18]; simp; done) | (rw [b01_eq h11]; simp; done) | (rw [b01_eq h4]; simp)))
      · refine xj_iload (pc := 21) d_MO_change_21 rfl ?_
        refine xj_callS (pc := 23) d_MO_change_23 ml_MO_42 ok_MO_is (s_MO_is) rfl rfl rfl (Nat.le_of_ble_eq_true rfl) (by decide) ?_
        rintro rv I1 F1 ⟨rfl, rfl, rfl⟩
        dsimp only [Option.toList, List.cons_append, List.nil_append]
        refine xj_if_ne (pc := 26) (tgt := 31) d_MO_change_26 (by decide) (fun h26 => ?_) (fun h26 => ?_)
        · have ha := b01_ne h4
          have hb := b01_ne h11
          have hc := b01_ne h18
          have hto := b01_ne h26
          rw [sp_change, if_pos (by rw [ha, hb, hc, hto]; rfl)]
          obtain ⟨ka, hka, rfl, ta⟩ := isR_k ha
          obtain ⟨kb, hkb, rfl, tb⟩ := isR_k hb
          obtain ⟨kc, hkc, rfl, tc⟩ := isR_k hc
          obtain ⟨kt, hkt, rfl, tt⟩ := isR_k hto
          refine xj_aload_n (pc := 31) d_MO_change_31 rfl rfl ?_
          refine xj_iconst (pc := 32) (v := 0) d_MO_change_32 (by decide) ?_
          refine xj_putI (pc := 33) d_MO_change_33 fl_MO_50 fp_MO_many rfl rfl ?_
          refine xj_iconst (pc := 36) (v := 0) d_MO_change_36 (by decide) ?_
          refine xj_istore (pc := 37) d_MO_change_37 (by decide) rfl ?_
          dsimp only [xset, xset2, xkill]
          exact t_MO_change_l hI hka hkb hkc hkt (hI.at hka ta) (hI.at hkb tb) (hI.at hkc tc) _ 0 [] _ F rfl (by omega) (by rw [List.drop_zero, List.nil_append]) g0
        · refine xj_iconst (pc := 29) (v := -1) d_MO_change_29 (by decide) ?_
          refine xj_iret (pc := 30) d_MO_change_30 rfl ?_
          exact nk_none hI (if_neg (by first | (rw [b01_eq h26]; simp; done) | (rw [b01_eq h18]; simp; done) | (rw [b01_eq h11]; simp; done) | (rw [b01_eq h4]; simp)))
theorem gsome {A : List Int32} {i : Nat} {d : Int32} (h : i < A.length) : A[i]? = some ((A[i]?).getD d) := by rw [List.getElem?_eq_getElem h]; rfl
theorem t_MO_unlike_l {ka kb : Nat} {A B : List Int32} (hI : MI I F S) (hka : ka < 10) (hkb : kb < 10) (hA : Mr F ka A) (hB : Mr F kb B) : ∀ (m i : Nat), max A.length B.length - i = m → i ≤ 1000 →
    XJ none m_MO_unlike 18 [some (.ref 36), some (.int (nI ka)), some (.int (nI kb)), some (.int (nI i))] [] I F (NQ (nI (ff (fun q => decide ((A[q]?).getD S.2.2 ≠ (B[q]?).getD S.2.2)) m i), S) I F) := by
  have hp := hI.2.2
  have sA := hA.sz
  have sB := hB.sz
  have h2 := hB.2.1
  have h1 := hA.2.1
  intro m
  induction m with
  | zero =>
    intro i hi hi2
    refine xj_iload_n (pc := 18) d_MO_unlike_18 rfl rfl ?_
    refine xj_aload_n (pc := 19) d_MO_unlike_19 rfl rfl ?_
    refine xj_getR (pc := 20) d_MO_unlike_20 fl_MO_16 rfl rfl ?_
    refine xj_iload_n (pc := 23) d_MO_unlike_23 rfl rfl ?_
    refine xj_iald (pc := 24) d_MO_unlike_24 (n := 10) (x := 21) rfl rfl hka (by decide) ?_
    refine xj_icmp_lt (pc := 25) (tgt := 38) d_MO_unlike_25 (by decide) (fun h25 => absurd h25 (by rw [n_lt, sA, n_nI (by omega)]; omega)) (fun h25 => ?_)
    refine xj_iload_n (pc := 28) d_MO_unlike_28 rfl rfl ?_
    refine xj_aload_n (pc := 29) d_MO_unlike_29 rfl rfl ?_
    refine xj_getR (pc := 30) d_MO_unlike_30 fl_MO_16 rfl rfl ?_
    refine xj_iload_n (pc := 33) d_MO_unlike_33 rfl rfl ?_
    refine xj_iald (pc := 34) d_MO_unlike_34 (n := 10) (x := 21) rfl rfl hkb (by decide) ?_
    refine xj_icmp_ge (pc := 35) (tgt := 105) d_MO_unlike_35 (by decide) (fun h35 => ?_) (fun h35 => absurd (by rw [n_le, sB, n_nI (by omega)]; omega) h35)
    refine xj_iconst (pc := 105) (v := 0) d_MO_unlike_105 (by decide) ?_
    refine xj_iret (pc := 106) d_MO_unlike_106 rfl ?_
    exact nk_ans hI
  | succ m ih =>
    intro i hi hi2
    have hih := ih (i + 1) (by omega) (by omega)
    refine xj_iload_n (pc := 18) d_MO_unlike_18 rfl rfl ?_
    refine xj_aload_n (pc := 19) d_MO_unlike_19 rfl rfl ?_
    refine xj_getR (pc := 20) d_MO_unlike_20 fl_MO_16 rfl rfl ?_
    refine xj_iload_n (pc := 23) d_MO_unlike_23 rfl rfl ?_
    refine xj_iald (pc := 24) d_MO_unlike_24 (n := 10) (x := 21) rfl rfl hka (by decide) ?_
    refine xj_icmp_lt (pc := 25) (tgt := 38) d_MO_unlike_25 (by decide) (fun h25 => ?_) (fun h25 => ?_)
    · refine xj_iload_n (pc := 38) d_MO_unlike_38 rfl rfl ?_
      refine xj_aload_n (pc := 39) d_MO_unlike_39 rfl rfl ?_
      refine xj_getR (pc := 40) d_MO_unlike_40 fl_MO_16 rfl rfl ?_
      refine xj_iload_n (pc := 43) d_MO_unlike_43 rfl rfl ?_
      refine xj_iald (pc := 44) d_MO_unlike_44 (n := 10) (x := 21) rfl rfl hka (by decide) ?_
      refine xj_icmp_ge (pc := 45) (tgt := 57) d_MO_unlike_45 (by decide) (fun h45 => ?_) (fun h45 => ?_)
      · refine xj_aload_n (pc := 57) d_MO_unlike_57 rfl rfl ?_
        refine xj_getI (pc := 58) d_MO_unlike_58 fl_MO_25 rfl rfl ?_
        rw [show I 19 = (A[i]?).getD S.2.2 by rw [n_le, sA, n_nI (by omega)] at h45; rw [List.getElem?_eq_none (by omega), hp]; rfl]
        refine xj_istore (pc := 61) d_MO_unlike_61 (by decide) rfl ?_
        dsimp only [xset, xset2, xkill]
        refine xj_iload_n (pc := 63) d_MO_unlike_63 rfl rfl ?_
        refine xj_aload_n (pc := 64) d_MO_unlike_64 rfl rfl ?_
        refine xj_getR (pc := 65) d_MO_unlike_65 fl_MO_16 rfl rfl ?_
        refine xj_iload_n (pc := 68) d_MO_unlike_68 rfl rfl ?_
        refine xj_iald (pc := 69) d_MO_unlike_69 (n := 10) (x := 21) rfl rfl hkb (by decide) ?_
        refine xj_icmp_ge (pc := 70) (tgt := 82) d_MO_unlike_70 (by decide) (fun h70 => ?_) (fun h70 => ?_)
        · refine xj_aload_n (pc := 82) d_MO_unlike_82 rfl rfl ?_
          refine xj_getI (pc := 83) d_MO_unlike_83 fl_MO_25 rfl rfl ?_
          rw [show I 19 = (B[i]?).getD S.2.2 by rw [n_le, sB, n_nI (by omega)] at h70; rw [List.getElem?_eq_none (by omega), hp]; rfl]
          refine xj_istore (pc := 86) d_MO_unlike_86 (by decide) rfl ?_
          dsimp only [xset, xset2, xkill]
          refine xj_iload (pc := 88) d_MO_unlike_88 rfl ?_
          refine xj_iload (pc := 90) d_MO_unlike_90 rfl ?_
          refine xj_icmp_eq (pc := 92) (tgt := 99) d_MO_unlike_92 (by decide) (fun h92 => ?_) (fun h92 => ?_)
          · refine xj_inc1 (pc := 99) d_MO_unlike_99 rfl (by decide) rfl ?_
            dsimp only [xset, xset2, xkill]
            rw [n_up]
            refine xj_goto (pc := 102) (tgt := 18) d_MO_unlike_102 (by decide) ?_
            rw [ff, if_neg (by simpa using h92)]
            exact xj_take 4 hih
          · refine xj_iload_n (pc := 95) d_MO_unlike_95 rfl rfl ?_
            refine xj_iconst (pc := 96) (v := 1) d_MO_unlike_96 (by decide) ?_
            refine xj_iadd (pc := 97) d_MO_unlike_97 ?_
            refine xj_iret (pc := 98) d_MO_unlike_98 rfl ?_
            rw [ff, if_pos (by simpa using h92), n_up]
            exact nk_ans hI
        · refine xj_aload_n (pc := 73) d_MO_unlike_73 rfl rfl ?_
          refine xj_iload_n (pc := 74) d_MO_unlike_74 rfl rfl ?_
          refine xj_iload_n (pc := 75) d_MO_unlike_75 rfl rfl ?_
          refine xj_callV (pc := 76) d_MO_unlike_76 ml_MO_46 ok_MO_of (s_MO_ofL hkb hB (gsome (d := S.2.2) (show i < B.length by rw [n_le, sB, n_nI (by omega)] at h70; omega))) rfl rfl rfl rfl rfl (Nat.le_of_ble_eq_true rfl) (by decide) ?_
          rintro rv I1 F1 ⟨rfl, rfl, rfl⟩
          dsimp only [Option.toList, List.cons_append, List.nil_append]
          refine xj_goto (pc := 79) (tgt := 86) d_MO_unlike_79 (by decide) ?_
          refine xj_istore (pc := 86) d_MO_unlike_86 (by decide) rfl ?_
          dsimp only [xset, xset2, xkill]
          refine xj_iload (pc := 88) d_MO_unlike_88 rfl ?_
          refine xj_iload (pc := 90) d_MO_unlike_90 rfl ?_
          refine xj_icmp_eq (pc := 92) (tgt := 99) d_MO_unlike_92 (by decide) (fun h92 => ?_) (fun h92 => ?_)
          · refine xj_inc1 (pc := 99) d_MO_unlike_99 rfl (by decide) rfl ?_
            dsimp only [xset, xset2, xkill]
            rw [n_up]
            refine xj_goto (pc := 102) (tgt := 18) d_MO_unlike_102 (by decide) ?_
            rw [ff, if_neg (by simpa using h92)]
            exact xj_take 4 hih
          · refine xj_iload_n (pc := 95) d_MO_unlike_95 rfl rfl ?_
            refine xj_iconst (pc := 96) (v := 1) d_MO_unlike_96 (by decide) ?_
            refine xj_iadd (pc := 97) d_MO_unlike_97 ?_
            refine xj_iret (pc := 98) d_MO_unlike_98 rfl ?_
            rw [ff, if_pos (by simpa using h92), n_up]
            exact nk_ans hI
      · refine xj_aload_n (pc := 48) d_MO_unlike_48 rfl rfl ?_
        refine xj_iload_n (pc := 49) d_MO_unlike_49 rfl rfl ?_
        refine xj_iload_n (pc := 50) d_MO_unlike_50 rfl rfl ?_
        refine xj_callV (pc := 51) d_MO_unlike_51 ml_MO_46 ok_MO_of (s_MO_ofL hka hA (gsome (d := S.2.2) (show i < A.length by rw [n_le, sA, n_nI (by omega)] at h45; omega))) rfl rfl rfl rfl rfl (Nat.le_of_ble_eq_true rfl) (by decide) ?_
        rintro rv I1 F1 ⟨rfl, rfl, rfl⟩
        dsimp only [Option.toList, List.cons_append, List.nil_append]
        refine xj_goto (pc := 54) (tgt := 61) d_MO_unlike_54 (by decide) ?_
        refine xj_istore (pc := 61) d_MO_unlike_61 (by decide) rfl ?_
        dsimp only [xset, xset2, xkill]
        refine xj_iload_n (pc := 63) d_MO_unlike_63 rfl rfl ?_
        refine xj_aload_n (pc := 64) d_MO_unlike_64 rfl rfl ?_
        refine xj_getR (pc := 65) d_MO_unlike_65 fl_MO_16 rfl rfl ?_
        refine xj_iload_n (pc := 68) d_MO_unlike_68 rfl rfl ?_
        refine xj_iald (pc := 69) d_MO_unlike_69 (n := 10) (x := 21) rfl rfl hkb (by decide) ?_
        refine xj_icmp_ge (pc := 70) (tgt := 82) d_MO_unlike_70 (by decide) (fun h70 => ?_) (fun h70 => ?_)
        · refine xj_aload_n (pc := 82) d_MO_unlike_82 rfl rfl ?_
          refine xj_getI (pc := 83) d_MO_unlike_83 fl_MO_25 rfl rfl ?_
          rw [show I 19 = (B[i]?).getD S.2.2 by rw [n_le, sB, n_nI (by omega)] at h70; rw [List.getElem?_eq_none (by omega), hp]; rfl]
          refine xj_istore (pc := 86) d_MO_unlike_86 (by decide) rfl ?_
          dsimp only [xset, xset2, xkill]
          refine xj_iload (pc := 88) d_MO_unlike_88 rfl ?_
          refine xj_iload (pc := 90) d_MO_unlike_90 rfl ?_
          refine xj_icmp_eq (pc := 92) (tgt := 99) d_MO_unlike_92 (by decide) (fun h92 => ?_) (fun h92 => ?_)
          · refine xj_inc1 (pc := 99) d_MO_unlike_99 rfl (by decide) rfl ?_
            dsimp only [xset, xset2, xkill]
            rw [n_up]
            refine xj_goto (pc := 102) (tgt := 18) d_MO_unlike_102 (by decide) ?_
            rw [ff, if_neg (by simpa using h92)]
            exact xj_take 4 hih
          · refine xj_iload_n (pc := 95) d_MO_unlike_95 rfl rfl ?_
            refine xj_iconst (pc := 96) (v := 1) d_MO_unlike_96 (by decide) ?_
            refine xj_iadd (pc := 97) d_MO_unlike_97 ?_
            refine xj_iret (pc := 98) d_MO_unlike_98 rfl ?_
            rw [ff, if_pos (by simpa using h92), n_up]
            exact nk_ans hI
        · refine xj_aload_n (pc := 73) d_MO_unlike_73 rfl rfl ?_
          refine xj_iload_n (pc := 74) d_MO_unlike_74 rfl rfl ?_
          refine xj_iload_n (pc := 75) d_MO_unlike_75 rfl rfl ?_
          refine xj_callV (pc := 76) d_MO_unlike_76 ml_MO_46 ok_MO_of (s_MO_ofL hkb hB (gsome (d := S.2.2) (show i < B.length by rw [n_le, sB, n_nI (by omega)] at h70; omega))) rfl rfl rfl rfl rfl (Nat.le_of_ble_eq_true rfl) (by decide) ?_
          rintro rv I1 F1 ⟨rfl, rfl, rfl⟩
          dsimp only [Option.toList, List.cons_append, List.nil_append]
          refine xj_goto (pc := 79) (tgt := 86) d_MO_unlike_79 (by decide) ?_
          refine xj_istore (pc := 86) d_MO_unlike_86 (by decide) rfl ?_
          dsimp only [xset, xset2, xkill]
          refine xj_iload (pc := 88) d_MO_unlike_88 rfl ?_
          refine xj_iload (pc := 90) d_MO_unlike_90 rfl ?_
          refine xj_icmp_eq (pc := 92) (tgt := 99) d_MO_unlike_92 (by decide) (fun h92 => ?_) (fun h92 => ?_)
          · refine xj_inc1 (pc := 99) d_MO_unlike_99 rfl (by decide) rfl ?_
            dsimp only [xset, xset2, xkill]
            rw [n_up]
            refine xj_goto (pc := 102) (tgt := 18) d_MO_unlike_102 (by decide) ?_
            rw [ff, if_neg (by simpa using h92)]
            exact xj_take 4 hih
          · refine xj_iload_n (pc := 95) d_MO_unlike_95 rfl rfl ?_
            refine xj_iconst (pc := 96) (v := 1) d_MO_unlike_96 (by decide) ?_
            refine xj_iadd (pc := 97) d_MO_unlike_97 ?_
            refine xj_iret (pc := 98) d_MO_unlike_98 rfl ?_
            rw [ff, if_pos (by simpa using h92), n_up]
            exact nk_ans hI
    · refine xj_iload_n (pc := 28) d_MO_unlike_28 rfl rfl ?_
      refine xj_aload_n (pc := 29) d_MO_unlike_29 rfl rfl ?_
      refine xj_getR (pc := 30) d_MO_unlike_30 fl_MO_16 rfl rfl ?_
      refine xj_iload_n (pc := 33) d_MO_unlike_33 rfl rfl ?_
      refine xj_iald (pc := 34) d_MO_unlike_34 (n := 10) (x := 21) rfl rfl hkb (by decide) ?_
      refine xj_icmp_ge (pc := 35) (tgt := 105) d_MO_unlike_35 (by decide) (fun h35 => ?_) (fun h35 => ?_)
      · rw [n_le, sB, n_nI (by omega)] at h35
        rw [n_lt, sA, n_nI (by omega)] at h25
        omega
      · refine xj_iload_n (pc := 38) d_MO_unlike_38 rfl rfl ?_
        refine xj_aload_n (pc := 39) d_MO_unlike_39 rfl rfl ?_
        refine xj_getR (pc := 40) d_MO_unlike_40 fl_MO_16 rfl rfl ?_
        refine xj_iload_n (pc := 43) d_MO_unlike_43 rfl rfl ?_
        refine xj_iald (pc := 44) d_MO_unlike_44 (n := 10) (x := 21) rfl rfl hka (by decide) ?_
        refine xj_icmp_ge (pc := 45) (tgt := 57) d_MO_unlike_45 (by decide) (fun h45 => ?_) (fun h45 => ?_)
        · refine xj_aload_n (pc := 57) d_MO_unlike_57 rfl rfl ?_
          refine xj_getI (pc := 58) d_MO_unlike_58 fl_MO_25 rfl rfl ?_
          rw [show I 19 = (A[i]?).getD S.2.2 by rw [n_le, sA, n_nI (by omega)] at h45; rw [List.getElem?_eq_none (by omega), hp]; rfl]
          refine xj_istore (pc := 61) d_MO_unlike_61 (by decide) rfl ?_
          dsimp only [xset, xset2, xkill]
          refine xj_iload_n (pc := 63) d_MO_unlike_63 rfl rfl ?_
          refine xj_aload_n (pc := 64) d_MO_unlike_64 rfl rfl ?_
          refine xj_getR (pc := 65) d_MO_unlike_65 fl_MO_16 rfl rfl ?_
          refine xj_iload_n (pc := 68) d_MO_unlike_68 rfl rfl ?_
          refine xj_iald (pc := 69) d_MO_unlike_69 (n := 10) (x := 21) rfl rfl hkb (by decide) ?_
          refine xj_icmp_ge (pc := 70) (tgt := 82) d_MO_unlike_70 (by decide) (fun h70 => ?_) (fun h70 => ?_)
          · refine xj_aload_n (pc := 82) d_MO_unlike_82 rfl rfl ?_
            refine xj_getI (pc := 83) d_MO_unlike_83 fl_MO_25 rfl rfl ?_
            rw [show I 19 = (B[i]?).getD S.2.2 by rw [n_le, sB, n_nI (by omega)] at h70; rw [List.getElem?_eq_none (by omega), hp]; rfl]
            refine xj_istore (pc := 86) d_MO_unlike_86 (by decide) rfl ?_
            dsimp only [xset, xset2, xkill]
            refine xj_iload (pc := 88) d_MO_unlike_88 rfl ?_
            refine xj_iload (pc := 90) d_MO_unlike_90 rfl ?_
            refine xj_icmp_eq (pc := 92) (tgt := 99) d_MO_unlike_92 (by decide) (fun h92 => ?_) (fun h92 => ?_)
            · refine xj_inc1 (pc := 99) d_MO_unlike_99 rfl (by decide) rfl ?_
              dsimp only [xset, xset2, xkill]
              rw [n_up]
              refine xj_goto (pc := 102) (tgt := 18) d_MO_unlike_102 (by decide) ?_
              rw [ff, if_neg (by simpa using h92)]
              exact xj_take 4 hih
            · refine xj_iload_n (pc := 95) d_MO_unlike_95 rfl rfl ?_
              refine xj_iconst (pc := 96) (v := 1) d_MO_unlike_96 (by decide) ?_
              refine xj_iadd (pc := 97) d_MO_unlike_97 ?_
              refine xj_iret (pc := 98) d_MO_unlike_98 rfl ?_
              rw [ff, if_pos (by simpa using h92), n_up]
              exact nk_ans hI
          · refine xj_aload_n (pc := 73) d_MO_unlike_73 rfl rfl ?_
            refine xj_iload_n (pc := 74) d_MO_unlike_74 rfl rfl ?_
            refine xj_iload_n (pc := 75) d_MO_unlike_75 rfl rfl ?_
            refine xj_callV (pc := 76) d_MO_unlike_76 ml_MO_46 ok_MO_of (s_MO_ofL hkb hB (gsome (d := S.2.2) (show i < B.length by rw [n_le, sB, n_nI (by omega)] at h70; omega))) rfl rfl rfl rfl rfl (Nat.le_of_ble_eq_true rfl) (by decide) ?_
            rintro rv I1 F1 ⟨rfl, rfl, rfl⟩
            dsimp only [Option.toList, List.cons_append, List.nil_append]
            refine xj_goto (pc := 79) (tgt := 86) d_MO_unlike_79 (by decide) ?_
            refine xj_istore (pc := 86) d_MO_unlike_86 (by decide) rfl ?_
            dsimp only [xset, xset2, xkill]
            refine xj_iload (pc := 88) d_MO_unlike_88 rfl ?_
            refine xj_iload (pc := 90) d_MO_unlike_90 rfl ?_
            refine xj_icmp_eq (pc := 92) (tgt := 99) d_MO_unlike_92 (by decide) (fun h92 => ?_) (fun h92 => ?_)
            · refine xj_inc1 (pc := 99) d_MO_unlike_99 rfl (by decide) rfl ?_
              dsimp only [xset, xset2, xkill]
              rw [n_up]
              refine xj_goto (pc := 102) (tgt := 18) d_MO_unlike_102 (by decide) ?_
              rw [ff, if_neg (by simpa using h92)]
              exact xj_take 4 hih
            · refine xj_iload_n (pc := 95) d_MO_unlike_95 rfl rfl ?_
              refine xj_iconst (pc := 96) (v := 1) d_MO_unlike_96 (by decide) ?_
              refine xj_iadd (pc := 97) d_MO_unlike_97 ?_
              refine xj_iret (pc := 98) d_MO_unlike_98 rfl ?_
              rw [ff, if_pos (by simpa using h92), n_up]
              exact nk_ans hI
        · refine xj_aload_n (pc := 48) d_MO_unlike_48 rfl rfl ?_
          refine xj_iload_n (pc := 49) d_MO_unlike_49 rfl rfl ?_
          refine xj_iload_n (pc := 50) d_MO_unlike_50 rfl rfl ?_
          refine xj_callV (pc := 51) d_MO_unlike_51 ml_MO_46 ok_MO_of (s_MO_ofL hka hA (gsome (d := S.2.2) (show i < A.length by rw [n_le, sA, n_nI (by omega)] at h45; omega))) rfl rfl rfl rfl rfl (Nat.le_of_ble_eq_true rfl) (by decide) ?_
          rintro rv I1 F1 ⟨rfl, rfl, rfl⟩
          dsimp only [Option.toList, List.cons_append, List.nil_append]
          refine xj_goto (pc := 54) (tgt := 61) d_MO_unlike_54 (by decide) ?_
          refine xj_istore (pc := 61) d_MO_unlike_61 (by decide) rfl ?_
          dsimp only [xset, xset2, xkill]
          refine xj_iload_n (pc := 63) d_MO_unlike_63 rfl rfl ?_
          refine xj_aload_n (pc := 64) d_MO_unlike_64 rfl rfl ?_
          refine xj_getR (pc := 65) d_MO_unlike_65 fl_MO_16 rfl rfl ?_
          refine xj_iload_n (pc := 68) d_MO_unlike_68 rfl rfl ?_
          refine xj_iald (pc := 69) d_MO_unlike_69 (n := 10) (x := 21) rfl rfl hkb (by decide) ?_
          refine xj_icmp_ge (pc := 70) (tgt := 82) d_MO_unlike_70 (by decide) (fun h70 => ?_) (fun h70 => ?_)
          · refine xj_aload_n (pc := 82) d_MO_unlike_82 rfl rfl ?_
            refine xj_getI (pc := 83) d_MO_unlike_83 fl_MO_25 rfl rfl ?_
            rw [show I 19 = (B[i]?).getD S.2.2 by rw [n_le, sB, n_nI (by omega)] at h70; rw [List.getElem?_eq_none (by omega), hp]; rfl]
            refine xj_istore (pc := 86) d_MO_unlike_86 (by decide) rfl ?_
            dsimp only [xset, xset2, xkill]
            refine xj_iload (pc := 88) d_MO_unlike_88 rfl ?_
            refine xj_iload (pc := 90) d_MO_unlike_90 rfl ?_
            refine xj_icmp_eq (pc := 92) (tgt := 99) d_MO_unlike_92 (by decide) (fun h92 => ?_) (fun h92 => ?_)
            · refine xj_inc1 (pc := 99) d_MO_unlike_99 rfl (by decide) rfl ?_
              dsimp only [xset, xset2, xkill]
              rw [n_up]
              refine xj_goto (pc := 102) (tgt := 18) d_MO_unlike_102 (by decide) ?_
              rw [ff, if_neg (by simpa using h92)]
              exact xj_take 4 hih
            · refine xj_iload_n (pc := 95) d_MO_unlike_95 rfl rfl ?_
              refine xj_iconst (pc := 96) (v := 1) d_MO_unlike_96 (by decide) ?_
              refine xj_iadd (pc := 97) d_MO_unlike_97 ?_
              refine xj_iret (pc := 98) d_MO_unlike_98 rfl ?_
              rw [ff, if_pos (by simpa using h92), n_up]
              exact nk_ans hI
          · refine xj_aload_n (pc := 73) d_MO_unlike_73 rfl rfl ?_
            refine xj_iload_n (pc := 74) d_MO_unlike_74 rfl rfl ?_
            refine xj_iload_n (pc := 75) d_MO_unlike_75 rfl rfl ?_
            refine xj_callV (pc := 76) d_MO_unlike_76 ml_MO_46 ok_MO_of (s_MO_ofL hkb hB (gsome (d := S.2.2) (show i < B.length by rw [n_le, sB, n_nI (by omega)] at h70; omega))) rfl rfl rfl rfl rfl (Nat.le_of_ble_eq_true rfl) (by decide) ?_
            rintro rv I1 F1 ⟨rfl, rfl, rfl⟩
            dsimp only [Option.toList, List.cons_append, List.nil_append]
            refine xj_goto (pc := 79) (tgt := 86) d_MO_unlike_79 (by decide) ?_
            refine xj_istore (pc := 86) d_MO_unlike_86 (by decide) rfl ?_
            dsimp only [xset, xset2, xkill]
            refine xj_iload (pc := 88) d_MO_unlike_88 rfl ?_
            refine xj_iload (pc := 90) d_MO_unlike_90 rfl ?_
            refine xj_icmp_eq (pc := 92) (tgt := 99) d_MO_unlike_92 (by decide) (fun h92 => ?_) (fun h92 => ?_)
            · refine xj_inc1 (pc := 99) d_MO_unlike_99 rfl (by decide) rfl ?_
              dsimp only [xset, xset2, xkill]
              rw [n_up]
              refine xj_goto (pc := 102) (tgt := 18) d_MO_unlike_102 (by decide) ?_
              rw [ff, if_neg (by simpa using h92)]
              exact xj_take 4 hih
            · refine xj_iload_n (pc := 95) d_MO_unlike_95 rfl rfl ?_
              refine xj_iconst (pc := 96) (v := 1) d_MO_unlike_96 (by decide) ?_
              refine xj_iadd (pc := 97) d_MO_unlike_97 ?_
              refine xj_iret (pc := 98) d_MO_unlike_98 rfl ?_
              rw [ff, if_pos (by simpa using h92), n_up]
              exact nk_ans hI
theorem t_MO_unlike {a b : Int32} (hI : MI I F S) : XM m_MO_unlike [.ref 36, .int a, .int b] I F (NQ (sp_unlike S a b, S) I F) := by
  refine XM.of (by decide) (Nat.le_of_ble_eq_true rfl) ?_
  dsimp only [xargs]
  refine xj_iload_n (pc := 0) d_MO_unlike_0 rfl rfl ?_
  refine xj_callS (pc := 1) d_MO_unlike_1 ml_MO_42 ok_MO_is (s_MO_is) rfl rfl rfl (Nat.le_of_ble_eq_true rfl) (by decide) ?_
  rintro rv I1 F1 ⟨rfl, rfl, rfl⟩
  dsimp only [Option.toList, List.cons_append, List.nil_append]
  refine xj_if_eq (pc := 4) (tgt := 14) d_MO_unlike_4 (by decide) (fun h4 => ?_) (fun h4 => ?_)
  · refine xj_iconst (pc := 14) (v := -1) d_MO_unlike_14 (by decide) ?_
    refine xj_iret (pc := 15) d_MO_unlike_15 rfl ?_
    rw [sp_unlike, if_neg (by first | (rw [b01_eq h11]; simp; done) | (rw [b01_eq h4]; simp))]
    exact nk_ans hI
  · refine xj_iload_n (pc := 7) d_MO_unlike_7 rfl rfl ?_
    refine xj_callS (pc := 8) d_MO_unlike_8 ml_MO_42 ok_MO_is (s_MO_is) rfl rfl rfl (Nat.le_of_ble_eq_true rfl) (by decide) ?_
    rintro rv I1 F1 ⟨rfl, rfl, rfl⟩
    dsimp only [Option.toList, List.cons_append, List.nil_append]
    refine xj_if_ne (pc := 11) (tgt := 16) d_MO_unlike_11 (by decide) (fun h11 => ?_) (fun h11 => ?_)
    · have ha := b01_ne h4
      have hb := b01_ne h11
      rw [sp_unlike, if_pos (by rw [ha, hb]; rfl)]
      obtain ⟨ka, hka, rfl, ta⟩ := isR_k ha
      obtain ⟨kb, hkb, rfl, tb⟩ := isR_k hb
      refine xj_iconst (pc := 16) (v := 0) d_MO_unlike_16 (by decide) ?_
      refine xj_istore_n (pc := 17) d_MO_unlike_17 rfl (by decide) rfl ?_
      dsimp only [xset, xset2, xkill]
      exact t_MO_unlike_l hI hka hkb (hI.at hka ta) (hI.at hkb tb) _ 0 rfl (by omega)
    · refine xj_iconst (pc := 14) (v := -1) d_MO_unlike_14 (by decide) ?_
      refine xj_iret (pc := 15) d_MO_unlike_15 rfl ?_
      rw [sp_unlike, if_neg (by first | (rw [b01_eq h11]; simp; done) | (rw [b01_eq h4]; simp))]
      exact nk_ans hI
theorem t_MO_strip_l1 {ends to : Int32} {ka : Nat} {P : XP} (hp : I 19 = S.2.2) (hka : ka < 10) (hL : Mr F ka L) (k2 : ∀ st : Nat, st ≤ L.length → (ends = 2 → st = 0) → (¬ ends = 2 → L.dropWhile (fun b => b == S.2.2) = L.drop st) → XJ none m_MO_strip 68 [some (.ref 36), some (.int (nI ka)), some (.int ends), some (.int to), some (.int (nI st)), some (.int (nI L.length))] [] I F P) : ∀ (m st : Nat), st + m = L.length → (ends = 2 → st = 0) → L.dropWhile (fun b => b == S.2.2) = (L.drop st).dropWhile (fun b => b == S.2.2) →
    XJ none m_MO_strip 36 [some (.ref 36), some (.int (nI ka)), some (.int ends), some (.int to), some (.int (nI st)), some (.int (nI L.length))] [] I F P := by
  have hll := hL.2.1
  intro m
  induction m with
  | zero =>
    intro st hm h2 hd
    refine xj_iload_n (pc := 36) d_MO_strip_36 rfl rfl ?_
    refine xj_iconst (pc := 37) (v := 2) d_MO_strip_37 (by decide) ?_
    refine xj_icmp_eq (pc := 38) (tgt := 68) d_MO_strip_38 (by decide) (fun h38 => ?_) (fun h38 => ?_)
    · exact k2 st (by omega) h2 (fun _ => by rw [hd, List.drop_of_length_le (by omega)]; rfl)
    · refine xj_iload (pc := 41) d_MO_strip_41 rfl ?_
      refine xj_iload (pc := 43) d_MO_strip_43 rfl ?_
      refine xj_icmp_ge (pc := 45) (tgt := 68) d_MO_strip_45 (by decide) (fun h45 => ?_) (fun h45 => absurd (by rw [n_le, n_nI (by omega), n_nI (by omega)]; omega) h45)
      exact k2 st (by omega) h2 (fun _ => by rw [hd, List.drop_of_length_le (by omega)]; rfl)
  | succ m ih =>
    intro st hm h2 hd
    have hget : L[st]? = some L[st] := List.getElem?_eq_getElem (by omega)
    have hdr : L.drop st = L[st] :: L.drop (st + 1) := List.drop_eq_getElem_cons (by omega)
    refine xj_iload_n (pc := 36) d_MO_strip_36 rfl rfl ?_
    refine xj_iconst (pc := 37) (v := 2) d_MO_strip_37 (by decide) ?_
    refine xj_icmp_eq (pc := 38) (tgt := 68) d_MO_strip_38 (by decide) (fun h38 => ?_) (fun h38 => ?_)
    · exact k2 st (by omega) h2 (fun _ => by first | (exact absurd h38 (by assumption)) | (rw [hd, hdr, List.dropWhile_cons, if_neg (by simp [h59])]))
    · refine xj_iload (pc := 41) d_MO_strip_41 rfl ?_
      refine xj_iload (pc := 43) d_MO_strip_43 rfl ?_
      refine xj_icmp_ge (pc := 45) (tgt := 68) d_MO_strip_45 (by decide) (fun h45 => absurd h45 (by rw [n_le, n_nI (by omega), n_nI (by omega)]; omega)) (fun h45 => ?_)
      refine xj_aload_n (pc := 48) d_MO_strip_48 rfl rfl ?_
      refine xj_iload_n (pc := 49) d_MO_strip_49 rfl rfl ?_
      refine xj_iload (pc := 50) d_MO_strip_50 rfl ?_
      refine xj_callV (pc := 52) d_MO_strip_52 ml_MO_46 ok_MO_of (s_MO_ofL hka hL hget) rfl rfl rfl rfl rfl (Nat.le_of_ble_eq_true rfl) (by decide) ?_
      rintro rv I1 F1 ⟨rfl, rfl, rfl⟩
      dsimp only [Option.toList, List.cons_append, List.nil_append]
      refine xj_aload_n (pc := 55) d_MO_strip_55 rfl rfl ?_
      refine xj_getI (pc := 56) d_MO_strip_56 fl_MO_25 rfl rfl ?_
      rw [hp]
      refine xj_icmp_ne (pc := 59) (tgt := 68) d_MO_strip_59 (by decide) (fun h59 => ?_) (fun h59 => ?_)
      · exact k2 st (by omega) h2 (fun _ => by first | (exact absurd h38 (by assumption)) | (rw [hd, hdr, List.dropWhile_cons, if_neg (by simp [h59])]))
      · refine xj_inc1 (pc := 62) d_MO_strip_62 rfl (by decide) rfl ?_
        dsimp only [xset, xset2, xkill]
        rw [n_up]
        refine xj_goto (pc := 65) (tgt := 36) d_MO_strip_65 (by decide) ?_
        refine ih (st + 1) (by omega) (fun q => absurd q h38) ?_
        rw [hd, hdr, List.dropWhile_cons, if_pos (by simp [h59])]
theorem t_MO_strip_l2 {ends to : Int32} {ka st : Nat} {P : XP} (hp : I 19 = S.2.2) (hka : ka < 10) (hL : Mr F ka L) (k2 : ∀ sp : Nat, st ≤ sp → sp ≤ L.length → (ends = 1 → sp = L.length) → (¬ ends = 1 → rdw S.2.2 (L.drop st) = (L.take sp).drop st) → XJ none m_MO_strip 102 [some (.ref 36), some (.int (nI ka)), some (.int ends), some (.int to), some (.int (nI st)), some (.int (nI sp))] [] I F P) : ∀ (m sp : Nat), sp = st + m → sp ≤ L.length → (ends = 1 → sp = L.length) → rdw S.2.2 (L.drop st) = rdw S.2.2 ((L.take sp).drop st) →
    XJ none m_MO_strip 68 [some (.ref 36), some (.int (nI ka)), some (.int ends), some (.int to), some (.int (nI st)), some (.int (nI sp))] [] I F P := by
  have hll := hL.2.1
  intro m
  induction m with
  | zero =>
    intro sp hm hs h2 hd
    refine xj_iload_n (pc := 68) d_MO_strip_68 rfl rfl ?_
    refine xj_iconst (pc := 69) (v := 1) d_MO_strip_69 (by decide) ?_
    refine xj_icmp_eq (pc := 70) (tgt := 102) d_MO_strip_70 (by decide) (fun h70 => ?_) (fun h70 => ?_)
    · exact k2 sp (by omega) hs h2 (fun _ => by rw [hd, show (L.take sp).drop st = [] from List.drop_of_length_le (by rw [List.length_take]; omega)]; rfl)
    · refine xj_iload (pc := 73) d_MO_strip_73 rfl ?_
      refine xj_iload (pc := 75) d_MO_strip_75 rfl ?_
      refine xj_icmp_le (pc := 77) (tgt := 102) d_MO_strip_77 (by decide) (fun h77 => ?_) (fun h77 => absurd (by rw [n_le, n_nI (by omega), n_nI (by omega)]; omega) h77)
      exact k2 sp (by omega) hs h2 (fun _ => by rw [hd, show (L.take sp).drop st = [] from List.drop_of_length_le (by rw [List.length_take]; omega)]; rfl)
  | succ m ih =>
    intro sp hm hs h2 hd
    obtain ⟨q, rfl⟩ : ∃ q, sp = q + 1 := ⟨sp - 1, by omega⟩
    have hget : L[q]? = some L[q] := List.getElem?_eq_getElem (by omega)
    rw [sl_succ hget (by omega), rdw_app] at hd
    refine xj_iload_n (pc := 68) d_MO_strip_68 rfl rfl ?_
    refine xj_iconst (pc := 69) (v := 1) d_MO_strip_69 (by decide) ?_
    refine xj_icmp_eq (pc := 70) (tgt := 102) d_MO_strip_70 (by decide) (fun h70 => ?_) (fun h70 => ?_)
    · exact k2 (q + 1) (by omega) hs h2 (fun _ => by first | (exact absurd h70 (by assumption)) | (rw [hd, if_neg h93, sl_succ hget (by omega)]))
    · refine xj_iload (pc := 73) d_MO_strip_73 rfl ?_
      refine xj_iload (pc := 75) d_MO_strip_75 rfl ?_
      refine xj_icmp_le (pc := 77) (tgt := 102) d_MO_strip_77 (by decide) (fun h77 => absurd h77 (by rw [n_le, n_nI (by omega), n_nI (by omega)]; omega)) (fun h77 => ?_)
      refine xj_aload_n (pc := 80) d_MO_strip_80 rfl rfl ?_
      refine xj_iload_n (pc := 81) d_MO_strip_81 rfl rfl ?_
      refine xj_iload (pc := 82) d_MO_strip_82 rfl ?_
      refine xj_iconst (pc := 84) (v := 1) d_MO_strip_84 (by decide) ?_
      refine xj_isub (pc := 85) d_MO_strip_85 ?_
      rw [show nI (q + 1) - 1 = nI q from nI_pred q]
      refine xj_callV (pc := 86) d_MO_strip_86 ml_MO_46 ok_MO_of (s_MO_ofL hka hL hget) rfl rfl rfl rfl rfl (Nat.le_of_ble_eq_true rfl) (by decide) ?_
      rintro rv I1 F1 ⟨rfl, rfl, rfl⟩
      dsimp only [Option.toList, List.cons_append, List.nil_append]
      refine xj_aload_n (pc := 89) d_MO_strip_89 rfl rfl ?_
      refine xj_getI (pc := 90) d_MO_strip_90 fl_MO_25 rfl rfl ?_
      rw [hp]
      refine xj_icmp_ne (pc := 93) (tgt := 102) d_MO_strip_93 (by decide) (fun h93 => ?_) (fun h93 => ?_)
      · exact k2 (q + 1) (by omega) hs h2 (fun _ => by first | (exact absurd h70 (by assumption)) | (rw [hd, if_neg h93, sl_succ hget (by omega)]))
      · refine xj_incm1 (pc := 96) d_MO_strip_96 rfl (by decide) rfl ?_
        dsimp only [xset, xset2, xkill]
        rw [n_dec (by omega), Nat.add_sub_cancel]
        refine xj_goto (pc := 99) (tgt := 68) d_MO_strip_99 (by decide) ?_
        refine ih q (by omega) (by omega) (fun z => absurd z h70) ?_
        rw [hd, if_pos h93]
theorem t_MO_strip {a ends to : Int32} (hI : MI I F S) : XM m_MO_strip [.ref 36, .int a, .int ends, .int to] I F (NQ (sp_strip S a ends to) I F) := by
  refine XM.of (by decide) (Nat.le_of_ble_eq_true rfl) ?_
  dsimp only [xargs]
  have g0 : Ms [] I F (upd I 18 0) F := Ms.zero
  have hend : ∀ (ka kt st sp : Nat), ka < 10 → kt < 10 → (nI ka).toInt.toNat = ka → st ≤ sp → sp ≤ (sR S (nI ka)).length → ((sR S (nI ka)).take sp).drop st = m_strip S.2.2 (sR S (nI ka)) ends → XJ none m_MO_strip 102 [some (.ref 36), some (.int (nI ka)), some (.int ends), some (.int (nI kt)), some (.int (nI st)), some (.int (nI sp))] [] I F (NQ (sMk S (nI kt) (m_strip S.2.2 (sR S (nI ka)) ends)) I F) := by
    intro ka kt st sp hka hkt ha h1 h2 he
    have hL := hI.at hka ha
    have h200 := hL.2.1
    refine xj_aload_n (pc := 102) d_MO_strip_102 rfl rfl ?_
    refine xj_iconst (pc := 103) (v := 0) d_MO_strip_103 (by decide) ?_
    refine xj_putI (pc := 104) d_MO_strip_104 fl_MO_50 fp_MO_many rfl rfl ?_
    refine xj_aload_n (pc := 107) d_MO_strip_107 rfl rfl ?_
    refine xj_iload_n (pc := 108) d_MO_strip_108 rfl rfl ?_
    refine xj_iload (pc := 109) d_MO_strip_109 rfl ?_
    refine xj_i2l (pc := 111) d_MO_strip_111 ?_
    refine xj_iload (pc := 112) d_MO_strip_112 rfl ?_
    refine xj_i2l (pc := 114) d_MO_strip_114 ?_
    refine xj_callV (pc := 115) d_MO_strip_115 ml_MO_60 ok_MO_lay (s_MO_lay hka (g0.nx.mr hL) g0.2.2 (by rw [l_of, n_nI (by omega)]; omega)) rfl rfl rfl rfl rfl (Nat.le_of_ble_eq_true rfl) (by decide) ?_
    rintro rv I2 F2 ⟨rfl, g2⟩
    rw [List.nil_append, l_of, l_of, n_nI (by omega), n_nI (by omega), Int.toNat_natCast, Int.toNat_natCast, he] at g2
    replace g2 := g0.tr g2
    dsimp only [Option.toList, List.cons_append, List.nil_append]
    refine xj_aload_n (pc := 118) d_MO_strip_118 rfl rfl ?_
    refine xj_iload_n (pc := 119) d_MO_strip_119 rfl rfl ?_
    refine xj_callV (pc := 120) d_MO_strip_120 ml_MO_64 ok_MO_keep (s_MO_keep hI g2.nx g2.2.2 hkt) rfl rfl rfl rfl rfl (Nat.le_of_ble_eq_true rfl) (by decide) ?_
    rintro rv I3 F3 ⟨rfl, g3⟩
    dsimp only [Option.toList, List.cons_append, List.nil_append]
    refine xj_iret (pc := 123) d_MO_strip_123 rfl ?_
    exact ⟨rfl, g3⟩
  refine xj_iload_n (pc := 0) d_MO_strip_0 rfl rfl ?_
  refine xj_callS (pc := 1) d_MO_strip_1 ml_MO_42 ok_MO_is (s_MO_is) rfl rfl rfl (Nat.le_of_ble_eq_true rfl) (by decide) ?_
  rintro rv I1 F1 ⟨rfl, rfl, rfl⟩
  dsimp only [Option.toList, List.cons_append, List.nil_append]
  refine xj_if_eq (pc := 4) (tgt := 23) d_MO_strip_4 (by decide) (fun h4 => ?_) (fun h4 => ?_)
  · refine xj_iconst (pc := 23) (v := -1) d_MO_strip_23 (by decide) ?_
    refine xj_iret (pc := 24) d_MO_strip_24 rfl ?_
    exact nk_none hI (if_neg (fun q => by simp only [Bool.and_eq_true, decide_eq_true_eq] at q; first | (rw [n_le, n_2] at h20; omega) | (rw [n_lt, n_0] at h15; omega) | (rw [b01_eq h11] at q; simp at q; done) | (rw [b01_eq h4] at q; simp at q; done)))
  · refine xj_iload_n (pc := 7) d_MO_strip_7 rfl rfl ?_
    refine xj_callS (pc := 8) d_MO_strip_8 ml_MO_42 ok_MO_is (s_MO_is) rfl rfl rfl (Nat.le_of_ble_eq_true rfl) (by decide) ?_
    rintro rv I1 F1 ⟨rfl, rfl, rfl⟩
    dsimp only [Option.toList, List.cons_append, List.nil_append]
    refine xj_if_eq (pc := 11) (tgt := 23) d_MO_strip_11 (by decide) (fun h11 => ?_) (fun h11 => ?_)
    · refine xj_iconst (pc := 23) (v := -1) d_MO_strip_23 (by decide) ?_
      refine xj_iret (pc := 24) d_MO_strip_24 rfl ?_
      exact nk_none hI (if_neg (fun q => by simp only [Bool.and_eq_true, decide_eq_true_eq] at q; first | (rw [n_le, n_2] at h20; omega) | (rw [n_lt, n_0] at h15; omega) | (rw [b01_eq h11] at q; simp at q; done) | (rw [b01_eq h4] at q; simp at q; done)))
    · refine xj_iload_n (pc := 14) d_MO_strip_14 rfl rfl ?_
      refine xj_if_lt (pc := 15) (tgt := 23) d_MO_strip_15 (by decide) (fun h15 => ?_) (fun h15 => ?_)
      · refine xj_iconst (pc := 23) (v := -1) d_MO_strip_23 (by decide) ?_
        refine xj_iret (pc := 24) d_MO_strip_24 rfl ?_
        exact nk_none hI (if_neg (fun q => by simp only [Bool.and_eq_true, decide_eq_true_eq] at q; first | (rw [n_le, n_2] at h20; omega) | (rw [n_lt, n_0] at h15; omega) | (rw [b01_eq h11] at q; simp at q; done) | (rw [b01_eq h4] at q; simp at q; done)))
      · refine xj_iload_n (pc := 18) d_MO_strip_18 rfl rfl ?_
        refine xj_iconst (pc := 19) (v := 2) d_MO_strip_19 (by decide) ?_
        refine xj_icmp_le (pc := 20) (tgt := 25) d_MO_strip_20 (by decide) (fun h20 => ?_) (fun h20 => ?_)
        · have ha := b01_ne h4
          have hto := b01_ne h11
          rw [n_lt, n_0] at h15
          rw [n_le, n_2] at h20
          rw [sp_strip, if_pos (by simp only [ha, hto, Bool.true_and, decide_eq_true_eq]; omega)]
          obtain ⟨ka, hka, rfl, ta⟩ := isR_k ha
          obtain ⟨kt, hkt, rfl, tt⟩ := isR_k hto
          have hL := hI.at hka ta
          refine xj_iconst (pc := 25) (v := 0) d_MO_strip_25 (by decide) ?_
          refine xj_istore (pc := 26) d_MO_strip_26 (by decide) rfl ?_
          dsimp only [xset, xset2, xkill]
          refine xj_aload_n (pc := 28) d_MO_strip_28 rfl rfl ?_
          refine xj_getR (pc := 29) d_MO_strip_29 fl_MO_16 rfl rfl ?_
          refine xj_iload_n (pc := 32) d_MO_strip_32 rfl rfl ?_
          refine xj_iald (pc := 33) d_MO_strip_33 (n := 10) (x := 21) rfl rfl hka (by decide) ?_
          rw [hL.1]
          refine xj_istore (pc := 34) d_MO_strip_34 (by decide) rfl ?_
          dsimp only [xset, xset2, xkill]
          refine t_MO_strip_l1 hI.2.2 hka hL (fun st q1 q2 q3 => ?_) _ 0 (by rw [Nat.zero_add]) (fun _ => rfl) rfl
          refine t_MO_strip_l2 hI.2.2 hka hL (fun sp p1 p2 p3 p4 => ?_) ((sR S (nI ka)).length - st) _ (by omega) (Nat.le_refl _) (fun _ => rfl) (by rw [List.take_length])
          exact hend ka kt st sp hka hkt ta p1 p2 (st_eqm q2 q3 p3 p4)
        · refine xj_iconst (pc := 23) (v := -1) d_MO_strip_23 (by decide) ?_
          refine xj_iret (pc := 24) d_MO_strip_24 rfl ?_
          exact nk_none hI (if_neg (fun q => by simp only [Bool.and_eq_true, decide_eq_true_eq] at q; first | (rw [n_le, n_2] at h20; omega) | (rw [n_lt, n_0] at h15; omega) | (rw [b01_eq h11] at q; simp at q; done) | (rw [b01_eq h4] at q; simp at q; done)))
/-! placeOf -/
def pof (L : List Int32) (c : Int32) : Nat := (L.findIdx? (fun x => x == c)).getD L.length
theorem fi_drop (L : List Int32) (c : Int32) : ∀ (m i : Nat), i + m = L.length → (∀ q b, q < i → L[q]? = some b → ¬ b = c) → L.findIdx? (fun x => x == c) = ((L.drop i).findIdx? (fun x => x == c)).map (fun q => q + i) := by
  intro m i hm h
  induction i generalizing m with
  | zero => rw [List.drop_zero]; cases L.findIdx? (fun x => x == c) <;> rfl
  | succ i ih =>
    rw [ih (m + 1) (by omega) (fun q b hq hb => h q b (by omega) hb)]
    have hlt : i < L.length := by omega
    rw [List.drop_eq_getElem_cons hlt, List.findIdx?_cons, if_neg (by have := h i L[i] (by omega) (List.getElem?_eq_getElem hlt); simpa using this)]
    cases (L.drop (i + 1)).findIdx? (fun x => x == c) with
    | none => rfl
    | some q => show some (q + 1 + i) = some (q + (i + 1)); congr 1; omega
theorem s_MO_placeOf_l {c : Int32} {kr : Nat} (hkr : kr < 10) (hL : Mr F kr L) : ∀ (m i : Nat), i + m = L.length → (∀ q b, q < i → L[q]? = some b → ¬ b = c) →
    XJ none m_MO_placeOf 2 [some (.ref 36), some (.int c), some (.int (nI kr)), some (.int (nI i))] [] I F (xpi (nI (pof L c)) I F) := by
  have sL := hL.sz
  have h200 := hL.2.1
  intro m
  induction m with
  | zero =>
    intro i hi hq
    refine xj_iload_n (pc := 2) d_MO_placeOf_2 rfl rfl ?_
    refine xj_aload_n (pc := 3) d_MO_placeOf_3 rfl rfl ?_
    refine xj_getR (pc := 4) d_MO_placeOf_4 fl_MO_16 rfl rfl ?_
    refine xj_iload_n (pc := 7) d_MO_placeOf_7 rfl rfl ?_
    refine xj_iald (pc := 8) d_MO_placeOf_8 (n := 10) (x := 21) rfl rfl hkr (by decide) ?_
    refine xj_icmp_ge (pc := 9) (tgt := 28) d_MO_placeOf_9 (by decide) (fun h9 => ?_) (fun h9 => absurd (by rw [n_le, sL, n_nI (by omega)]; omega) h9)
    refine xj_iload_n (pc := 28) d_MO_placeOf_28 rfl rfl ?_
    refine xj_iret (pc := 29) d_MO_placeOf_29 rfl ?_
    rw [pof, fi_drop L c 0 i hi hq, List.drop_of_length_le (by omega)]
    rw [show i = L.length by omega]
    exact ⟨rfl, rfl, rfl⟩
  | succ m ih =>
    intro i hi hq
    have hlt : i < L.length := by omega
    have hget : L[i]? = some L[i] := List.getElem?_eq_getElem hlt
    refine xj_iload_n (pc := 2) d_MO_placeOf_2 rfl rfl ?_
    refine xj_aload_n (pc := 3) d_MO_placeOf_3 rfl rfl ?_
    refine xj_getR (pc := 4) d_MO_placeOf_4 fl_MO_16 rfl rfl ?_
    refine xj_iload_n (pc := 7) d_MO_placeOf_7 rfl rfl ?_
    refine xj_iald (pc := 8) d_MO_placeOf_8 (n := 10) (x := 21) rfl rfl hkr (by decide) ?_
    refine xj_icmp_ge (pc := 9) (tgt := 28) d_MO_placeOf_9 (by decide) (fun h9 => absurd h9 (by rw [n_le, sL, n_nI (by omega)]; omega)) (fun h9 => ?_)
    refine xj_aload_n (pc := 12) d_MO_placeOf_12 rfl rfl ?_
    refine xj_iload_n (pc := 13) d_MO_placeOf_13 rfl rfl ?_
    refine xj_iload_n (pc := 14) d_MO_placeOf_14 rfl rfl ?_
    refine xj_callV (pc := 15) d_MO_placeOf_15 ml_MO_46 ok_MO_of (s_MO_ofL hkr hL hget) rfl rfl rfl rfl rfl (Nat.le_of_ble_eq_true rfl) (by decide) ?_
    rintro rv I1 F1 ⟨rfl, rfl, rfl⟩
    dsimp only [Option.toList, List.cons_append, List.nil_append]
    refine xj_iload_n (pc := 18) d_MO_placeOf_18 rfl rfl ?_
    refine xj_icmp_eq (pc := 19) (tgt := 28) d_MO_placeOf_19 (by decide) (fun h19 => ?_) (fun h19 => ?_)
    · refine xj_iload_n (pc := 28) d_MO_placeOf_28 rfl rfl ?_
      refine xj_iret (pc := 29) d_MO_placeOf_29 rfl ?_
      rw [pof, fi_drop L c (m + 1) i hi hq, List.drop_eq_getElem_cons hlt, List.findIdx?_cons, if_pos (by simp [h19])]
      exact ⟨by simp, rfl, rfl⟩
    · refine xj_inc1 (pc := 22) d_MO_placeOf_22 rfl (by decide) rfl ?_
      dsimp only [xset, xset2, xkill]
      rw [n_up]
      refine xj_goto (pc := 25) (tgt := 2) d_MO_placeOf_25 (by decide) ?_
      exact ih (i + 1) (by omega) (fun q b h1 h2 => by rcases Nat.lt_or_ge q i with z | z; exact hq q b z h2; (have e : q = i := by omega); subst e; rw [hget] at h2; rw [← Option.some.inj h2]; exact h19)
theorem s_MO_placeOf {c : Int32} {kr : Nat} (hkr : kr < 10) (hL : Mr F kr L) : XM m_MO_placeOf [.ref 36, .int c, .int (nI kr)] I F (xpi (nI (pof L c)) I F) := by
  refine XM.of (by decide) (Nat.le_of_ble_eq_true rfl) ?_
  dsimp only [xargs]
  refine xj_iconst (pc := 0) (v := 0) d_MO_placeOf_0 (by decide) ?_
  refine xj_istore_n (pc := 1) d_MO_placeOf_1 rfl (by decide) rfl ?_
  dsimp only [xset, xset2, xkill]
  exact s_MO_placeOf_l hkr hL L.length 0 (by omega) (fun q b h => absurd h (by omega))
theorem pof_lt {L : List Int32} {c : Int32} : pof L c < L.length ↔ c ∈ L := by
  rw [pof]
  cases h : L.findIdx? (fun x => x == c) with
  | none =>
    rw [List.findIdx?_eq_none_iff] at h
    simp only [Option.getD_none, Nat.lt_irrefl, false_iff]
    intro hc
    have := h c hc
    simp at this
  | some q =>
    obtain ⟨hq, hp, -⟩ := List.findIdx?_eq_some_iff_getElem.mp h
    simp only [Option.getD_some]
    refine ⟨fun _ => ?_, fun _ => hq⟩
    have : L[q] = c := by simpa using hp
    rw [← this]; exact List.getElem_mem _
theorem pof_le (L : List Int32) (c : Int32) : pof L c ≤ L.length := by
  rw [pof]
  cases h : L.findIdx? (fun x => x == c) with
  | none => exact Nat.le_refl _
  | some q => exact Nat.le_of_lt (List.findIdx?_eq_some_iff_getElem.mp h).1
theorem pof_tr (p : Int32) (B C : List Int32) (b : Int32) : tr1 p B C b = if pof C b = C.length then b else (B[pof C b]?).getD p := by
  rw [tr1, pof]
  cases h : C.findIdx? (fun x => x == b) with
  | none => simp
  | some q =>
    have := (List.findIdx?_eq_some_iff_getElem.mp h).1
    simp only [Option.getD_some]
    rw [if_neg (by omega)]
end MOF
