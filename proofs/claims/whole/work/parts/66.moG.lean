section MOG
variable {I I1 I2 : XI} {F F1 F2 : XF} {S : XSt} {r k : Nat} {M X L T : List Int32}
theorem t_MO_translate_l {ka kb kc kt : Nat} {A B C : List Int32} (hI : MI I F S) (hka : ka < 10) (hkb : kb < 10) (hkc : kc < 10) (hkt : kt < 10) (hA : Mr F ka A) (hB : Mr F kb B) (hC : Mr F kc C) : ∀ (m i : Nat) (I1 : XI) (F1 : XF), i + m = A.length → Ms ((A.take i).map (tr1 S.2.2 B C)) I F I1 F1 →
    XJ none m_MO_translate 39 [some (.ref 36), some (.int (nI ka)), some (.int (nI kb)), some (.int (nI kc)), some (.int (nI kt)), some (.int (nI i))] [] I1 F1 (NQ (sMk S (nI kt) (A.map (tr1 S.2.2 B C))) I F) := by
  have h1 := hA.2.1
  have h2 := hB.2.1
  have h3 := hC.2.1
  intro m
  induction m with
  | zero =>
    intro i I1 F1 hi g1
    have sA := (g1.nx.mr hA).sz
    refine xj_iload (pc := 39) d_MO_translate_39 rfl ?_
    refine xj_aload_n (pc := 41) d_MO_translate_41 rfl rfl ?_
    refine xj_getR (pc := 42) d_MO_translate_42 fl_MO_16 rfl rfl ?_
    refine xj_iload_n (pc := 45) d_MO_translate_45 rfl rfl ?_
    refine xj_iald (pc := 46) d_MO_translate_46 (n := 10) (x := 21) rfl rfl hka (by decide) ?_
    refine xj_icmp_ge (pc := 47) (tgt := 120) d_MO_translate_47 (by decide) (fun h47 => ?_) (fun h47 => absurd (by rw [n_le, sA, n_nI (by omega)]; omega) h47)
    refine xj_aload_n (pc := 120) d_MO_translate_120 rfl rfl ?_
    refine xj_iload (pc := 121) d_MO_translate_121 rfl ?_
    refine xj_callV (pc := 123) d_MO_translate_123 ml_MO_64 ok_MO_keep (s_MO_keep hI g1.nx g1.2.2 hkt) rfl rfl rfl rfl rfl (Nat.le_of_ble_eq_true rfl) (by decide) ?_
    rintro rv I4 F4 ⟨rfl, g4⟩
    dsimp only [Option.toList, List.cons_append, List.nil_append]
    refine xj_iret (pc := 126) d_MO_translate_126 rfl ?_
    exact nk_E ⟨rfl, g4⟩ (by rw [List.take_of_length_le (by omega)])
  | succ m ih =>
    intro i I1 F1 hi g1
    have hA1 := g1.nx.mr hA
    have hB1 := g1.nx.mr hB
    have hC1 := g1.nx.mr hC
    have sA := hA1.sz
    have sB := hB1.sz
    have sC := hC1.sz
    have hp := hI.pd g1.nx
    have hget : A[i]? = some A[i] := List.getElem?_eq_getElem (by omega)
    have hple := pof_le C A[i]
    have htr := pof_tr S.2.2 B C A[i]
    have hstep : (A.take (i + 1)).map (tr1 S.2.2 B C) = (A.take i).map (tr1 S.2.2 B C) ++ [tr1 S.2.2 B C A[i]] := by rw [List.take_add_one, hget, List.map_append]; rfl
    refine xj_iload (pc := 39) d_MO_translate_39 rfl ?_
    refine xj_aload_n (pc := 41) d_MO_translate_41 rfl rfl ?_
    refine xj_getR (pc := 42) d_MO_translate_42 fl_MO_16 rfl rfl ?_
    refine xj_iload_n (pc := 45) d_MO_translate_45 rfl rfl ?_
    refine xj_iald (pc := 46) d_MO_translate_46 (n := 10) (x := 21) rfl rfl hka (by decide) ?_
    refine xj_icmp_ge (pc := 47) (tgt := 120) d_MO_translate_47 (by decide) (fun h47 => absurd h47 (by rw [n_le, sA, n_nI (by omega)]; omega)) (fun h47 => ?_)
    refine xj_aload_n (pc := 50) d_MO_translate_50 rfl rfl ?_
    refine xj_aload_n (pc := 51) d_MO_translate_51 rfl rfl ?_
    refine xj_iload_n (pc := 52) d_MO_translate_52 rfl rfl ?_
    refine xj_iload (pc := 53) d_MO_translate_53 rfl ?_
    refine xj_callV (pc := 55) d_MO_translate_55 ml_MO_46 ok_MO_of (s_MO_ofL hka hA1 hget) rfl rfl rfl rfl rfl (Nat.le_of_ble_eq_true rfl) (by decide) ?_
    rintro rv I1 F1 ⟨rfl, rfl, rfl⟩
    dsimp only [Option.toList, List.cons_append, List.nil_append]
    refine xj_iload_n (pc := 58) d_MO_translate_58 rfl rfl ?_
    refine xj_callV (pc := 59) d_MO_translate_59 ml_MO_79 ok_MO_placeOf (s_MO_placeOf hkc hC1) rfl rfl rfl rfl rfl (Nat.le_of_ble_eq_true rfl) (by decide) ?_
    rintro rv I1 F1 ⟨rfl, rfl, rfl⟩
    dsimp only [Option.toList, List.cons_append, List.nil_append]
    refine xj_istore (pc := 62) d_MO_translate_62 (by decide) rfl ?_
    dsimp only [xset, xset2, xkill]
    refine xj_aload_n (pc := 64) d_MO_translate_64 rfl rfl ?_
    refine xj_iload (pc := 65) d_MO_translate_65 rfl ?_
    refine xj_aload_n (pc := 67) d_MO_translate_67 rfl rfl ?_
    refine xj_getR (pc := 68) d_MO_translate_68 fl_MO_16 rfl rfl ?_
    refine xj_iload_n (pc := 71) d_MO_translate_71 rfl rfl ?_
    refine xj_iald (pc := 72) d_MO_translate_72 (n := 10) (x := 21) rfl rfl hkc (by decide) ?_
    refine xj_icmp_ne (pc := 73) (tgt := 86) d_MO_translate_73 (by decide) (fun h73 => ?_) (fun h73 => ?_)
    · refine xj_iload (pc := 86) d_MO_translate_86 rfl ?_
      refine xj_aload_n (pc := 88) d_MO_translate_88 rfl rfl ?_
      refine xj_getR (pc := 89) d_MO_translate_89 fl_MO_16 rfl rfl ?_
      refine xj_iload_n (pc := 92) d_MO_translate_92 rfl rfl ?_
      refine xj_iald (pc := 93) d_MO_translate_93 (n := 10) (x := 21) rfl rfl hkb (by decide) ?_
      refine xj_icmp_ge (pc := 94) (tgt := 107) d_MO_translate_94 (by decide) (fun h94 => ?_) (fun h94 => ?_)
      · refine xj_aload_n (pc := 107) d_MO_translate_107 rfl rfl ?_
        refine xj_getI (pc := 108) d_MO_translate_108 fl_MO_25 rfl rfl ?_
        refine xj_callV (pc := 111) d_MO_translate_111 ml_MO_53 ok_MO_add (s_MO_add g1.2.2) rfl rfl rfl rfl rfl (Nat.le_of_ble_eq_true rfl) (by decide) ?_
        rintro rv I2 F2 ⟨rfl, g2⟩
        dsimp only [Option.toList, List.cons_append, List.nil_append]
        refine xj_inc1 (pc := 114) d_MO_translate_114 rfl (by decide) rfl ?_
        dsimp only [xset, xset2, xkill]
        rw [n_up]
        refine xj_goto (pc := 117) (tgt := 39) d_MO_translate_117 (by decide) ?_
        refine xj_take 6 (ih (i + 1) I2 F2 (by omega) ?_)
        rw [hstep, htr]
        first | (rw [if_pos (by rw [hC1.1] at h73; exact pl_leq h73 (by omega) (by omega))]; exact g1.tr g2; done) | (rw [if_neg (fun q => h73 (by rw [hC1.1, q]))]; first | exact g1.tr g2 | (rw [n_le, sB, n_nI (by omega)] at h94; rw [List.getElem?_eq_none (by omega)]; rw [hp] at g2; exact g1.tr g2))
      · refine xj_aload_n (pc := 97) d_MO_translate_97 rfl rfl ?_
        refine xj_iload_n (pc := 98) d_MO_translate_98 rfl rfl ?_
        refine xj_iload (pc := 99) d_MO_translate_99 rfl ?_
        refine xj_callV (pc := 101) d_MO_translate_101 ml_MO_46 ok_MO_of (s_MO_ofL hkb hB1 (gsome (d := S.2.2) (show pof C A[i] < B.length by rw [n_le, sB, n_nI (by omega)] at h94; omega))) rfl rfl rfl rfl rfl (Nat.le_of_ble_eq_true rfl) (by decide) ?_
        rintro rv I1 F1 ⟨rfl, rfl, rfl⟩
        dsimp only [Option.toList, List.cons_append, List.nil_append]
        refine xj_goto (pc := 104) (tgt := 111) d_MO_translate_104 (by decide) ?_
        refine xj_callV (pc := 111) d_MO_translate_111 ml_MO_53 ok_MO_add (s_MO_add g1.2.2) rfl rfl rfl rfl rfl (Nat.le_of_ble_eq_true rfl) (by decide) ?_
        rintro rv I2 F2 ⟨rfl, g2⟩
        dsimp only [Option.toList, List.cons_append, List.nil_append]
        refine xj_inc1 (pc := 114) d_MO_translate_114 rfl (by decide) rfl ?_
        dsimp only [xset, xset2, xkill]
        rw [n_up]
        refine xj_goto (pc := 117) (tgt := 39) d_MO_translate_117 (by decide) ?_
        refine xj_take 6 (ih (i + 1) I2 F2 (by omega) ?_)
        rw [hstep, htr]
        first | (rw [if_pos (by rw [hC1.1] at h73; exact pl_leq h73 (by omega) (by omega))]; exact g1.tr g2; done) | (rw [if_neg (fun q => h73 (by rw [hC1.1, q]))]; first | exact g1.tr g2 | (rw [n_le, sB, n_nI (by omega)] at h94; rw [List.getElem?_eq_none (by omega)]; rw [hp] at g2; exact g1.tr g2))
    · refine xj_aload_n (pc := 76) d_MO_translate_76 rfl rfl ?_
      refine xj_iload_n (pc := 77) d_MO_translate_77 rfl rfl ?_
      refine xj_iload (pc := 78) d_MO_translate_78 rfl ?_
      refine xj_callV (pc := 80) d_MO_translate_80 ml_MO_46 ok_MO_of (s_MO_ofL hka hA1 hget) rfl rfl rfl rfl rfl (Nat.le_of_ble_eq_true rfl) (by decide) ?_
      rintro rv I1 F1 ⟨rfl, rfl, rfl⟩
      dsimp only [Option.toList, List.cons_append, List.nil_append]
      refine xj_goto (pc := 83) (tgt := 111) d_MO_translate_83 (by decide) ?_
      refine xj_callV (pc := 111) d_MO_translate_111 ml_MO_53 ok_MO_add (s_MO_add g1.2.2) rfl rfl rfl rfl rfl (Nat.le_of_ble_eq_true rfl) (by decide) ?_
      rintro rv I2 F2 ⟨rfl, g2⟩
      dsimp only [Option.toList, List.cons_append, List.nil_append]
      refine xj_inc1 (pc := 114) d_MO_translate_114 rfl (by decide) rfl ?_
      dsimp only [xset, xset2, xkill]
      rw [n_up]
      refine xj_goto (pc := 117) (tgt := 39) d_MO_translate_117 (by decide) ?_
      refine xj_take 6 (ih (i + 1) I2 F2 (by omega) ?_)
      rw [hstep, htr]
      first | (rw [if_pos (by rw [hC1.1] at h73; exact pl_leq h73 (by omega) (by omega))]; exact g1.tr g2; done) | (rw [if_neg (fun q => h73 (by rw [hC1.1, q]))]; first | exact g1.tr g2 | (rw [n_le, sB, n_nI (by omega)] at h94; rw [List.getElem?_eq_none (by omega)]; rw [hp] at g2; exact g1.tr g2))
theorem t_MO_translate {a b c to : Int32} (hI : MI I F S) : XM m_MO_translate [.ref 36, .int a, .int b, .int c, .int to] I F (NQ (sp_translate S a b c to) I F) := by
  refine XM.of (by decide) (Nat.le_of_ble_eq_true rfl) ?_
  dsimp only [xargs]
  have g0 : Ms [] I F (upd I 18 0) F := Ms.zero
  refine xj_iload_n (pc := 0) d_MO_translate_0 rfl rfl ?_
  refine xj_callS (pc := 1) d_MO_translate_1 ml_MO_42 ok_MO_is (s_MO_is) rfl rfl rfl (Nat.le_of_ble_eq_true rfl) (by decide) ?_
  rintro rv I1 F1 ⟨rfl, rfl, rfl⟩
  dsimp only [Option.toList, List.cons_append, List.nil_append]
  refine xj_if_eq (pc := 4) (tgt := 29) d_MO_translate_4 (by decide) (fun h4 => ?_) (fun h4 => ?_)
  · refine xj_iconst (pc := 29) (v := -1) d_MO_translate_29 (by decide) ?_
    refine xj_iret (pc := 30) d_MO_translate_30 rfl ?_
    exact nk_none hI (if_neg (by first | (rw [b01_eq h26]; simp; done) | (rw [b01_eq h18]; simp; done) | (rw [b01_eq h11]; simp; done) | (rw [b01_eq h4]; simp)))
  · refine xj_iload_n (pc := 7) d_MO_translate_7 rfl rfl ?_
    refine xj_callS (pc := 8) d_MO_translate_8 ml_MO_42 ok_MO_is (s_MO_is) rfl rfl rfl (Nat.le_of_ble_eq_true rfl) (by decide) ?_
    rintro rv I1 F1 ⟨rfl, rfl, rfl⟩
    dsimp only [Option.toList, List.cons_append, List.nil_append]
    refine xj_if_eq (pc := 11) (tgt := 29) d_MO_translate_11 (by decide) (fun h11 => ?_) (fun h11 => ?_)
    · refine xj_iconst (pc := 29) (v := -1) d_MO_translate_29 (by decide) ?_
      refine xj_iret (pc := 30) d_MO_translate_30 rfl ?_
      exact nk_none hI (if_neg (by first | (rw [b01_eq h26]; simp; done) | (rw [b01_eq h18]; simp; done) | (rw [b01_eq h11]; simp; done) | (rw [b01_eq h4]; simp)))
    · refine xj_iload_n (pc := 14) d_MO_translate_14 rfl rfl ?_
      refine xj_callS (pc := 15) d_MO_translate_15 ml_MO_42 ok_MO_is (s_MO_is) rfl rfl rfl (Nat.le_of_ble_eq_true rfl) (by decide) ?_
      rintro rv I1 F1 ⟨rfl, rfl, rfl⟩
      dsimp only [Option.toList, List.cons_append, List.nil_append]
      refine xj_if_eq (pc := 18) (tgt := 29) d_MO_translate_18 (by decide) (fun h18 => ?_) (fun h18 => ?_)
      · refine xj_iconst (pc := 29) (v := -1) d_MO_translate_29 (by decide) ?_
        refine xj_iret (pc := 30) d_MO_translate_30 rfl ?_
        exact nk_none hI (if_neg (by first | (rw [b01_eq h26]; simp; done) | (rw [b01_eq h18]; simp; done) | (rw [b01_eq h11]; simp; done) | (rw [b01_eq h4]; simp)))
      · refine xj_iload (pc := 21) d_MO_translate_21 rfl ?_
        refine xj_callS (pc := 23) d_MO_translate_23 ml_MO_42 ok_MO_is (s_MO_is) rfl rfl rfl (Nat.le_of_ble_eq_true rfl) (by decide) ?_
        rintro rv I1 F1 ⟨rfl, rfl, rfl⟩
        dsimp only [Option.toList, List.cons_append, List.nil_append]
        refine xj_if_ne (pc := 26) (tgt := 31) d_MO_translate_26 (by decide) (fun h26 => ?_) (fun h26 => ?_)
        · have ha := b01_ne h4
          have hb := b01_ne h11
          have hc := b01_ne h18
          have hto := b01_ne h26
          rw [sp_translate, if_pos (by rw [ha, hb, hc, hto]; rfl)]
          obtain ⟨ka, hka, rfl, ta⟩ := isR_k ha
          obtain ⟨kb, hkb, rfl, tb⟩ := isR_k hb
          obtain ⟨kc, hkc, rfl, tc⟩ := isR_k hc
          obtain ⟨kt, hkt, rfl, tt⟩ := isR_k hto
          refine xj_aload_n (pc := 31) d_MO_translate_31 rfl rfl ?_
          refine xj_iconst (pc := 32) (v := 0) d_MO_translate_32 (by decide) ?_
          refine xj_putI (pc := 33) d_MO_translate_33 fl_MO_50 fp_MO_many rfl rfl ?_
          refine xj_iconst (pc := 36) (v := 0) d_MO_translate_36 (by decide) ?_
          refine xj_istore (pc := 37) d_MO_translate_37 (by decide) rfl ?_
          dsimp only [xset, xset2, xkill]
          exact t_MO_translate_l hI hka hkb hkc hkt (hI.at hka ta) (hI.at hkb tb) (hI.at hkc tc) _ 0 _ F (by rw [Nat.zero_add]) g0
        · refine xj_iconst (pc := 29) (v := -1) d_MO_translate_29 (by decide) ?_
          refine xj_iret (pc := 30) d_MO_translate_30 rfl ?_
          exact nk_none hI (if_neg (by first | (rw [b01_eq h26]; simp; done) | (rw [b01_eq h18]; simp; done) | (rw [b01_eq h11]; simp; done) | (rw [b01_eq h4]; simp)))
theorem t_MO_verify_l {kk other : Int32} {ka kb : Nat} {A B : List Int32} (hI : MI I F S) (ho : other = 0 ∨ other = 1) (hka : ka < 10) (hkb : kb < 10) (hA : Mr F ka A) (hB : Mr F kb B) : ∀ (m i : Nat), A.length - i = m → i < 2147483648 →
    XJ none m_MO_verify 26 [some (.ref 36), some (.int (nI ka)), some (.int (nI kb)), some (.int kk), some (.int other), some (.int (nI i))] [] I F (NQ (nI (ff (fun q => decide (A.getD q 0 ∈ B) != decide (other ≠ 0)) m i), S) I F) := by
  have sA := hA.sz
  have sB := hB.sz
  have h1 := hA.2.1
  have h2 := hB.2.1
  intro m
  induction m with
  | zero =>
    intro i hi hi2
    refine xj_iload (pc := 26) d_MO_verify_26 rfl ?_
    refine xj_aload_n (pc := 28) d_MO_verify_28 rfl rfl ?_
    refine xj_getR (pc := 29) d_MO_verify_29 fl_MO_16 rfl rfl ?_
    refine xj_iload_n (pc := 32) d_MO_verify_32 rfl rfl ?_
    refine xj_iald (pc := 33) d_MO_verify_33 (n := 10) (x := 21) rfl rfl hka (by decide) ?_
    refine xj_icmp_ge (pc := 34) (tgt := 79) d_MO_verify_34 (by decide) (fun h34 => ?_) (fun h34 => absurd (by rw [n_le, sA, n_nI (by omega)]; omega) h34)
    refine xj_iconst (pc := 79) (v := 0) d_MO_verify_79 (by decide) ?_
    refine xj_iret (pc := 80) d_MO_verify_80 rfl ?_
    exact nk_ans hI
  | succ m ih =>
    intro i hi hi2
    have hlt : i < A.length := by omega
    have hget : A[i]? = some A[i] := List.getElem?_eq_getElem hlt
    have hd : A.getD i 0 = A[i] := by rw [List.getD_eq_getElem?_getD, hget]; rfl
    have hple := pof_le B A[i]
    have hpl := pof_lt (L := B) (c := A[i])
    have hih := ih (i + 1) (by omega) (by omega)
    refine xj_iload (pc := 26) d_MO_verify_26 rfl ?_
    refine xj_aload_n (pc := 28) d_MO_verify_28 rfl rfl ?_
    refine xj_getR (pc := 29) d_MO_verify_29 fl_MO_16 rfl rfl ?_
    refine xj_iload_n (pc := 32) d_MO_verify_32 rfl rfl ?_
    refine xj_iald (pc := 33) d_MO_verify_33 (n := 10) (x := 21) rfl rfl hka (by decide) ?_
    refine xj_icmp_ge (pc := 34) (tgt := 79) d_MO_verify_34 (by decide) (fun h34 => absurd h34 (by rw [n_le, sA, n_nI (by omega)]; omega)) (fun h34 => ?_)
    refine xj_aload_n (pc := 37) d_MO_verify_37 rfl rfl ?_
    refine xj_aload_n (pc := 38) d_MO_verify_38 rfl rfl ?_
    refine xj_iload_n (pc := 39) d_MO_verify_39 rfl rfl ?_
    refine xj_iload (pc := 40) d_MO_verify_40 rfl ?_
    refine xj_callV (pc := 42) d_MO_verify_42 ml_MO_46 ok_MO_of (s_MO_ofL hka hA hget) rfl rfl rfl rfl rfl (Nat.le_of_ble_eq_true rfl) (by decide) ?_
    rintro rv I1 F1 ⟨rfl, rfl, rfl⟩
    dsimp only [Option.toList, List.cons_append, List.nil_append]
    refine xj_iload_n (pc := 45) d_MO_verify_45 rfl rfl ?_
    refine xj_callV (pc := 46) d_MO_verify_46 ml_MO_79 ok_MO_placeOf (s_MO_placeOf hkb hB) rfl rfl rfl rfl rfl (Nat.le_of_ble_eq_true rfl) (by decide) ?_
    rintro rv I1 F1 ⟨rfl, rfl, rfl⟩
    dsimp only [Option.toList, List.cons_append, List.nil_append]
    refine xj_aload_n (pc := 49) d_MO_verify_49 rfl rfl ?_
    refine xj_getR (pc := 50) d_MO_verify_50 fl_MO_16 rfl rfl ?_
    refine xj_iload_n (pc := 53) d_MO_verify_53 rfl rfl ?_
    refine xj_iald (pc := 54) d_MO_verify_54 (n := 10) (x := 21) rfl rfl hkb (by decide) ?_
    refine xj_icmp_ge (pc := 55) (tgt := 62) d_MO_verify_55 (by decide) (fun h55 => ?_) (fun h55 => ?_)
    · refine xj_iconst (pc := 62) (v := 0) d_MO_verify_62 (by decide) ?_
      refine xj_iload (pc := 63) d_MO_verify_63 rfl ?_
      refine xj_icmp_eq (pc := 65) (tgt := 73) d_MO_verify_65 (by decide) (fun h65 => ?_) (fun h65 => ?_)
      · refine xj_inc1 (pc := 73) d_MO_verify_73 rfl (by decide) rfl ?_
        dsimp only [xset, xset2, xkill]
        rw [n_up]
        refine xj_goto (pc := 76) (tgt := 26) d_MO_verify_76 (by decide) ?_
        rw [n_le, sB, n_nI (by omega)] at h55
        rw [ff, if_neg (by rw [hd]; rcases ho with rfl | rfl <;> first | exact absurd h65 (by decide) | (rw [decide_eq_true (hpl.mp (by omega))]; decide) | (rw [decide_eq_false (fun q => by have := hpl.mpr q; omega)]; decide))]
        exact hih
      · refine xj_iload (pc := 68) d_MO_verify_68 rfl ?_
        refine xj_iconst (pc := 70) (v := 1) d_MO_verify_70 (by decide) ?_
        refine xj_iadd (pc := 71) d_MO_verify_71 ?_
        refine xj_iret (pc := 72) d_MO_verify_72 rfl ?_
        rw [n_le, sB, n_nI (by omega)] at h55
        rw [ff, if_pos (by rw [hd]; rcases ho with rfl | rfl <;> first | exact absurd rfl h65 | (rw [decide_eq_true (hpl.mp (by omega))]; decide) | (rw [decide_eq_false (fun q => by have := hpl.mpr q; omega)]; decide)), n_up]
        exact nk_ans hI
    · refine xj_iconst (pc := 58) (v := 1) d_MO_verify_58 (by decide) ?_
      refine xj_goto (pc := 59) (tgt := 63) d_MO_verify_59 (by decide) ?_
      refine xj_iload (pc := 63) d_MO_verify_63 rfl ?_
      refine xj_icmp_eq (pc := 65) (tgt := 73) d_MO_verify_65 (by decide) (fun h65 => ?_) (fun h65 => ?_)
      · refine xj_inc1 (pc := 73) d_MO_verify_73 rfl (by decide) rfl ?_
        dsimp only [xset, xset2, xkill]
        rw [n_up]
        refine xj_goto (pc := 76) (tgt := 26) d_MO_verify_76 (by decide) ?_
        rw [n_le, sB, n_nI (by omega)] at h55
        rw [ff, if_neg (by rw [hd]; rcases ho with rfl | rfl <;> first | exact absurd h65 (by decide) | (rw [decide_eq_true (hpl.mp (by omega))]; decide) | (rw [decide_eq_false (fun q => by have := hpl.mpr q; omega)]; decide))]
        exact hih
      · refine xj_iload (pc := 68) d_MO_verify_68 rfl ?_
        refine xj_iconst (pc := 70) (v := 1) d_MO_verify_70 (by decide) ?_
        refine xj_iadd (pc := 71) d_MO_verify_71 ?_
        refine xj_iret (pc := 72) d_MO_verify_72 rfl ?_
        rw [n_le, sB, n_nI (by omega)] at h55
        rw [ff, if_pos (by rw [hd]; rcases ho with rfl | rfl <;> first | exact absurd rfl h65 | (rw [decide_eq_true (hpl.mp (by omega))]; decide) | (rw [decide_eq_false (fun q => by have := hpl.mpr q; omega)]; decide)), n_up]
        exact nk_ans hI
theorem t_MO_verify {a b k other : Int32} (hI : MI I F S) (ho : other = 0 ∨ other = 1) : XM m_MO_verify [.ref 36, .int a, .int b, .int k, .int other] I F (NQ (sp_verify S a b k other, S) I F) := by
  refine XM.of (by decide) (Nat.le_of_ble_eq_true rfl) ?_
  dsimp only [xargs]
  have := n_hi k
  refine xj_iload_n (pc := 0) d_MO_verify_0 rfl rfl ?_
  refine xj_callS (pc := 1) d_MO_verify_1 ml_MO_42 ok_MO_is (s_MO_is) rfl rfl rfl (Nat.le_of_ble_eq_true rfl) (by decide) ?_
  rintro rv I1 F1 ⟨rfl, rfl, rfl⟩
  dsimp only [Option.toList, List.cons_append, List.nil_append]
  refine xj_if_eq (pc := 4) (tgt := 19) d_MO_verify_4 (by decide) (fun h4 => ?_) (fun h4 => ?_)
  · refine xj_iconst (pc := 19) (v := -1) d_MO_verify_19 (by decide) ?_
    refine xj_iret (pc := 20) d_MO_verify_20 rfl ?_
    rw [sp_verify, if_neg (fun q => by simp only [Bool.and_eq_true, decide_eq_true_eq] at q; first | (rw [n_le, n_1] at h16; omega) | (rw [b01_eq h11] at q; simp at q; done) | (rw [b01_eq h4] at q; simp at q; done))]
    exact nk_ans hI
  · refine xj_iload_n (pc := 7) d_MO_verify_7 rfl rfl ?_
    refine xj_callS (pc := 8) d_MO_verify_8 ml_MO_42 ok_MO_is (s_MO_is) rfl rfl rfl (Nat.le_of_ble_eq_true rfl) (by decide) ?_
    rintro rv I1 F1 ⟨rfl, rfl, rfl⟩
    dsimp only [Option.toList, List.cons_append, List.nil_append]
    refine xj_if_eq (pc := 11) (tgt := 19) d_MO_verify_11 (by decide) (fun h11 => ?_) (fun h11 => ?_)
    · refine xj_iconst (pc := 19) (v := -1) d_MO_verify_19 (by decide) ?_
      refine xj_iret (pc := 20) d_MO_verify_20 rfl ?_
      rw [sp_verify, if_neg (fun q => by simp only [Bool.and_eq_true, decide_eq_true_eq] at q; first | (rw [n_le, n_1] at h16; omega) | (rw [b01_eq h11] at q; simp at q; done) | (rw [b01_eq h4] at q; simp at q; done))]
      exact nk_ans hI
    · refine xj_iload_n (pc := 14) d_MO_verify_14 rfl rfl ?_
      refine xj_iconst (pc := 15) (v := 1) d_MO_verify_15 (by decide) ?_
      refine xj_icmp_ge (pc := 16) (tgt := 21) d_MO_verify_16 (by decide) (fun h16 => ?_) (fun h16 => ?_)
      · have ha := b01_ne h4
        have hb := b01_ne h11
        rw [n_le, n_1] at h16
        rw [sp_verify, if_pos (by simp only [ha, hb, Bool.true_and, decide_eq_true_eq]; omega)]
        obtain ⟨ka, hka, rfl, ta⟩ := isR_k ha
        obtain ⟨kb, hkb, rfl, tb⟩ := isR_k hb
        refine xj_iload_n (pc := 21) d_MO_verify_21 rfl rfl ?_
        refine xj_iconst (pc := 22) (v := 1) d_MO_verify_22 (by decide) ?_
        refine xj_isub (pc := 23) d_MO_verify_23 ?_
        refine xj_istore (pc := 24) d_MO_verify_24 (by decide) rfl ?_
        dsimp only [xset, xset2, xkill]
        rw [n_of (x := k - 1) (n := k.toInt.toNat - 1) (by rw [n_k1 (by omega)]; omega)]
        exact t_MO_verify_l hI ho hka hkb (hI.at hka ta) (hI.at hkb tb) _ _ rfl (by omega)
      · refine xj_iconst (pc := 19) (v := -1) d_MO_verify_19 (by decide) ?_
        refine xj_iret (pc := 20) d_MO_verify_20 rfl ?_
        rw [sp_verify, if_neg (fun q => by simp only [Bool.and_eq_true, decide_eq_true_eq] at q; first | (rw [n_le, n_1] at h16; omega) | (rw [b01_eq h11] at q; simp at q; done) | (rw [b01_eq h4] at q; simp at q; done))]
        exact nk_ans hI
/-! turn -/
theorem s_MO_large {c : Int32} : XM m_MO_large [.int c] I F (xpi (up1 c) I F) := by
  refine XM.of (by decide) (Nat.le_of_ble_eq_true rfl) ?_
  dsimp only [xargs]
  refine xj_iload_n (pc := 0) d_MO_large_0 rfl rfl ?_
  refine xj_bipush (pc := 1) (v := 97) d_MO_large_1 (by decide) ?_
  refine xj_icmp_lt (pc := 3) (tgt := 19) d_MO_large_3 (by decide) (fun h3 => ?_) (fun h3 => ?_)
  · refine xj_iload_n (pc := 19) d_MO_large_19 rfl rfl ?_
    refine xj_iret (pc := 20) d_MO_large_20 rfl ?_
    first | (rw [up1, if_pos (by rw [n_le, n_le]; rw [n_lt] at h3 h9; omega)]; exact ⟨rfl, rfl, rfl⟩; done) | (rw [up1, if_neg (fun q => by have q1 := n_le.mp q.1; have q2 := n_le.mp q.2; first | (rw [n_lt] at h9; omega) | (rw [n_lt] at h3; omega))]; exact ⟨rfl, rfl, rfl⟩)
  · refine xj_iload_n (pc := 6) d_MO_large_6 rfl rfl ?_
    refine xj_bipush (pc := 7) (v := 122) d_MO_large_7 (by decide) ?_
    refine xj_icmp_gt (pc := 9) (tgt := 19) d_MO_large_9 (by decide) (fun h9 => ?_) (fun h9 => ?_)
    · refine xj_iload_n (pc := 19) d_MO_large_19 rfl rfl ?_
      refine xj_iret (pc := 20) d_MO_large_20 rfl ?_
      first | (rw [up1, if_pos (by rw [n_le, n_le]; rw [n_lt] at h3 h9; omega)]; exact ⟨rfl, rfl, rfl⟩; done) | (rw [up1, if_neg (fun q => by have q1 := n_le.mp q.1; have q2 := n_le.mp q.2; first | (rw [n_lt] at h9; omega) | (rw [n_lt] at h3; omega))]; exact ⟨rfl, rfl, rfl⟩)
    · refine xj_iload_n (pc := 12) d_MO_large_12 rfl rfl ?_
      refine xj_bipush (pc := 13) (v := 32) d_MO_large_13 (by decide) ?_
      refine xj_isub (pc := 15) d_MO_large_15 ?_
      refine xj_goto (pc := 16) (tgt := 20) d_MO_large_16 (by decide) ?_
      refine xj_iret (pc := 20) d_MO_large_20 rfl ?_
      first | (rw [up1, if_pos (by rw [n_le, n_le]; rw [n_lt] at h3 h9; omega)]; exact ⟨rfl, rfl, rfl⟩; done) | (rw [up1, if_neg (fun q => by have q1 := n_le.mp q.1; have q2 := n_le.mp q.2; first | (rw [n_lt] at h9; omega) | (rw [n_lt] at h3; omega))]; exact ⟨rfl, rfl, rfl⟩)
theorem s_MO_small {c : Int32} : XM m_MO_small [.int c] I F (xpi (lo1 c) I F) := by
  refine XM.of (by decide) (Nat.le_of_ble_eq_true rfl) ?_
  dsimp only [xargs]
  refine xj_iload_n (pc := 0) d_MO_small_0 rfl rfl ?_
  refine xj_bipush (pc := 1) (v := 65) d_MO_small_1 (by decide) ?_
  refine xj_icmp_lt (pc := 3) (tgt := 19) d_MO_small_3 (by decide) (fun h3 => ?_) (fun h3 => ?_)
  · refine xj_iload_n (pc := 19) d_MO_small_19 rfl rfl ?_
    refine xj_iret (pc := 20) d_MO_small_20 rfl ?_
    first | (rw [lo1, if_pos (by rw [n_le, n_le]; rw [n_lt] at h3 h9; omega)]; exact ⟨rfl, rfl, rfl⟩; done) | (rw [lo1, if_neg (fun q => by have q1 := n_le.mp q.1; have q2 := n_le.mp q.2; first | (rw [n_lt] at h9; omega) | (rw [n_lt] at h3; omega))]; exact ⟨rfl, rfl, rfl⟩)
  · refine xj_iload_n (pc := 6) d_MO_small_6 rfl rfl ?_
    refine xj_bipush (pc := 7) (v := 90) d_MO_small_7 (by decide) ?_
    refine xj_icmp_gt (pc := 9) (tgt := 19) d_MO_small_9 (by decide) (fun h9 => ?_) (fun h9 => ?_)
    · refine xj_iload_n (pc := 19) d_MO_small_19 rfl rfl ?_
      refine xj_iret (pc := 20) d_MO_small_20 rfl ?_
      first | (rw [lo1, if_pos (by rw [n_le, n_le]; rw [n_lt] at h3 h9; omega)]; exact ⟨rfl, rfl, rfl⟩; done) | (rw [lo1, if_neg (fun q => by have q1 := n_le.mp q.1; have q2 := n_le.mp q.2; first | (rw [n_lt] at h9; omega) | (rw [n_lt] at h3; omega))]; exact ⟨rfl, rfl, rfl⟩)
    · refine xj_iload_n (pc := 12) d_MO_small_12 rfl rfl ?_
      refine xj_bipush (pc := 13) (v := 32) d_MO_small_13 (by decide) ?_
      refine xj_iadd (pc := 15) d_MO_small_15 ?_
      refine xj_goto (pc := 16) (tgt := 20) d_MO_small_16 (by decide) ?_
      refine xj_iret (pc := 20) d_MO_small_20 rfl ?_
      first | (rw [lo1, if_pos (by rw [n_le, n_le]; rw [n_lt] at h3 h9; omega)]; exact ⟨rfl, rfl, rfl⟩; done) | (rw [lo1, if_neg (fun q => by have q1 := n_le.mp q.1; have q2 := n_le.mp q.2; first | (rw [n_lt] at h9; omega) | (rw [n_lt] at h3; omega))]; exact ⟨rfl, rfl, rfl⟩)
def Ub (F : XF) (f : Nat → Int32) : Prop := ∀ c, c < 256 → F 23 c = f c
theorem Ms.ub {f : Nat → Int32} (h : Ms M I F I1 F1) (hu : Ub F f) : Ub F1 f := fun c hc => by rw [h.2.1 23 (by decide)]; exact hu c hc
theorem ub_set {f : Nat → Int32} {c : Nat} {v : Int32} (hu : Ub F f) : Ub (va_up F 23 (upd (F 23) c v)) (upd f c v) := fun d hd => by
  simp only [va_up, if_pos, upd]
  split
  · rfl
  · exact hu d hd
theorem nx_u {f : Nat → Int32} : NX I F I (va_up F 23 f) := ⟨fun _ _ => rfl, fun x hx => by simp only [va_up, if_neg (show ¬ x = 23 by omega)]⟩
theorem Mb.u {f : Nat → Int32} (h : Mb I F M) : Mb I (va_up F 23 f) M := ⟨h.1, fun i b hi hb => by simp only [va_up, if_neg (show ¬ (22 : Nat) = 23 by decide)]; exact h.2 i b hi hb⟩
theorem t_MO_turn_z {how : Int32} {ka kt : Nat} {n : Int32} {P : XP} (hX : NX I F I1 F1) (hM : Mb I1 F1 []) (k2 : ∀ F2, NX I F I1 F2 → Mb I1 F2 [] → Ub F2 (fun _ => 0) → XJ none m_MO_turn 63 [some (.ref 36), some (.int how), some (.int (nI ka)), some (.int (nI kt)), some (.int n)] [] I1 F2 P) : ∀ (m i : Nat) (F2 : XF), i + m = 256 → (∀ x, x ≠ 23 → F2 x = F1 x) → (∀ c, c < i → F2 23 c = 0) →
    XJ none m_MO_turn 41 [some (.ref 36), some (.int how), some (.int (nI ka)), some (.int (nI kt)), some (.int n), some (.int (nI i))] [] I1 F2 P := by
  intro m
  induction m with
  | zero =>
    intro i F2 hi h1 h2
    refine xj_iload (pc := 41) d_MO_turn_41 rfl ?_
    refine xj_sipush (pc := 43) (v := 256) d_MO_turn_43 (by decide) ?_
    refine xj_icmp_ge (pc := 46) (tgt := 63) d_MO_turn_46 (by decide) (fun h46 => ?_) (fun h46 => absurd (by rw [n_le, n_256, n_nI (by omega)]; omega) h46)
    exact xj_take 5 (k2 F2 ⟨hX.1, fun x hx => by rw [h1 x (by omega)]; exact hX.2 x hx⟩ ⟨hM.1, fun i b hi hb => by simp at hb⟩ (fun c hc => h2 c (by omega)))
  | succ m ih =>
    intro i F2 hi h1 h2
    refine xj_iload (pc := 41) d_MO_turn_41 rfl ?_
    refine xj_sipush (pc := 43) (v := 256) d_MO_turn_43 (by decide) ?_
    refine xj_icmp_ge (pc := 46) (tgt := 63) d_MO_turn_46 (by decide) (fun h46 => absurd h46 (by rw [n_le, n_256, n_nI (by omega)]; omega)) (fun h46 => ?_)
    refine xj_aload_n (pc := 49) d_MO_turn_49 rfl rfl ?_
    refine xj_getR (pc := 50) d_MO_turn_50 fl_MO_22 rfl rfl ?_
    refine xj_iload (pc := 53) d_MO_turn_53 rfl ?_
    refine xj_iconst (pc := 55) (v := 0) d_MO_turn_55 (by decide) ?_
    refine xj_iast (pc := 56) d_MO_turn_56 (n := 256) (x := 23) rfl rfl (by omega) (by decide) ?_
    refine xj_inc1 (pc := 57) d_MO_turn_57 rfl (by decide) rfl ?_
    dsimp only [xset, xset2, xkill]
    rw [n_up]
    refine xj_goto (pc := 60) (tgt := 41) d_MO_turn_60 (by decide) ?_
    refine ih (i + 1) _ (by omega) (fun x hx => by simp only [va_up, if_neg hx]; exact h1 x hx) (fun c hc => ?_)
    simp only [va_up, if_pos, upd]
    split
    · rfl
    · exact h2 c (by omega)
/-- the loop over the bytes; what is added at each is told by g -/
theorem t_MO_turn_s {how : Int32} {ka kt i c : Nat} {P : XP} (hka : ka < 10) (hL : Mr F ka L) (hc : c < 256) (hget : L[i]? = some (nI c)) (hX : NX I F I1 F1) (hM : Mb I1 F1 M) (hU : Ub F1 (cn1 L i)) (hP : ∀ F2, NX I F I1 F2 → Mb I1 F2 M → Ub F2 (cn1 L (i + 1)) → XJ none m_MO_turn 93 [some (.ref 36), some (.int how), some (.int (nI ka)), some (.int (nI kt)), some (.int (nI L.length)), some (.int (nI i)), some (.int (nI c))] [] I1 F2 P) : XJ none m_MO_turn 66 [some (.ref 36), some (.int how), some (.int (nI ka)), some (.int (nI kt)), some (.int (nI L.length)), some (.int (nI i))] [] I1 F1 P := by
  have hlt := (List.getElem?_eq_some_iff.mp hget).1
  have h200 := hL.2.1
  refine xj_iload (pc := 66) d_MO_turn_66 rfl ?_
  refine xj_iload (pc := 68) d_MO_turn_68 rfl ?_
  refine xj_icmp_ge (pc := 70) (tgt := 178) d_MO_turn_70 (by decide) (fun h70 => absurd h70 (by rw [n_le, n_nI (by omega), n_nI (by omega)]; omega)) (fun h70 => ?_)
  refine xj_aload_n (pc := 73) d_MO_turn_73 rfl rfl ?_
  refine xj_iload_n (pc := 74) d_MO_turn_74 rfl rfl ?_
  refine xj_iload (pc := 75) d_MO_turn_75 rfl ?_
  refine xj_callV (pc := 77) d_MO_turn_77 ml_MO_46 ok_MO_of (s_MO_ofL hka (hX.mr hL) hget) rfl rfl rfl rfl rfl (Nat.le_of_ble_eq_true rfl) (by decide) ?_
  rintro rv I1 F1 ⟨rfl, rfl, rfl⟩
  dsimp only [Option.toList, List.cons_append, List.nil_append]
  refine xj_istore (pc := 80) d_MO_turn_80 (by decide) rfl ?_
  dsimp only [xset, xset2, xkill]
  refine xj_aload_n (pc := 82) d_MO_turn_82 rfl rfl ?_
  refine xj_getR (pc := 83) d_MO_turn_83 fl_MO_22 rfl rfl ?_
  refine xj_iload (pc := 86) d_MO_turn_86 rfl ?_
  refine xj_dup2 (pc := 88) d_MO_turn_88 rfl rfl ?_
  refine xj_iald (pc := 89) d_MO_turn_89 (n := 256) (x := 23) rfl rfl hc (by decide) ?_
  refine xj_iconst (pc := 90) (v := 1) d_MO_turn_90 (by decide) ?_
  refine xj_iadd (pc := 91) d_MO_turn_91 ?_
  refine xj_iast (pc := 92) d_MO_turn_92 (n := 256) (x := 23) rfl rfl hc (by decide) ?_
  refine hP _ (hX.tr nx_u) hM.u (fun d hd => ?_)
  rw [ub_set hU d hd, hU c hc, cn_up hget hc (by omega) d hd]
theorem t_MO_turn_l {how : Int32} {ka kt : Nat} {P : XP} (R : Nat → List Int32) (hka : ka < 10) (hL : Mr F ka L) (hb : ∀ x ∈ L, bt x) (k2 : ∀ (I2 : XI) (F2 : XF), NX I F I2 F2 → Mb I2 F2 (R L.length) → Ub F2 (cn1 L L.length) → XJ none m_MO_turn 178 [some (.ref 36), some (.int how), some (.int (nI ka)), some (.int (nI kt)), some (.int (nI L.length))] [] I2 F2 P)
    (hs : ∀ (i c : Nat) (I1 : XI) (F1 : XF), i < L.length → c < 256 → L[i]? = some (nI c) → NX I F I1 F1 → Mb I1 F1 (R i) → Ub F1 (cn1 L (i + 1)) → (∀ (I2 : XI) (F2 : XF), NX I F I2 F2 → Mb I2 F2 (R (i + 1)) → Ub F2 (cn1 L (i + 1)) → XJ none m_MO_turn 172 [some (.ref 36), some (.int how), some (.int (nI ka)), some (.int (nI kt)), some (.int (nI L.length)), some (.int (nI i)), some (.int (nI c))] [] I2 F2 P) → XJ none m_MO_turn 93 [some (.ref 36), some (.int how), some (.int (nI ka)), some (.int (nI kt)), some (.int (nI L.length)), some (.int (nI i)), some (.int (nI c))] [] I1 F1 P) : ∀ (m i : Nat) (I1 : XI) (F1 : XF), i + m = L.length → NX I F I1 F1 → Mb I1 F1 (R i) → Ub F1 (cn1 L i) →
    XJ none m_MO_turn 66 [some (.ref 36), some (.int how), some (.int (nI ka)), some (.int (nI kt)), some (.int (nI L.length)), some (.int (nI i))] [] I1 F1 P := by
  have h200 := hL.2.1
  intro m
  induction m with
  | zero =>
    intro i I1 F1 hi hX hM hU
    have ei : i = L.length := by omega
    subst ei
    refine xj_iload (pc := 66) d_MO_turn_66 rfl ?_
    refine xj_iload (pc := 68) d_MO_turn_68 rfl ?_
    refine xj_icmp_ge (pc := 70) (tgt := 178) d_MO_turn_70 (by decide) (fun h70 => ?_) (fun h70 => absurd (by rw [n_le]; omega) h70)
    exact xj_take 5 (k2 I1 F1 hX hM hU)
  | succ m ih =>
    intro i I1 F1 hi hX hM hU
    obtain ⟨c, hc, ec⟩ := bt_n (hb L[i] (List.getElem_mem _))
    have hget : L[i]? = some (nI c) := by rw [← ec]; exact List.getElem?_eq_getElem (by omega)
    refine t_MO_turn_s hka hL hc hget hX hM hU (fun F2 g1 g2 g3 => ?_)
    refine hs i c I1 F2 (by omega) hc hget g1 g2 g3 (fun I3 F3 g4 g5 g6 => ?_)
    refine xj_inc1 (pc := 172) d_MO_turn_172 rfl (by decide) rfl ?_
    dsimp only [xset, xset2, xkill]
    rw [n_up]
    refine xj_goto (pc := 175) (tgt := 66) d_MO_turn_175 (by decide) ?_
    exact xj_take 6 (ih (i + 1) I3 F3 (by omega) g4 g5 g6)
theorem t_MO_turn_e {how : Int32} {ka kt : Nat} {n : Int32} (hI : MI I F S) (hh : ¬ how = 3) (hkt : kt < 10) (hX : NX I F I1 F1) (hM : Mb I1 F1 X) (e : X = M) : XJ none m_MO_turn 178 [some (.ref 36), some (.int how), some (.int (nI ka)), some (.int (nI kt)), some (.int n)] [] I1 F1 (NQ (sMk S (nI kt) M) I F) := by
  subst e
  refine xj_iconst (pc := 178) (v := 0) d_MO_turn_178 (by decide) ?_
  refine xj_istore (pc := 179) d_MO_turn_179 (by decide) rfl ?_
  dsimp only [xset, xset2, xkill]
  refine xj_iload (pc := 181) d_MO_turn_181 rfl ?_
  refine xj_sipush (pc := 183) (v := 256) d_MO_turn_183 (by decide) ?_
  refine xj_icmp_ge (pc := 186) (tgt := 227) d_MO_turn_186 (by decide) (fun h186 => absurd h186 (by decide)) (fun h186 => ?_)
  refine xj_iload_n (pc := 189) d_MO_turn_189 rfl rfl ?_
  refine xj_iconst (pc := 190) (v := 3) d_MO_turn_190 (by decide) ?_
  refine xj_icmp_ne (pc := 191) (tgt := 227) d_MO_turn_191 (by decide) (fun h191 => ?_) (fun h191 => absurd h191 (hh))
  refine xj_aload_n (pc := 227) d_MO_turn_227 rfl rfl ?_
  refine xj_iload_n (pc := 228) d_MO_turn_228 rfl rfl ?_
  refine xj_callV (pc := 229) d_MO_turn_229 ml_MO_64 ok_MO_keep (s_MO_keep hI hX hM hkt) rfl rfl rfl rfl rfl (Nat.le_of_ble_eq_true rfl) (by decide) ?_
  rintro rv I4 F4 ⟨rfl, g4⟩
  dsimp only [Option.toList, List.cons_append, List.nil_append]
  refine xj_iret (pc := 232) d_MO_turn_232 rfl ?_
  exact ⟨rfl, g4⟩
theorem t_MO_turn_i {how : Int32} {ka kt c cnt0 : Nat} {n : Int32} {P : XP} (hc : c < 256) (hcn : cnt0 ≤ 1000) (k2 : ∀ (I2 : XI) (F2 : XF), Ms (M ++ List.replicate cnt0 (nI c)) I F I2 F2 → XJ none m_MO_turn 221 [some (.ref 36), some (.int how), some (.int (nI ka)), some (.int (nI kt)), some (.int n), some (.int (nI c))] [] I2 F2 P) (hF : F 23 c = nI cnt0) : ∀ (m i : Nat) (I1 : XI) (F1 : XF), i + m = cnt0 → Ms (M ++ List.replicate i (nI c)) I F I1 F1 →
    XJ none m_MO_turn 197 [some (.ref 36), some (.int how), some (.int (nI ka)), some (.int (nI kt)), some (.int n), some (.int (nI c)), some (.int (nI i))] [] I1 F1 P := by
  intro m
  induction m with
  | zero =>
    intro i I1 F1 hi g1
    refine xj_iload (pc := 197) d_MO_turn_197 rfl ?_
    refine xj_aload_n (pc := 199) d_MO_turn_199 rfl rfl ?_
    refine xj_getR (pc := 200) d_MO_turn_200 fl_MO_22 rfl rfl ?_
    refine xj_iload (pc := 203) d_MO_turn_203 rfl ?_
    refine xj_iald (pc := 205) d_MO_turn_205 (n := 256) (x := 23) rfl rfl hc (by decide) ?_
    refine xj_icmp_ge (pc := 206) (tgt := 221) d_MO_turn_206 (by decide) (fun h206 => ?_) (fun h206 => absurd (by rw [g1.2.1 23 (by decide), hF, n_le, n_nI (by omega), n_nI (by omega)]; omega) h206)
    exact xj_take 6 (k2 I1 F1 (by rw [← show i = cnt0 by omega]; exact g1))
  | succ m ih =>
    intro i I1 F1 hi g1
    refine xj_iload (pc := 197) d_MO_turn_197 rfl ?_
    refine xj_aload_n (pc := 199) d_MO_turn_199 rfl rfl ?_
    refine xj_getR (pc := 200) d_MO_turn_200 fl_MO_22 rfl rfl ?_
    refine xj_iload (pc := 203) d_MO_turn_203 rfl ?_
    refine xj_iald (pc := 205) d_MO_turn_205 (n := 256) (x := 23) rfl rfl hc (by decide) ?_
    refine xj_icmp_ge (pc := 206) (tgt := 221) d_MO_turn_206 (by decide) (fun h206 => absurd h206 (by rw [g1.2.1 23 (by decide), hF, n_le, n_nI (by omega), n_nI (by omega)]; omega)) (fun h206 => ?_)
    refine xj_aload_n (pc := 209) d_MO_turn_209 rfl rfl ?_
    refine xj_iload (pc := 210) d_MO_turn_210 rfl ?_
    refine xj_callV (pc := 212) d_MO_turn_212 ml_MO_53 ok_MO_add (s_MO_add g1.2.2) rfl rfl rfl rfl rfl (Nat.le_of_ble_eq_true rfl) (by decide) ?_
    rintro rv I2 F2 ⟨rfl, g2⟩
    rw [List.append_assoc, ← List.replicate_succ'] at g2
    replace g2 := g1.tr g2
    dsimp only [Option.toList, List.cons_append, List.nil_append]
    refine xj_inc1 (pc := 215) d_MO_turn_215 rfl (by decide) rfl ?_
    dsimp only [xset, xset2, xkill]
    rw [n_up]
    refine xj_goto (pc := 218) (tgt := 197) d_MO_turn_218 (by decide) ?_
    exact ih (i + 1) I2 F2 (by omega) g2
theorem t_MO_turn_o {ka kt : Nat} {n : Int32} (hI : MI I F S) (hkt : kt < 10) (hl : L.length ≤ 200) : ∀ (m c : Nat) (I1 : XI) (F1 : XF), c + m = 256 → NX I F I1 F1 → Mb I1 F1 (srt L c) → Ub F1 (cn1 L L.length) →
    XJ none m_MO_turn 181 [some (.ref 36), some (.int 3), some (.int (nI ka)), some (.int (nI kt)), some (.int n), some (.int (nI c))] [] I1 F1 (NQ (sMk S (nI kt) (srt L 256)) I F) := by
  intro m
  induction m with
  | zero =>
    intro c I1 F1 hc hX hM hU
    refine xj_iload (pc := 181) d_MO_turn_181 rfl ?_
    refine xj_sipush (pc := 183) (v := 256) d_MO_turn_183 (by decide) ?_
    refine xj_icmp_ge (pc := 186) (tgt := 227) d_MO_turn_186 (by decide) (fun h186 => ?_) (fun h186 => absurd (by rw [n_le, n_256, n_nI (by omega)]; omega) h186)
    refine xj_aload_n (pc := 227) d_MO_turn_227 rfl rfl ?_
    refine xj_iload_n (pc := 228) d_MO_turn_228 rfl rfl ?_
    refine xj_callV (pc := 229) d_MO_turn_229 ml_MO_64 ok_MO_keep (s_MO_keep hI hX hM hkt) rfl rfl rfl rfl rfl (Nat.le_of_ble_eq_true rfl) (by decide) ?_
    rintro rv I4 F4 ⟨rfl, g4⟩
    dsimp only [Option.toList, List.cons_append, List.nil_append]
    refine xj_iret (pc := 232) d_MO_turn_232 rfl ?_
    exact nk_E ⟨rfl, g4⟩ (by rw [show c = 256 by omega])
  | succ m ih =>
    intro c I1 F1 hc hX hM hU
    have hF : F1 23 c = nI (L.count (nI c)) := by rw [hU c (by omega), cn1, List.take_length]
    have hcl := List.count_le_length (a := nI c) (l := L)
    have hnx : ∀ (I2 : XI) (F2 : XF), Ms (srt L c ++ List.replicate (L.count (nI c)) (nI c)) I1 F1 I2 F2 → XJ none m_MO_turn 221 [some (.ref 36), some (.int 3), some (.int (nI ka)), some (.int (nI kt)), some (.int n), some (.int (nI c))] [] I2 F2 (NQ (sMk S (nI kt) (srt L 256)) I F) := by
      intro I2 F2 g2
      rw [← srt_succ] at g2
      refine xj_inc1 (pc := 221) d_MO_turn_221 rfl (by decide) rfl ?_
      dsimp only [xset, xset2, xkill]
      rw [n_up]
      refine xj_goto (pc := 224) (tgt := 181) d_MO_turn_224 (by decide) ?_
      exact ih (c + 1) I2 F2 (by omega) (hX.tr g2.nx) g2.2.2 (g2.ub hU)
    refine xj_iload (pc := 181) d_MO_turn_181 rfl ?_
    refine xj_sipush (pc := 183) (v := 256) d_MO_turn_183 (by decide) ?_
    refine xj_icmp_ge (pc := 186) (tgt := 227) d_MO_turn_186 (by decide) (fun h186 => absurd h186 (by rw [n_le, n_256, n_nI (by omega)]; omega)) (fun h186 => ?_)
    refine xj_iload_n (pc := 189) d_MO_turn_189 rfl rfl ?_
    refine xj_iconst (pc := 190) (v := 3) d_MO_turn_190 (by decide) ?_
    refine xj_icmp_ne (pc := 191) (tgt := 227) d_MO_turn_191 (by decide) (fun h191 => absurd (rfl) h191) (fun h191 => ?_)
    refine xj_iconst (pc := 194) (v := 0) d_MO_turn_194 (by decide) ?_
    refine xj_istore (pc := 195) d_MO_turn_195 (by decide) rfl ?_
    dsimp only [xset, xset2, xkill]
    exact t_MO_turn_i (by omega) (by omega) hnx hF _ 0 I1 F1 (by rw [Nat.zero_add]) (Ms.rf (by rw [List.replicate_zero, List.append_nil]; exact hM))
end MOG
