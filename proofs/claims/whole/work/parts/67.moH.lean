section MOH
variable {I I1 I2 : XI} {F F1 F2 : XF} {S : XSt} {r k : Nat} {M X L T : List Int32}
theorem once_snoc (b : Int32) : ∀ (X seen : List Int32), once seen (X ++ [b]) = once seen X ++ (if b ∈ seen ∨ b ∈ X then [] else [b])
  | [], seen => by
    rw [List.nil_append, once, once]
    by_cases h : b ∈ seen
    · simp [h, once]
    · simp [h, once]
  | x :: t, seen => by
    rw [List.cons_append, once, once]
    by_cases h : x ∈ seen
    · rw [if_pos h, if_pos h, once_snoc b t seen]
      congr 1
      by_cases h1 : b = x
      · subst h1; simp [h]
      · simp [h1]
    · rw [if_neg h, if_neg h, once_snoc b t (x :: seen), List.cons_append]
      congr 2
      by_cases h1 : b = x <;> simp [h1]
theorem rev_get {L : List Int32} {i : Nat} (h : i < L.length) : ∃ b, L[L.length - 1 - i]? = some b ∧ L.reverse[i]? = some b := by
  refine ⟨_, List.getElem?_eq_getElem (show L.length - 1 - i < L.length by omega), ?_⟩
  rw [List.getElem?_reverse h]; exact List.getElem?_eq_getElem _
theorem t_MO_turn {how a to : Int32} (hS : OKS S) (hI : MI I F S) : XM m_MO_turn [.ref 36, .int how, .int a, .int to] I F (NQ (sp_turn S how a to) I F) := by
  refine XM.of (by decide) (Nat.le_of_ble_eq_true rfl) ?_
  dsimp only [xargs]
  have g0 : Ms [] I F (upd I 18 0) F := Ms.zero
  have hmid : ∀ (ka kt : Nat) (F2 : XF), ka < 10 → kt < 10 → (nI ka).toInt.toNat = ka → 0 ≤ how.toInt → how.toInt ≤ 4 → NX I F (upd I 18 0) F2 → Mb (upd I 18 0) F2 [] → Ub F2 (fun _ => 0) → XJ none m_MO_turn 66 [some (.ref 36), some (.int how), some (.int (nI ka)), some (.int (nI kt)), some (.int (nI (sR S (nI ka)).length)), some (.int (nI 0))] [] (upd I 18 0) F2 (NQ (sMk S (nI kt) (m_turn (sR S (nI ka)) how)) I F) := by
    intro ka kt F2 hka hkt ha h0 h4 gx gm gu
    have hL := hI.at hka ha
    have h200 := hL.2.1
    have hbb := hS.bb hka ha
    have gu0 : Ub F2 (cn1 (sR S (nI ka)) 0) := fun c hc => by rw [gu c hc]; simp [cn1]; rfl
    rcases (show how.toInt = 0 ∨ how.toInt = 1 ∨ how.toInt = 2 ∨ how.toInt = 3 ∨ how.toInt = 4 by omega) with q | q | q | q | q
    · obtain rfl : how = 0 := n_eq.mpr q
      refine t_MO_turn_l (fun i => (sR S (nI ka)).reverse.take i) hka hL hbb (fun I3 F3 g1 g2 g3 => t_MO_turn_e hI (by decide) hkt g1 g2 (by rw [← List.length_reverse (as := sR S (nI ka)), List.take_length]; rfl)) (fun i c I3 F3 hi hc hget g1 g2 g3 kk => ?_) _ 0 _ F2 (by rw [Nat.zero_add]) gx gm gu0
      obtain ⟨b, hgr, hge2⟩ := rev_get hi
      refine xj_iload_n (pc := 93) d_MO_turn_93 rfl rfl ?_
      refine xj_if_ne (pc := 94) (tgt := 116) d_MO_turn_94 (by decide) (fun h94 => absurd (rfl) h94) (fun h94 => ?_)
      refine xj_aload_n (pc := 97) d_MO_turn_97 rfl rfl ?_
      refine xj_aload_n (pc := 98) d_MO_turn_98 rfl rfl ?_
      refine xj_iload_n (pc := 99) d_MO_turn_99 rfl rfl ?_
      refine xj_iload (pc := 100) d_MO_turn_100 rfl ?_
      refine xj_iconst (pc := 102) (v := 1) d_MO_turn_102 (by decide) ?_
      refine xj_isub (pc := 103) d_MO_turn_103 ?_
      refine xj_iload (pc := 104) d_MO_turn_104 rfl ?_
      refine xj_isub (pc := 106) d_MO_turn_106 ?_
      rw [show nI (sR S (nI ka)).length - 1 - nI i = nI ((sR S (nI ka)).length - 1 - i) from n_of (by rw [n_sub (by rw [n_k1 (by rw [n_nI (by omega)]; omega), n_nI (by omega), n_nI (by omega)]; omega) (by rw [n_k1 (by rw [n_nI (by omega)]; omega), n_nI (by omega), n_nI (by omega)]; omega), n_k1 (by rw [n_nI (by omega)]; omega), n_nI (by omega), n_nI (by omega)]; omega)]
      refine xj_callV (pc := 107) d_MO_turn_107 ml_MO_46 ok_MO_of (s_MO_ofL hka (g1.mr hL) hgr) rfl rfl rfl rfl rfl (Nat.le_of_ble_eq_true rfl) (by decide) ?_
      rintro rv I1 F1 ⟨rfl, rfl, rfl⟩
      dsimp only [Option.toList, List.cons_append, List.nil_append]
      refine xj_callV (pc := 110) d_MO_turn_110 ml_MO_53 ok_MO_add (s_MO_add g2) rfl rfl rfl rfl rfl (Nat.le_of_ble_eq_true rfl) (by decide) ?_
      rintro rv I4 F4 ⟨rfl, g4⟩
      dsimp only [Option.toList, List.cons_append, List.nil_append]
      refine xj_goto (pc := 113) (tgt := 172) d_MO_turn_113 (by decide) ?_
      exact kk I4 F4 (g1.tr g4.nx) (by rw [List.take_add_one, hge2]; exact g4.2.2) (g4.ub g3)
    · obtain rfl : how = 1 := n_eq.mpr q
      refine t_MO_turn_l (fun i => ((sR S (nI ka)).take i).map up1) hka hL hbb (fun I3 F3 g1 g2 g3 => t_MO_turn_e hI (by decide) hkt g1 g2 (by rw [List.take_length]; rfl)) (fun i c I3 F3 hi hc hget g1 g2 g3 kk => ?_) _ 0 _ F2 (by rw [Nat.zero_add]) gx gm gu0
      refine xj_iload_n (pc := 93) d_MO_turn_93 rfl rfl ?_
      refine xj_if_ne (pc := 94) (tgt := 116) d_MO_turn_94 (by decide) (fun h94 => ?_) (fun h94 => absurd h94 (by decide))
      refine xj_iload_n (pc := 116) d_MO_turn_116 rfl rfl ?_
      refine xj_iconst (pc := 117) (v := 1) d_MO_turn_117 (by decide) ?_
      refine xj_icmp_ne (pc := 118) (tgt := 133) d_MO_turn_118 (by decide) (fun h118 => absurd (rfl) h118) (fun h118 => ?_)
      refine xj_aload_n (pc := 121) d_MO_turn_121 rfl rfl ?_
      refine xj_iload (pc := 122) d_MO_turn_122 rfl ?_
      refine xj_callS (pc := 124) d_MO_turn_124 ml_MO_73 ok_MO_large (s_MO_large) rfl rfl rfl (Nat.le_of_ble_eq_true rfl) (by decide) ?_
      rintro rv I1 F1 ⟨rfl, rfl, rfl⟩
      dsimp only [Option.toList, List.cons_append, List.nil_append]
      refine xj_callV (pc := 127) d_MO_turn_127 ml_MO_53 ok_MO_add (s_MO_add g2) rfl rfl rfl rfl rfl (Nat.le_of_ble_eq_true rfl) (by decide) ?_
      rintro rv I4 F4 ⟨rfl, g4⟩
      dsimp only [Option.toList, List.cons_append, List.nil_append]
      refine xj_goto (pc := 130) (tgt := 172) d_MO_turn_130 (by decide) ?_
      exact kk I4 F4 (g1.tr g4.nx) (by rw [List.take_add_one, hget, List.map_append]; exact g4.2.2) (g4.ub g3)
    · obtain rfl : how = 2 := n_eq.mpr q
      refine t_MO_turn_l (fun i => ((sR S (nI ka)).take i).map lo1) hka hL hbb (fun I3 F3 g1 g2 g3 => t_MO_turn_e hI (by decide) hkt g1 g2 (by rw [List.take_length]; rfl)) (fun i c I3 F3 hi hc hget g1 g2 g3 kk => ?_) _ 0 _ F2 (by rw [Nat.zero_add]) gx gm gu0
      refine xj_iload_n (pc := 93) d_MO_turn_93 rfl rfl ?_
      refine xj_if_ne (pc := 94) (tgt := 116) d_MO_turn_94 (by decide) (fun h94 => ?_) (fun h94 => absurd h94 (by decide))
      refine xj_iload_n (pc := 116) d_MO_turn_116 rfl rfl ?_
      refine xj_iconst (pc := 117) (v := 1) d_MO_turn_117 (by decide) ?_
      refine xj_icmp_ne (pc := 118) (tgt := 133) d_MO_turn_118 (by decide) (fun h118 => ?_) (fun h118 => absurd h118 (by decide))
      refine xj_iload_n (pc := 133) d_MO_turn_133 rfl rfl ?_
      refine xj_iconst (pc := 134) (v := 2) d_MO_turn_134 (by decide) ?_
      refine xj_icmp_ne (pc := 135) (tgt := 150) d_MO_turn_135 (by decide) (fun h135 => absurd (rfl) h135) (fun h135 => ?_)
      refine xj_aload_n (pc := 138) d_MO_turn_138 rfl rfl ?_
      refine xj_iload (pc := 139) d_MO_turn_139 rfl ?_
      refine xj_callS (pc := 141) d_MO_turn_141 ml_MO_76 ok_MO_small (s_MO_small) rfl rfl rfl (Nat.le_of_ble_eq_true rfl) (by decide) ?_
      rintro rv I1 F1 ⟨rfl, rfl, rfl⟩
      dsimp only [Option.toList, List.cons_append, List.nil_append]
      refine xj_callV (pc := 144) d_MO_turn_144 ml_MO_53 ok_MO_add (s_MO_add g2) rfl rfl rfl rfl rfl (Nat.le_of_ble_eq_true rfl) (by decide) ?_
      rintro rv I4 F4 ⟨rfl, g4⟩
      dsimp only [Option.toList, List.cons_append, List.nil_append]
      refine xj_goto (pc := 147) (tgt := 172) d_MO_turn_147 (by decide) ?_
      exact kk I4 F4 (g1.tr g4.nx) (by rw [List.take_add_one, hget, List.map_append]; exact g4.2.2) (g4.ub g3)
    · obtain rfl : how = 3 := n_eq.mpr q
      have hend : ∀ (I3 : XI) (F3 : XF), NX I F I3 F3 → Mb I3 F3 [] → Ub F3 (cn1 (sR S (nI ka)) (sR S (nI ka)).length) → XJ none m_MO_turn 178 [some (.ref 36), some (.int 3), some (.int (nI ka)), some (.int (nI kt)), some (.int (nI (sR S (nI ka)).length))] [] I3 F3 (NQ (sMk S (nI kt) (m_turn (sR S (nI ka)) 3)) I F) := by
        intro I3 F3 g1 g2 g3
        refine xj_iconst (pc := 178) (v := 0) d_MO_turn_178 (by decide) ?_
        refine xj_istore (pc := 179) d_MO_turn_179 (by decide) rfl ?_
        dsimp only [xset, xset2, xkill]
        exact t_MO_turn_o hI hkt h200 256 0 I3 F3 (by omega) g1 g2 g3
      refine t_MO_turn_l (fun i => []) hka hL hbb (fun I3 F3 g1 g2 g3 => hend I3 F3 g1 g2 g3) (fun i c I3 F3 hi hc hget g1 g2 g3 kk => ?_) _ 0 _ F2 (by rw [Nat.zero_add]) gx gm gu0
      refine xj_iload_n (pc := 93) d_MO_turn_93 rfl rfl ?_
      refine xj_if_ne (pc := 94) (tgt := 116) d_MO_turn_94 (by decide) (fun h94 => ?_) (fun h94 => absurd h94 (by decide))
      refine xj_iload_n (pc := 116) d_MO_turn_116 rfl rfl ?_
      refine xj_iconst (pc := 117) (v := 1) d_MO_turn_117 (by decide) ?_
      refine xj_icmp_ne (pc := 118) (tgt := 133) d_MO_turn_118 (by decide) (fun h118 => ?_) (fun h118 => absurd h118 (by decide))
      refine xj_iload_n (pc := 133) d_MO_turn_133 rfl rfl ?_
      refine xj_iconst (pc := 134) (v := 2) d_MO_turn_134 (by decide) ?_
      refine xj_icmp_ne (pc := 135) (tgt := 150) d_MO_turn_135 (by decide) (fun h135 => ?_) (fun h135 => absurd h135 (by decide))
      refine xj_iload_n (pc := 150) d_MO_turn_150 rfl rfl ?_
      refine xj_iconst (pc := 151) (v := 4) d_MO_turn_151 (by decide) ?_
      refine xj_icmp_ne (pc := 152) (tgt := 172) d_MO_turn_152 (by decide) (fun h152 => ?_) (fun h152 => absurd h152 (by decide))
      exact kk I3 F3 g1 g2 g3
    · obtain rfl : how = 4 := n_eq.mpr q
      refine t_MO_turn_l (fun i => once [] ((sR S (nI ka)).take i)) hka hL hbb (fun I3 F3 g1 g2 g3 => t_MO_turn_e hI (by decide) hkt g1 g2 (by rw [List.take_length]; rfl)) (fun i c I3 F3 hi hc hget g1 g2 g3 kk => ?_) _ 0 _ F2 (by rw [Nat.zero_add]) gx gm gu0
      have hon := once_snoc (nI c) ((sR S (nI ka)).take i) []
      have hta : (sR S (nI ka)).take (i + 1) = (sR S (nI ka)).take i ++ [nI c] := by rw [List.take_add_one, hget]; rfl
      have hu : F3 23 c = nI (((sR S (nI ka)).take i).count (nI c) + 1) := by rw [g3 c hc, cn1, hta, List.count_append]; simp
      have hcl := List.count_le_length (a := nI c) (l := (sR S (nI ka)).take i)
      rw [List.length_take] at hcl
      refine xj_iload_n (pc := 93) d_MO_turn_93 rfl rfl ?_
      refine xj_if_ne (pc := 94) (tgt := 116) d_MO_turn_94 (by decide) (fun h94 => ?_) (fun h94 => absurd h94 (by decide))
      refine xj_iload_n (pc := 116) d_MO_turn_116 rfl rfl ?_
      refine xj_iconst (pc := 117) (v := 1) d_MO_turn_117 (by decide) ?_
      refine xj_icmp_ne (pc := 118) (tgt := 133) d_MO_turn_118 (by decide) (fun h118 => ?_) (fun h118 => absurd h118 (by decide))
      refine xj_iload_n (pc := 133) d_MO_turn_133 rfl rfl ?_
      refine xj_iconst (pc := 134) (v := 2) d_MO_turn_134 (by decide) ?_
      refine xj_icmp_ne (pc := 135) (tgt := 150) d_MO_turn_135 (by decide) (fun h135 => ?_) (fun h135 => absurd h135 (by decide))
      refine xj_iload_n (pc := 150) d_MO_turn_150 rfl rfl ?_
      refine xj_iconst (pc := 151) (v := 4) d_MO_turn_151 (by decide) ?_
      refine xj_icmp_ne (pc := 152) (tgt := 172) d_MO_turn_152 (by decide) (fun h152 => absurd (rfl) h152) (fun h152 => ?_)
      refine xj_aload_n (pc := 155) d_MO_turn_155 rfl rfl ?_
      refine xj_getR (pc := 156) d_MO_turn_156 fl_MO_22 rfl rfl ?_
      refine xj_iload (pc := 159) d_MO_turn_159 rfl ?_
      refine xj_iald (pc := 161) d_MO_turn_161 (n := 256) (x := 23) rfl rfl hc (by decide) ?_
      refine xj_iconst (pc := 162) (v := 1) d_MO_turn_162 (by decide) ?_
      refine xj_icmp_ne (pc := 163) (tgt := 172) d_MO_turn_163 (by decide) (fun h163 => ?_) (fun h163 => ?_)
      · first | (rw [hu] at h163; have h1 : ((sR S (nI ka)).take i).count (nI c) + 1 = 1 := (pl_leq (b := 1) h163 (by omega) (by omega)); have hn : ¬ nI c ∈ (sR S (nI ka)).take i := (fun z => by have := List.count_pos_iff.mpr z; omega); rw [← hta, if_neg (by simp [hn])] at hon; exact kk I4 F4 (g1.tr g4.nx) (by rw [hon]; exact g4.2.2) (g4.ub g3); done) | (rw [hu] at h163; have hn : nI c ∈ (sR S (nI ka)).take i := (Decidable.byContradiction (fun z => h163 (by rw [List.count_eq_zero.mpr z]; rfl))); rw [← hta, if_pos (Or.inr hn), List.append_nil] at hon; exact kk I3 F3 g1 (by rw [hon]; exact g2) g3)
      · refine xj_aload_n (pc := 166) d_MO_turn_166 rfl rfl ?_
        refine xj_iload (pc := 167) d_MO_turn_167 rfl ?_
        refine xj_callV (pc := 169) d_MO_turn_169 ml_MO_53 ok_MO_add (s_MO_add g2) rfl rfl rfl rfl rfl (Nat.le_of_ble_eq_true rfl) (by decide) ?_
        rintro rv I4 F4 ⟨rfl, g4⟩
        dsimp only [Option.toList, List.cons_append, List.nil_append]
        first | (rw [hu] at h163; have h1 : ((sR S (nI ka)).take i).count (nI c) + 1 = 1 := (pl_leq (b := 1) h163 (by omega) (by omega)); have hn : ¬ nI c ∈ (sR S (nI ka)).take i := (fun z => by have := List.count_pos_iff.mpr z; omega); rw [← hta, if_neg (by simp [hn])] at hon; exact kk I4 F4 (g1.tr g4.nx) (by rw [hon]; exact g4.2.2) (g4.ub g3); done) | (rw [hu] at h163; have hn : nI c ∈ (sR S (nI ka)).take i := (Decidable.byContradiction (fun z => h163 (by rw [List.count_eq_zero.mpr z]; rfl))); rw [← hta, if_pos (Or.inr hn), List.append_nil] at hon; exact kk I3 F3 g1 (by rw [hon]; exact g2) g3)
  refine xj_iload_n (pc := 0) d_MO_turn_0 rfl rfl ?_
  refine xj_callS (pc := 1) d_MO_turn_1 ml_MO_42 ok_MO_is (s_MO_is) rfl rfl rfl (Nat.le_of_ble_eq_true rfl) (by decide) ?_
  rintro rv I1 F1 ⟨rfl, rfl, rfl⟩
  dsimp only [Option.toList, List.cons_append, List.nil_append]
  refine xj_if_eq (pc := 4) (tgt := 23) d_MO_turn_4 (by decide) (fun h4 => ?_) (fun h4 => ?_)
  · refine xj_iconst (pc := 23) (v := -1) d_MO_turn_23 (by decide) ?_
    refine xj_iret (pc := 24) d_MO_turn_24 rfl ?_
    exact nk_none hI (if_neg (fun q => by simp only [Bool.and_eq_true, decide_eq_true_eq] at q; first | (rw [n_le, n_4] at h20; omega) | (rw [n_lt, n_0] at h15; omega) | (rw [b01_eq h11] at q; simp at q; done) | (rw [b01_eq h4] at q; simp at q; done)))
  · refine xj_iload_n (pc := 7) d_MO_turn_7 rfl rfl ?_
    refine xj_callS (pc := 8) d_MO_turn_8 ml_MO_42 ok_MO_is (s_MO_is) rfl rfl rfl (Nat.le_of_ble_eq_true rfl) (by decide) ?_
    rintro rv I1 F1 ⟨rfl, rfl, rfl⟩
    dsimp only [Option.toList, List.cons_append, List.nil_append]
    refine xj_if_eq (pc := 11) (tgt := 23) d_MO_turn_11 (by decide) (fun h11 => ?_) (fun h11 => ?_)
    · refine xj_iconst (pc := 23) (v := -1) d_MO_turn_23 (by decide) ?_
      refine xj_iret (pc := 24) d_MO_turn_24 rfl ?_
      exact nk_none hI (if_neg (fun q => by simp only [Bool.and_eq_true, decide_eq_true_eq] at q; first | (rw [n_le, n_4] at h20; omega) | (rw [n_lt, n_0] at h15; omega) | (rw [b01_eq h11] at q; simp at q; done) | (rw [b01_eq h4] at q; simp at q; done)))
    · refine xj_iload_n (pc := 14) d_MO_turn_14 rfl rfl ?_
      refine xj_if_lt (pc := 15) (tgt := 23) d_MO_turn_15 (by decide) (fun h15 => ?_) (fun h15 => ?_)
      · refine xj_iconst (pc := 23) (v := -1) d_MO_turn_23 (by decide) ?_
        refine xj_iret (pc := 24) d_MO_turn_24 rfl ?_
        exact nk_none hI (if_neg (fun q => by simp only [Bool.and_eq_true, decide_eq_true_eq] at q; first | (rw [n_le, n_4] at h20; omega) | (rw [n_lt, n_0] at h15; omega) | (rw [b01_eq h11] at q; simp at q; done) | (rw [b01_eq h4] at q; simp at q; done)))
      · refine xj_iload_n (pc := 18) d_MO_turn_18 rfl rfl ?_
        refine xj_iconst (pc := 19) (v := 4) d_MO_turn_19 (by decide) ?_
        refine xj_icmp_le (pc := 20) (tgt := 25) d_MO_turn_20 (by decide) (fun h20 => ?_) (fun h20 => ?_)
        · have ha := b01_ne h4
          have hto := b01_ne h11
          rw [n_lt, n_0] at h15
          rw [n_le, n_4] at h20
          rw [sp_turn, if_pos (by simp only [ha, hto, Bool.true_and, decide_eq_true_eq]; omega)]
          obtain ⟨ka, hka, rfl, ta⟩ := isR_k ha
          obtain ⟨kt, hkt, rfl, tt⟩ := isR_k hto
          have hL := hI.at hka ta
          refine xj_aload_n (pc := 25) d_MO_turn_25 rfl rfl ?_
          refine xj_iconst (pc := 26) (v := 0) d_MO_turn_26 (by decide) ?_
          refine xj_putI (pc := 27) d_MO_turn_27 fl_MO_50 fp_MO_many rfl rfl ?_
          refine xj_aload_n (pc := 30) d_MO_turn_30 rfl rfl ?_
          refine xj_getR (pc := 31) d_MO_turn_31 fl_MO_16 rfl rfl ?_
          refine xj_iload_n (pc := 34) d_MO_turn_34 rfl rfl ?_
          refine xj_iald (pc := 35) d_MO_turn_35 (n := 10) (x := 21) rfl rfl hka (by decide) ?_
          rw [hL.1]
          refine xj_istore (pc := 36) d_MO_turn_36 (by decide) rfl ?_
          dsimp only [xset, xset2, xkill]
          refine xj_iconst (pc := 38) (v := 0) d_MO_turn_38 (by decide) ?_
          refine xj_istore (pc := 39) d_MO_turn_39 (by decide) rfl ?_
          dsimp only [xset, xset2, xkill]
          refine t_MO_turn_z (NX.rf.tr g0.nx) g0.2.2 (fun F2 g1 g2 g3 => ?_) 256 0 F rfl (fun _ _ => rfl) (fun c hc => absurd hc (by omega))
          refine xj_iconst (v := 0) (pc := 63) d_MO_turn_63 (by decide) ?_
          refine xj_istore (pc := 64) d_MO_turn_64 (by decide) rfl ?_
          dsimp only [xset, xset2, xkill]
          exact hmid ka kt F2 hka hkt ta (by omega) (by omega) g1 g2 g3
        · refine xj_iconst (pc := 23) (v := -1) d_MO_turn_23 (by decide) ?_
          refine xj_iret (pc := 24) d_MO_turn_24 rfl ?_
          exact nk_none hI (if_neg (fun q => by simp only [Bool.and_eq_true, decide_eq_true_eq] at q; first | (rw [n_le, n_4] at h20; omega) | (rw [n_lt, n_0] at h15; omega) | (rw [b01_eq h11] at q; simp at q; done) | (rw [b01_eq h4] at q; simp at q; done)))
end MOH
