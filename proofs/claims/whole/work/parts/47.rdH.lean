section RDH
variable {I I1 I2 : XI} {F F1 F2 : XF} {S : XSt} {k : Nat} {M X L : List Int32}
/-! translate -/
def trf (p : Int32) (B C : List Int32) (m c : Nat) : Int32 := match (C.drop m).findIdx? (fun x => x == nI c) with
  | none => -1
  | some q => (B[m + q]?).getD p
theorem trf_up {p : Int32} {B C : List Int32} {m c : Nat} {f : Nat → Int32} (hc : c < 256) (hget : C[m]? = some (nI c)) (hf : ∀ d, d < 256 → f d = trf p B C (m + 1) d) : ∀ d, d < 256 → upd f c ((B[m]?).getD p) d = trf p B C m d := by
  intro d hd
  have hlt := (List.getElem?_eq_some_iff.mp hget).1
  have hdr : C.drop m = nI c :: C.drop (m + 1) := by
    rw [List.drop_eq_getElem_cons hlt]
    congr 1
    exact Option.some.inj ((List.getElem?_eq_getElem hlt).symm.trans hget)
  rw [trf, hdr, List.findIdx?_cons]
  by_cases e : d = c
  · subst e; simp [upd]
  · have hne : ¬ (nI c == nI d) = true := fun q => e (nI_inj (by omega) (by omega) (by simpa using q)).symm
    rw [if_neg hne, upd, if_neg e, hf d hd, trf]
    cases (C.drop (m + 1)).findIdx? (fun x => x == nI d) with
    | none => rfl
    | some q => show (B[m + 1 + q]?).getD p = (B[m + (q + 1)]?).getD p; rw [show m + 1 + q = m + (q + 1) by omega]
theorem tr_fin {p : Int32} {B C : List Int32} {c : Nat} (hp : bt p) (hB : ∀ x ∈ B, bt x) : (if trf p B C 0 c = -1 then nI c else trf p B C 0 c) = tr1 p B C (nI c) := by
  rw [trf, tr1, List.drop_zero]
  cases h : C.findIdx? (fun x => x == nI c) with
  | none => simp
  | some q =>
    simp only [Nat.zero_add]
    have hb : bt ((B[q]?).getD p) := by
      cases hq : B[q]? with
      | none => exact hp
      | some x => exact hB x (List.mem_of_getElem? hq)
    rw [if_neg (fun e => by have := hb.1; rw [e, n_m1] at this; omega)]
theorem t_RD_translate_l1 {a b c to : Int32} {ka kb kc kt : Nat} {B C : List Int32} {P : XP} (hp : I 12 = S.2.2) (hb : ∀ x ∈ C, bt x) (hkb : kb < 10) (hkc : kc < 10) (hB : Rl I F kb B) (hC : Rl I F kc C) (k2 : ∀ (F1 : XF) (f : Nat → Int32), (∀ x, x ≠ 18 → F1 x = F x) → Tb F1 f → (∀ c, c < 256 → f c = trf S.2.2 B C 0 c) → XJ none m_RD_translate 105 [some (.ref 24), some (.int a), some (.int b), some (.int c), some (.int to), some (.ref ka), some (.ref kb), some (.ref kc), some (.ref kt)] [] I F1 P) : ∀ (m : Nat) (x : Int32) (F1 : XF) (f : Nat → Int32), x.toInt = (m : Int) - 1 → m ≤ C.length → (∀ x, x ≠ 18 → F1 x = F x) → Tb F1 f → (∀ c, c < 256 → f c = trf S.2.2 B C m c) →
    XJ none m_RD_translate 68 [some (.ref 24), some (.int a), some (.int b), some (.int c), some (.int to), some (.ref ka), some (.ref kb), some (.ref kc), some (.ref kt), some (.int x)] [] I F1 P := by
  have hCl := hC.lt
  intro m
  induction m with
  | zero =>
    intro x F1 f hx hm h1 h2 h3
    refine xj_iload (pc := 68) d_RD_translate_68 rfl ?_
    refine xj_if_lt (pc := 70) (tgt := 105) d_RD_translate_70 (by decide) (fun h70 => ?_) (fun h70 => absurd (by rw [n_lt, n_0]; omega) h70)
    exact xj_take 9 (k2 F1 f h1 h2 h3)
  | succ m ih =>
    intro x F1 f hx hm h1 h2 h3
    have ex : x = nI m := n_of (by omega)
    subst ex
    have hget : C[m]? = some C[m] := List.getElem?_eq_getElem (by omega)
    obtain ⟨d, hd, ed⟩ := bt_n (hb C[m] (List.getElem_mem _))
    rw [ed] at hget
    have hT : Tc I F I F1 := ⟨rfl, h1⟩
    refine xj_iload (pc := 68) d_RD_translate_68 rfl ?_
    refine xj_if_lt (pc := 70) (tgt := 105) d_RD_translate_70 (by decide) (fun h70 => absurd h70 (by rw [n_lt, n_0]; omega)) (fun h70 => ?_)
    refine xj_aload_n (pc := 73) d_RD_translate_73 rfl rfl ?_
    refine xj_getR (pc := 74) d_RD_translate_74 fl_RD_38 rfl rfl ?_
    refine xj_aload (pc := 77) d_RD_translate_77 rfl ?_
    refine xj_iload (pc := 79) d_RD_translate_79 rfl ?_
    refine xj_iconst (pc := 81) (v := -1) d_RD_translate_81 (by decide) ?_
    refine xj_callV (pc := 82) d_RD_translate_82 ml_RD_64 ok_RW_byteOr (s_RW_byteOr (by omega) (hT.kp (by omega) hC)) rfl rfl (xsh_row (by omega)) rfl rfl (Nat.le_of_ble_eq_true rfl) (by decide) ?_
    rintro rv I1 F1 ⟨rfl, rfl, rfl⟩
    dsimp only [Option.toList, List.cons_append, List.nil_append]
    rw [rg_n (by omega), hget, Option.getD_some]
    refine xj_aload (pc := 85) d_RD_translate_85 rfl ?_
    refine xj_iload (pc := 87) d_RD_translate_87 rfl ?_
    refine xj_aload_n (pc := 89) d_RD_translate_89 rfl rfl ?_
    refine xj_getI (pc := 90) d_RD_translate_90 fl_RD_42 rfl rfl ?_
    refine xj_callV (pc := 93) d_RD_translate_93 ml_RD_64 ok_RW_byteOr (s_RW_byteOr (by omega) (hT.kp (by omega) hB)) rfl rfl (xsh_row (by omega)) rfl rfl (Nat.le_of_ble_eq_true rfl) (by decide) ?_
    rintro rv I1 F1 ⟨rfl, rfl, rfl⟩
    dsimp only [Option.toList, List.cons_append, List.nil_append]
    rw [rg_n (by omega), hp]
    refine xj_callV (pc := 96) d_RD_translate_96 ml_RD_133 ok_BT_note (s_BT_note hd h2) rfl rfl rfl rfl rfl (Nat.le_of_ble_eq_true rfl) (by decide) ?_
    rintro rv I2 F2 ⟨rfl, ⟨rfl, g1⟩, g2⟩
    dsimp only [Option.toList, List.cons_append, List.nil_append]
    refine xj_incm1 (pc := 99) d_RD_translate_99 rfl (by decide) rfl ?_
    dsimp only [xset, xset2, xkill]
    refine xj_goto (pc := 102) (tgt := 68) d_RD_translate_102 (by decide) ?_
    exact ih _ F2 _ (by rw [n_add (by rw [n_m1]; omega) (by rw [n_m1]; omega), n_m1]; omega) (by omega) (fun x hx => (g1 x hx).trans (h1 x hx)) g2 (trf_up hd hget h3)
theorem t_RD_translate_l2 {a b c to : Int32} {ka kb kc kt : Nat} {A B C : List Int32} {f : Nat → Int32} {P : XP} (hp : bt S.2.2) (hB : ∀ x ∈ B, bt x) (hb : ∀ x ∈ A, bt x) (hka : ka < 10) (hA : Rl I F ka A) (h200 : A.length ≤ 200) (hT : Tb F f) (hf : ∀ c, c < 256 → f c = trf S.2.2 B C 0 c) (k2 : ∀ (I1 : XI) (F1 : XF), Rs 10 (A.map (tr1 S.2.2 B C)) I F I1 F1 → XJ none m_RD_translate 173 [some (.ref 24), some (.int a), some (.int b), some (.int c), some (.int to), some (.ref ka), some (.ref kb), some (.ref kc), some (.ref kt)] [] I1 F1 P) : ∀ (m i : Nat) (I1 : XI) (F1 : XF), i + m = A.length → Rs 10 ((A.take i).map (tr1 S.2.2 B C)) I F I1 F1 →
    XJ none m_RD_translate 116 [some (.ref 24), some (.int a), some (.int b), some (.int c), some (.int to), some (.ref ka), some (.ref kb), some (.ref kc), some (.ref kt), some (.int (nI i))] [] I1 F1 P := by
  intro m
  induction m with
  | zero =>
    intro i I1 F1 hi g1
    have eA := (g1.kp (by omega) hA).ti
    refine xj_iload (pc := 116) d_RD_translate_116 rfl ?_
    refine xj_aload (pc := 118) d_RD_translate_118 rfl ?_
    refine xj_callV (pc := 120) d_RD_translate_120 ml_RD_46 ok_RW_length (s_RW_length (by omega)) rfl rfl (xsh_row (by omega)) rfl rfl (Nat.le_of_ble_eq_true rfl) (by decide) ?_
    rintro rv I1 F1 ⟨rfl, rfl, rfl⟩
    dsimp only [Option.toList, List.cons_append, List.nil_append]
    refine xj_icmp_ge (pc := 123) (tgt := 173) d_RD_translate_123 (by decide) (fun h123 => ?_) (fun h123 => absurd (by rw [n_le, n_nI (by omega)]; omega) h123)
    exact xj_take 9 (k2 I1 F1 (by rw [List.take_of_length_le (by omega)] at g1; exact g1))
  | succ m ih =>
    intro i I1 F1 hi g1
    have hA1 := g1.kp (by omega) hA
    have eA := hA1.ti
    have hget : A[i]? = some A[i] := List.getElem?_eq_getElem (by omega)
    obtain ⟨d, hd, ed⟩ := bt_n (hb A[i] (List.getElem_mem _))
    rw [ed] at hget
    have key := tr_fin (p := S.2.2) (B := B) (C := C) (c := d) hp hB
    rw [← hf d hd] at key
    refine xj_iload (pc := 116) d_RD_translate_116 rfl ?_
    refine xj_aload (pc := 118) d_RD_translate_118 rfl ?_
    refine xj_callV (pc := 120) d_RD_translate_120 ml_RD_46 ok_RW_length (s_RW_length (by omega)) rfl rfl (xsh_row (by omega)) rfl rfl (Nat.le_of_ble_eq_true rfl) (by decide) ?_
    rintro rv I1 F1 ⟨rfl, rfl, rfl⟩
    dsimp only [Option.toList, List.cons_append, List.nil_append]
    refine xj_icmp_ge (pc := 123) (tgt := 173) d_RD_translate_123 (by decide) (fun h123 => absurd h123 (by rw [n_le, n_nI (by omega)]; omega)) (fun h123 => ?_)
    refine xj_aload (pc := 126) d_RD_translate_126 rfl ?_
    refine xj_iload (pc := 128) d_RD_translate_128 rfl ?_
    refine xj_iconst (pc := 130) (v := -1) d_RD_translate_130 (by decide) ?_
    refine xj_callV (pc := 131) d_RD_translate_131 ml_RD_64 ok_RW_byteOr (s_RW_byteOr (by omega) hA1) rfl rfl (xsh_row (by omega)) rfl rfl (Nat.le_of_ble_eq_true rfl) (by decide) ?_
    rintro rv I1 F1 ⟨rfl, rfl, rfl⟩
    dsimp only [Option.toList, List.cons_append, List.nil_append]
    rw [rg_n (by omega), hget, Option.getD_some]
    refine xj_istore (pc := 134) d_RD_translate_134 (by decide) rfl ?_
    dsimp only [xset, xset2, xkill]
    refine xj_aload_n (pc := 136) d_RD_translate_136 rfl rfl ?_
    refine xj_getR (pc := 137) d_RD_translate_137 fl_RD_38 rfl rfl ?_
    refine xj_iload (pc := 140) d_RD_translate_140 rfl ?_
    refine xj_callV (pc := 142) d_RD_translate_142 ml_RD_136 ok_BT_noted (s_BT_noted hd (g1.tb hT)) rfl rfl rfl rfl rfl (Nat.le_of_ble_eq_true rfl) (by decide) ?_
    rintro rv I1 F1 ⟨rfl, rfl, rfl⟩
    dsimp only [Option.toList, List.cons_append, List.nil_append]
    refine xj_istore (pc := 145) d_RD_translate_145 (by decide) rfl ?_
    dsimp only [xset, xset2, xkill]
    refine xj_aload_n (pc := 147) d_RD_translate_147 rfl rfl ?_
    refine xj_getR (pc := 148) d_RD_translate_148 fl_RD_22 rfl rfl ?_
    refine xj_iload (pc := 151) d_RD_translate_151 rfl ?_
    refine xj_iconst (pc := 153) (v := -1) d_RD_translate_153 (by decide) ?_
    refine xj_icmp_ne (pc := 154) (tgt := 162) d_RD_translate_154 (by decide) (fun h154 => ?_) (fun h154 => ?_)
    · refine xj_iload (pc := 162) d_RD_translate_162 rfl ?_
      refine xj_callV (pc := 164) d_RD_translate_164 ml_RD_140 ok_RW_add (s_RW_add (by decide) g1.2.2) rfl rfl (xsh_row (by omega)) rfl rfl (Nat.le_of_ble_eq_true rfl) (by decide) ?_
      rintro rv I2 F2 ⟨rfl, g2⟩
      dsimp only [Option.toList, List.cons_append, List.nil_append]
      refine xj_inc1 (pc := 167) d_RD_translate_167 rfl (by decide) rfl ?_
      dsimp only [xset, xset2, xkill]
      rw [n_up]
      refine xj_goto (pc := 170) (tgt := 116) d_RD_translate_170 (by decide) ?_
      refine xj_take 10 (ih (i + 1) I2 F2 (by omega) ?_)
      first | (rw [lm_step hget (by rw [if_neg h154] at key; exact key) h200] at g2; exact g1.tr g2; done) | (rw [lm_step hget (by rw [if_pos h154] at key; exact key) h200] at g2; exact g1.tr g2)
    · refine xj_iload (pc := 157) d_RD_translate_157 rfl ?_
      refine xj_goto (pc := 159) (tgt := 164) d_RD_translate_159 (by decide) ?_
      refine xj_callV (pc := 164) d_RD_translate_164 ml_RD_140 ok_RW_add (s_RW_add (by decide) g1.2.2) rfl rfl (xsh_row (by omega)) rfl rfl (Nat.le_of_ble_eq_true rfl) (by decide) ?_
      rintro rv I2 F2 ⟨rfl, g2⟩
      dsimp only [Option.toList, List.cons_append, List.nil_append]
      refine xj_inc1 (pc := 167) d_RD_translate_167 rfl (by decide) rfl ?_
      dsimp only [xset, xset2, xkill]
      rw [n_up]
      refine xj_goto (pc := 170) (tgt := 116) d_RD_translate_170 (by decide) ?_
      refine xj_take 10 (ih (i + 1) I2 F2 (by omega) ?_)
      first | (rw [lm_step hget (by rw [if_neg h154] at key; exact key) h200] at g2; exact g1.tr g2; done) | (rw [lm_step hget (by rw [if_pos h154] at key; exact key) h200] at g2; exact g1.tr g2)
theorem t_RD_translate {a b c to : Int32} (hS : OKS S) (hC : CI I F S) : XM m_RD_translate [.ref 24, .int a, .int b, .int c, .int to] I F (CQ (sp_translate S a b c to) I F) := by
  refine XM.of (by decide) (Nat.le_of_ble_eq_true rfl) ?_
  dsimp only [xargs]
  obtain ⟨M0, hM0⟩ := hC.2.2.2
  have hend : ∀ (ka kb kc kt : Nat) (F1 : XF) (f : Nat → Int32), ka < 10 → kb < 10 → kt < 10 → a.toInt.toNat = ka → b.toInt.toNat = kb → to.toInt.toNat = kt → (∀ x, x ≠ 18 → F1 x = F x) → Tb F1 f → (∀ d, d < 256 → f d = trf S.2.2 (sR S b) (sR S c) 0 d) → XJ none m_RD_translate 105 [some (.ref 24), some (.int a), some (.int b), some (.int c), some (.int to), some (.ref ka), some (.ref kb), some (.ref kc), some (.ref kt)] [] I F1 (CQ (sMk S to ((sR S a).map (tr1 S.2.2 (sR S b) (sR S c)))) I F) := by
    intro ka kb kc kt F1 f hka hkb hkt ha hb ht h1 h2 h3
    have hT : Tc I F I F1 := ⟨rfl, h1⟩
    have hLe := hS.le hka ha
    have hfin : ∀ (I2 I3 : XI) (F2 F3 : XF), Rs 10 [] I F1 I2 F2 → Rs 10 ((sR S a).map (tr1 S.2.2 (sR S b) (sR S c))) I2 F2 I3 F3 → XJ none m_RD_translate 173 [some (.ref 24), some (.int a), some (.int b), some (.int c), some (.int to), some (.ref ka), some (.ref kb), some (.ref kc), some (.ref kt)] [] I3 F3 (CQ (sMk S to ((sR S a).map (tr1 S.2.2 (sR S b) (sR S c)))) I F) := by
      intro I2 I3 F2 F3 g2 g3
      refine xj_aload_n (pc := 173) d_RD_translate_173 rfl rfl ?_
      refine xj_aload (pc := 174) d_RD_translate_174 rfl ?_
      refine xj_callV (pc := 176) d_RD_translate_176 ml_RD_79 ok_RD_keepMade (s_RD_keepMade hkt g3.2.2) rfl rfl rfl rfl rfl (Nat.le_of_ble_eq_true rfl) (by decide) ?_
      rintro rv I4 F4 ⟨rfl, g4⟩
      dsimp only [Option.toList, List.cons_append, List.nil_append]
      refine xj_iret (pc := 179) d_RD_translate_179 rfl ?_
      exact ck_doneX hC (hT.cx.tr (g2.tr g3).cx) g3.2.2 g4 hkt ht rfl (by rw [List.length_map]; exact hLe)
    refine xj_aload_n (pc := 105) d_RD_translate_105 rfl rfl ?_
    refine xj_getR (pc := 106) d_RD_translate_106 fl_RD_22 rfl rfl ?_
    refine xj_iconst (pc := 109) (v := 0) d_RD_translate_109 (by decide) ?_
    refine xj_callV (pc := 110) d_RD_translate_110 ml_RD_53 ok_RW_shortenTo (s_RW_clear (by decide) (hT.kp (by decide) hM0)) rfl rfl (xsh_row (by omega)) rfl rfl (Nat.le_of_ble_eq_true rfl) (by decide) ?_
    rintro rv I2 F2 ⟨rfl, g2⟩
    dsimp only [Option.toList, List.cons_append, List.nil_append]
    refine xj_iconst (pc := 113) (v := 0) d_RD_translate_113 (by decide) ?_
    refine xj_istore (pc := 114) d_RD_translate_114 (by decide) rfl ?_
    dsimp only [xset, xset2, xkill]
    exact t_RD_translate_l2 (f := f) hS.2.2 (hS.bb hkb hb) (hS.bb hka ha) hka (g2.kp (by omega) (hT.kp (by omega) (hC.at hka ha))) hLe (g2.tb h2) h3 (fun I3 F3 g3 => hfin I2 I3 F2 F3 g2 g3) _ 0 I2 F2 (by rw [Nat.zero_add]) (Rs.rf g2.2.2)
  refine xj_aload_n (pc := 0) d_RD_translate_0 rfl rfl ?_
  refine xj_iload_n (pc := 1) d_RD_translate_1 rfl rfl ?_
  rcases regc a with ⟨k_a, hk_a, e_a, i_a, t_a⟩ | i_a
  · refine xj_callV (pc := 2) d_RD_translate_2 ml_RD_56 ok_RD_register (s_RD_register_k hk_a e_a) rfl rfl rfl rfl rfl (Nat.le_of_ble_eq_true rfl) (by decide) ?_
    rintro rv I1 F1 ⟨rfl, rfl, rfl⟩
    dsimp only [Option.toList, List.cons_append, List.nil_append]
    refine xj_astore (pc := 5) d_RD_translate_5 (by decide) rfl ?_
    dsimp only [xset, xset2, xkill]
    refine xj_aload_n (pc := 7) d_RD_translate_7 rfl rfl ?_
    refine xj_iload_n (pc := 8) d_RD_translate_8 rfl rfl ?_
    rcases regc b with ⟨k_b, hk_b, e_b, i_b, t_b⟩ | i_b
    · refine xj_callV (pc := 9) d_RD_translate_9 ml_RD_56 ok_RD_register (s_RD_register_k hk_b e_b) rfl rfl rfl rfl rfl (Nat.le_of_ble_eq_true rfl) (by decide) ?_
      rintro rv I1 F1 ⟨rfl, rfl, rfl⟩
      dsimp only [Option.toList, List.cons_append, List.nil_append]
      refine xj_astore (pc := 12) d_RD_translate_12 (by decide) rfl ?_
      dsimp only [xset, xset2, xkill]
      refine xj_aload_n (pc := 14) d_RD_translate_14 rfl rfl ?_
      refine xj_iload_n (pc := 15) d_RD_translate_15 rfl rfl ?_
      rcases regc c with ⟨k_c, hk_c, e_c, i_c, t_c⟩ | i_c
      · refine xj_callV (pc := 16) d_RD_translate_16 ml_RD_56 ok_RD_register (s_RD_register_k hk_c e_c) rfl rfl rfl rfl rfl (Nat.le_of_ble_eq_true rfl) (by decide) ?_
        rintro rv I1 F1 ⟨rfl, rfl, rfl⟩
        dsimp only [Option.toList, List.cons_append, List.nil_append]
        refine xj_astore (pc := 19) d_RD_translate_19 (by decide) rfl ?_
        dsimp only [xset, xset2, xkill]
        refine xj_aload_n (pc := 21) d_RD_translate_21 rfl rfl ?_
        refine xj_iload (pc := 22) d_RD_translate_22 rfl ?_
        rcases regc to with ⟨k_to, hk_to, e_to, i_to, t_to⟩ | i_to
        · refine xj_callV (pc := 24) d_RD_translate_24 ml_RD_56 ok_RD_register (s_RD_register_k hk_to e_to) rfl rfl rfl rfl rfl (Nat.le_of_ble_eq_true rfl) (by decide) ?_
          rintro rv I1 F1 ⟨rfl, rfl, rfl⟩
          dsimp only [Option.toList, List.cons_append, List.nil_append]
          refine xj_astore (pc := 27) d_RD_translate_27 (by decide) rfl ?_
          dsimp only [xset, xset2, xkill]
          refine xj_aload (pc := 29) d_RD_translate_29 rfl ?_
          refine xj_ifnull (pc := 31) d_RD_translate_31 ?_
          refine xj_aload (pc := 34) d_RD_translate_34 rfl ?_
          refine xj_ifnull (pc := 36) d_RD_translate_36 ?_
          refine xj_aload (pc := 39) d_RD_translate_39 rfl ?_
          refine xj_ifnull (pc := 41) d_RD_translate_41 ?_
          refine xj_aload (pc := 44) d_RD_translate_44 rfl ?_
          refine xj_ifnonnull (pc := 46) (tgt := 51) d_RD_translate_46 (by decide) ?_
          rw [sp_translate, if_pos (by simp_all)]
          refine xj_aload_n (pc := 51) d_RD_translate_51 rfl rfl ?_
          refine xj_getR (pc := 52) d_RD_translate_52 fl_RD_38 rfl rfl ?_
          refine xj_iconst (pc := 55) (v := -1) d_RD_translate_55 (by decide) ?_
          refine xj_callV (pc := 56) d_RD_translate_56 ml_RD_130 ok_BT_setAll (s_BT_setAll) rfl rfl rfl rfl rfl (Nat.le_of_ble_eq_true rfl) (by decide) ?_
          rintro rv I1 F1 ⟨rfl, ⟨rfl, g1⟩, g2⟩
          dsimp only [Option.toList, List.cons_append, List.nil_append]
          refine xj_aload (pc := 59) d_RD_translate_59 rfl ?_
          refine xj_callV (pc := 61) d_RD_translate_61 ml_RD_46 ok_RW_length (s_RW_length (by omega)) rfl rfl (xsh_row (by omega)) rfl rfl (Nat.le_of_ble_eq_true rfl) (by decide) ?_
          rintro rv I1 F1 ⟨rfl, rfl, rfl⟩
          dsimp only [Option.toList, List.cons_append, List.nil_append]
          refine xj_iconst (pc := 64) (v := 1) d_RD_translate_64 (by decide) ?_
          refine xj_isub (pc := 65) d_RD_translate_65 ?_
          refine xj_istore (pc := 66) d_RD_translate_66 (by decide) rfl ?_
          dsimp only [xset, xset2, xkill]
          have hLc := Tc.kp (F1 := F1) ⟨rfl, g1⟩ (by omega) (hC.at hk_c t_c)
          have eC := hLc.ti
          have hcl := hLc.lt
          exact t_RD_translate_l1 hC.2.2.1 (hS.bb hk_c t_c) hk_b hk_c (Tc.kp ⟨rfl, g1⟩ (by omega) (hC.at hk_b t_b)) hLc (fun F2 f g3 g4 g5 => hend k_a k_b k_c k_to F2 f hk_a hk_b hk_to t_a t_b t_to (fun x hx => (g3 x hx).trans (g1 x hx)) g4 g5) _ _ F1 _ (by rw [n_sub (by rw [n_1]; omega) (by rw [n_1]; omega), n_1, eC]) (Nat.le_refl _) (fun _ _ => rfl) g2 (fun d hd => by rw [trf, List.drop_length]; rfl)
        · refine xj_callV (pc := 24) d_RD_translate_24 ml_RD_56 ok_RD_register (s_RD_register_n i_to) rfl rfl rfl rfl rfl (Nat.le_of_ble_eq_true rfl) (by decide) ?_
          rintro rv I1 F1 ⟨rfl, rfl, rfl⟩
          dsimp only [Option.toList, List.cons_append, List.nil_append]
          refine xj_astoreN (pc := 27) d_RD_translate_27 (by decide) rfl ?_
          dsimp only [xset, xset2, xkill]
          refine xj_aload (pc := 29) d_RD_translate_29 rfl ?_
          refine xj_ifnull (pc := 31) d_RD_translate_31 ?_
          refine xj_aload (pc := 34) d_RD_translate_34 rfl ?_
          refine xj_ifnull (pc := 36) d_RD_translate_36 ?_
          refine xj_aload (pc := 39) d_RD_translate_39 rfl ?_
          refine xj_ifnull (pc := 41) d_RD_translate_41 ?_
          refine xj_aloadN (pc := 44) d_RD_translate_44 rfl ?_
          refine xj_ifnonnullN (pc := 46) d_RD_translate_46 ?_
          refine xj_iconst (pc := 49) (v := -1) d_RD_translate_49 (by decide) ?_
          refine xj_iret (pc := 50) d_RD_translate_50 rfl ?_
          exact ck_none hC (if_neg (by simp_all))
      · refine xj_callV (pc := 16) d_RD_translate_16 ml_RD_56 ok_RD_register (s_RD_register_n i_c) rfl rfl rfl rfl rfl (Nat.le_of_ble_eq_true rfl) (by decide) ?_
        rintro rv I1 F1 ⟨rfl, rfl, rfl⟩
        dsimp only [Option.toList, List.cons_append, List.nil_append]
        refine xj_astoreN (pc := 19) d_RD_translate_19 (by decide) rfl ?_
        dsimp only [xset, xset2, xkill]
        refine xj_aload_n (pc := 21) d_RD_translate_21 rfl rfl ?_
        refine xj_iload (pc := 22) d_RD_translate_22 rfl ?_
        rcases regc to with ⟨k_to, hk_to, e_to, i_to, t_to⟩ | i_to
        · refine xj_callV (pc := 24) d_RD_translate_24 ml_RD_56 ok_RD_register (s_RD_register_k hk_to e_to) rfl rfl rfl rfl rfl (Nat.le_of_ble_eq_true rfl) (by decide) ?_
          rintro rv I1 F1 ⟨rfl, rfl, rfl⟩
          dsimp only [Option.toList, List.cons_append, List.nil_append]
          refine xj_astore (pc := 27) d_RD_translate_27 (by decide) rfl ?_
          dsimp only [xset, xset2, xkill]
          refine xj_aload (pc := 29) d_RD_translate_29 rfl ?_
          refine xj_ifnull (pc := 31) d_RD_translate_31 ?_
          refine xj_aload (pc := 34) d_RD_translate_34 rfl ?_
          refine xj_ifnull (pc := 36) d_RD_translate_36 ?_
          refine xj_aloadN (pc := 39) d_RD_translate_39 rfl ?_
          refine xj_ifnullN (pc := 41) (tgt := 49) d_RD_translate_41 (by decide) ?_
          refine xj_iconst (pc := 49) (v := -1) d_RD_translate_49 (by decide) ?_
          refine xj_iret (pc := 50) d_RD_translate_50 rfl ?_
          exact ck_none hC (if_neg (by simp_all))
        · refine xj_callV (pc := 24) d_RD_translate_24 ml_RD_56 ok_RD_register (s_RD_register_n i_to) rfl rfl rfl rfl rfl (Nat.le_of_ble_eq_true rfl) (by decide) ?_
          rintro rv I1 F1 ⟨rfl, rfl, rfl⟩
          dsimp only [Option.toList, List.cons_append, List.nil_append]
          refine xj_astoreN (pc := 27) d_RD_translate_27 (by decide) rfl ?_
          dsimp only [xset, xset2, xkill]
          refine xj_aload (pc := 29) d_RD_translate_29 rfl ?_
          refine xj_ifnull (pc := 31) d_RD_translate_31 ?_
          refine xj_aload (pc := 34) d_RD_translate_34 rfl ?_
          refine xj_ifnull (pc := 36) d_RD_translate_36 ?_
          refine xj_aloadN (pc := 39) d_RD_translate_39 rfl ?_
          refine xj_ifnullN (pc := 41) (tgt := 49) d_RD_translate_41 (by decide) ?_
          refine xj_iconst (pc := 49) (v := -1) d_RD_translate_49 (by decide) ?_
          refine xj_iret (pc := 50) d_RD_translate_50 rfl ?_
          exact ck_none hC (if_neg (by simp_all))
    · refine xj_callV (pc := 9) d_RD_translate_9 ml_RD_56 ok_RD_register (s_RD_register_n i_b) rfl rfl rfl rfl rfl (Nat.le_of_ble_eq_true rfl) (by decide) ?_
      rintro rv I1 F1 ⟨rfl, rfl, rfl⟩
      dsimp only [Option.toList, List.cons_append, List.nil_append]
      refine xj_astoreN (pc := 12) d_RD_translate_12 (by decide) rfl ?_
      dsimp only [xset, xset2, xkill]
      refine xj_aload_n (pc := 14) d_RD_translate_14 rfl rfl ?_
      refine xj_iload_n (pc := 15) d_RD_translate_15 rfl rfl ?_
      rcases regc c with ⟨k_c, hk_c, e_c, i_c, t_c⟩ | i_c
      · refine xj_callV (pc := 16) d_RD_translate_16 ml_RD_56 ok_RD_register (s_RD_register_k hk_c e_c) rfl rfl rfl rfl rfl (Nat.le_of_ble_eq_true rfl) (by decide) ?_
        rintro rv I1 F1 ⟨rfl, rfl, rfl⟩
        dsimp only [Option.toList, List.cons_append, List.nil_append]
        refine xj_astore (pc := 19) d_RD_translate_19 (by decide) rfl ?_
        dsimp only [xset, xset2, xkill]
        refine xj_aload_n (pc := 21) d_RD_translate_21 rfl rfl ?_
        refine xj_iload (pc := 22) d_RD_translate_22 rfl ?_
        rcases regc to with ⟨k_to, hk_to, e_to, i_to, t_to⟩ | i_to
        · refine xj_callV (pc := 24) d_RD_translate_24 ml_RD_56 ok_RD_register (s_RD_register_k hk_to e_to) rfl rfl rfl rfl rfl (Nat.le_of_ble_eq_true rfl) (by decide) ?_
          rintro rv I1 F1 ⟨rfl, rfl, rfl⟩
          dsimp only [Option.toList, List.cons_append, List.nil_append]
          refine xj_astore (pc := 27) d_RD_translate_27 (by decide) rfl ?_
          dsimp only [xset, xset2, xkill]
          refine xj_aload (pc := 29) d_RD_translate_29 rfl ?_
          refine xj_ifnull (pc := 31) d_RD_translate_31 ?_
          refine xj_aloadN (pc := 34) d_RD_translate_34 rfl ?_
          refine xj_ifnullN (pc := 36) (tgt := 49) d_RD_translate_36 (by decide) ?_
          refine xj_iconst (pc := 49) (v := -1) d_RD_translate_49 (by decide) ?_
          refine xj_iret (pc := 50) d_RD_translate_50 rfl ?_
          exact ck_none hC (if_neg (by simp_all))
        · refine xj_callV (pc := 24) d_RD_translate_24 ml_RD_56 ok_RD_register (s_RD_register_n i_to) rfl rfl rfl rfl rfl (Nat.le_of_ble_eq_true rfl) (by decide) ?_
          rintro rv I1 F1 ⟨rfl, rfl, rfl⟩
          dsimp only [Option.toList, List.cons_append, List.nil_append]
          refine xj_astoreN (pc := 27) d_RD_translate_27 (by decide) rfl ?_
          dsimp only [xset, xset2, xkill]
          refine xj_aload (pc := 29) d_RD_translate_29 rfl ?_
          refine xj_ifnull (pc := 31) d_RD_translate_31 ?_
          refine xj_aloadN (pc := 34) d_RD_translate_34 rfl ?_
          refine xj_ifnullN (pc := 36) (tgt := 49) d_RD_translate_36 (by decide) ?_
          refine xj_iconst (pc := 49) (v := -1) d_RD_translate_49 (by decide) ?_
          refine xj_iret (pc := 50) d_RD_translate_50 rfl ?_
          exact ck_none hC (if_neg (by simp_all))
      · refine xj_callV (pc := 16) d_RD_translate_16 ml_RD_56 ok_RD_register (s_RD_register_n i_c) rfl rfl rfl rfl rfl (Nat.le_of_ble_eq_true rfl) (by decide) ?_
        rintro rv I1 F1 ⟨rfl, rfl, rfl⟩
        dsimp only [Option.toList, List.cons_append, List.nil_append]
        refine xj_astoreN (pc := 19) d_RD_translate_19 (by decide) rfl ?_
        dsimp only [xset, xset2, xkill]
        refine xj_aload_n (pc := 21) d_RD_translate_21 rfl rfl ?_
        refine xj_iload (pc := 22) d_RD_translate_22 rfl ?_
        rcases regc to with ⟨k_to, hk_to, e_to, i_to, t_to⟩ | i_to
        · refine xj_callV (pc := 24) d_RD_translate_24 ml_RD_56 ok_RD_register (s_RD_register_k hk_to e_to) rfl rfl rfl rfl rfl (Nat.le_of_ble_eq_true rfl) (by decide) ?_
          rintro rv I1 F1 ⟨rfl, rfl, rfl⟩
          dsimp only [Option.toList, List.cons_append, List.nil_append]
          refine xj_astore (pc := 27) d_RD_translate_27 (by decide) rfl ?_
          dsimp only [xset, xset2, xkill]
          refine xj_aload (pc := 29) d_RD_translate_29 rfl ?_
          refine xj_ifnull (pc := 31) d_RD_translate_31 ?_
          refine xj_aloadN (pc := 34) d_RD_translate_34 rfl ?_
          refine xj_ifnullN (pc := 36) (tgt := 49) d_RD_translate_36 (by decide) ?_
          refine xj_iconst (pc := 49) (v := -1) d_RD_translate_49 (by decide) ?_
          refine xj_iret (pc := 50) d_RD_translate_50 rfl ?_
          exact ck_none hC (if_neg (by simp_all))
        · refine xj_callV (pc := 24) d_RD_translate_24 ml_RD_56 ok_RD_register (s_RD_register_n i_to) rfl rfl rfl rfl rfl (Nat.le_of_ble_eq_true rfl) (by decide) ?_
          rintro rv I1 F1 ⟨rfl, rfl, rfl⟩
          dsimp only [Option.toList, List.cons_append, List.nil_append]
          refine xj_astoreN (pc := 27) d_RD_translate_27 (by decide) rfl ?_
          dsimp only [xset, xset2, xkill]
          refine xj_aload (pc := 29) d_RD_translate_29 rfl ?_
          refine xj_ifnull (pc := 31) d_RD_translate_31 ?_
          refine xj_aloadN (pc := 34) d_RD_translate_34 rfl ?_
          refine xj_ifnullN (pc := 36) (tgt := 49) d_RD_translate_36 (by decide) ?_
          refine xj_iconst (pc := 49) (v := -1) d_RD_translate_49 (by decide) ?_
          refine xj_iret (pc := 50) d_RD_translate_50 rfl ?_
          exact ck_none hC (if_neg (by simp_all))
  · refine xj_callV (pc := 2) d_RD_translate_2 ml_RD_56 ok_RD_register (s_RD_register_n i_a) rfl rfl rfl rfl rfl (Nat.le_of_ble_eq_true rfl) (by decide) ?_
    rintro rv I1 F1 ⟨rfl, rfl, rfl⟩
    dsimp only [Option.toList, List.cons_append, List.nil_append]
    refine xj_astoreN (pc := 5) d_RD_translate_5 (by decide) rfl ?_
    dsimp only [xset, xset2, xkill]
    refine xj_aload_n (pc := 7) d_RD_translate_7 rfl rfl ?_
    refine xj_iload_n (pc := 8) d_RD_translate_8 rfl rfl ?_
    rcases regc b with ⟨k_b, hk_b, e_b, i_b, t_b⟩ | i_b
    · refine xj_callV (pc := 9) d_RD_translate_9 ml_RD_56 ok_RD_register (s_RD_register_k hk_b e_b) rfl rfl rfl rfl rfl (Nat.le_of_ble_eq_true rfl) (by decide) ?_
      rintro rv I1 F1 ⟨rfl, rfl, rfl⟩
      dsimp only [Option.toList, List.cons_append, List.nil_append]
      refine xj_astore (pc := 12) d_RD_translate_12 (by decide) rfl ?_
      dsimp only [xset, xset2, xkill]
      refine xj_aload_n (pc := 14) d_RD_translate_14 rfl rfl ?_
      refine xj_iload_n (pc := 15) d_RD_translate_15 rfl rfl ?_
      rcases regc c with ⟨k_c, hk_c, e_c, i_c, t_c⟩ | i_c
      · refine xj_callV (pc := 16) d_RD_translate_16 ml_RD_56 ok_RD_register (s_RD_register_k hk_c e_c) rfl rfl rfl rfl rfl (Nat.le_of_ble_eq_true rfl) (by decide) ?_
        rintro rv I1 F1 ⟨rfl, rfl, rfl⟩
        dsimp only [Option.toList, List.cons_append, List.nil_append]
        refine xj_astore (pc := 19) d_RD_translate_19 (by decide) rfl ?_
        dsimp only [xset, xset2, xkill]
        refine xj_aload_n (pc := 21) d_RD_translate_21 rfl rfl ?_
        refine xj_iload (pc := 22) d_RD_translate_22 rfl ?_
        rcases regc to with ⟨k_to, hk_to, e_to, i_to, t_to⟩ | i_to
        · refine xj_callV (pc := 24) d_RD_translate_24 ml_RD_56 ok_RD_register (s_RD_register_k hk_to e_to) rfl rfl rfl rfl rfl (Nat.le_of_ble_eq_true rfl) (by decide) ?_
          rintro rv I1 F1 ⟨rfl, rfl, rfl⟩
          dsimp only [Option.toList, List.cons_append, List.nil_append]
          refine xj_astore (pc := 27) d_RD_translate_27 (by decide) rfl ?_
          dsimp only [xset, xset2, xkill]
          refine xj_aloadN (pc := 29) d_RD_translate_29 rfl ?_
          refine xj_ifnullN (pc := 31) (tgt := 49) d_RD_translate_31 (by decide) ?_
          refine xj_iconst (pc := 49) (v := -1) d_RD_translate_49 (by decide) ?_
          refine xj_iret (pc := 50) d_RD_translate_50 rfl ?_
          exact ck_none hC (if_neg (by simp_all))
        · refine xj_callV (pc := 24) d_RD_translate_24 ml_RD_56 ok_RD_register (s_RD_register_n i_to) rfl rfl rfl rfl rfl (Nat.le_of_ble_eq_true rfl) (by decide) ?_
          rintro rv I1 F1 ⟨rfl, rfl, rfl⟩
          dsimp only [Option.toList, List.cons_append, List.nil_append]
          refine xj_astoreN (pc := 27) d_RD_translate_27 (by decide) rfl ?_
          dsimp only [xset, xset2, xkill]
          refine xj_aloadN (pc := 29) d_RD_translate_29 rfl ?_
          refine xj_ifnullN (pc := 31) (tgt := 49) d_RD_translate_31 (by decide) ?_
          refine xj_iconst (pc := 49) (v := -1) d_RD_translate_49 (by decide) ?_
          refine xj_iret (pc := 50) d_RD_translate_50 rfl ?_
          exact ck_none hC (if_neg (by simp_all))
      · refine xj_callV (pc := 16) d_RD_translate_16 ml_RD_56 ok_RD_register (s_RD_register_n i_c) rfl rfl rfl rfl rfl (Nat.le_of_ble_eq_true rfl) (by decide) ?_
        rintro rv I1 F1 ⟨rfl, rfl, rfl⟩
        dsimp only [Option.toList, List.cons_append, List.nil_append]
        refine xj_astoreN (pc := 19) d_RD_translate_19 (by decide) rfl ?_
        dsimp only [xset, xset2, xkill]
        refine xj_aload_n (pc := 21) d_RD_translate_21 rfl rfl ?_
        refine xj_iload (pc := 22) d_RD_translate_22 rfl ?_
        rcases regc to with ⟨k_to, hk_to, e_to, i_to, t_to⟩ | i_to
        · refine xj_callV (pc := 24) d_RD_translate_24 ml_RD_56 ok_RD_register (s_RD_register_k hk_to e_to) rfl rfl rfl rfl rfl (Nat.le_of_ble_eq_true rfl) (by decide) ?_
          rintro rv I1 F1 ⟨rfl, rfl, rfl⟩
          dsimp only [Option.toList, List.cons_append, List.nil_append]
          refine xj_astore (pc := 27) d_RD_translate_27 (by decide) rfl ?_
          dsimp only [xset, xset2, xkill]
          refine xj_aloadN (pc := 29) d_RD_translate_29 rfl ?_
          refine xj_ifnullN (pc := 31) (tgt := 49) d_RD_translate_31 (by decide) ?_
          refine xj_iconst (pc := 49) (v := -1) d_RD_translate_49 (by decide) ?_
          refine xj_iret (pc := 50) d_RD_translate_50 rfl ?_
          exact ck_none hC (if_neg (by simp_all))
        · refine xj_callV (pc := 24) d_RD_translate_24 ml_RD_56 ok_RD_register (s_RD_register_n i_to) rfl rfl rfl rfl rfl (Nat.le_of_ble_eq_true rfl) (by decide) ?_
          rintro rv I1 F1 ⟨rfl, rfl, rfl⟩
          dsimp only [Option.toList, List.cons_append, List.nil_append]
          refine xj_astoreN (pc := 27) d_RD_translate_27 (by decide) rfl ?_
          dsimp only [xset, xset2, xkill]
          refine xj_aloadN (pc := 29) d_RD_translate_29 rfl ?_
          refine xj_ifnullN (pc := 31) (tgt := 49) d_RD_translate_31 (by decide) ?_
          refine xj_iconst (pc := 49) (v := -1) d_RD_translate_49 (by decide) ?_
          refine xj_iret (pc := 50) d_RD_translate_50 rfl ?_
          exact ck_none hC (if_neg (by simp_all))
    · refine xj_callV (pc := 9) d_RD_translate_9 ml_RD_56 ok_RD_register (s_RD_register_n i_b) rfl rfl rfl rfl rfl (Nat.le_of_ble_eq_true rfl) (by decide) ?_
      rintro rv I1 F1 ⟨rfl, rfl, rfl⟩
      dsimp only [Option.toList, List.cons_append, List.nil_append]
      refine xj_astoreN (pc := 12) d_RD_translate_12 (by decide) rfl ?_
      dsimp only [xset, xset2, xkill]
      refine xj_aload_n (pc := 14) d_RD_translate_14 rfl rfl ?_
      refine xj_iload_n (pc := 15) d_RD_translate_15 rfl rfl ?_
      rcases regc c with ⟨k_c, hk_c, e_c, i_c, t_c⟩ | i_c
      · refine xj_callV (pc := 16) d_RD_translate_16 ml_RD_56 ok_RD_register (s_RD_register_k hk_c e_c) rfl rfl rfl rfl rfl (Nat.le_of_ble_eq_true rfl) (by decide) ?_
        rintro rv I1 F1 ⟨rfl, rfl, rfl⟩
        dsimp only [Option.toList, List.cons_append, List.nil_append]
        refine xj_astore (pc := 19) d_RD_translate_19 (by decide) rfl ?_
        dsimp only [xset, xset2, xkill]
        refine xj_aload_n (pc := 21) d_RD_translate_21 rfl rfl ?_
        refine xj_iload (pc := 22) d_RD_translate_22 rfl ?_
        rcases regc to with ⟨k_to, hk_to, e_to, i_to, t_to⟩ | i_to
        · refine xj_callV (pc := 24) d_RD_translate_24 ml_RD_56 ok_RD_register (s_RD_register_k hk_to e_to) rfl rfl rfl rfl rfl (Nat.le_of_ble_eq_true rfl) (by decide) ?_
          rintro rv I1 F1 ⟨rfl, rfl, rfl⟩
          dsimp only [Option.toList, List.cons_append, List.nil_append]
          refine xj_astore (pc := 27) d_RD_translate_27 (by decide) rfl ?_
          dsimp only [xset, xset2, xkill]
          refine xj_aloadN (pc := 29) d_RD_translate_29 rfl ?_
          refine xj_ifnullN (pc := 31) (tgt := 49) d_RD_translate_31 (by decide) ?_
          refine xj_iconst (pc := 49) (v := -1) d_RD_translate_49 (by decide) ?_
          refine xj_iret (pc := 50) d_RD_translate_50 rfl ?_
          exact ck_none hC (if_neg (by simp_all))
        · refine xj_callV (pc := 24) d_RD_translate_24 ml_RD_56 ok_RD_register (s_RD_register_n i_to) rfl rfl rfl rfl rfl (Nat.le_of_ble_eq_true rfl) (by decide) ?_
          rintro rv I1 F1 ⟨rfl, rfl, rfl⟩
          dsimp only [Option.toList, List.cons_append, List.nil_append]
          refine xj_astoreN (pc := 27) d_RD_translate_27 (by decide) rfl ?_
          dsimp only [xset, xset2, xkill]
          refine xj_aloadN (pc := 29) d_RD_translate_29 rfl ?_
          refine xj_ifnullN (pc := 31) (tgt := 49) d_RD_translate_31 (by decide) ?_
          refine xj_iconst (pc := 49) (v := -1) d_RD_translate_49 (by decide) ?_
          refine xj_iret (pc := 50) d_RD_translate_50 rfl ?_
          exact ck_none hC (if_neg (by simp_all))
      · refine xj_callV (pc := 16) d_RD_translate_16 ml_RD_56 ok_RD_register (s_RD_register_n i_c) rfl rfl rfl rfl rfl (Nat.le_of_ble_eq_true rfl) (by decide) ?_
        rintro rv I1 F1 ⟨rfl, rfl, rfl⟩
        dsimp only [Option.toList, List.cons_append, List.nil_append]
        refine xj_astoreN (pc := 19) d_RD_translate_19 (by decide) rfl ?_
        dsimp only [xset, xset2, xkill]
        refine xj_aload_n (pc := 21) d_RD_translate_21 rfl rfl ?_
        refine xj_iload (pc := 22) d_RD_translate_22 rfl ?_
        rcases regc to with ⟨k_to, hk_to, e_to, i_to, t_to⟩ | i_to
        · refine xj_callV (pc := 24) d_RD_translate_24 ml_RD_56 ok_RD_register (s_RD_register_k hk_to e_to) rfl rfl rfl rfl rfl (Nat.le_of_ble_eq_true rfl) (by decide) ?_
          rintro rv I1 F1 ⟨rfl, rfl, rfl⟩
          dsimp only [Option.toList, List.cons_append, List.nil_append]
          refine xj_astore (pc := 27) d_RD_translate_27 (by decide) rfl ?_
          dsimp only [xset, xset2, xkill]
          refine xj_aloadN (pc := 29) d_RD_translate_29 rfl ?_
          refine xj_ifnullN (pc := 31) (tgt := 49) d_RD_translate_31 (by decide) ?_
          refine xj_iconst (pc := 49) (v := -1) d_RD_translate_49 (by decide) ?_
          refine xj_iret (pc := 50) d_RD_translate_50 rfl ?_
          exact ck_none hC (if_neg (by simp_all))
        · refine xj_callV (pc := 24) d_RD_translate_24 ml_RD_56 ok_RD_register (s_RD_register_n i_to) rfl rfl rfl rfl rfl (Nat.le_of_ble_eq_true rfl) (by decide) ?_
          rintro rv I1 F1 ⟨rfl, rfl, rfl⟩
          dsimp only [Option.toList, List.cons_append, List.nil_append]
          refine xj_astoreN (pc := 27) d_RD_translate_27 (by decide) rfl ?_
          dsimp only [xset, xset2, xkill]
          refine xj_aloadN (pc := 29) d_RD_translate_29 rfl ?_
          refine xj_ifnullN (pc := 31) (tgt := 49) d_RD_translate_31 (by decide) ?_
          refine xj_iconst (pc := 49) (v := -1) d_RD_translate_49 (by decide) ?_
          refine xj_iret (pc := 50) d_RD_translate_50 rfl ?_
          exact ck_none hC (if_neg (by simp_all))
/-! often, change -/
def cN (A X : List Int32) : Nat := cnt A X.length X
theorem st_pos {A X : List Int32} {q : Nat} (h : stands A X q = true) : 0 < A.length := by
  have := st_eq A X q
  rw [h] at this
  simp only [Bool.and_eq_true, decide_eq_true_eq] at this
  exact this.1
theorem st_drop (A X : List Int32) (i : Nat) : stands A (X.drop i) 0 = stands A X i := by simp [stands]
theorem cnt_fuel (A : List Int32) : ∀ (n m : Nat) (X : List Int32), X.length ≤ n → X.length ≤ m → cnt A n X = cnt A m X
  | 0, m, X, h1, h2 => by
    obtain rfl : X = [] := List.eq_nil_of_length_eq_zero (by omega)
    cases m <;> rfl
  | n + 1, 0, X, h1, h2 => by
    obtain rfl : X = [] := List.eq_nil_of_length_eq_zero (by omega)
    rfl
  | n + 1, m + 1, [], h1, h2 => rfl
  | n + 1, m + 1, b :: t, h1, h2 => by
    simp only [List.length_cons] at h1 h2
    rw [cnt, cnt]
    split
    · rename_i h
      have := st_pos h
      rw [cnt_fuel A n m _ (by rw [List.length_drop, List.length_cons]; omega) (by rw [List.length_drop, List.length_cons]; omega)]
    · rw [cnt_fuel A n m _ (by omega) (by omega)]
theorem cN_step (A X : List Int32) {i : Nat} (h : i < X.length) : cN A (X.drop i) = if stands A X i then 1 + cN A (X.drop (i + A.length)) else cN A (X.drop (i + 1)) := by
  have hdr : X.drop i = X[i] :: X.drop (i + 1) := List.drop_eq_getElem_cons h
  have hl : (X.drop i).length = (X.length - i - 1) + 1 := by rw [List.length_drop]; omega
  rw [cN, hl, hdr, cnt, ← hdr, st_drop]
  split
  · rename_i hs
    have := st_pos hs
    rw [List.drop_drop, cN, cnt_fuel A _ (X.drop (i + A.length)).length _ (by rw [List.length_drop]; omega) (Nat.le_refl _)]
  · rw [cN, cnt_fuel A _ (X.drop (i + 1)).length _ (by rw [List.length_drop]; omega) (Nat.le_refl _)]
theorem cN_end (A X : List Int32) {i : Nat} (h : X.length ≤ i) : cN A (X.drop i) = 0 := by rw [List.drop_of_length_le h]; rfl
theorem cN_le (A X : List Int32) : ∀ (m i : Nat), X.length - i = m → cN A (X.drop i) ≤ X.length - i
  | 0, i, h => by rw [cN_end A X (by omega)]; omega
  | m + 1, i, h => by
    rw [cN_step A X (by omega)]
    split
    · rename_i hs
      have := st_pos hs
      rcases Nat.lt_or_ge (i + A.length) X.length with q | q
      · have := cN_le A X (X.length - (i + A.length)) (i + A.length) rfl; omega
      · rw [cN_end A X q]; omega
    · have := cN_le A X m (i + 1) (by omega); omega
termination_by m => m
decreasing_by all_goals omega
theorem s_RD_countOf_l {ka kb : Nat} {A B : List Int32} (hka : ka < 12) (hkb : kb < 12) (hA : Rl I F ka A) (hB : Rl I F kb B) : ∀ (m i ct bh : Nat), i + m = B.length → bh ≤ 1000 → ct + cN A (B.drop (max i bh)) = cN A B → ct ≤ 1000 →
    XJ none m_RD_countOf 7 [some (.ref ka), some (.ref kb), some (.int (nI ct)), some (.int (nI bh)), some (.int (nI i))] [] I F (xpi (nI (cN A B)) I F) := by
  have eA := hA.ti
  have eB := hB.ti
  have hAl := hA.lt
  have hBl := hB.lt
  have hle := cN_le A B B.length 0 (by omega)
  rw [List.drop_zero] at hle
  intro m
  induction m with
  | zero =>
    intro i ct bh hi hb he hc
    refine xj_iload (pc := 7) d_RD_countOf_7 rfl ?_
    refine xj_aload_n (pc := 9) d_RD_countOf_9 rfl rfl ?_
    refine xj_callV (pc := 10) d_RD_countOf_10 ml_RD_46 ok_RW_length (s_RW_length (by omega)) rfl rfl (xsh_row (by omega)) rfl rfl (Nat.le_of_ble_eq_true rfl) (by decide) ?_
    rintro rv I1 F1 ⟨rfl, rfl, rfl⟩
    dsimp only [Option.toList, List.cons_append, List.nil_append]
    refine xj_icmp_ge (pc := 13) (tgt := 49) d_RD_countOf_13 (by decide) (fun h13 => ?_) (fun h13 => absurd (by rw [n_le, n_nI (by omega)]; omega) h13)
    refine xj_iload_n (pc := 49) d_RD_countOf_49 rfl rfl ?_
    refine xj_iret (pc := 50) d_RD_countOf_50 rfl ?_
    rw [cN_end A B (by omega)] at he
    exact ⟨by rw [← he]; rfl, rfl, rfl⟩
  | succ m ih =>
    intro i ct bh hi hb he hc
    have hst := cN_step A B (show i < B.length by omega)
    refine xj_iload (pc := 7) d_RD_countOf_7 rfl ?_
    refine xj_aload_n (pc := 9) d_RD_countOf_9 rfl rfl ?_
    refine xj_callV (pc := 10) d_RD_countOf_10 ml_RD_46 ok_RW_length (s_RW_length (by omega)) rfl rfl (xsh_row (by omega)) rfl rfl (Nat.le_of_ble_eq_true rfl) (by decide) ?_
    rintro rv I1 F1 ⟨rfl, rfl, rfl⟩
    dsimp only [Option.toList, List.cons_append, List.nil_append]
    refine xj_icmp_ge (pc := 13) (tgt := 49) d_RD_countOf_13 (by decide) (fun h13 => absurd h13 (by rw [n_le, n_nI (by omega)]; omega)) (fun h13 => ?_)
    skip
    refine xj_iload (pc := 16) d_RD_countOf_16 rfl ?_
    refine xj_iload_n (pc := 18) d_RD_countOf_18 rfl rfl ?_
    refine xj_icmp_lt (pc := 19) (tgt := 43) d_RD_countOf_19 (by decide) (fun h19 => ?_) (fun h19 => ?_)
    · refine xj_inc1 (pc := 43) d_RD_countOf_43 rfl (by decide) rfl ?_
      dsimp only [xset, xset2, xkill]
      rw [n_up]
      refine xj_goto (pc := 46) (tgt := 7) d_RD_countOf_46 (by decide) ?_
      first | (have h19b := n_lt.mp h19; rw [n_nI (by omega), n_nI (by omega)] at h19b; exact ih (i + 1) ct bh (by omega) hb (by rw [show max (i + 1) bh = max i bh by omega]; exact he) hc) | (have hp := st_pos hs; exact ih (i + 1) (ct + 1) (i + A.length) (by omega) (by omega) (by rw [Nat.max_eq_right (by omega)]; omega) (by omega); done) | (rw [n_lt, n_nI (by omega), n_nI (by omega)] at h19; rw [Nat.max_eq_left (by omega), hst, b01_eq h29, if_neg (by decide)] at he; exact ih (i + 1) ct bh (by omega) hb (by rw [Nat.max_eq_left (by omega)]; exact he) hc)
    · refine xj_aload_n (pc := 22) d_RD_countOf_22 rfl rfl ?_
      refine xj_iload (pc := 23) d_RD_countOf_23 rfl ?_
      refine xj_aload_n (pc := 25) d_RD_countOf_25 rfl rfl ?_
      refine xj_callV (pc := 26) d_RD_countOf_26 ml_RD_176 ok_RW_hasAt (s_RW_hasAt hkb hka hB hA (by omega)) rfl rfl (xsh_row (by omega)) rfl rfl (Nat.le_of_ble_eq_true rfl) (by decide) ?_
      rintro rv I1 F1 ⟨rfl, rfl, rfl⟩
      dsimp only [Option.toList, List.cons_append, List.nil_append]
      rw [st_eq]
      refine xj_if_eq (pc := 29) (tgt := 43) d_RD_countOf_29 (by decide) (fun h29 => ?_) (fun h29 => ?_)
      · refine xj_inc1 (pc := 43) d_RD_countOf_43 rfl (by decide) rfl ?_
        dsimp only [xset, xset2, xkill]
        rw [n_up]
        refine xj_goto (pc := 46) (tgt := 7) d_RD_countOf_46 (by decide) ?_
        first | (have h19b := n_lt.mp h19; rw [n_nI (by omega), n_nI (by omega)] at h19b; exact ih (i + 1) ct bh (by omega) hb (by rw [show max (i + 1) bh = max i bh by omega]; exact he) hc) | (have hp := st_pos hs; exact ih (i + 1) (ct + 1) (i + A.length) (by omega) (by omega) (by rw [Nat.max_eq_right (by omega)]; omega) (by omega); done) | (rw [n_lt, n_nI (by omega), n_nI (by omega)] at h19; rw [Nat.max_eq_left (by omega), hst, b01_eq h29, if_neg (by decide)] at he; exact ih (i + 1) ct bh (by omega) hb (by rw [Nat.max_eq_left (by omega)]; exact he) hc)
      · have hs := b01_ne h29
        rw [n_lt, n_nI (by omega), n_nI (by omega)] at h19
        rw [Nat.max_eq_left (by omega), hst, if_pos hs] at he
        refine xj_inc1 (pc := 32) d_RD_countOf_32 rfl (by decide) rfl ?_
        dsimp only [xset, xset2, xkill]
        rw [n_up]
        refine xj_iload (pc := 35) d_RD_countOf_35 rfl ?_
        refine xj_aload_n (pc := 37) d_RD_countOf_37 rfl rfl ?_
        refine xj_callV (pc := 38) d_RD_countOf_38 ml_RD_46 ok_RW_length (s_RW_length (by omega)) rfl rfl (xsh_row (by omega)) rfl rfl (Nat.le_of_ble_eq_true rfl) (by decide) ?_
        rintro rv I1 F1 ⟨rfl, rfl, rfl⟩
        dsimp only [Option.toList, List.cons_append, List.nil_append]
        refine xj_iadd (pc := 41) d_RD_countOf_41 ?_
        rw [hA.1, n_addN]
        refine xj_istore_n (pc := 42) d_RD_countOf_42 rfl (by decide) rfl ?_
        dsimp only [xset, xset2, xkill]
        refine xj_inc1 (pc := 43) d_RD_countOf_43 rfl (by decide) rfl ?_
        dsimp only [xset, xset2, xkill]
        rw [n_up]
        refine xj_goto (pc := 46) (tgt := 7) d_RD_countOf_46 (by decide) ?_
        first | (have h19b := n_lt.mp h19; rw [n_nI (by omega), n_nI (by omega)] at h19b; exact ih (i + 1) ct bh (by omega) hb (by rw [show max (i + 1) bh = max i bh by omega]; exact he) hc) | (have hp := st_pos hs; exact ih (i + 1) (ct + 1) (i + A.length) (by omega) (by omega) (by rw [Nat.max_eq_right (by omega)]; omega) (by omega); done) | (rw [n_lt, n_nI (by omega), n_nI (by omega)] at h19; rw [Nat.max_eq_left (by omega), hst, b01_eq h29, if_neg (by decide)] at he; exact ih (i + 1) ct bh (by omega) hb (by rw [Nat.max_eq_left (by omega)]; exact he) hc)
theorem s_RD_countOf {ka kb : Nat} {A B : List Int32} (hka : ka < 12) (hkb : kb < 12) (hA : Rl I F ka A) (hB : Rl I F kb B) : XM m_RD_countOf [.ref ka, .ref kb] I F (xpi (nI (cN A B)) I F) := by
  refine XM.of (by decide) (Nat.le_of_ble_eq_true rfl) ?_
  dsimp only [xargs]
  refine xj_iconst (pc := 0) (v := 0) d_RD_countOf_0 (by decide) ?_
  refine xj_istore_n (pc := 1) d_RD_countOf_1 rfl (by decide) rfl ?_
  dsimp only [xset, xset2, xkill]
  refine xj_iconst (pc := 2) (v := 0) d_RD_countOf_2 (by decide) ?_
  refine xj_istore_n (pc := 3) d_RD_countOf_3 rfl (by decide) rfl ?_
  dsimp only [xset, xset2, xkill]
  refine xj_iconst (pc := 4) (v := 0) d_RD_countOf_4 (by decide) ?_
  refine xj_istore (pc := 5) d_RD_countOf_5 (by decide) rfl ?_
  dsimp only [xset, xset2, xkill]
  exact s_RD_countOf_l hka hkb hA hB B.length 0 0 0 (by omega) (by omega) (by rw [Nat.max_self, List.drop_zero, Nat.zero_add]) (by omega)
theorem t_RD_often {a b : Int32} (hC : CI I F S) : XM m_RD_often [.ref 24, .int a, .int b] I F (CQ (sp_often S a b, S) I F) := by
  refine XM.of (by decide) (Nat.le_of_ble_eq_true rfl) ?_
  dsimp only [xargs]
  refine xj_aload_n (pc := 0) d_RD_often_0 rfl rfl ?_
  refine xj_iload_n (pc := 1) d_RD_often_1 rfl rfl ?_
  rcases regc a with ⟨k_a, hk_a, e_a, i_a, t_a⟩ | i_a
  · refine xj_callV (pc := 2) d_RD_often_2 ml_RD_56 ok_RD_register (s_RD_register_k hk_a e_a) rfl rfl rfl rfl rfl (Nat.le_of_ble_eq_true rfl) (by decide) ?_
    rintro rv I1 F1 ⟨rfl, rfl, rfl⟩
    dsimp only [Option.toList, List.cons_append, List.nil_append]
    refine xj_astore_n (pc := 5) d_RD_often_5 rfl (by decide) rfl ?_
    dsimp only [xset, xset2, xkill]
    refine xj_aload_n (pc := 6) d_RD_often_6 rfl rfl ?_
    refine xj_iload_n (pc := 7) d_RD_often_7 rfl rfl ?_
    rcases regc b with ⟨k_b, hk_b, e_b, i_b, t_b⟩ | i_b
    · refine xj_callV (pc := 8) d_RD_often_8 ml_RD_56 ok_RD_register (s_RD_register_k hk_b e_b) rfl rfl rfl rfl rfl (Nat.le_of_ble_eq_true rfl) (by decide) ?_
      rintro rv I1 F1 ⟨rfl, rfl, rfl⟩
      dsimp only [Option.toList, List.cons_append, List.nil_append]
      refine xj_astore (pc := 11) d_RD_often_11 (by decide) rfl ?_
      dsimp only [xset, xset2, xkill]
      refine xj_aload_n (pc := 13) d_RD_often_13 rfl rfl ?_
      refine xj_ifnull (pc := 14) d_RD_often_14 ?_
      refine xj_aload (pc := 17) d_RD_often_17 rfl ?_
      refine xj_ifnonnull (pc := 19) (tgt := 26) d_RD_often_19 (by decide) ?_
      refine xj_aload_n (pc := 26) d_RD_often_26 rfl rfl ?_
      refine xj_aload (pc := 27) d_RD_often_27 rfl ?_
      refine xj_callS (pc := 29) d_RD_often_29 ml_RD_110 ok_RD_countOf (s_RD_countOf (by omega) (by omega) (hC.at hk_a t_a) (hC.at hk_b t_b)) rfl rfl rfl (Nat.le_of_ble_eq_true rfl) (by decide) ?_
      rintro rv I1 F1 ⟨rfl, rfl, rfl⟩
      dsimp only [Option.toList, List.cons_append, List.nil_append]
      refine xj_iret (pc := 32) d_RD_often_32 rfl ?_
      first | (rw [sp_often, if_neg (by simp_all)]; exact ck_ans hC; done) | (rw [sp_often, if_pos (by simp_all)]; exact ck_ans hC)
    · refine xj_callV (pc := 8) d_RD_often_8 ml_RD_56 ok_RD_register (s_RD_register_n i_b) rfl rfl rfl rfl rfl (Nat.le_of_ble_eq_true rfl) (by decide) ?_
      rintro rv I1 F1 ⟨rfl, rfl, rfl⟩
      dsimp only [Option.toList, List.cons_append, List.nil_append]
      refine xj_astoreN (pc := 11) d_RD_often_11 (by decide) rfl ?_
      dsimp only [xset, xset2, xkill]
      refine xj_aload_n (pc := 13) d_RD_often_13 rfl rfl ?_
      refine xj_ifnull (pc := 14) d_RD_often_14 ?_
      refine xj_aloadN (pc := 17) d_RD_often_17 rfl ?_
      refine xj_ifnonnullN (pc := 19) d_RD_often_19 ?_
      refine xj_iconst (pc := 22) (v := -1) d_RD_often_22 (by decide) ?_
      refine xj_goto (pc := 23) (tgt := 32) d_RD_often_23 (by decide) ?_
      refine xj_iret (pc := 32) d_RD_often_32 rfl ?_
      first | (rw [sp_often, if_neg (by simp_all)]; exact ck_ans hC; done) | (rw [sp_often, if_pos (by simp_all)]; exact ck_ans hC)
  · refine xj_callV (pc := 2) d_RD_often_2 ml_RD_56 ok_RD_register (s_RD_register_n i_a) rfl rfl rfl rfl rfl (Nat.le_of_ble_eq_true rfl) (by decide) ?_
    rintro rv I1 F1 ⟨rfl, rfl, rfl⟩
    dsimp only [Option.toList, List.cons_append, List.nil_append]
    refine xj_astore_nN (pc := 5) d_RD_often_5 rfl (by decide) rfl ?_
    dsimp only [xset, xset2, xkill]
    refine xj_aload_n (pc := 6) d_RD_often_6 rfl rfl ?_
    refine xj_iload_n (pc := 7) d_RD_often_7 rfl rfl ?_
    rcases regc b with ⟨k_b, hk_b, e_b, i_b, t_b⟩ | i_b
    · refine xj_callV (pc := 8) d_RD_often_8 ml_RD_56 ok_RD_register (s_RD_register_k hk_b e_b) rfl rfl rfl rfl rfl (Nat.le_of_ble_eq_true rfl) (by decide) ?_
      rintro rv I1 F1 ⟨rfl, rfl, rfl⟩
      dsimp only [Option.toList, List.cons_append, List.nil_append]
      refine xj_astore (pc := 11) d_RD_often_11 (by decide) rfl ?_
      dsimp only [xset, xset2, xkill]
      refine xj_aload_nN (pc := 13) d_RD_often_13 rfl rfl ?_
      refine xj_ifnullN (pc := 14) (tgt := 22) d_RD_often_14 (by decide) ?_
      refine xj_iconst (pc := 22) (v := -1) d_RD_often_22 (by decide) ?_
      refine xj_goto (pc := 23) (tgt := 32) d_RD_often_23 (by decide) ?_
      refine xj_iret (pc := 32) d_RD_often_32 rfl ?_
      first | (rw [sp_often, if_neg (by simp_all)]; exact ck_ans hC; done) | (rw [sp_often, if_pos (by simp_all)]; exact ck_ans hC)
    · refine xj_callV (pc := 8) d_RD_often_8 ml_RD_56 ok_RD_register (s_RD_register_n i_b) rfl rfl rfl rfl rfl (Nat.le_of_ble_eq_true rfl) (by decide) ?_
      rintro rv I1 F1 ⟨rfl, rfl, rfl⟩
      dsimp only [Option.toList, List.cons_append, List.nil_append]
      refine xj_astoreN (pc := 11) d_RD_often_11 (by decide) rfl ?_
      dsimp only [xset, xset2, xkill]
      refine xj_aload_nN (pc := 13) d_RD_often_13 rfl rfl ?_
      refine xj_ifnullN (pc := 14) (tgt := 22) d_RD_often_14 (by decide) ?_
      refine xj_iconst (pc := 22) (v := -1) d_RD_often_22 (by decide) ?_
      refine xj_goto (pc := 23) (tgt := 32) d_RD_often_23 (by decide) ?_
      refine xj_iret (pc := 32) d_RD_often_32 rfl ?_
      first | (rw [sp_often, if_neg (by simp_all)]; exact ck_ans hC; done) | (rw [sp_often, if_pos (by simp_all)]; exact ck_ans hC)
end RDH
