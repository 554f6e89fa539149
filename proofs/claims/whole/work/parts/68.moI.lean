section MOI
variable {I I1 I2 : XI} {F F1 F2 : XF} {S : XSt} {r k : Nat} {M X L T : List Int32}
theorem wsi_get (L : List Int32) : ∀ (j i q s : Nat), i ≤ j → (wsi L i)[q]? = some s → (wsi L j)[q]? = some s
  | 0, i, q, s, h, hg => by rw [show i = 0 by omega] at hg; exact hg
  | j + 1, i, q, s, h, hg => by
    rcases Nat.lt_or_ge i (j + 1) with z | z
    · have := wsi_get L j i q s (by omega) hg
      rw [wsi_succ, List.getElem?_append_left (List.getElem?_eq_some_iff.mp this).1]; exact this
    · rw [show i = j + 1 by omega] at hg; exact hg
theorem wst_at {L : List Int32} {p : Nat} (hp : p < L.length) (hw : wb L p = true) : (wst L)[(wsi L p).length]? = some p := by
  refine wsi_get L L.length (p + 1) _ p (by omega) ?_
  rw [wsi_succ, if_pos hw, List.getElem?_append_right (Nat.le_refl _), Nat.sub_self]; rfl
theorem wbg_at {L : List Int32} {p : Nat} (hp : p < L.length) (hw : wb L p = true) : wbg L (wsi L p).length = p := by
  rw [wbg, List.getD_eq_getElem?_getD, wst_at hp hw]; rfl
theorem wbg_end {L : List Int32} {q : Nat} (h : (wst L).length ≤ q) : wbg L q = L.length := by
  rw [wbg, List.getD_eq_getElem?_getD, List.getElem?_eq_none h]; rfl
theorem wbg_lt {L : List Int32} {q : Nat} : wbg L q < L.length ↔ q < (wst L).length := by
  rcases Nat.lt_or_ge q (wst L).length with z | z
  · have hg : (wst L)[q]? = some (wst L)[q] := List.getElem?_eq_getElem z
    have := wst_lt hg
    rw [wbg, List.getD_eq_getElem?_getD, hg]; simp only [Option.getD_some]; omega
  · rw [wbg_end z]; omega
theorem gd_get {L : List Int32} {p : Nat} (h : p < L.length) : L[p]? = some (L.getD p 32) := by rw [List.getD_eq_getElem?_getD, List.getElem?_eq_getElem h]; rfl
theorem wb_t {L : List Int32} {p : Nat} : wb L p = true ↔ ¬ L.getD p 32 = 32 ∧ (p = 0 ∨ L.getD (p - 1) 32 = 32) := by
  simp [wb]
theorem s_MO_begin_l {kr q : Nat} (hkr : kr < 10) (hL : Mr F kr L) (hq : q < 2147483647) : ∀ (m p : Nat), p + m = L.length → (wsi L p).length ≤ q →
    XJ none m_MO_begin 5 [some (.ref 36), some (.int (nI kr)), some (.int (nI (q + 1))), some (.int (nI (wsi L p).length)), some (.int (nI p))] [] I F (xpi (nI (wbg L q)) I F) := by
  have sL := hL.sz
  have h200 := hL.2.1
  intro m
  induction m with
  | zero =>
    intro p hp hn
    refine xj_iload (pc := 5) d_MO_begin_5 rfl ?_
    refine xj_aload_n (pc := 7) d_MO_begin_7 rfl rfl ?_
    refine xj_getR (pc := 8) d_MO_begin_8 fl_MO_16 rfl rfl ?_
    refine xj_iload_n (pc := 11) d_MO_begin_11 rfl rfl ?_
    refine xj_iald (pc := 12) d_MO_begin_12 (n := 10) (x := 21) rfl rfl hkr (by decide) ?_
    refine xj_icmp_ge (pc := 13) (tgt := 86) d_MO_begin_13 (by decide) (fun h13 => ?_) (fun h13 => absurd (by rw [n_le, sL, n_nI (by omega)]; omega) h13)
    refine xj_aload_n (pc := 86) d_MO_begin_86 rfl rfl ?_
    refine xj_getR (pc := 87) d_MO_begin_87 fl_MO_16 rfl rfl ?_
    refine xj_iload_n (pc := 90) d_MO_begin_90 rfl rfl ?_
    refine xj_iald (pc := 91) d_MO_begin_91 (n := 10) (x := 21) rfl rfl hkr (by decide) ?_
    refine xj_iret (pc := 92) d_MO_begin_92 rfl ?_
    rw [hL.1, wbg_end (by rw [wst_wsi, ← show p = L.length by omega]; exact hn)]
    exact ⟨rfl, rfl, rfl⟩
  | succ m ih =>
    intro p hp hn
    have hlt : p < L.length := by omega
    have hcn := (wsi_cnt L p).1
    have hih := ih (p + 1) (by omega)
    rw [wsi_succ] at hih
    by_cases hw : wb L p = true
    · have hw2 := wb_t.mp hw
      rw [if_pos hw, List.length_append] at hih
      refine xj_iload (pc := 5) d_MO_begin_5 rfl ?_
      refine xj_aload_n (pc := 7) d_MO_begin_7 rfl rfl ?_
      refine xj_getR (pc := 8) d_MO_begin_8 fl_MO_16 rfl rfl ?_
      refine xj_iload_n (pc := 11) d_MO_begin_11 rfl rfl ?_
      refine xj_iald (pc := 12) d_MO_begin_12 (n := 10) (x := 21) rfl rfl hkr (by decide) ?_
      refine xj_icmp_ge (pc := 13) (tgt := 86) d_MO_begin_13 (by decide) (fun h13 => absurd h13 (by rw [n_le, sL, n_nI (by omega)]; omega)) (fun h13 => ?_)
      refine xj_aload_n (pc := 16) d_MO_begin_16 rfl rfl ?_
      refine xj_iload_n (pc := 17) d_MO_begin_17 rfl rfl ?_
      refine xj_iload (pc := 18) d_MO_begin_18 rfl ?_
      refine xj_callV (pc := 20) d_MO_begin_20 ml_MO_46 ok_MO_of (s_MO_ofL hkr hL (gd_get hlt)) rfl rfl rfl rfl rfl (Nat.le_of_ble_eq_true rfl) (by decide) ?_
      rintro rv I1 F1 ⟨rfl, rfl, rfl⟩
      dsimp only [Option.toList, List.cons_append, List.nil_append]
      refine xj_bipush (pc := 23) (v := 32) d_MO_begin_23 (by decide) ?_
      refine xj_icmp_eq (pc := 25) (tgt := 51) d_MO_begin_25 (by decide) (fun h25 => absurd h25 (hw2.1)) (fun h25 => ?_)
      refine xj_iload (pc := 28) d_MO_begin_28 rfl ?_
      refine xj_if_eq (pc := 30) (tgt := 47) d_MO_begin_30 (by decide) (fun h30 => ?_) (fun h30 => ?_)
      · refine xj_iconst (pc := 47) (v := 1) d_MO_begin_47 (by decide) ?_
        refine xj_goto (pc := 48) (tgt := 52) d_MO_begin_48 (by decide) ?_
        refine xj_istore (pc := 52) d_MO_begin_52 (by decide) rfl ?_
        dsimp only [xset, xset2, xkill]
        refine xj_iload_n (pc := 54) d_MO_begin_54 rfl rfl ?_
        refine xj_iload (pc := 55) d_MO_begin_55 rfl ?_
        refine xj_if_eq (pc := 57) (tgt := 64) d_MO_begin_57 (by decide) (fun h57 => absurd h57 (by decide)) (fun h57 => ?_)
        refine xj_iconst (pc := 60) (v := 1) d_MO_begin_60 (by decide) ?_
        refine xj_goto (pc := 61) (tgt := 65) d_MO_begin_61 (by decide) ?_
        refine xj_iadd (pc := 65) d_MO_begin_65 ?_
        rw [n_up]
        refine xj_istore_n (pc := 66) d_MO_begin_66 rfl (by decide) rfl ?_
        dsimp only [xset, xset2, xkill]
        refine xj_iload (pc := 67) d_MO_begin_67 rfl ?_
        refine xj_if_eq (pc := 69) (tgt := 80) d_MO_begin_69 (by decide) (fun h69 => absurd h69 (by decide)) (fun h69 => ?_)
        refine xj_iload_n (pc := 72) d_MO_begin_72 rfl rfl ?_
        refine xj_iload_n (pc := 73) d_MO_begin_73 rfl rfl ?_
        refine xj_icmp_ne (pc := 74) (tgt := 80) d_MO_begin_74 (by decide) (fun h74 => ?_) (fun h74 => ?_)
        · refine xj_inc1 (pc := 80) d_MO_begin_80 rfl (by decide) rfl ?_
          dsimp only [xset, xset2, xkill]
          rw [n_up]
          refine xj_goto (pc := 83) (tgt := 5) d_MO_begin_83 (by decide) ?_
          exact xj_take 5 (hih (by simp only [List.length_cons, List.length_nil]; have h74b : ¬ (wsi L p).length + 1 = q + 1 := (fun z => h74 (by rw [z])); omega))
        · refine xj_iload (pc := 77) d_MO_begin_77 rfl ?_
          refine xj_iret (pc := 79) d_MO_begin_79 rfl ?_
          have e : (wsi L p).length = q := (by have := (nI_eq (a := (wsi L p).length + 1) (b := q + 1) (by omega) (by omega)).mp h74; omega)
          rw [← e, wbg_at hlt hw]
          exact ⟨rfl, rfl, rfl⟩
      · refine xj_aload_n (pc := 33) d_MO_begin_33 rfl rfl ?_
        refine xj_iload_n (pc := 34) d_MO_begin_34 rfl rfl ?_
        refine xj_iload (pc := 35) d_MO_begin_35 rfl ?_
        refine xj_iconst (pc := 37) (v := 1) d_MO_begin_37 (by decide) ?_
        refine xj_isub (pc := 38) d_MO_begin_38 ?_
        rw [show nI p - 1 = nI (p - 1) from n_of (by rw [n_k1 (by rw [n_nI (by omega)]; rw [n_eq, n_0, n_nI (by omega)] at h30; omega), n_nI (by omega)]; rw [n_eq, n_0, n_nI (by omega)] at h30; omega)]
        refine xj_callV (pc := 39) d_MO_begin_39 ml_MO_46 ok_MO_of (s_MO_ofL hkr hL (gd_get (show p - 1 < L.length by omega))) rfl rfl rfl rfl rfl (Nat.le_of_ble_eq_true rfl) (by decide) ?_
        rintro rv I1 F1 ⟨rfl, rfl, rfl⟩
        dsimp only [Option.toList, List.cons_append, List.nil_append]
        refine xj_bipush (pc := 42) (v := 32) d_MO_begin_42 (by decide) ?_
        refine xj_icmp_ne (pc := 44) (tgt := 51) d_MO_begin_44 (by decide) (fun h44 => absurd (by rcases hw2.2 with z | z; (rw [z] at h30; exact absurd rfl h30); exact z) h44) (fun h44 => ?_)
        refine xj_iconst (pc := 47) (v := 1) d_MO_begin_47 (by decide) ?_
        refine xj_goto (pc := 48) (tgt := 52) d_MO_begin_48 (by decide) ?_
        refine xj_istore (pc := 52) d_MO_begin_52 (by decide) rfl ?_
        dsimp only [xset, xset2, xkill]
        refine xj_iload_n (pc := 54) d_MO_begin_54 rfl rfl ?_
        refine xj_iload (pc := 55) d_MO_begin_55 rfl ?_
        refine xj_if_eq (pc := 57) (tgt := 64) d_MO_begin_57 (by decide) (fun h57 => absurd h57 (by decide)) (fun h57 => ?_)
        refine xj_iconst (pc := 60) (v := 1) d_MO_begin_60 (by decide) ?_
        refine xj_goto (pc := 61) (tgt := 65) d_MO_begin_61 (by decide) ?_
        refine xj_iadd (pc := 65) d_MO_begin_65 ?_
        rw [n_up]
        refine xj_istore_n (pc := 66) d_MO_begin_66 rfl (by decide) rfl ?_
        dsimp only [xset, xset2, xkill]
        refine xj_iload (pc := 67) d_MO_begin_67 rfl ?_
        refine xj_if_eq (pc := 69) (tgt := 80) d_MO_begin_69 (by decide) (fun h69 => absurd h69 (by decide)) (fun h69 => ?_)
        refine xj_iload_n (pc := 72) d_MO_begin_72 rfl rfl ?_
        refine xj_iload_n (pc := 73) d_MO_begin_73 rfl rfl ?_
        refine xj_icmp_ne (pc := 74) (tgt := 80) d_MO_begin_74 (by decide) (fun h74 => ?_) (fun h74 => ?_)
        · refine xj_inc1 (pc := 80) d_MO_begin_80 rfl (by decide) rfl ?_
          dsimp only [xset, xset2, xkill]
          rw [n_up]
          refine xj_goto (pc := 83) (tgt := 5) d_MO_begin_83 (by decide) ?_
          exact xj_take 5 (hih (by simp only [List.length_cons, List.length_nil]; have h74b : ¬ (wsi L p).length + 1 = q + 1 := (fun z => h74 (by rw [z])); omega))
        · refine xj_iload (pc := 77) d_MO_begin_77 rfl ?_
          refine xj_iret (pc := 79) d_MO_begin_79 rfl ?_
          have e : (wsi L p).length = q := (by have := (nI_eq (a := (wsi L p).length + 1) (b := q + 1) (by omega) (by omega)).mp h74; omega)
          rw [← e, wbg_at hlt hw]
          exact ⟨rfl, rfl, rfl⟩
    · have hw2 : ¬ (¬ L.getD p 32 = 32 ∧ (p = 0 ∨ L.getD (p - 1) 32 = 32)) := fun z => hw (wb_t.mpr z)
      rw [if_neg hw, List.append_nil] at hih
      by_cases hb : L.getD p 32 = 32
      · refine xj_iload (pc := 5) d_MO_begin_5 rfl ?_
        refine xj_aload_n (pc := 7) d_MO_begin_7 rfl rfl ?_
        refine xj_getR (pc := 8) d_MO_begin_8 fl_MO_16 rfl rfl ?_
        refine xj_iload_n (pc := 11) d_MO_begin_11 rfl rfl ?_
        refine xj_iald (pc := 12) d_MO_begin_12 (n := 10) (x := 21) rfl rfl hkr (by decide) ?_
        refine xj_icmp_ge (pc := 13) (tgt := 86) d_MO_begin_13 (by decide) (fun h13 => absurd h13 (by rw [n_le, sL, n_nI (by omega)]; omega)) (fun h13 => ?_)
        refine xj_aload_n (pc := 16) d_MO_begin_16 rfl rfl ?_
        refine xj_iload_n (pc := 17) d_MO_begin_17 rfl rfl ?_
        refine xj_iload (pc := 18) d_MO_begin_18 rfl ?_
        refine xj_callV (pc := 20) d_MO_begin_20 ml_MO_46 ok_MO_of (s_MO_ofL hkr hL (gd_get hlt)) rfl rfl rfl rfl rfl (Nat.le_of_ble_eq_true rfl) (by decide) ?_
        rintro rv I1 F1 ⟨rfl, rfl, rfl⟩
        dsimp only [Option.toList, List.cons_append, List.nil_append]
        refine xj_bipush (pc := 23) (v := 32) d_MO_begin_23 (by decide) ?_
        refine xj_icmp_eq (pc := 25) (tgt := 51) d_MO_begin_25 (by decide) (fun h25 => ?_) (fun h25 => absurd (hb) h25)
        refine xj_iconst (pc := 51) (v := 0) d_MO_begin_51 (by decide) ?_
        refine xj_istore (pc := 52) d_MO_begin_52 (by decide) rfl ?_
        dsimp only [xset, xset2, xkill]
        refine xj_iload_n (pc := 54) d_MO_begin_54 rfl rfl ?_
        refine xj_iload (pc := 55) d_MO_begin_55 rfl ?_
        refine xj_if_eq (pc := 57) (tgt := 64) d_MO_begin_57 (by decide) (fun h57 => ?_) (fun h57 => absurd (rfl) h57)
        refine xj_iconst (pc := 64) (v := 0) d_MO_begin_64 (by decide) ?_
        refine xj_iadd (pc := 65) d_MO_begin_65 ?_
        rw [show nI (wsi L p).length + 0 = nI (wsi L p).length by simp]
        refine xj_istore_n (pc := 66) d_MO_begin_66 rfl (by decide) rfl ?_
        dsimp only [xset, xset2, xkill]
        refine xj_iload (pc := 67) d_MO_begin_67 rfl ?_
        refine xj_if_eq (pc := 69) (tgt := 80) d_MO_begin_69 (by decide) (fun h69 => ?_) (fun h69 => absurd (rfl) h69)
        refine xj_inc1 (pc := 80) d_MO_begin_80 rfl (by decide) rfl ?_
        dsimp only [xset, xset2, xkill]
        rw [n_up]
        refine xj_goto (pc := 83) (tgt := 5) d_MO_begin_83 (by decide) ?_
        exact xj_take 5 (hih hn)
      · have hp0 : ¬ p = 0 := fun z => hw2 ⟨hb, Or.inl z⟩
        refine xj_iload (pc := 5) d_MO_begin_5 rfl ?_
        refine xj_aload_n (pc := 7) d_MO_begin_7 rfl rfl ?_
        refine xj_getR (pc := 8) d_MO_begin_8 fl_MO_16 rfl rfl ?_
        refine xj_iload_n (pc := 11) d_MO_begin_11 rfl rfl ?_
        refine xj_iald (pc := 12) d_MO_begin_12 (n := 10) (x := 21) rfl rfl hkr (by decide) ?_
        refine xj_icmp_ge (pc := 13) (tgt := 86) d_MO_begin_13 (by decide) (fun h13 => absurd h13 (by rw [n_le, sL, n_nI (by omega)]; omega)) (fun h13 => ?_)
        refine xj_aload_n (pc := 16) d_MO_begin_16 rfl rfl ?_
        refine xj_iload_n (pc := 17) d_MO_begin_17 rfl rfl ?_
        refine xj_iload (pc := 18) d_MO_begin_18 rfl ?_
        refine xj_callV (pc := 20) d_MO_begin_20 ml_MO_46 ok_MO_of (s_MO_ofL hkr hL (gd_get hlt)) rfl rfl rfl rfl rfl (Nat.le_of_ble_eq_true rfl) (by decide) ?_
        rintro rv I1 F1 ⟨rfl, rfl, rfl⟩
        dsimp only [Option.toList, List.cons_append, List.nil_append]
        refine xj_bipush (pc := 23) (v := 32) d_MO_begin_23 (by decide) ?_
        refine xj_icmp_eq (pc := 25) (tgt := 51) d_MO_begin_25 (by decide) (fun h25 => absurd h25 (hb)) (fun h25 => ?_)
        refine xj_iload (pc := 28) d_MO_begin_28 rfl ?_
        refine xj_if_eq (pc := 30) (tgt := 47) d_MO_begin_30 (by decide) (fun h30 => absurd h30 (by rw [n_eq, n_0, n_nI (by omega)]; omega)) (fun h30 => ?_)
        refine xj_aload_n (pc := 33) d_MO_begin_33 rfl rfl ?_
        refine xj_iload_n (pc := 34) d_MO_begin_34 rfl rfl ?_
        refine xj_iload (pc := 35) d_MO_begin_35 rfl ?_
        refine xj_iconst (pc := 37) (v := 1) d_MO_begin_37 (by decide) ?_
        refine xj_isub (pc := 38) d_MO_begin_38 ?_
        rw [show nI p - 1 = nI (p - 1) from n_of (by rw [n_k1 (by rw [n_nI (by omega)]; omega), n_nI (by omega)]; omega)]
        refine xj_callV (pc := 39) d_MO_begin_39 ml_MO_46 ok_MO_of (s_MO_ofL hkr hL (gd_get (show p - 1 < L.length by omega))) rfl rfl rfl rfl rfl (Nat.le_of_ble_eq_true rfl) (by decide) ?_
        rintro rv I1 F1 ⟨rfl, rfl, rfl⟩
        dsimp only [Option.toList, List.cons_append, List.nil_append]
        refine xj_bipush (pc := 42) (v := 32) d_MO_begin_42 (by decide) ?_
        refine xj_icmp_ne (pc := 44) (tgt := 51) d_MO_begin_44 (by decide) (fun h44 => ?_) (fun h44 => absurd h44 (fun z => hw2 ⟨hb, Or.inr z⟩))
        refine xj_iconst (pc := 51) (v := 0) d_MO_begin_51 (by decide) ?_
        refine xj_istore (pc := 52) d_MO_begin_52 (by decide) rfl ?_
        dsimp only [xset, xset2, xkill]
        refine xj_iload_n (pc := 54) d_MO_begin_54 rfl rfl ?_
        refine xj_iload (pc := 55) d_MO_begin_55 rfl ?_
        refine xj_if_eq (pc := 57) (tgt := 64) d_MO_begin_57 (by decide) (fun h57 => ?_) (fun h57 => absurd (rfl) h57)
        refine xj_iconst (pc := 64) (v := 0) d_MO_begin_64 (by decide) ?_
        refine xj_iadd (pc := 65) d_MO_begin_65 ?_
        rw [show nI (wsi L p).length + 0 = nI (wsi L p).length by simp]
        refine xj_istore_n (pc := 66) d_MO_begin_66 rfl (by decide) rfl ?_
        dsimp only [xset, xset2, xkill]
        refine xj_iload (pc := 67) d_MO_begin_67 rfl ?_
        refine xj_if_eq (pc := 69) (tgt := 80) d_MO_begin_69 (by decide) (fun h69 => ?_) (fun h69 => absurd (rfl) h69)
        refine xj_inc1 (pc := 80) d_MO_begin_80 rfl (by decide) rfl ?_
        dsimp only [xset, xset2, xkill]
        rw [n_up]
        refine xj_goto (pc := 83) (tgt := 5) d_MO_begin_83 (by decide) ?_
        exact xj_take 5 (hih hn)
theorem s_MO_begin {kr q : Nat} (hkr : kr < 10) (hL : Mr F kr L) (hq : q < 2147483647) : XM m_MO_begin [.ref 36, .int (nI kr), .int (nI (q + 1))] I F (xpi (nI (wbg L q)) I F) := by
  refine XM.of (by decide) (Nat.le_of_ble_eq_true rfl) ?_
  dsimp only [xargs]
  refine xj_iconst (pc := 0) (v := 0) d_MO_begin_0 (by decide) ?_
  refine xj_istore_n (pc := 1) d_MO_begin_1 rfl (by decide) rfl ?_
  dsimp only [xset, xset2, xkill]
  refine xj_iconst (pc := 2) (v := 0) d_MO_begin_2 (by decide) ?_
  refine xj_istore (pc := 3) d_MO_begin_3 (by decide) rfl ?_
  dsimp only [xset, xset2, xkill]
  exact s_MO_begin_l hkr hL hq L.length 0 (by omega) (Nat.zero_le _)
theorem s_MO_wordEnd_l {kr s : Nat} (hkr : kr < 10) (hL : Mr F kr L) : ∀ (m p : Nat), p + m = L.length → s ≤ p → (∀ q, s ≤ q → q < p → ¬ L.getD q 32 = 32) →
    XJ none m_MO_wordEnd 2 [some (.ref 36), some (.int (nI kr)), some (.int (nI s)), some (.int (nI p))] [] I F (xpi (nI (wen L s)) I F) := by
  have sL := hL.sz
  have h200 := hL.2.1
  intro m
  induction m with
  | zero =>
    intro p hp hs hq
    have hend : L.getD p 32 = 32 := by rw [List.getD_eq_getElem?_getD, List.getElem?_eq_none (by omega)]; rfl
    refine xj_iload_n (pc := 2) d_MO_wordEnd_2 rfl rfl ?_
    refine xj_aload_n (pc := 3) d_MO_wordEnd_3 rfl rfl ?_
    refine xj_getR (pc := 4) d_MO_wordEnd_4 fl_MO_16 rfl rfl ?_
    refine xj_iload_n (pc := 7) d_MO_wordEnd_7 rfl rfl ?_
    refine xj_iald (pc := 8) d_MO_wordEnd_8 (n := 10) (x := 21) rfl rfl hkr (by decide) ?_
    refine xj_icmp_ge (pc := 9) (tgt := 29) d_MO_wordEnd_9 (by decide) (fun h9 => ?_) (fun h9 => absurd (by rw [n_le, sL, n_nI (by omega)]; omega) h9)
    refine xj_iload_n (pc := 29) d_MO_wordEnd_29 rfl rfl ?_
    refine xj_iret (pc := 30) d_MO_wordEnd_30 rfl ?_
    rw [wen_eq hs (by omega) hq hend]
    exact ⟨rfl, rfl, rfl⟩
  | succ m ih =>
    intro p hp hs hq
    refine xj_iload_n (pc := 2) d_MO_wordEnd_2 rfl rfl ?_
    refine xj_aload_n (pc := 3) d_MO_wordEnd_3 rfl rfl ?_
    refine xj_getR (pc := 4) d_MO_wordEnd_4 fl_MO_16 rfl rfl ?_
    refine xj_iload_n (pc := 7) d_MO_wordEnd_7 rfl rfl ?_
    refine xj_iald (pc := 8) d_MO_wordEnd_8 (n := 10) (x := 21) rfl rfl hkr (by decide) ?_
    refine xj_icmp_ge (pc := 9) (tgt := 29) d_MO_wordEnd_9 (by decide) (fun h9 => absurd h9 (by rw [n_le, sL, n_nI (by omega)]; omega)) (fun h9 => ?_)
    refine xj_aload_n (pc := 12) d_MO_wordEnd_12 rfl rfl ?_
    refine xj_iload_n (pc := 13) d_MO_wordEnd_13 rfl rfl ?_
    refine xj_iload_n (pc := 14) d_MO_wordEnd_14 rfl rfl ?_
    refine xj_callV (pc := 15) d_MO_wordEnd_15 ml_MO_46 ok_MO_of (s_MO_ofL hkr hL (gd_get (show p < L.length by omega))) rfl rfl rfl rfl rfl (Nat.le_of_ble_eq_true rfl) (by decide) ?_
    rintro rv I1 F1 ⟨rfl, rfl, rfl⟩
    dsimp only [Option.toList, List.cons_append, List.nil_append]
    refine xj_bipush (pc := 18) (v := 32) d_MO_wordEnd_18 (by decide) ?_
    refine xj_icmp_eq (pc := 20) (tgt := 29) d_MO_wordEnd_20 (by decide) (fun h20 => ?_) (fun h20 => ?_)
    · refine xj_iload_n (pc := 29) d_MO_wordEnd_29 rfl rfl ?_
      refine xj_iret (pc := 30) d_MO_wordEnd_30 rfl ?_
      rw [wen_eq hs (by omega) hq h20]
      exact ⟨rfl, rfl, rfl⟩
    · refine xj_inc1 (pc := 23) d_MO_wordEnd_23 rfl (by decide) rfl ?_
      dsimp only [xset, xset2, xkill]
      rw [n_up]
      refine xj_goto (pc := 26) (tgt := 2) d_MO_wordEnd_26 (by decide) ?_
      exact ih (p + 1) (by omega) (by omega) (fun q a b => by rcases Nat.lt_or_ge q p with z | z; exact hq q a z; rw [show q = p by omega]; exact h20)
theorem s_MO_wordEnd {kr s : Nat} (hkr : kr < 10) (hL : Mr F kr L) (hs : s ≤ L.length) : XM m_MO_wordEnd [.ref 36, .int (nI kr), .int (nI s)] I F (xpi (nI (wen L s)) I F) := by
  refine XM.of (by decide) (Nat.le_of_ble_eq_true rfl) ?_
  dsimp only [xargs]
  refine xj_iload_n (pc := 0) d_MO_wordEnd_0 rfl rfl ?_
  refine xj_istore_n (pc := 1) d_MO_wordEnd_1 rfl (by decide) rfl ?_
  dsimp only [xset, xset2, xkill]
  exact s_MO_wordEnd_l hkr hL (L.length - s) s (by omega) (Nat.le_refl _) (fun q a b => absurd a (by omega))
theorem s_MO_words_l {kr : Nat} (hkr : kr < 10) (hL : Mr F kr L) : ∀ (m n : Nat), n + m = (wst L).length →
    XJ none m_MO_words 11 [some (.ref 36), some (.int (nI kr)), some (.int (nI n))] [] I F (xpi (nI (wst L).length) I F) := by
  have sL := hL.sz
  have h200 := hL.2.1
  have hcn := wst_cnt h200
  intro m
  induction m with
  | zero =>
    intro n hn
    refine xj_aload_n (pc := 11) d_MO_words_11 rfl rfl ?_
    refine xj_iload_n (pc := 12) d_MO_words_12 rfl rfl ?_
    refine xj_iload_n (pc := 13) d_MO_words_13 rfl rfl ?_
    refine xj_iconst (pc := 14) (v := 1) d_MO_words_14 (by decide) ?_
    refine xj_iadd (pc := 15) d_MO_words_15 ?_
    rw [n_up]
    refine xj_callV (pc := 16) d_MO_words_16 ml_MO_85 ok_MO_begin (s_MO_begin hkr hL (by omega)) rfl rfl rfl rfl rfl (Nat.le_of_ble_eq_true rfl) (by decide) ?_
    rintro rv I1 F1 ⟨rfl, rfl, rfl⟩
    dsimp only [Option.toList, List.cons_append, List.nil_append]
    refine xj_aload_n (pc := 19) d_MO_words_19 rfl rfl ?_
    refine xj_getR (pc := 20) d_MO_words_20 fl_MO_16 rfl rfl ?_
    refine xj_iload_n (pc := 23) d_MO_words_23 rfl rfl ?_
    refine xj_iald (pc := 24) d_MO_words_24 (n := 10) (x := 21) rfl rfl hkr (by decide) ?_
    refine xj_icmp_ge (pc := 25) (tgt := 34) d_MO_words_25 (by decide) (fun h25 => ?_) (fun h25 => absurd (by rw [wbg_end (by omega), n_le, sL, n_nI (by omega)]; omega) h25)
    refine xj_iload_n (pc := 34) d_MO_words_34 rfl rfl ?_
    refine xj_iret (pc := 35) d_MO_words_35 rfl ?_
    rw [show n = (wst L).length by omega]
    exact ⟨rfl, rfl, rfl⟩
  | succ m ih =>
    intro n hn
    have hlt := wbg_lt.mpr (show n < (wst L).length by omega)
    refine xj_aload_n (pc := 11) d_MO_words_11 rfl rfl ?_
    refine xj_iload_n (pc := 12) d_MO_words_12 rfl rfl ?_
    refine xj_iload_n (pc := 13) d_MO_words_13 rfl rfl ?_
    refine xj_iconst (pc := 14) (v := 1) d_MO_words_14 (by decide) ?_
    refine xj_iadd (pc := 15) d_MO_words_15 ?_
    rw [n_up]
    refine xj_callV (pc := 16) d_MO_words_16 ml_MO_85 ok_MO_begin (s_MO_begin hkr hL (by omega)) rfl rfl rfl rfl rfl (Nat.le_of_ble_eq_true rfl) (by decide) ?_
    rintro rv I1 F1 ⟨rfl, rfl, rfl⟩
    dsimp only [Option.toList, List.cons_append, List.nil_append]
    refine xj_aload_n (pc := 19) d_MO_words_19 rfl rfl ?_
    refine xj_getR (pc := 20) d_MO_words_20 fl_MO_16 rfl rfl ?_
    refine xj_iload_n (pc := 23) d_MO_words_23 rfl rfl ?_
    refine xj_iald (pc := 24) d_MO_words_24 (n := 10) (x := 21) rfl rfl hkr (by decide) ?_
    refine xj_icmp_ge (pc := 25) (tgt := 34) d_MO_words_25 (by decide) (fun h25 => absurd h25 (by rw [n_le, sL, n_nI (by omega)]; omega)) (fun h25 => ?_)
    refine xj_inc1 (pc := 28) d_MO_words_28 rfl (by decide) rfl ?_
    dsimp only [xset, xset2, xkill]
    rw [n_up]
    refine xj_goto (pc := 31) (tgt := 11) d_MO_words_31 (by decide) ?_
    exact ih (n + 1) (by omega)
theorem s_MO_words {kr : Nat} (hkr : kr < 10) (hL : Mr F kr L) : XM m_MO_words [.ref 36, .int (nI kr)] I F (xpi (nI (wst L).length) I F) := by
  refine XM.of (by decide) (Nat.le_of_ble_eq_true rfl) ?_
  dsimp only [xargs]
  have hr : isR (nI kr) = true := by simp only [isR, decide_eq_true_eq]; rw [n_nI (by omega)]; omega
  refine xj_iload_n (pc := 0) d_MO_words_0 rfl rfl ?_
  refine xj_callS (pc := 1) d_MO_words_1 ml_MO_42 ok_MO_is (s_MO_is) rfl rfl rfl (Nat.le_of_ble_eq_true rfl) (by decide) ?_
  rintro rv I1 F1 ⟨rfl, rfl, rfl⟩
  dsimp only [Option.toList, List.cons_append, List.nil_append]
  refine xj_if_ne (pc := 4) (tgt := 9) d_MO_words_4 (by decide) (fun h4 => ?_) (fun h4 => absurd h4 (by rw [hr]; decide))
  refine xj_iconst (pc := 9) (v := 0) d_MO_words_9 (by decide) ?_
  refine xj_istore_n (pc := 10) d_MO_words_10 rfl (by decide) rfl ?_
  dsimp only [xset, xset2, xkill]
  exact s_MO_words_l hkr hL (wst L).length 0 (by omega)
theorem t_MO_words {a : Int32} (hI : MI I F S) : XM m_MO_words [.ref 36, .int a] I F (NQ (sp_words S a, S) I F) := by
  rcases regc a with ⟨ka, hka, rfl, ia, ta⟩ | ia
  · exact (s_MO_words hka (hI.at hka ta)).post (fun rv I1 F1 h => by obtain ⟨rfl, rfl, rfl⟩ := h; rw [sp_words, ia, if_pos rfl]; exact nk_ans hI)
  · refine XM.of (by decide) (Nat.le_of_ble_eq_true rfl) ?_
    dsimp only [xargs]
    refine xj_iload_n (pc := 0) d_MO_words_0 rfl rfl ?_
    refine xj_callS (pc := 1) d_MO_words_1 ml_MO_42 ok_MO_is (s_MO_is) rfl rfl rfl (Nat.le_of_ble_eq_true rfl) (by decide) ?_
    rintro rv I1 F1 ⟨rfl, rfl, rfl⟩
    dsimp only [Option.toList, List.cons_append, List.nil_append]
    refine xj_if_ne (pc := 4) (tgt := 9) d_MO_words_4 (by decide) (fun h4 => absurd (by rw [ia]; rfl) h4) (fun h4 => ?_)
    refine xj_iconst (pc := 7) (v := -1) d_MO_words_7 (by decide) ?_
    refine xj_iret (pc := 8) d_MO_words_8 rfl ?_
    rw [sp_words, ia, if_neg (by decide)]
    exact nk_ans hI
theorem t_MO_word {a k what : Int32} (hI : MI I F S) : XM m_MO_word [.ref 36, .int a, .int k, .int what] I F (NQ (sp_word S a k what, S) I F) := by
  refine XM.of (by decide) (Nat.le_of_ble_eq_true rfl) ?_
  dsimp only [xargs]
  have := n_hi k
  refine xj_iload_n (pc := 0) d_MO_word_0 rfl rfl ?_
  refine xj_callS (pc := 1) d_MO_word_1 ml_MO_42 ok_MO_is (s_MO_is) rfl rfl rfl (Nat.le_of_ble_eq_true rfl) (by decide) ?_
  rintro rv I1 F1 ⟨rfl, rfl, rfl⟩
  dsimp only [Option.toList, List.cons_append, List.nil_append]
  refine xj_if_eq (pc := 4) (tgt := 21) d_MO_word_4 (by decide) (fun h4 => ?_) (fun h4 => ?_)
  · refine xj_iconst (pc := 21) (v := -1) d_MO_word_21 (by decide) ?_
    refine xj_iret (pc := 22) d_MO_word_22 rfl ?_
    rw [sp_word, if_neg (fun q => by simp only [Bool.and_eq_true, decide_eq_true_eq] at q; first | (rw [n_le, n_1] at h18; omega) | (rw [n_lt, n_0] at h13; omega) | (rw [n_lt, n_1] at h9; omega) | (rw [b01_eq h4] at q; simp at q; done))]
    exact nk_ans hI
  · refine xj_iload_n (pc := 7) d_MO_word_7 rfl rfl ?_
    refine xj_iconst (pc := 8) (v := 1) d_MO_word_8 (by decide) ?_
    refine xj_icmp_lt (pc := 9) (tgt := 21) d_MO_word_9 (by decide) (fun h9 => ?_) (fun h9 => ?_)
    · refine xj_iconst (pc := 21) (v := -1) d_MO_word_21 (by decide) ?_
      refine xj_iret (pc := 22) d_MO_word_22 rfl ?_
      rw [sp_word, if_neg (fun q => by simp only [Bool.and_eq_true, decide_eq_true_eq] at q; first | (rw [n_le, n_1] at h18; omega) | (rw [n_lt, n_0] at h13; omega) | (rw [n_lt, n_1] at h9; omega) | (rw [b01_eq h4] at q; simp at q; done))]
      exact nk_ans hI
    · refine xj_iload_n (pc := 12) d_MO_word_12 rfl rfl ?_
      refine xj_if_lt (pc := 13) (tgt := 21) d_MO_word_13 (by decide) (fun h13 => ?_) (fun h13 => ?_)
      · refine xj_iconst (pc := 21) (v := -1) d_MO_word_21 (by decide) ?_
        refine xj_iret (pc := 22) d_MO_word_22 rfl ?_
        rw [sp_word, if_neg (fun q => by simp only [Bool.and_eq_true, decide_eq_true_eq] at q; first | (rw [n_le, n_1] at h18; omega) | (rw [n_lt, n_0] at h13; omega) | (rw [n_lt, n_1] at h9; omega) | (rw [b01_eq h4] at q; simp at q; done))]
        exact nk_ans hI
      · refine xj_iload_n (pc := 16) d_MO_word_16 rfl rfl ?_
        refine xj_iconst (pc := 17) (v := 1) d_MO_word_17 (by decide) ?_
        refine xj_icmp_le (pc := 18) (tgt := 23) d_MO_word_18 (by decide) (fun h18 => ?_) (fun h18 => ?_)
        · have ha := b01_ne h4
          rw [n_lt, n_1] at h9
          rw [n_lt, n_0] at h13
          rw [n_le, n_1] at h18
          rw [sp_word, if_pos (by simp only [ha, Bool.true_and, decide_eq_true_eq]; omega)]
          obtain ⟨ka, hka, rfl, ta⟩ := isR_k ha
          have hL := hI.at hka ta
          have h200 := hL.2.1
          have ek : k = nI (k.toInt.toNat - 1 + 1) := n_of (by omega)
          have hbl := wbg_le (sR S (nI ka)) (k.toInt.toNat - 1)
          have hwl := wbg_lt (L := sR S (nI ka)) (q := k.toInt.toNat - 1)
          refine xj_aload_n (pc := 23) d_MO_word_23 rfl rfl ?_
          refine xj_iload_n (pc := 24) d_MO_word_24 rfl rfl ?_
          refine xj_iload_n (pc := 25) d_MO_word_25 rfl rfl ?_
          rw [show (Value.int k) = Value.int (nI (k.toInt.toNat - 1 + 1)) by rw [← ek]]
          refine xj_callV (pc := 26) d_MO_word_26 ml_MO_85 ok_MO_begin (s_MO_begin hka hL (by omega)) rfl rfl rfl rfl rfl (Nat.le_of_ble_eq_true rfl) (by decide) ?_
          rintro rv I1 F1 ⟨rfl, rfl, rfl⟩
          dsimp only [Option.toList, List.cons_append, List.nil_append]
          refine xj_istore (pc := 29) d_MO_word_29 (by decide) rfl ?_
          dsimp only [xset, xset2, xkill]
          refine xj_iload (pc := 31) d_MO_word_31 rfl ?_
          refine xj_aload_n (pc := 33) d_MO_word_33 rfl rfl ?_
          refine xj_getR (pc := 34) d_MO_word_34 fl_MO_16 rfl rfl ?_
          refine xj_iload_n (pc := 37) d_MO_word_37 rfl rfl ?_
          refine xj_iald (pc := 38) d_MO_word_38 (n := 10) (x := 21) rfl rfl hka (by decide) ?_
          refine xj_icmp_ne (pc := 39) (tgt := 44) d_MO_word_39 (by decide) (fun h39 => ?_) (fun h39 => ?_)
          · rw [hL.1] at h39
            have hne : ¬ wbg (sR S (nI ka)) (k.toInt.toNat - 1) = (sR S (nI ka)).length := fun z => h39 (by rw [z])
            rw [if_neg (by omega)]
            refine xj_iload_n (pc := 44) d_MO_word_44 rfl rfl ?_
            refine xj_if_ne (pc := 45) (tgt := 55) d_MO_word_45 (by decide) (fun h45 => ?_) (fun h45 => ?_)
            · refine xj_aload_n (pc := 55) d_MO_word_55 rfl rfl ?_
              refine xj_iload_n (pc := 56) d_MO_word_56 rfl rfl ?_
              refine xj_iload (pc := 57) d_MO_word_57 rfl ?_
              refine xj_callV (pc := 59) d_MO_word_59 ml_MO_88 ok_MO_wordEnd (s_MO_wordEnd hka hL (by omega)) rfl rfl rfl rfl rfl (Nat.le_of_ble_eq_true rfl) (by decide) ?_
              rintro rv I1 F1 ⟨rfl, rfl, rfl⟩
              dsimp only [Option.toList, List.cons_append, List.nil_append]
              refine xj_iload (pc := 62) d_MO_word_62 rfl ?_
              refine xj_isub (pc := 64) d_MO_word_64 ?_
              refine xj_iret (pc := 65) d_MO_word_65 rfl ?_
              first | (rw [if_pos h45, n_up, ← wd_get (by omega)]; exact nk_ans hI; done) | (rw [if_neg h45, n_subN (wen_ge _ _), wat_len, wsp_wen (by omega)]; exact nk_ans hI)
            · refine xj_iload (pc := 48) d_MO_word_48 rfl ?_
              refine xj_iconst (pc := 50) (v := 1) d_MO_word_50 (by decide) ?_
              refine xj_iadd (pc := 51) d_MO_word_51 ?_
              refine xj_goto (pc := 52) (tgt := 65) d_MO_word_52 (by decide) ?_
              refine xj_iret (pc := 65) d_MO_word_65 rfl ?_
              first | (rw [if_pos h45, n_up, ← wd_get (by omega)]; exact nk_ans hI; done) | (rw [if_neg h45, n_subN (wen_ge _ _), wat_len, wsp_wen (by omega)]; exact nk_ans hI)
          · rw [hL.1] at h39
            refine xj_iconst (pc := 42) (v := 0) d_MO_word_42 (by decide) ?_
            refine xj_iret (pc := 43) d_MO_word_43 rfl ?_
            have e := (nI_eq (by omega) (by omega)).mp h39
            rw [if_pos (by omega)]
            exact nk_ans hI
        · refine xj_iconst (pc := 21) (v := -1) d_MO_word_21 (by decide) ?_
          refine xj_iret (pc := 22) d_MO_word_22 rfl ?_
          rw [sp_word, if_neg (fun q => by simp only [Bool.and_eq_true, decide_eq_true_eq] at q; first | (rw [n_le, n_1] at h18; omega) | (rw [n_lt, n_0] at h13; omega) | (rw [n_lt, n_1] at h9; omega) | (rw [b01_eq h4] at q; simp at q; done))]
          exact nk_ans hI
end MOI
