section RDL
variable {I I1 I2 : XI} {F F1 F2 : XF} {S : XSt} {k w : Nat} {M X Y L : List Int32}
theorem n_mnN {a b : Nat} (ha : a < 1000) (hb : b < 1000) : (if nI b < nI a then nI b else nI a) = nI (min a b) := by
  split
  · rename_i h; rw [n_lt, n_nI (by omega), n_nI (by omega)] at h; rw [Nat.min_eq_right (by omega)]
  · rename_i h; rw [n_lt, n_nI (by omega), n_nI (by omega)] at h; rw [Nat.min_eq_left (by omega)]
theorem n_p1 (j : Nat) : nI (j + 1) - 1 = nI j := n_subN (a := j + 1) (b := 1) (by omega)
theorem wlt_end {t : Nat} (ht : t = min X.length Y.length) (h : ∀ s, s < t → X[s]? = Y[s]?) : wlt X Y = true ↔ X.length < Y.length := by
  rw [wlt_pre t X Y (by omega) (by omega) h]
  rcases Nat.lt_or_ge X.length Y.length with z | z
  · rw [List.drop_eq_nil_of_le (show X.length ≤ t by omega), List.drop_eq_getElem_cons (show t < Y.length by omega)]
    simp [wlt, z]
  · rw [List.drop_eq_nil_of_le (show Y.length ≤ t by omega)]
    constructor
    · intro q; cases hX : X.drop t <;> rw [hX] at q <;> simp [wlt] at q
    · intro q; omega
theorem wlt_df {t : Nat} {x y : Int32} (h : ∀ s, s < t → X[s]? = Y[s]?) (hx : X[t]? = some x) (hy : Y[t]? = some y) (hne : ¬ x = y) : wlt X Y = decide (x < y) := by
  obtain ⟨h1, e1⟩ := List.getElem?_eq_some_iff.mp hx
  obtain ⟨h2, e2⟩ := List.getElem?_eq_some_iff.mp hy
  rw [wlt_pre t X Y (by omega) (by omega) h, List.drop_eq_getElem_cons h1, List.drop_eq_getElem_cons h2, e1, e2, wlt, if_neg hne]
theorem s_WL_cmp_l {v y : Nat} (hw : w < 2) (hk : k < 12) (hL : Rl I F k L) (h : Wl I F w L) (hB : Bt L) (hv : v < 1000) (hy : y < 1000) : ∀ (m t : Nat), t + m = min (wat L v).length (wat L y).length → (∀ s, s < t → (wat L v)[s]? = (wat L y)[s]?) →
    XJ none m_WL_compareWords 18 [some (.ref (26 + 4 * w)), some (.ref k), some (.int (nI v)), some (.int (nI y)), some (.int (nI (min (wat L v).length (wat L y).length))), some (.int (nI t))] [] I F (fun rv I1 F1 => ∃ u : Int32, (u.toInt < 0 ↔ wlt (wat L v) (wat L y) = true) ∧ rv = some (.int u) ∧ I = I1 ∧ F = F1) := by
  have hll := h.2.2.1
  have l1 := wat_len L v
  have l2 := wat_len L y
  have s1 := wsp_le L v
  have s2 := wsp_le L y
  have b1 := wbg_sp L v
  have b2 := wbg_sp L y
  intro m
  induction m with
  | zero =>
    intro t ht hp
    refine xj_iload (pc := 18) d_WL_compareWords_18 rfl ?_
    refine xj_iload (pc := 20) d_WL_compareWords_20 rfl ?_
    refine xj_icmp_ge (pc := 22) (tgt := 68) d_WL_compareWords_22 (by decide) (fun h22 => ?_) (fun h22 => absurd (by rw [n_le, n_nI (by omega), n_nI (by omega)]; omega) h22)
    refine xj_aload_n (pc := 68) d_WL_compareWords_68 rfl rfl ?_
    refine xj_iload_n (pc := 69) d_WL_compareWords_69 rfl rfl ?_
    refine xj_callV (pc := 70) d_WL_compareWords_70 ml_WL_49 ok_WL_lengthOf (s_WL_lengthOf hw h (by omega)) rfl rfl (xsh_wl (by omega)) rfl rfl (Nat.le_of_ble_eq_true rfl) (by decide) ?_
    rintro rv I1 F1 ⟨rfl, rfl, rfl⟩
    dsimp only [Option.toList, List.cons_append, List.nil_append]
    refine xj_aload_n (pc := 73) d_WL_compareWords_73 rfl rfl ?_
    refine xj_iload_n (pc := 74) d_WL_compareWords_74 rfl rfl ?_
    refine xj_callV (pc := 75) d_WL_compareWords_75 ml_WL_49 ok_WL_lengthOf (s_WL_lengthOf hw h (by omega)) rfl rfl (xsh_wl (by omega)) rfl rfl (Nat.le_of_ble_eq_true rfl) (by decide) ?_
    rintro rv I1 F1 ⟨rfl, rfl, rfl⟩
    dsimp only [Option.toList, List.cons_append, List.nil_append]
    refine xj_isub (pc := 78) d_WL_compareWords_78 ?_
    refine xj_iret (pc := 79) d_WL_compareWords_79 rfl ?_
    refine ⟨_, ?_, rfl, rfl, rfl⟩
    rw [wlt_end (by omega) hp, n_sub (by rw [n_nI (by omega), n_nI (by omega)]; omega) (by rw [n_nI (by omega), n_nI (by omega)]; omega), n_nI (by omega), n_nI (by omega)]
    omega
  | succ m ih =>
    intro t ht hp
    have t1 : t < (wat L v).length := by omega
    have t2 : t < (wat L y).length := by omega
    have gx : (wat L v)[t]? = some (wat L v)[t] := List.getElem?_eq_getElem t1
    have gy : (wat L y)[t]? = some (wat L y)[t] := List.getElem?_eq_getElem t2
    have ex := (wat_get L v t1).symm.trans gx
    have ey := (wat_get L y t2).symm.trans gy
    have bx := hB _ (List.mem_of_getElem? ex)
    have bY := hB _ (List.mem_of_getElem? ey)
    rw [bt] at bx bY
    have ed : ((wat L v)[t] - (wat L y)[t]).toInt = (wat L v)[t].toInt - (wat L y)[t].toInt := n_sub (by omega) (by omega)
    refine xj_iload (pc := 18) d_WL_compareWords_18 rfl ?_
    refine xj_iload (pc := 20) d_WL_compareWords_20 rfl ?_
    refine xj_icmp_ge (pc := 22) (tgt := 68) d_WL_compareWords_22 (by decide) (fun h22 => absurd h22 (by rw [n_le, n_nI (by omega), n_nI (by omega)]; omega)) (fun h22 => ?_)
    refine xj_aload_n (pc := 25) d_WL_compareWords_25 rfl rfl ?_
    refine xj_aload_n (pc := 26) d_WL_compareWords_26 rfl rfl ?_
    refine xj_iload_n (pc := 27) d_WL_compareWords_27 rfl rfl ?_
    refine xj_callV (pc := 28) d_WL_compareWords_28 ml_WL_46 ok_WL_startOf (s_WL_startOf hw h (by omega)) rfl rfl (xsh_wl (by omega)) rfl rfl (Nat.le_of_ble_eq_true rfl) (by decide) ?_
    rintro rv I1 F1 ⟨rfl, rfl, rfl⟩
    dsimp only [Option.toList, List.cons_append, List.nil_append]
    refine xj_iload (pc := 31) d_WL_compareWords_31 rfl ?_
    refine xj_iadd (pc := 33) d_WL_compareWords_33 ?_
    refine xj_iconst (pc := 34) (v := 0) d_WL_compareWords_34 (by decide) ?_
    rw [n_addN]
    refine xj_callV (pc := 35) d_WL_compareWords_35 ml_WL_34 ok_RW_byteOr (s_RW_byteOr hk hL) rfl rfl (xsh_row (by omega)) rfl rfl (Nat.le_of_ble_eq_true rfl) (by decide) ?_
    rintro rv I1 F1 ⟨rfl, rfl, rfl⟩
    dsimp only [Option.toList, List.cons_append, List.nil_append]
    rw [rg_n (by omega), ex, Option.getD_some]
    refine xj_aload_n (pc := 38) d_WL_compareWords_38 rfl rfl ?_
    refine xj_aload_n (pc := 39) d_WL_compareWords_39 rfl rfl ?_
    refine xj_iload_n (pc := 40) d_WL_compareWords_40 rfl rfl ?_
    refine xj_callV (pc := 41) d_WL_compareWords_41 ml_WL_46 ok_WL_startOf (s_WL_startOf hw h (by omega)) rfl rfl (xsh_wl (by omega)) rfl rfl (Nat.le_of_ble_eq_true rfl) (by decide) ?_
    rintro rv I1 F1 ⟨rfl, rfl, rfl⟩
    dsimp only [Option.toList, List.cons_append, List.nil_append]
    refine xj_iload (pc := 44) d_WL_compareWords_44 rfl ?_
    refine xj_iadd (pc := 46) d_WL_compareWords_46 ?_
    refine xj_iconst (pc := 47) (v := 0) d_WL_compareWords_47 (by decide) ?_
    rw [n_addN]
    refine xj_callV (pc := 48) d_WL_compareWords_48 ml_WL_34 ok_RW_byteOr (s_RW_byteOr hk hL) rfl rfl (xsh_row (by omega)) rfl rfl (Nat.le_of_ble_eq_true rfl) (by decide) ?_
    rintro rv I1 F1 ⟨rfl, rfl, rfl⟩
    dsimp only [Option.toList, List.cons_append, List.nil_append]
    rw [rg_n (by omega), ey, Option.getD_some]
    refine xj_isub (pc := 51) d_WL_compareWords_51 ?_
    refine xj_istore (pc := 52) d_WL_compareWords_52 (by decide) rfl ?_
    dsimp only [xset, xset2, xkill]
    refine xj_iload (pc := 54) d_WL_compareWords_54 rfl ?_
    refine xj_if_eq (pc := 56) (tgt := 62) d_WL_compareWords_56 (by decide) (fun h56 => ?_) (fun h56 => ?_)
    · refine xj_inc1 (pc := 62) d_WL_compareWords_62 rfl (by decide) rfl ?_
      dsimp only [xset, xset2, xkill]
      rw [n_up]
      refine xj_goto (pc := 65) (tgt := 18) d_WL_compareWords_65 (by decide) ?_
      refine xj_take 6 (ih (t + 1) (by omega) (fun s hs => ?_))
      rcases Nat.lt_or_ge s t with z | z
      · exact hp s z
      · rw [show s = t by omega, gx, gy]; exact congrArg some (n_eq.mpr (by rw [n_eq, n_0, ed] at h56; omega))
    · refine xj_iload (pc := 59) d_WL_compareWords_59 rfl ?_
      refine xj_iret (pc := 61) d_WL_compareWords_61 rfl ?_
      refine ⟨_, ?_, rfl, rfl, rfl⟩
      rw [n_eq, n_0, ed] at h56
      rw [wlt_df hp gx gy (by rw [n_eq]; omega), decide_eq_true_eq, n_lt, ed]
      omega
theorem s_WL_cmp {v y : Nat} (hw : w < 2) (hk : k < 12) (hL : Rl I F k L) (h : Wl I F w L) (hB : Bt L) (hv : v < 1000) (hy : y < 1000) : XM m_WL_compareWords [.ref (26 + 4 * w), .ref k, .int (nI v), .int (nI y)] I F (fun rv I1 F1 => ∃ u : Int32, (u.toInt < 0 ↔ wlt (wat L v) (wat L y) = true) ∧ rv = some (.int u) ∧ I = I1 ∧ F = F1) := by
  refine XM.of (by decide) (Nat.le_of_ble_eq_true rfl) ?_
  dsimp only [xargs]
  have hll := h.2.2.1
  have l1 := wat_len L v
  have l2 := wat_len L y
  have s1 := wsp_le L v
  have s2 := wsp_le L y
  refine xj_aload_n (pc := 0) d_WL_compareWords_0 rfl rfl ?_
  refine xj_iload_n (pc := 1) d_WL_compareWords_1 rfl rfl ?_
  refine xj_callV (pc := 2) d_WL_compareWords_2 ml_WL_49 ok_WL_lengthOf (s_WL_lengthOf hw h (by omega)) rfl rfl (xsh_wl (by omega)) rfl rfl (Nat.le_of_ble_eq_true rfl) (by decide) ?_
  rintro rv I1 F1 ⟨rfl, rfl, rfl⟩
  dsimp only [Option.toList, List.cons_append, List.nil_append]
  refine xj_aload_n (pc := 5) d_WL_compareWords_5 rfl rfl ?_
  refine xj_iload_n (pc := 6) d_WL_compareWords_6 rfl rfl ?_
  refine xj_callV (pc := 7) d_WL_compareWords_7 ml_WL_49 ok_WL_lengthOf (s_WL_lengthOf hw h (by omega)) rfl rfl (xsh_wl (by omega)) rfl rfl (Nat.le_of_ble_eq_true rfl) (by decide) ?_
  rintro rv I1 F1 ⟨rfl, rfl, rfl⟩
  dsimp only [Option.toList, List.cons_append, List.nil_append]
  refine xj_mmin (pc := 10) d_WL_compareWords_10 ml_WL_56 (by decide) (Nat.le_of_ble_eq_true rfl) ?_
  rw [n_mnN (by omega) (by omega)]
  refine xj_istore (pc := 13) d_WL_compareWords_13 (by decide) rfl ?_
  dsimp only [xset, xset2, xkill]
  refine xj_iconst (pc := 15) (v := 0) d_WL_compareWords_15 (by decide) ?_
  refine xj_istore (pc := 16) d_WL_compareWords_16 (by decide) rfl ?_
  dsimp only [xset, xset2, xkill]
  exact s_WL_cmp_l hw hk hL h hB hv hy _ 0 (Nat.zero_add _) (fun s hs => absurd hs (by omega))
/-! ranks -/
def Wk (w : Nat) (R : List Nat) (I : XI) (F : XF) (I1 : XI) (F1 : XF) : Prop := I1 = I ∧ (∀ x, x ≠ 14 + 3 * w → F1 x = F x) ∧ ∀ q v, R[q]? = some v → F1 (14 + 3 * w) q = nI v
theorem Wk.cx {R : List Nat} (h : Wk w R I F I1 F1) (hw : w < 2) : CX I F I1 F1 := by
  obtain ⟨rfl, h2, -⟩ := h
  exact ⟨fun x _ _ => rfl, fun x _ _ => h2 x (by omega), fun x _ => rfl, fun x _ => h2 x (by omega)⟩
theorem Wk.kp {R : List Nat} {r : Nat} (h : Wk w R I F I1 F1) (hr : r < 12) (hl : Rl I F r L) : Rl I1 F1 r L := by
  obtain ⟨rfl, h2, -⟩ := h
  exact ⟨hl.1, hl.2.1, fun i b hb => by rw [h2 r (by omega)]; exact hl.2.2 i b hb⟩
theorem Wk.wl {R : List Nat} (h : Wk w R I F I1 F1) (hl : Wl I F w L) : Wl I1 F1 w L := by
  obtain ⟨rfl, h2, -⟩ := h
  exact ⟨hl.1, hl.2.1, hl.2.2.1, fun i s hs => by rw [h2 _ (by omega), h2 _ (by omega)]; exact hl.2.2.2 i s hs⟩
theorem s_WL_rankedAt {q v : Nat} (hw : w < 2) (h : Wl I F w L) (hq : q < (wst L).length) (hv : F (14 + 3 * w) q = nI v) : XM m_WL_rankedAt [.ref (26 + 4 * w), .int (nI q)] I F (xpi (nI v) I F) := by
  refine XM.of (by decide) (Nat.le_of_ble_eq_true rfl) ?_
  dsimp only [xargs]
  have hc := wst_cnt h.2.2.1
  have ec := h.cn
  refine xj_iload_n (pc := 0) d_WL_rankedAt_0 rfl rfl ?_
  refine xj_if_lt (pc := 1) (tgt := 21) d_WL_rankedAt_1 (by decide) (fun h1 => absurd h1 (by rw [n_lt, n_0, n_nI (by omega)]; omega)) (fun h1 => ?_)
  refine xj_iload_n (pc := 4) d_WL_rankedAt_4 rfl rfl ?_
  refine xj_aload_n (pc := 5) d_WL_rankedAt_5 rfl rfl ?_
  refine xj_wcnt (pc := 6) d_WL_rankedAt_6 fl_WL_21 (by omega) ?_
  refine xj_icmp_ge (pc := 9) (tgt := 21) d_WL_rankedAt_9 (by decide) (fun h9 => absurd h9 (by rw [n_le, ec, n_nI (by omega)]; omega)) (fun h9 => ?_)
  refine xj_aload_n (pc := 12) d_WL_rankedAt_12 rfl rfl ?_
  refine xj_wrk (pc := 13) d_WL_rankedAt_13 fl_WL_18 (by omega) ?_
  refine xj_iload_n (pc := 16) d_WL_rankedAt_16 rfl rfl ?_
  refine xj_iald (pc := 17) d_WL_rankedAt_17 (n := 100) (xsh_wrk hw) rfl (by omega) (by decide) ?_
  refine xj_goto (pc := 18) (tgt := 22) d_WL_rankedAt_18 (by decide) ?_
  refine xj_iret (pc := 22) d_WL_rankedAt_22 rfl ?_
  rw [hv]
  exact ⟨rfl, rfl, rfl⟩
theorem s_WL_rlf_l (hw : w < 2) (h : Wl I F w L) : ∀ (m i : Nat) (F1 : XF), i + m = (wst L).length → Wk w ((List.range i).map (fun q => (wst L).length - 1 - q)) I F I F1 →
    XJ none m_WL_rankLastFirst 2 [some (.ref (26 + 4 * w)), some (.int (nI i))] [] I F1 (fun rv I2 F2 => rv = none ∧ Wk w ((List.range (wst L).length).map (fun q => (wst L).length - 1 - q)) I F I2 F2) := by
  have hc := wst_cnt h.2.2.1
  have ec := h.cn
  intro m
  induction m with
  | zero =>
    intro i F1 hi g
    refine xj_iload_n (pc := 2) d_WL_rankLastFirst_2 rfl rfl ?_
    refine xj_aload_n (pc := 3) d_WL_rankLastFirst_3 rfl rfl ?_
    refine xj_wcnt (pc := 4) d_WL_rankLastFirst_4 fl_WL_21 (by omega) ?_
    refine xj_icmp_ge (pc := 7) (tgt := 30) d_WL_rankLastFirst_7 (by decide) (fun h7 => ?_) (fun h7 => absurd (by rw [n_le, ec, n_nI (by omega)]; omega) h7)
    refine xj_vret (pc := 30) d_WL_rankLastFirst_30 rfl ?_
    exact ⟨rfl, by rw [← show i = (wst L).length by omega] at g ⊢; exact g⟩
  | succ m ih =>
    intro i F1 hi g
    refine xj_iload_n (pc := 2) d_WL_rankLastFirst_2 rfl rfl ?_
    refine xj_aload_n (pc := 3) d_WL_rankLastFirst_3 rfl rfl ?_
    refine xj_wcnt (pc := 4) d_WL_rankLastFirst_4 fl_WL_21 (by omega) ?_
    refine xj_icmp_ge (pc := 7) (tgt := 30) d_WL_rankLastFirst_7 (by decide) (fun h7 => absurd h7 (by rw [n_le, ec, n_nI (by omega)]; omega)) (fun h7 => ?_)
    refine xj_aload_n (pc := 10) d_WL_rankLastFirst_10 rfl rfl ?_
    refine xj_wrk (pc := 11) d_WL_rankLastFirst_11 fl_WL_18 (by omega) ?_
    refine xj_iload_n (pc := 14) d_WL_rankLastFirst_14 rfl rfl ?_
    refine xj_aload_n (pc := 15) d_WL_rankLastFirst_15 rfl rfl ?_
    refine xj_wcnt (pc := 16) d_WL_rankLastFirst_16 fl_WL_21 (by omega) ?_
    refine xj_iconst (pc := 19) (v := 1) d_WL_rankLastFirst_19 (by decide) ?_
    refine xj_isub (pc := 20) d_WL_rankLastFirst_20 ?_
    refine xj_iload_n (pc := 21) d_WL_rankLastFirst_21 rfl rfl ?_
    refine xj_isub (pc := 22) d_WL_rankLastFirst_22 ?_
    rw [show I (13 + 2 * w) - 1 - nI i = nI ((wst L).length - 1 - i) by rw [h.1, show (1 : Int32) = nI 1 from rfl, n_subN (by omega), n_subN (by omega)]]
    refine xj_iast (pc := 23) d_WL_rankLastFirst_23 (n := 100) (xsh_wrk hw) rfl (by omega) (by decide) ?_
    refine xj_inc1 (pc := 24) d_WL_rankLastFirst_24 rfl (by decide) rfl ?_
    dsimp only [xset, xset2, xkill]
    rw [n_up]
    refine xj_goto (pc := 27) (tgt := 2) d_WL_rankLastFirst_27 (by decide) ?_
    refine ih (i + 1) _ (by omega) ⟨rfl, fun x hx => ?_, fun q v hq => ?_⟩
    · simp only [va_up, if_neg hx]; exact g.2.1 x hx
    · simp only [va_up, if_pos, upd]
      rw [List.range_succ, List.map_append] at hq
      rcases Nat.lt_or_ge q i with z | z
      · rw [List.getElem?_append_left (by simpa using z)] at hq; rw [if_neg (by omega)]; exact g.2.2 q v hq
      · have hq2 := (List.getElem?_eq_some_iff.mp hq).1; simp at hq2; rw [List.getElem?_append_right (by simpa using z)] at hq; rw [if_pos (by omega)]; simp [show q - i = 0 by omega] at hq; rw [hq]
theorem s_WL_rlf (hw : w < 2) (h : Wl I F w L) : XM m_WL_rankLastFirst [.ref (26 + 4 * w)] I F (fun rv I2 F2 => rv = none ∧ ∃ R, Rk L 0 R ∧ Wk w R I F I2 F2) := by
  refine XM.of (by decide) (Nat.le_of_ble_eq_true rfl) ?_
  dsimp only [xargs]
  have hR : Rk L 0 ((List.range (wst L).length).map (fun q => (wst L).length - 1 - q)) := rk_rev (by simp) (fun q k hq => by
    rw [List.getElem?_map] at hq
    rcases Nat.lt_or_ge q (wst L).length with z | z
    · rw [List.getElem?_range z] at hq; exact (Option.some.inj hq).symm
    · rw [List.getElem?_eq_none (by rw [List.length_range]; exact z)] at hq; simp at hq)
  refine xj_iconst (pc := 0) (v := 0) d_WL_rankLastFirst_0 (by decide) ?_
  refine xj_istore_n (pc := 1) d_WL_rankLastFirst_1 rfl (by decide) rfl ?_
  dsimp only [xset, xset2, xkill]
  exact xj_post (fun rv I2 F2 g => ⟨g.1, _, hR, g.2⟩) (s_WL_rlf_l hw h _ 0 F (Nat.zero_add _) ⟨rfl, fun _ _ => rfl, fun q v hq => by simp at hq⟩)
theorem rk_store {R : List Nat} {A : Nat → Int32} {i j : Nat} (hj : j ≤ R.length) (h1 : ∀ q v, q < j → R[q]? = some v → A q = nI v) (h2 : ∀ q v, j ≤ q → R[q]? = some v → A (q + 1) = nI v) : ∀ q v, (R.take j ++ i :: R.drop j)[q]? = some v → upd A j (nI i) q = nI v := by
  intro q v hq
  simp only [upd]
  rcases Nat.lt_or_ge q j with z | z
  · rw [List.getElem?_append_left (by rw [List.length_take]; omega), List.getElem?_take, if_pos z] at hq
    rw [if_neg (by omega)]; exact h1 q v z hq
  · rw [List.getElem?_append_right (by rw [List.length_take]; omega), List.length_take, Nat.min_eq_left hj] at hq
    rcases Nat.lt_or_ge j q with y | y
    · rw [show q - j = (q - 1 - j) + 1 by omega, List.getElem?_cons_succ, List.getElem?_drop, show j + (q - 1 - j) = q - 1 by omega] at hq
      rw [if_neg (by omega)]
      have := h2 (q - 1) v (by omega) hq
      rw [show q - 1 + 1 = q by omega] at this; exact this
    · rw [show q - j = 0 by omega] at hq
      rw [if_pos (by omega), Option.some.inj hq]
theorem s_WL_rbb_i {i : Nat} {R : List Nat} {P : XP} (hw : w < 2) (hk : k < 12) (hL : Rl I F k L) (h : Wl I F w L) (hB : Bt L) (hi : i < (wst L).length) (hR : Srt L R i) (k2 : ∀ (R2 : List Nat) (F1 : XF), Srt L R2 (i + 1) → Wk w R2 I F I F1 → XJ none m_WL_rankByBytes 2 [some (.ref (26 + 4 * w)), some (.ref k), some (.int (nI (i + 1)))] [] I F1 P) : ∀ (j : Nat) (F1 : XF), j ≤ i → (∀ x, x ≠ 14 + 3 * w → F1 x = F x) → (∀ q v, q < j → R[q]? = some v → F1 (14 + 3 * w) q = nI v) → (∀ q v, j ≤ q → R[q]? = some v → F1 (14 + 3 * w) (q + 1) = nI v) → (∀ y ∈ R.drop j, wlt (wat L i) (wat L y) = true) →
    XJ none m_WL_rankByBytes 12 [some (.ref (26 + 4 * w)), some (.ref k), some (.int (nI i)), some (.int (nI j))] [] I F1 P := by
  have hc := wst_cnt h.2.2.1
  have hRl : R.length = i := by rw [hR.2.length_eq, List.length_range]
  intro j
  induction j with
  | zero =>
    intro F1 hj hx h1 h2 h3
    refine xj_iload_n (pc := 12) d_WL_rankByBytes_12 rfl rfl ?_
    refine xj_if_le (pc := 13) (tgt := 53) d_WL_rankByBytes_13 (by decide) (fun h13 => ?_) (fun h13 => absurd (by rw [n_le, n_0, n_nI (by omega)]; omega) h13)
    refine xj_aload_n (pc := 53) d_WL_rankByBytes_53 rfl rfl ?_
    refine xj_wrk (pc := 54) d_WL_rankByBytes_54 fl_WL_18 (by omega) ?_
    refine xj_iload_n (pc := 57) d_WL_rankByBytes_57 rfl rfl ?_
    refine xj_iload_n (pc := 58) d_WL_rankByBytes_58 rfl rfl ?_
    refine xj_iast (pc := 59) d_WL_rankByBytes_59 (n := 100) (xsh_wrk hw) rfl (by omega) (by decide) ?_
    refine xj_inc1 (pc := 60) d_WL_rankByBytes_60 rfl (by decide) rfl ?_
    dsimp only [xset, xset2, xkill]
    rw [n_up]
    refine xj_goto (pc := 63) (tgt := 2) d_WL_rankByBytes_63 (by decide) ?_
    refine xj_take 3 (k2 _ _ (so_ins hR (Nat.zero_le _) h3 (fun y hy _ => absurd hy (by decide))) ⟨rfl, fun x z => ?_, fun q v hq => ?_⟩)
    · simp only [va_up, if_neg z]; exact hx x z
    · simp only [va_up, if_pos]; exact rk_store (Nat.zero_le _) h1 h2 q v hq
  | succ j ih =>
    intro F1 hj hx h1 h2 h3
    have hjl : j < R.length := by omega
    have gy : R[j]? = some R[j] := List.getElem?_eq_getElem hjl
    have hA := h1 j _ (by omega) gy
    have hyr : R[j] < i := List.mem_range.mp (hR.2.subset (List.getElem_mem hjl))
    have hL1 : Rl I F1 k L := ⟨hL.1, hL.2.1, fun i b hb => by rw [hx k (by omega)]; exact hL.2.2 i b hb⟩
    have hW1 : Wl I F1 w L := ⟨h.1, h.2.1, h.2.2.1, fun i s hs => by rw [hx _ (by omega), hx _ (by omega)]; exact h.2.2.2 i s hs⟩
    refine xj_iload_n (pc := 12) d_WL_rankByBytes_12 rfl rfl ?_
    refine xj_if_le (pc := 13) (tgt := 53) d_WL_rankByBytes_13 (by decide) (fun h13 => absurd h13 (by rw [n_le, n_0, n_nI (by omega)]; omega)) (fun h13 => ?_)
    refine xj_aload_n (pc := 16) d_WL_rankByBytes_16 rfl rfl ?_
    refine xj_aload_n (pc := 17) d_WL_rankByBytes_17 rfl rfl ?_
    refine xj_iload_n (pc := 18) d_WL_rankByBytes_18 rfl rfl ?_
    refine xj_aload_n (pc := 19) d_WL_rankByBytes_19 rfl rfl ?_
    refine xj_wrk (pc := 20) d_WL_rankByBytes_20 fl_WL_18 (by omega) ?_
    refine xj_iload_n (pc := 23) d_WL_rankByBytes_23 rfl rfl ?_
    refine xj_iconst (pc := 24) (v := 1) d_WL_rankByBytes_24 (by decide) ?_
    refine xj_isub (pc := 25) d_WL_rankByBytes_25 ?_
    refine xj_iald (pc := 26) d_WL_rankByBytes_26 (n := 100) (xsh_wrk hw) (n_p1 j) (by omega) (by decide) ?_
    rw [hA]
    refine xj_callV (pc := 27) d_WL_rankByBytes_27 ml_WL_52 ok_WL_compareWords (s_WL_cmp (v := i) (y := R[j]) hw hk hL1 hW1 hB (by omega) (by omega)) rfl rfl (xsh_wl (by omega)) rfl rfl (Nat.le_of_ble_eq_true rfl) (by decide) ?_
    rintro rv I2 F2 ⟨u, hu, rfl, rfl, rfl⟩
    dsimp only [Option.toList, List.cons_append, List.nil_append]
    refine xj_if_ge (pc := 30) (tgt := 53) d_WL_rankByBytes_30 (by decide) (fun h30 => ?_) (fun h30 => ?_)
    · refine xj_aload_n (pc := 53) d_WL_rankByBytes_53 rfl rfl ?_
      refine xj_wrk (pc := 54) d_WL_rankByBytes_54 fl_WL_18 (by omega) ?_
      refine xj_iload_n (pc := 57) d_WL_rankByBytes_57 rfl rfl ?_
      refine xj_iload_n (pc := 58) d_WL_rankByBytes_58 rfl rfl ?_
      refine xj_iast (pc := 59) d_WL_rankByBytes_59 (n := 100) (xsh_wrk hw) rfl (by omega) (by decide) ?_
      refine xj_inc1 (pc := 60) d_WL_rankByBytes_60 rfl (by decide) rfl ?_
      dsimp only [xset, xset2, xkill]
      rw [n_up]
      refine xj_goto (pc := 63) (tgt := 2) d_WL_rankByBytes_63 (by decide) ?_
      rw [n_le, n_0] at h30
      refine xj_take 3 (k2 _ _ (so_ins hR (by omega) h3 (fun y hy hq => ?_)) ⟨rfl, fun x z => ?_, fun q v hq => ?_⟩)
      · rw [Nat.add_sub_cancel, gy] at hq; rw [← Option.some.inj hq]; exact Bool.eq_false_iff.mpr (fun z => by have := hu.mpr z; omega)
      · simp only [va_up, if_neg z]; exact hx x z
      · simp only [va_up, if_pos]; exact rk_store (by omega) h1 h2 q v hq
    · refine xj_aload_n (pc := 33) d_WL_rankByBytes_33 rfl rfl ?_
      refine xj_wrk (pc := 34) d_WL_rankByBytes_34 fl_WL_18 (by omega) ?_
      refine xj_iload_n (pc := 37) d_WL_rankByBytes_37 rfl rfl ?_
      refine xj_aload_n (pc := 38) d_WL_rankByBytes_38 rfl rfl ?_
      refine xj_wrk (pc := 39) d_WL_rankByBytes_39 fl_WL_18 (by omega) ?_
      refine xj_iload_n (pc := 42) d_WL_rankByBytes_42 rfl rfl ?_
      refine xj_iconst (pc := 43) (v := 1) d_WL_rankByBytes_43 (by decide) ?_
      refine xj_isub (pc := 44) d_WL_rankByBytes_44 ?_
      refine xj_iald (pc := 45) d_WL_rankByBytes_45 (n := 100) (xsh_wrk hw) (n_p1 j) (by omega) (by decide) ?_
      rw [hA]
      refine xj_iast (pc := 46) d_WL_rankByBytes_46 (n := 100) (xsh_wrk hw) rfl (by omega) (by decide) ?_
      refine xj_incm1 (pc := 47) d_WL_rankByBytes_47 rfl (by decide) rfl ?_
      dsimp only [xset, xset2, xkill]
      rw [n_dec (by omega), Nat.add_sub_cancel]
      refine xj_goto (pc := 50) (tgt := 12) d_WL_rankByBytes_50 (by decide) ?_
      rw [n_le, n_0] at h30
      refine ih _ (by omega) (fun x z => ?_) (fun q v z hq => ?_) (fun q v z hq => ?_) (fun y hy => ?_)
      · simp only [va_up, if_neg z]; exact hx x z
      · simp only [va_up, if_pos, upd]; rw [if_neg (by omega)]; exact h1 q v (by omega) hq
      · simp only [va_up, if_pos, upd]
        rcases Nat.lt_or_ge j q with y | y
        · rw [if_neg (by omega)]; exact h2 q v (by omega) hq
        · rw [show q = j by omega, gy] at hq; rw [if_pos (by omega), Option.some.inj hq]
      · rw [List.drop_eq_getElem_cons hjl] at hy
        rcases List.mem_cons.mp hy with rfl | hy
        · exact hu.mp (by omega)
        · exact h3 y hy
theorem s_WL_rbb_l (hw : w < 2) (hk : k < 12) (hL : Rl I F k L) (h : Wl I F w L) (hB : Bt L) : ∀ (m i : Nat) (R : List Nat) (F1 : XF), i + m = (wst L).length → Srt L R i → Wk w R I F I F1 →
    XJ none m_WL_rankByBytes 2 [some (.ref (26 + 4 * w)), some (.ref k), some (.int (nI i))] [] I F1 (fun rv I2 F2 => rv = none ∧ ∃ R, Srt L R (wst L).length ∧ Wk w R I F I2 F2) := by
  have hc := wst_cnt h.2.2.1
  have ec := h.cn
  intro m
  induction m with
  | zero =>
    intro i R F1 hi hR g
    refine xj_iload_n (pc := 2) d_WL_rankByBytes_2 rfl rfl ?_
    refine xj_aload_n (pc := 3) d_WL_rankByBytes_3 rfl rfl ?_
    refine xj_wcnt (pc := 4) d_WL_rankByBytes_4 fl_WL_21 (by omega) ?_
    refine xj_icmp_ge (pc := 7) (tgt := 66) d_WL_rankByBytes_7 (by decide) (fun h7 => ?_) (fun h7 => absurd (by rw [n_le, ec, n_nI (by omega)]; omega) h7)
    refine xj_vret (pc := 66) d_WL_rankByBytes_66 rfl ?_
    exact ⟨rfl, R, by rw [← show i = (wst L).length by omega]; exact hR, g⟩
  | succ m ih =>
    intro i R F1 hi hR g
    have hRl : R.length = i := by rw [hR.2.length_eq, List.length_range]
    refine xj_iload_n (pc := 2) d_WL_rankByBytes_2 rfl rfl ?_
    refine xj_aload_n (pc := 3) d_WL_rankByBytes_3 rfl rfl ?_
    refine xj_wcnt (pc := 4) d_WL_rankByBytes_4 fl_WL_21 (by omega) ?_
    refine xj_icmp_ge (pc := 7) (tgt := 66) d_WL_rankByBytes_7 (by decide) (fun h7 => absurd h7 (by rw [n_le, ec, n_nI (by omega)]; omega)) (fun h7 => ?_)
    refine xj_iload_n (pc := 10) d_WL_rankByBytes_10 rfl rfl ?_
    refine xj_istore_n (pc := 11) d_WL_rankByBytes_11 rfl (by decide) rfl ?_
    dsimp only [xset, xset2, xkill]
    exact s_WL_rbb_i hw hk hL h hB (by omega) hR (fun R2 F2 r1 r2 => ih (i + 1) R2 F2 (by omega) r1 r2) i F1 (Nat.le_refl _) g.2.1 (fun q v _ hq => g.2.2 q v hq) (fun q v z hq => absurd (List.getElem?_eq_some_iff.mp hq).1 (by omega)) (fun y hy => by rw [List.drop_eq_nil_of_le (by omega)] at hy; simp at hy)
theorem s_WL_rbb (hw : w < 2) (hk : k < 12) (hL : Rl I F k L) (h : Wl I F w L) (hB : Bt L) : XM m_WL_rankByBytes [.ref (26 + 4 * w), .ref k] I F (fun rv I2 F2 => rv = none ∧ ∃ R, Srt L R (wst L).length ∧ Wk w R I F I2 F2) := by
  refine XM.of (by decide) (Nat.le_of_ble_eq_true rfl) ?_
  dsimp only [xargs]
  refine xj_iconst (pc := 0) (v := 0) d_WL_rankByBytes_0 (by decide) ?_
  refine xj_istore_n (pc := 1) d_WL_rankByBytes_1 rfl (by decide) rfl ?_
  dsimp only [xset, xset2, xkill]
  exact s_WL_rbb_l hw hk hL h hB _ 0 [] F (Nat.zero_add _) ⟨List.Pairwise.nil, List.Perm.refl _⟩ ⟨rfl, fun _ _ => rfl, fun q v hq => by simp at hq⟩
theorem s_RD_mkr_l {ka : Nat} {how : Int32} (hka : ka < 10) (hL : Rl I F ka L) (hW : Wl I F 0 L) (hr : ∀ q, q < (wst L).length → F (14 + 3 * 0) q = nI (rk L how q)) : ∀ (m i : Nat) (I1 : XI) (F1 : XF), i + m = (wst L).length → Rs 10 ((mrk L (rk L how) i).take (xcap 10)) I F I1 F1 →
    XJ none m_RD_makeRanked 12 [some (.ref 24), some (.ref ka), some (.int (nI (dn L i))), some (.int (nI i))] [] I1 F1 (fun rv I2 F2 => rv = none ∧ Rs 10 ((m_rank L how).take (xcap 10)) I F I2 F2) := by
  have hll := hW.2.2.1
  have hc := wst_cnt hll
  intro m
  induction m with
  | zero =>
    intro i I1 F1 hi g1
    have ec := (g1.wl (by decide) hW).cn
    have hd := dn_le L i
    refine xj_iload_n (pc := 12) d_RD_makeRanked_12 rfl rfl ?_
    refine xj_aload_n (pc := 13) d_RD_makeRanked_13 rfl rfl ?_
    refine xj_getR (pc := 14) d_RD_makeRanked_14 fl_RD_28 rfl rfl ?_
    refine xj_callV (pc := 17) d_RD_makeRanked_17 ml_RD_146 ok_WL_count (s_WL_count (w := 0) (by decide)) rfl rfl (xsh_wl (by omega)) rfl rfl (Nat.le_of_ble_eq_true rfl) (by decide) ?_
    rintro rv I1 F1 ⟨rfl, rfl, rfl⟩
    dsimp only [Option.toList, List.cons_append, List.nil_append]
    refine xj_icmp_ge (pc := 20) (tgt := 91) d_RD_makeRanked_20 (by decide) (fun h20 => ?_) (fun h20 => absurd (by rw [n_le, ec, n_nI (by omega)]; omega) h20)
    refine xj_aload_n (pc := 91) d_RD_makeRanked_91 rfl rfl ?_
    refine xj_getR (pc := 92) d_RD_makeRanked_92 fl_RD_22 rfl rfl ?_
    refine xj_aload_n (pc := 95) d_RD_makeRanked_95 rfl rfl ?_
    refine xj_iload_n (pc := 96) d_RD_makeRanked_96 rfl rfl ?_
    refine xj_aload_n (pc := 97) d_RD_makeRanked_97 rfl rfl ?_
    refine xj_callV (pc := 98) d_RD_makeRanked_98 ml_RD_46 ok_RW_length (s_RW_length (by omega)) rfl rfl (xsh_row (by omega)) rfl rfl (Nat.le_of_ble_eq_true rfl) (by decide) ?_
    rintro rv I1 F1 ⟨rfl, rfl, rfl⟩
    dsimp only [Option.toList, List.cons_append, List.nil_append]
    refine xj_callV (pc := 101) d_RD_makeRanked_101 ml_RD_72 ok_RW_addRange (s_RW_addRange (by decide) (by omega) (by omega) g1.2.2 (g1.kp (by omega) hL)) rfl rfl (xsh_row (by omega)) rfl rfl (Nat.le_of_ble_eq_true rfl) (by decide) ?_
    rintro rv I2 F2 ⟨rfl, g2⟩
    rw [(g1.kp (by omega) hL).ti, n_nI (by omega), Int.toNat_natCast, Int.toNat_natCast, List.take_length, tk_app, show i = (wst L).length by omega] at g2
    dsimp only [Option.toList, List.cons_append, List.nil_append]
    refine xj_vret (pc := 104) d_RD_makeRanked_104 rfl ?_
    exact ⟨rfl, g1.tr g2⟩
  | succ m ih =>
    intro i I1 F1 hi g1
    have hW1 := g1.wl (by decide) hW
    have ec := hW1.cn
    have hd := dn_le L i
    have q1 := wbg_le L i
    have q2 := wbg_le L (rk L how i)
    have q3 := wsp_le L (rk L how i)
    have q4 := (ps_rk (L := L) (how := how) (i := i) (by omega)).2
    have hv : F1 (14 + 3 * 0) i = nI (rk L how i) := by rw [g1.2.1 _ (by decide)]; exact hr i (by omega)
    refine xj_iload_n (pc := 12) d_RD_makeRanked_12 rfl rfl ?_
    refine xj_aload_n (pc := 13) d_RD_makeRanked_13 rfl rfl ?_
    refine xj_getR (pc := 14) d_RD_makeRanked_14 fl_RD_28 rfl rfl ?_
    refine xj_callV (pc := 17) d_RD_makeRanked_17 ml_RD_146 ok_WL_count (s_WL_count (w := 0) (by decide)) rfl rfl (xsh_wl (by omega)) rfl rfl (Nat.le_of_ble_eq_true rfl) (by decide) ?_
    rintro rv I1 F1 ⟨rfl, rfl, rfl⟩
    dsimp only [Option.toList, List.cons_append, List.nil_append]
    refine xj_icmp_ge (pc := 20) (tgt := 91) d_RD_makeRanked_20 (by decide) (fun h20 => absurd h20 (by rw [n_le, ec, n_nI (by omega)]; omega)) (fun h20 => ?_)
    refine xj_aload_n (pc := 23) d_RD_makeRanked_23 rfl rfl ?_
    refine xj_getR (pc := 24) d_RD_makeRanked_24 fl_RD_28 rfl rfl ?_
    refine xj_iload_n (pc := 27) d_RD_makeRanked_27 rfl rfl ?_
    refine xj_callV (pc := 28) d_RD_makeRanked_28 ml_RD_180 ok_WL_rankedAt (s_WL_rankedAt (w := 0) (by decide) hW1 (by omega) hv) rfl rfl (xsh_wl (by omega)) rfl rfl (Nat.le_of_ble_eq_true rfl) (by decide) ?_
    rintro rv I1 F1 ⟨rfl, rfl, rfl⟩
    dsimp only [Option.toList, List.cons_append, List.nil_append]
    refine xj_istore (pc := 31) d_RD_makeRanked_31 (by decide) rfl ?_
    dsimp only [xset, xset2, xkill]
    refine xj_aload_n (pc := 33) d_RD_makeRanked_33 rfl rfl ?_
    refine xj_getR (pc := 34) d_RD_makeRanked_34 fl_RD_22 rfl rfl ?_
    refine xj_aload_n (pc := 37) d_RD_makeRanked_37 rfl rfl ?_
    refine xj_iload_n (pc := 38) d_RD_makeRanked_38 rfl rfl ?_
    refine xj_aload_n (pc := 39) d_RD_makeRanked_39 rfl rfl ?_
    refine xj_getR (pc := 40) d_RD_makeRanked_40 fl_RD_28 rfl rfl ?_
    refine xj_iload_n (pc := 43) d_RD_makeRanked_43 rfl rfl ?_
    refine xj_callV (pc := 44) d_RD_makeRanked_44 ml_RD_152 ok_WL_startOf (s_WL_startOf (w := 0) (by decide) hW1 (by omega)) rfl rfl (xsh_wl (by omega)) rfl rfl (Nat.le_of_ble_eq_true rfl) (by decide) ?_
    rintro rv I1 F1 ⟨rfl, rfl, rfl⟩
    dsimp only [Option.toList, List.cons_append, List.nil_append]
    refine xj_callV (pc := 47) d_RD_makeRanked_47 ml_RD_72 ok_RW_addRange (s_RW_addRange (by decide) (by omega) (by omega) g1.2.2 (g1.kp (by omega) hL)) rfl rfl (xsh_row (by omega)) rfl rfl (Nat.le_of_ble_eq_true rfl) (by decide) ?_
    rintro rv I2 F2 ⟨rfl, g2⟩
    rw [n_nI (by omega), n_nI (by omega), Int.toNat_natCast, Int.toNat_natCast, tk_app] at g2
    replace g2 := g1.tr g2
    dsimp only [Option.toList, List.cons_append, List.nil_append]
    refine xj_aload_n (pc := 50) d_RD_makeRanked_50 rfl rfl ?_
    refine xj_getR (pc := 51) d_RD_makeRanked_51 fl_RD_22 rfl rfl ?_
    refine xj_aload_n (pc := 54) d_RD_makeRanked_54 rfl rfl ?_
    refine xj_aload_n (pc := 55) d_RD_makeRanked_55 rfl rfl ?_
    refine xj_getR (pc := 56) d_RD_makeRanked_56 fl_RD_28 rfl rfl ?_
    refine xj_iload (pc := 59) d_RD_makeRanked_59 rfl ?_
    refine xj_callV (pc := 61) d_RD_makeRanked_61 ml_RD_152 ok_WL_startOf (s_WL_startOf (w := 0) (by decide) (g2.wl (by decide) hW) (by omega)) rfl rfl (xsh_wl (by omega)) rfl rfl (Nat.le_of_ble_eq_true rfl) (by decide) ?_
    rintro rv I1 F1 ⟨rfl, rfl, rfl⟩
    dsimp only [Option.toList, List.cons_append, List.nil_append]
    refine xj_aload_n (pc := 64) d_RD_makeRanked_64 rfl rfl ?_
    refine xj_getR (pc := 65) d_RD_makeRanked_65 fl_RD_28 rfl rfl ?_
    refine xj_iload (pc := 68) d_RD_makeRanked_68 rfl ?_
    refine xj_callV (pc := 70) d_RD_makeRanked_70 ml_RD_155 ok_WL_stopOf (s_WL_stopOf (w := 0) (by decide) (g2.wl (by decide) hW) (by omega)) rfl rfl (xsh_wl (by omega)) rfl rfl (Nat.le_of_ble_eq_true rfl) (by decide) ?_
    rintro rv I1 F1 ⟨rfl, rfl, rfl⟩
    dsimp only [Option.toList, List.cons_append, List.nil_append]
    refine xj_callV (pc := 73) d_RD_makeRanked_73 ml_RD_72 ok_RW_addRange (s_RW_addRange (by decide) (by omega) (by omega) g2.2.2 (g2.kp (by omega) hL)) rfl rfl (xsh_row (by omega)) rfl rfl (Nat.le_of_ble_eq_true rfl) (by decide) ?_
    rintro rv I3 F3 ⟨rfl, g3⟩
    rw [n_nI (by omega), n_nI (by omega), Int.toNat_natCast, Int.toNat_natCast, tk_app, wat_sl, List.append_assoc, ← mrk_succ] at g3
    replace g3 := g2.tr g3
    dsimp only [Option.toList, List.cons_append, List.nil_append]
    refine xj_aload_n (pc := 76) d_RD_makeRanked_76 rfl rfl ?_
    refine xj_getR (pc := 77) d_RD_makeRanked_77 fl_RD_28 rfl rfl ?_
    refine xj_iload_n (pc := 80) d_RD_makeRanked_80 rfl rfl ?_
    refine xj_callV (pc := 81) d_RD_makeRanked_81 ml_RD_155 ok_WL_stopOf (s_WL_stopOf (w := 0) (by decide) (g3.wl (by decide) hW) (by omega)) rfl rfl (xsh_wl (by omega)) rfl rfl (Nat.le_of_ble_eq_true rfl) (by decide) ?_
    rintro rv I1 F1 ⟨rfl, rfl, rfl⟩
    dsimp only [Option.toList, List.cons_append, List.nil_append]
    refine xj_istore_n (pc := 84) d_RD_makeRanked_84 rfl (by decide) rfl ?_
    dsimp only [xset, xset2, xkill]
    refine xj_inc1 (pc := 85) d_RD_makeRanked_85 rfl (by decide) rfl ?_
    dsimp only [xset, xset2, xkill]
    rw [n_up, show wsp L i = dn L (i + 1) by rw [dn, if_neg (by omega), Nat.add_sub_cancel]]
    refine xj_goto (pc := 88) (tgt := 12) d_RD_makeRanked_88 (by decide) ?_
    exact xj_take 4 (ih (i + 1) I3 F3 (by omega) g3)
theorem s_RD_mkr {ka : Nat} {how : Int32} (hka : ka < 10) (hL : Rl I F ka L) (hW : Wl I F 0 L) (hr : ∀ q, q < (wst L).length → F (14 + 3 * 0) q = nI (rk L how q)) (hM : Rl I F 10 M) : XM m_RD_makeRanked [.ref 24, .ref ka] I F (fun rv I2 F2 => rv = none ∧ Rs 10 ((m_rank L how).take (xcap 10)) I F I2 F2) := by
  refine XM.of (by decide) (Nat.le_of_ble_eq_true rfl) ?_
  dsimp only [xargs]
  refine xj_aload_n (pc := 0) d_RD_makeRanked_0 rfl rfl ?_
  refine xj_getR (pc := 1) d_RD_makeRanked_1 fl_RD_22 rfl rfl ?_
  refine xj_iconst (pc := 4) (v := 0) d_RD_makeRanked_4 (by decide) ?_
  refine xj_callV (pc := 5) d_RD_makeRanked_5 ml_RD_53 ok_RW_shortenTo (s_RW_clear (by decide) hM) rfl rfl (xsh_row (by omega)) rfl rfl (Nat.le_of_ble_eq_true rfl) (by decide) ?_
  rintro rv I1 F1 ⟨rfl, g⟩
  dsimp only [Option.toList, List.cons_append, List.nil_append]
  refine xj_iconst (pc := 8) (v := 0) d_RD_makeRanked_8 (by decide) ?_
  refine xj_istore_n (pc := 9) d_RD_makeRanked_9 rfl (by decide) rfl ?_
  dsimp only [xset, xset2, xkill]
  refine xj_iconst (pc := 10) (v := 0) d_RD_makeRanked_10 (by decide) ?_
  refine xj_istore_n (pc := 11) d_RD_makeRanked_11 rfl (by decide) rfl ?_
  dsimp only [xset, xset2, xkill]
  exact xj_post (fun rv I2 F2 z => ⟨z.1, g.tr z.2⟩) (s_RD_mkr_l hka (g.kp (by omega) hL) (g.wl (by decide) hW) (fun q hq => by rw [g.2.1 _ (by decide)]; exact hr q hq) _ 0 I1 F1 (Nat.zero_add _) (Rs.rf g.2.2))
theorem t_RD_order_e {a how to : Int32} {ka kt : Nat} {R : List Nat} (hC : CI I F S) (hX : CX I F I1 F1) (hM : ∃ M, Rl I1 F1 10 M) (hka : ka < 10) (hkt : kt < 10) (ht : to.toInt.toNat = kt) (hL : Rl I1 F1 ka L) (hW : Wl I1 F1 0 L) (hR : Rk L how R) (hr : ∀ q v, R[q]? = some v → F1 (14 + 3 * 0) q = nI v) : XJ none m_RD_order 67 [some (.ref 24), some (.int a), some (.int how), some (.int to), some (.ref ka), some (.ref kt)] [] I1 F1 (CQ (sMk S to (m_rank L how)) I F) := by
  have hl : (m_rank L how).length ≤ 200 := by rw [rank_len]; exact hW.2.2.1
  obtain ⟨M0, hM0⟩ := hM
  refine xj_aload_n (pc := 67) d_RD_order_67 rfl rfl ?_
  refine xj_aload (pc := 68) d_RD_order_68 rfl ?_
  refine xj_callV (pc := 70) d_RD_order_70 ml_RD_167 ok_RD_makeRanked (s_RD_mkr (how := how) hka hL hW (fun q hq => by obtain ⟨v, hv⟩ : ∃ v, R[q]? = some v := ⟨_, List.getElem?_eq_getElem (by rw [hR.len]; exact hq)⟩; rw [hr q v hv, rk_at hR hv]) hM0) rfl rfl rfl rfl rfl (Nat.le_of_ble_eq_true rfl) (by decide) ?_
  rintro rv I2 F2 ⟨rfl, g2⟩
  rw [xcap10, List.take_of_length_le hl] at g2
  dsimp only [Option.toList, List.cons_append, List.nil_append]
  refine xj_aload_n (pc := 73) d_RD_order_73 rfl rfl ?_
  refine xj_aload (pc := 74) d_RD_order_74 rfl ?_
  refine xj_callV (pc := 76) d_RD_order_76 ml_RD_79 ok_RD_keepMade (s_RD_keepMade hkt g2.2.2) rfl rfl rfl rfl rfl (Nat.le_of_ble_eq_true rfl) (by decide) ?_
  rintro rv I3 F3 ⟨rfl, g3⟩
  dsimp only [Option.toList, List.cons_append, List.nil_append]
  refine xj_iret (pc := 79) d_RD_order_79 rfl ?_
  exact ck_doneX hC (hX.tr g2.cx) g2.2.2 g3 hkt ht rfl hl
theorem t_RD_order {a how to : Int32} (hS : OKS S) (hC : CI I F S) : XM m_RD_order [.ref 24, .int a, .int how, .int to] I F (CQ (sp_order S a how to) I F) := by
  refine XM.of (by decide) (Nat.le_of_ble_eq_true rfl) ?_
  dsimp only [xargs]
  obtain ⟨M0, hM0⟩ := hC.2.2.2
  refine xj_aload_n (pc := 0) d_RD_order_0 rfl rfl ?_
  refine xj_iload_n (pc := 1) d_RD_order_1 rfl rfl ?_
  rcases regc a with ⟨k_a, hk_a, e_a, i_a, t_a⟩ | i_a
  · refine xj_callV (pc := 2) d_RD_order_2 ml_RD_56 ok_RD_register (s_RD_register_k hk_a e_a) rfl rfl rfl rfl rfl (Nat.le_of_ble_eq_true rfl) (by decide) ?_
    rintro rv I1 F1 ⟨rfl, rfl, rfl⟩
    dsimp only [Option.toList, List.cons_append, List.nil_append]
    refine xj_astore (pc := 5) d_RD_order_5 (by decide) rfl ?_
    dsimp only [xset, xset2, xkill]
    refine xj_aload_n (pc := 7) d_RD_order_7 rfl rfl ?_
    refine xj_iload_n (pc := 8) d_RD_order_8 rfl rfl ?_
    rcases regc to with ⟨k_to, hk_to, e_to, i_to, t_to⟩ | i_to
    · refine xj_callV (pc := 9) d_RD_order_9 ml_RD_56 ok_RD_register (s_RD_register_k hk_to e_to) rfl rfl rfl rfl rfl (Nat.le_of_ble_eq_true rfl) (by decide) ?_
      rintro rv I1 F1 ⟨rfl, rfl, rfl⟩
      dsimp only [Option.toList, List.cons_append, List.nil_append]
      refine xj_astore (pc := 12) d_RD_order_12 (by decide) rfl ?_
      dsimp only [xset, xset2, xkill]
      refine xj_aload (pc := 14) d_RD_order_14 rfl ?_
      refine xj_ifnull (pc := 16) d_RD_order_16 ?_
      refine xj_aload (pc := 19) d_RD_order_19 rfl ?_
      refine xj_ifnull (pc := 21) d_RD_order_21 ?_
      refine xj_iload_n (pc := 24) d_RD_order_24 rfl rfl ?_
      refine xj_if_lt (pc := 25) (tgt := 33) d_RD_order_25 (by decide) (fun h25 => ?_) (fun h25 => ?_)
      · simp only [n_lt, n_le, c_gt, c_le, c_lt, c_ge, not_lt_i, not_le_i, n_0, n_1, n_2, n_3, n_4, n_m1, n_10, n_200, n_240, n_256] at h25
        refine xj_iconst (pc := 33) (v := -1) d_RD_order_33 (by decide) ?_
        refine xj_iret (pc := 34) d_RD_order_34 rfl ?_
        exact ck_none hC (if_neg (fun q => by simp only [Bool.and_eq_true, decide_eq_true_eq] at q; first | omega | simp_all))
      · simp only [n_lt, n_le, c_gt, c_le, c_lt, c_ge, not_lt_i, not_le_i, n_0, n_1, n_2, n_3, n_4, n_m1, n_10, n_200, n_240, n_256] at h25
        refine xj_iload_n (pc := 28) d_RD_order_28 rfl rfl ?_
        refine xj_iconst (pc := 29) (v := 1) d_RD_order_29 (by decide) ?_
        refine xj_icmp_le (pc := 30) (tgt := 35) d_RD_order_30 (by decide) (fun h30 => ?_) (fun h30 => ?_)
        · simp only [n_lt, n_le, c_gt, c_le, c_lt, c_ge, not_lt_i, not_le_i, n_0, n_1, n_2, n_3, n_4, n_m1, n_10, n_200, n_240, n_256] at h30
          rw [sp_order, if_pos (by simp only [i_a, i_to, Bool.true_and, decide_eq_true_eq]; omega)]
          have hLe := hS.le hk_a t_a
          have hLa := hC.at hk_a t_a
          refine xj_aload_n (pc := 35) d_RD_order_35 rfl rfl ?_
          refine xj_getR (pc := 36) d_RD_order_36 fl_RD_28 rfl rfl ?_
          refine xj_aload (pc := 39) d_RD_order_39 rfl ?_
          refine xj_callV (pc := 41) d_RD_order_41 ml_RD_143 ok_WL_read (s_WL_read (w := 0) (by decide) (by omega) hLa hLe) rfl rfl (xsh_wl (by omega)) rfl rfl (Nat.le_of_ble_eq_true rfl) (by decide) ?_
          rintro rv I1 F1 ⟨rfl, g1, g2⟩
          have hLa1 := g1.kp (by omega) hLa
          dsimp only [Option.toList, List.cons_append, List.nil_append]
          refine xj_iload_n (pc := 44) d_RD_order_44 rfl rfl ?_
          refine xj_if_ne (pc := 45) (tgt := 58) d_RD_order_45 (by decide) (fun h45 => ?_) (fun h45 => ?_)
          · refine xj_aload_n (pc := 58) d_RD_order_58 rfl rfl ?_
            refine xj_getR (pc := 59) d_RD_order_59 fl_RD_28 rfl rfl ?_
            refine xj_aload (pc := 62) d_RD_order_62 rfl ?_
            refine xj_callV (pc := 64) d_RD_order_64 ml_RD_164 ok_WL_rankByBytes (s_WL_rbb (w := 0) (by decide) (by omega) hLa1 g2 (hS.r i_a)) rfl rfl (xsh_wl (by omega)) rfl rfl (Nat.le_of_ble_eq_true rfl) (by decide) ?_
            rintro rv I2 F2 ⟨rfl, R, r0, r2⟩
            have r1 := rk_srt h45 r0
            dsimp only [Option.toList, List.cons_append, List.nil_append]
            exact t_RD_order_e hC ((g1.cx (by decide)).tr (r2.cx (by decide))) ⟨M0, r2.kp (by decide) (g1.kp (by decide) hM0)⟩ hk_a hk_to t_to (r2.kp (by omega) hLa1) (r2.wl g2) r1 r2.2.2
          · refine xj_aload_n (pc := 48) d_RD_order_48 rfl rfl ?_
            refine xj_getR (pc := 49) d_RD_order_49 fl_RD_28 rfl rfl ?_
            refine xj_callV (pc := 52) d_RD_order_52 ml_RD_161 ok_WL_rankLastFirst (s_WL_rlf (w := 0) (by decide) g2) rfl rfl (xsh_wl (by omega)) rfl rfl (Nat.le_of_ble_eq_true rfl) (by decide) ?_
            rintro rv I2 F2 ⟨rfl, R, r1, r2⟩
            replace r1 : Rk (sR S a) how R := (by rw [h45]; exact r1)
            dsimp only [Option.toList, List.cons_append, List.nil_append]
            refine xj_goto (pc := 55) (tgt := 67) d_RD_order_55 (by decide) ?_
            exact t_RD_order_e hC ((g1.cx (by decide)).tr (r2.cx (by decide))) ⟨M0, r2.kp (by decide) (g1.kp (by decide) hM0)⟩ hk_a hk_to t_to (r2.kp (by omega) hLa1) (r2.wl g2) r1 r2.2.2
        · simp only [n_lt, n_le, c_gt, c_le, c_lt, c_ge, not_lt_i, not_le_i, n_0, n_1, n_2, n_3, n_4, n_m1, n_10, n_200, n_240, n_256] at h30
          refine xj_iconst (pc := 33) (v := -1) d_RD_order_33 (by decide) ?_
          refine xj_iret (pc := 34) d_RD_order_34 rfl ?_
          exact ck_none hC (if_neg (fun q => by simp only [Bool.and_eq_true, decide_eq_true_eq] at q; first | omega | simp_all))
    · refine xj_callV (pc := 9) d_RD_order_9 ml_RD_56 ok_RD_register (s_RD_register_n i_to) rfl rfl rfl rfl rfl (Nat.le_of_ble_eq_true rfl) (by decide) ?_
      rintro rv I1 F1 ⟨rfl, rfl, rfl⟩
      dsimp only [Option.toList, List.cons_append, List.nil_append]
      refine xj_astoreN (pc := 12) d_RD_order_12 (by decide) rfl ?_
      dsimp only [xset, xset2, xkill]
      refine xj_aload (pc := 14) d_RD_order_14 rfl ?_
      refine xj_ifnull (pc := 16) d_RD_order_16 ?_
      refine xj_aloadN (pc := 19) d_RD_order_19 rfl ?_
      refine xj_ifnullN (pc := 21) (tgt := 33) d_RD_order_21 (by decide) ?_
      refine xj_iconst (pc := 33) (v := -1) d_RD_order_33 (by decide) ?_
      refine xj_iret (pc := 34) d_RD_order_34 rfl ?_
      exact ck_none hC (if_neg (fun q => by simp only [Bool.and_eq_true, decide_eq_true_eq] at q; first | omega | simp_all))
  · refine xj_callV (pc := 2) d_RD_order_2 ml_RD_56 ok_RD_register (s_RD_register_n i_a) rfl rfl rfl rfl rfl (Nat.le_of_ble_eq_true rfl) (by decide) ?_
    rintro rv I1 F1 ⟨rfl, rfl, rfl⟩
    dsimp only [Option.toList, List.cons_append, List.nil_append]
    refine xj_astoreN (pc := 5) d_RD_order_5 (by decide) rfl ?_
    dsimp only [xset, xset2, xkill]
    refine xj_aload_n (pc := 7) d_RD_order_7 rfl rfl ?_
    refine xj_iload_n (pc := 8) d_RD_order_8 rfl rfl ?_
    rcases regc to with ⟨k_to, hk_to, e_to, i_to, t_to⟩ | i_to
    · refine xj_callV (pc := 9) d_RD_order_9 ml_RD_56 ok_RD_register (s_RD_register_k hk_to e_to) rfl rfl rfl rfl rfl (Nat.le_of_ble_eq_true rfl) (by decide) ?_
      rintro rv I1 F1 ⟨rfl, rfl, rfl⟩
      dsimp only [Option.toList, List.cons_append, List.nil_append]
      refine xj_astore (pc := 12) d_RD_order_12 (by decide) rfl ?_
      dsimp only [xset, xset2, xkill]
      refine xj_aloadN (pc := 14) d_RD_order_14 rfl ?_
      refine xj_ifnullN (pc := 16) (tgt := 33) d_RD_order_16 (by decide) ?_
      refine xj_iconst (pc := 33) (v := -1) d_RD_order_33 (by decide) ?_
      refine xj_iret (pc := 34) d_RD_order_34 rfl ?_
      exact ck_none hC (if_neg (fun q => by simp only [Bool.and_eq_true, decide_eq_true_eq] at q; first | omega | simp_all))
    · refine xj_callV (pc := 9) d_RD_order_9 ml_RD_56 ok_RD_register (s_RD_register_n i_to) rfl rfl rfl rfl rfl (Nat.le_of_ble_eq_true rfl) (by decide) ?_
      rintro rv I1 F1 ⟨rfl, rfl, rfl⟩
      dsimp only [Option.toList, List.cons_append, List.nil_append]
      refine xj_astoreN (pc := 12) d_RD_order_12 (by decide) rfl ?_
      dsimp only [xset, xset2, xkill]
      refine xj_aloadN (pc := 14) d_RD_order_14 rfl ?_
      refine xj_ifnullN (pc := 16) (tgt := 33) d_RD_order_16 (by decide) ?_
      refine xj_iconst (pc := 33) (v := -1) d_RD_order_33 (by decide) ?_
      refine xj_iret (pc := 34) d_RD_order_34 rfl ?_
      exact ck_none hC (if_neg (fun q => by simp only [Bool.and_eq_true, decide_eq_true_eq] at q; first | omega | simp_all))
end RDL
