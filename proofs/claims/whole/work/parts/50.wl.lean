section WLP
variable {I I1 I2 : XI} {F F1 F2 : XF} {S : XSt} {k w : Nat} {M X L : List Int32}
/-! words of a row -/
def wsi (L : List Int32) (i : Nat) : List Nat := (List.range i).filter (wb L)
theorem wsi_succ (L : List Int32) (i : Nat) : wsi L (i + 1) = wsi L i ++ (if wb L i then [i] else []) := by
  rw [wsi, List.range_succ, List.filter_append]
  congr 1
  by_cases h : wb L i <;> simp [h]
theorem wst_wsi (L : List Int32) : wst L = wsi L L.length := rfl
theorem wsi_mem {L : List Int32} {i s : Nat} (h : s ∈ wsi L i) : s < i ∧ wb L s = true := by
  simp only [wsi, List.mem_filter, List.mem_range] at h; exact h
theorem wst_lt {L : List Int32} {i s : Nat} (h : (wst L)[i]? = some s) : s < L.length := (wsi_mem (List.mem_of_getElem? h)).1
theorem wsi_cnt (L : List Int32) : ∀ i, 2 * (wsi L i).length ≤ i + 1 ∧ ((i = 0 ∨ L.getD (i - 1) 32 = 32) → 2 * (wsi L i).length ≤ i)
  | 0 => by simp [wsi]
  | i + 1 => by
    obtain ⟨h1, h2⟩ := wsi_cnt L i
    rw [wsi_succ, List.length_append]
    by_cases h : wb L i = true
    · rw [if_pos h]
      simp only [wb, Bool.and_eq_true, Bool.or_eq_true, decide_eq_true_eq, beq_iff_eq] at h
      have := h2 h.2
      refine ⟨by simp only [List.length_cons, List.length_nil]; omega, fun q => ?_⟩
      rcases q with q | q
      · omega
      · rw [Nat.add_sub_cancel] at q; exact absurd q h.1
    · rw [if_neg h]
      exact ⟨by simp only [List.length_nil]; omega, fun _ => by simp only [List.length_nil]; omega⟩
theorem wst_cnt {L : List Int32} (h : L.length ≤ 200) : (wst L).length ≤ 100 := by
  have := (wsi_cnt L L.length).1
  rw [wst_wsi]; omega
theorem tw_len {X : List Int32} {p : Int32 → Bool} : ∀ (n : Nat) (X : List Int32), n ≤ X.length → (∀ j b, j < n → X[j]? = some b → p b = true) → (∀ b, X[n]? = some b → p b = false) → (X.takeWhile p).length = n
  | 0, [], _, _, _ => rfl
  | 0, b :: t, _, _, h => by rw [List.takeWhile_cons, h b rfl]; rfl
  | n + 1, [], h, _, _ => by simp at h
  | n + 1, b :: t, h, h1, h2 => by
    rw [List.takeWhile_cons, h1 0 b (by omega) rfl, if_pos rfl, List.length_cons, tw_len (X := X) n t (by simpa using h) (fun j c hj hc => h1 (j + 1) c (by omega) (by rw [List.getElem?_cons_succ]; exact hc)) (fun c hc => h2 c (by rw [List.getElem?_cons_succ]; exact hc))]
theorem wen_eq {L : List Int32} {s i : Nat} (hs : s ≤ i) (hi : i ≤ L.length) (h1 : ∀ q, s ≤ q → q < i → ¬ L.getD q 32 = 32) (h2 : L.getD i 32 = 32) : wen L s = i := by
  rw [wen, tw_len (X := L) (i - s) _ (by rw [List.length_drop]; omega)]
  · omega
  · intro j b hj hb
    rw [List.getElem?_drop] at hb
    have := h1 (s + j) (by omega) (by omega)
    rw [List.getD_eq_getElem?_getD, hb] at this
    simpa using this
  · intro b hb
    rw [List.getElem?_drop, show s + (i - s) = i by omega] at hb
    rw [List.getD_eq_getElem?_getD, hb] at h2
    simpa using h2
theorem wen_ge (L : List Int32) (s : Nat) : s ≤ wen L s := by unfold wen; omega
theorem tk_tw {p : Int32 → Bool} : ∀ (X : List Int32), X.take (X.takeWhile p).length = X.takeWhile p
  | [] => rfl
  | b :: t => by
    rw [List.takeWhile_cons]
    split
    · rw [List.length_cons, List.take_succ_cons, tk_tw t]
    · rfl
theorem tw_le {p : Int32 → Bool} : ∀ (X : List Int32), (X.takeWhile p).length ≤ X.length
  | [] => Nat.le_refl _
  | b :: t => by
    rw [List.takeWhile_cons]
    split
    · have := tw_le (p := p) t; simp only [List.length_cons]; omega
    · exact Nat.zero_le _
theorem wen_le {L : List Int32} {s : Nat} (h : s ≤ L.length) : wen L s ≤ L.length := by
  have := tw_le (p := fun b => decide (b ≠ 32)) (L.drop s)
  rw [List.length_drop] at this
  unfold wen; omega
theorem wen_sl (L : List Int32) (s : Nat) : (L.take (wen L s)).drop s = (L.drop s).takeWhile (fun b => decide (b ≠ 32)) := by
  rw [sl_dt (m := ((L.drop s).takeWhile (fun b => decide (b ≠ 32))).length) (fun i hi => by unfold wen; omega), tk_tw]
/-- where word q begins and ends; the row's end if there is none -/
def wbg (L : List Int32) (q : Nat) : Nat := (wst L).getD q L.length
def wsp (L : List Int32) (q : Nat) : Nat := match (wst L)[q]? with
  | some s => wen L s
  | none => L.length
theorem wbg_le (L : List Int32) (q : Nat) : wbg L q ≤ L.length := by
  rw [wbg, List.getD_eq_getElem?_getD]
  cases h : (wst L)[q]? with
  | none => exact Nat.le_refl _
  | some s => exact Nat.le_of_lt (wst_lt h)
theorem wsp_le (L : List Int32) (q : Nat) : wsp L q ≤ L.length := by
  rw [wsp]
  cases h : (wst L)[q]? with
  | none => exact Nat.le_refl _
  | some s => exact wen_le (Nat.le_of_lt (wst_lt h))
theorem wbg_sp (L : List Int32) (q : Nat) : wbg L q ≤ wsp L q := by
  rw [wbg, wsp, List.getD_eq_getElem?_getD]
  cases h : (wst L)[q]? with
  | none => exact Nat.le_refl _
  | some s => exact wen_ge L s
theorem wat_sl (L : List Int32) (q : Nat) : (L.take (wsp L q)).drop (wbg L q) = wat L q := by
  rw [wbg, wsp, wat, List.getD_eq_getElem?_getD]
  cases h : (wst L)[q]? with
  | none => simp
  | some s => exact wen_sl L s
theorem wat_len (L : List Int32) (q : Nat) : (wat L q).length = wsp L q - wbg L q := by
  have := wsp_le L q
  rw [← wat_sl, List.length_drop, List.length_take]; omega
/-! the word list -/
def Wl (I : XI) (F : XF) (w : Nat) (L : List Int32) : Prop := I (13 + 2 * w) = nI (wst L).length ∧ I (14 + 2 * w) = nI L.length ∧ L.length ≤ 200 ∧ ∀ i s, (wst L)[i]? = some s → F (12 + 3 * w) i = nI s ∧ F (13 + 3 * w) i = nI (wen L s)
def Wc (w : Nat) (I : XI) (F : XF) (I1 : XI) (F1 : XF) : Prop := (∀ x, x ≠ 13 + 2 * w → x ≠ 14 + 2 * w → I1 x = I x) ∧ (∀ x, x ≠ 12 + 3 * w → x ≠ 13 + 3 * w → F1 x = F x)
theorem Wc.rf : Wc w I F I F := ⟨fun _ _ _ => rfl, fun _ _ _ => rfl⟩
theorem Wc.tr (h : Wc w I F I1 F1) (h2 : Wc w I1 F1 I2 F2) : Wc w I F I2 F2 := ⟨fun x a b => (h2.1 x a b).trans (h.1 x a b), fun x a b => (h2.2 x a b).trans (h.2 x a b)⟩
theorem Wc.cx (h : Wc w I F I1 F1) (hw : w < 2) : CX I F I1 F1 := ⟨fun x _ _ => h.1 x (by omega) (by omega), fun x _ _ => h.2 x (by omega) (by omega), fun x _ => h.1 x (by omega) (by omega), fun x _ => h.2 x (by omega) (by omega)⟩
theorem Wc.kp {r : Nat} (h : Wc w I F I1 F1) (hr : r < 12) (hl : Rl I F r L) : Rl I1 F1 r L := ⟨by rw [h.1 r (by omega) (by omega)]; exact hl.1, hl.2.1, fun i b hb => by rw [h.2 r (by omega) (by omega)]; exact hl.2.2 i b hb⟩
theorem Rs.wl {r : Nat} (h : Rs r M I F I1 F1) (hr : r < 12) (hl : Wl I F w L) : Wl I1 F1 w L := ⟨by rw [h.1 _ (by omega)]; exact hl.1, by rw [h.1 _ (by omega)]; exact hl.2.1, hl.2.2.1, fun i s hs => by rw [h.2.1 _ (by omega), h.2.1 _ (by omega)]; exact hl.2.2.2 i s hs⟩
theorem Wc.wl {v : Nat} (h : Wc w I F I1 F1) (hv : v ≠ w) (hl : Wl I F v L) : Wl I1 F1 v L := ⟨by rw [h.1 _ (by omega) (by omega)]; exact hl.1, by rw [h.1 _ (by omega) (by omega)]; exact hl.2.1, hl.2.2.1, fun i s hs => by rw [h.2 _ (by omega) (by omega), h.2 _ (by omega) (by omega)]; exact hl.2.2.2 i s hs⟩
theorem Wl.cn (h : Wl I F w L) : (I (13 + 2 * w)).toInt = (wst L).length := by have := wst_cnt h.2.2.1; rw [h.1, n_nI (by omega)]
theorem s_WL_count (hw : w < 2) : XM m_WL_count [.ref (26 + 4 * w)] I F (xpi (I (13 + 2 * w)) I F) := by
  refine XM.of (by decide) (Nat.le_of_ble_eq_true rfl) ?_
  dsimp only [xargs]
  refine xj_aload_n (pc := 0) d_WL_count_0 rfl rfl ?_
  refine xj_wcnt (pc := 1) d_WL_count_1 fl_WL_21 (by omega) ?_
  refine xj_iret (pc := 4) d_WL_count_4 rfl ?_
  exact ⟨rfl, rfl, rfl⟩
theorem s_WL_startOf {q : Nat} (hw : w < 2) (h : Wl I F w L) (hq : q < 2147483648) : XM m_WL_startOf [.ref (26 + 4 * w), .int (nI q)] I F (xpi (nI (wbg L q)) I F) := by
  refine XM.of (by decide) (Nat.le_of_ble_eq_true rfl) ?_
  dsimp only [xargs]
  have hc := wst_cnt h.2.2.1
  refine xj_iload_n (pc := 0) d_WL_startOf_0 rfl rfl ?_
  refine xj_if_lt (pc := 1) (tgt := 21) d_WL_startOf_1 (by decide) (fun h1 => absurd h1 (by rw [n_lt, n_0, n_nI (by omega)]; omega)) (fun h1 => ?_)
  refine xj_iload_n (pc := 4) d_WL_startOf_4 rfl rfl ?_
  refine xj_aload_n (pc := 5) d_WL_startOf_5 rfl rfl ?_
  refine xj_wcnt (pc := 6) d_WL_startOf_6 fl_WL_21 (by omega) ?_
  refine xj_icmp_ge (pc := 9) (tgt := 21) d_WL_startOf_9 (by decide) (fun h9 => ?_) (fun h9 => ?_)
  · refine xj_aload_n (pc := 21) d_WL_startOf_21 rfl rfl ?_
    refine xj_wrl (pc := 22) d_WL_startOf_22 fl_WL_25 (by omega) ?_
    refine xj_iret (pc := 25) d_WL_startOf_25 rfl ?_
    first | (rw [(h.2.2.2 q _ hget).1, wbg, List.getD_eq_getElem?_getD, hget]; exact ⟨rfl, rfl, rfl⟩; done) | (rw [h.1, n_le, n_nI (by omega), n_nI (by omega)] at h9; rw [h.2.1, wbg, List.getD_eq_getElem?_getD, List.getElem?_eq_none (by omega)]; exact ⟨rfl, rfl, rfl⟩)
  · have hlt : q < (wst L).length := by rw [h.1, n_le, n_nI (by omega), n_nI (by omega)] at h9; omega
    have hget : (wst L)[q]? = some (wst L)[q] := List.getElem?_eq_getElem hlt
    refine xj_aload_n (pc := 12) d_WL_startOf_12 rfl rfl ?_
    refine xj_wst (pc := 13) d_WL_startOf_13 fl_WL_9 (by omega) ?_
    refine xj_iload_n (pc := 16) d_WL_startOf_16 rfl rfl ?_
    refine xj_iald (pc := 17) d_WL_startOf_17 (n := 100) (xsh_wst hw) rfl (by omega) (by decide) ?_
    refine xj_goto (pc := 18) (tgt := 25) d_WL_startOf_18 (by decide) ?_
    refine xj_iret (pc := 25) d_WL_startOf_25 rfl ?_
    first | (rw [(h.2.2.2 q _ hget).1, wbg, List.getD_eq_getElem?_getD, hget]; exact ⟨rfl, rfl, rfl⟩; done) | (rw [h.1, n_le, n_nI (by omega), n_nI (by omega)] at h9; rw [h.2.1, wbg, List.getD_eq_getElem?_getD, List.getElem?_eq_none (by omega)]; exact ⟨rfl, rfl, rfl⟩)
theorem s_WL_stopOf {q : Nat} (hw : w < 2) (h : Wl I F w L) (hq : q < 2147483648) : XM m_WL_stopOf [.ref (26 + 4 * w), .int (nI q)] I F (xpi (nI (wsp L q)) I F) := by
  refine XM.of (by decide) (Nat.le_of_ble_eq_true rfl) ?_
  dsimp only [xargs]
  have hc := wst_cnt h.2.2.1
  refine xj_iload_n (pc := 0) d_WL_stopOf_0 rfl rfl ?_
  refine xj_if_lt (pc := 1) (tgt := 21) d_WL_stopOf_1 (by decide) (fun h1 => absurd h1 (by rw [n_lt, n_0, n_nI (by omega)]; omega)) (fun h1 => ?_)
  refine xj_iload_n (pc := 4) d_WL_stopOf_4 rfl rfl ?_
  refine xj_aload_n (pc := 5) d_WL_stopOf_5 rfl rfl ?_
  refine xj_wcnt (pc := 6) d_WL_stopOf_6 fl_WL_21 (by omega) ?_
  refine xj_icmp_ge (pc := 9) (tgt := 21) d_WL_stopOf_9 (by decide) (fun h9 => ?_) (fun h9 => ?_)
  · refine xj_aload_n (pc := 21) d_WL_stopOf_21 rfl rfl ?_
    refine xj_wrl (pc := 22) d_WL_stopOf_22 fl_WL_25 (by omega) ?_
    refine xj_iret (pc := 25) d_WL_stopOf_25 rfl ?_
    first | (rw [(h.2.2.2 q _ hget).2, wsp, hget]; exact ⟨rfl, rfl, rfl⟩; done) | (rw [h.1, n_le, n_nI (by omega), n_nI (by omega)] at h9; rw [h.2.1, wsp, List.getElem?_eq_none (by omega)]; exact ⟨rfl, rfl, rfl⟩)
  · have hlt : q < (wst L).length := by rw [h.1, n_le, n_nI (by omega), n_nI (by omega)] at h9; omega
    have hget : (wst L)[q]? = some (wst L)[q] := List.getElem?_eq_getElem hlt
    refine xj_aload_n (pc := 12) d_WL_stopOf_12 rfl rfl ?_
    refine xj_wsp (pc := 13) d_WL_stopOf_13 fl_WL_15 (by omega) ?_
    refine xj_iload_n (pc := 16) d_WL_stopOf_16 rfl rfl ?_
    refine xj_iald (pc := 17) d_WL_stopOf_17 (n := 100) (xsh_wsp hw) rfl (by omega) (by decide) ?_
    refine xj_goto (pc := 18) (tgt := 25) d_WL_stopOf_18 (by decide) ?_
    refine xj_iret (pc := 25) d_WL_stopOf_25 rfl ?_
    first | (rw [(h.2.2.2 q _ hget).2, wsp, hget]; exact ⟨rfl, rfl, rfl⟩; done) | (rw [h.1, n_le, n_nI (by omega), n_nI (by omega)] at h9; rw [h.2.1, wsp, List.getElem?_eq_none (by omega)]; exact ⟨rfl, rfl, rfl⟩)
theorem s_WL_lengthOf {q : Nat} (hw : w < 2) (h : Wl I F w L) (hq : q < 2147483648) : XM m_WL_lengthOf [.ref (26 + 4 * w), .int (nI q)] I F (xpi (nI (wat L q).length) I F) := by
  refine XM.of (by decide) (Nat.le_of_ble_eq_true rfl) ?_
  dsimp only [xargs]
  refine xj_aload_n (pc := 0) d_WL_lengthOf_0 rfl rfl ?_
  refine xj_iload_n (pc := 1) d_WL_lengthOf_1 rfl rfl ?_
  refine xj_callV (pc := 2) d_WL_lengthOf_2 ml_WL_42 ok_WL_stopOf (s_WL_stopOf hw h hq) rfl rfl (xsh_wl (by omega)) rfl rfl (Nat.le_of_ble_eq_true rfl) (by decide) ?_
  rintro rv I1 F1 ⟨rfl, rfl, rfl⟩
  dsimp only [Option.toList, List.cons_append, List.nil_append]
  refine xj_aload_n (pc := 5) d_WL_lengthOf_5 rfl rfl ?_
  refine xj_iload_n (pc := 6) d_WL_lengthOf_6 rfl rfl ?_
  refine xj_callV (pc := 7) d_WL_lengthOf_7 ml_WL_46 ok_WL_startOf (s_WL_startOf hw h hq) rfl rfl (xsh_wl (by omega)) rfl rfl (Nat.le_of_ble_eq_true rfl) (by decide) ?_
  rintro rv I1 F1 ⟨rfl, rfl, rfl⟩
  dsimp only [Option.toList, List.cons_append, List.nil_append]
  refine xj_isub (pc := 10) d_WL_lengthOf_10 ?_
  refine xj_iret (pc := 11) d_WL_lengthOf_11 rfl ?_
  rw [n_subN (wbg_sp L q), ← wat_len]
  exact ⟨rfl, rfl, rfl⟩
theorem s_WL_addWord {c s e : Nat} (hw : w < 2) (hc : I (13 + 2 * w) = nI c) (hc2 : c < 100) : XM m_WL_addWord [.ref (26 + 4 * w), .int (nI s), .int (nI e)] I F (fun rv I1 F1 => rv = none ∧ I1 = upd I (13 + 2 * w) (nI (c + 1)) ∧ F1 = va_up (va_up F (12 + 3 * w) (upd (F (12 + 3 * w)) c (nI s))) (13 + 3 * w) (upd (F (13 + 3 * w)) c (nI e))) := by
  refine XM.of (by decide) (Nat.le_of_ble_eq_true rfl) ?_
  dsimp only [xargs]
  refine xj_aload_n (pc := 0) d_WL_addWord_0 rfl rfl ?_
  refine xj_wcnt (pc := 1) d_WL_addWord_1 fl_WL_21 (by omega) ?_
  refine xj_bipush (pc := 4) (v := 100) d_WL_addWord_4 (by decide) ?_
  refine xj_icmp_ge (pc := 6) (tgt := 39) d_WL_addWord_6 (by decide) (fun h6 => absurd h6 (by rw [hc, n_le, n_nI (by omega), show (100 : Int32).toInt = 100 from rfl]; omega)) (fun h6 => ?_)
  refine xj_aload_n (pc := 9) d_WL_addWord_9 rfl rfl ?_
  refine xj_wst (pc := 10) d_WL_addWord_10 fl_WL_9 (by omega) ?_
  refine xj_aload_n (pc := 13) d_WL_addWord_13 rfl rfl ?_
  refine xj_wcnt (pc := 14) d_WL_addWord_14 fl_WL_21 (by omega) ?_
  refine xj_iload_n (pc := 17) d_WL_addWord_17 rfl rfl ?_
  refine xj_iast (pc := 18) d_WL_addWord_18 (n := 100) (xsh_wst hw) hc (by omega) (by decide) ?_
  refine xj_aload_n (pc := 19) d_WL_addWord_19 rfl rfl ?_
  refine xj_wsp (pc := 20) d_WL_addWord_20 fl_WL_15 (by omega) ?_
  refine xj_aload_n (pc := 23) d_WL_addWord_23 rfl rfl ?_
  refine xj_wcnt (pc := 24) d_WL_addWord_24 fl_WL_21 (by omega) ?_
  refine xj_iload_n (pc := 27) d_WL_addWord_27 rfl rfl ?_
  refine xj_iast (pc := 28) d_WL_addWord_28 (n := 100) (xsh_wsp hw) hc (by omega) (by decide) ?_
  refine xj_aload_n (pc := 29) d_WL_addWord_29 rfl rfl ?_
  refine xj_dup (pc := 30) d_WL_addWord_30 rfl ?_
  refine xj_wcnt (pc := 31) d_WL_addWord_31 fl_WL_21 (by omega) ?_
  refine xj_iconst (pc := 34) (v := 1) d_WL_addWord_34 (by decide) ?_
  refine xj_iadd (pc := 35) d_WL_addWord_35 ?_
  refine xj_wpc (pc := 36) d_WL_addWord_36 fl_WL_21 (by omega) ?_
  refine xj_vret (pc := 39) d_WL_addWord_39 rfl ?_
  refine ⟨rfl, by rw [hc, n_up], ?_⟩
  rw [show va_up F (12 + 3 * w) (upd (F (12 + 3 * w)) c (nI s)) (13 + 3 * w) = F (13 + 3 * w) by simp only [va_up, if_neg (show ¬ 13 + 3 * w = 12 + 3 * w by omega)]]
end WLP
