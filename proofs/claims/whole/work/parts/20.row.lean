section ROW
def fb (v : Int32) : List Int32 := [(v >>> ((24 : Int32) &&& 31)) &&& 255, (v >>> ((16 : Int32) &&& 31)) &&& 255, (v >>> ((8 : Int32) &&& 31)) &&& 255, (v >>> ((0 : Int32) &&& 31)) &&& 255]
variable {I : XI} {F : XF} {j : Nat} {L : List Int32}
theorem s_RW_length (hj : j < 12) : XM m_RW_length [.ref j] I F (xpi (I j) I F) := by
  refine XM.of (by decide) (Nat.le_of_ble_eq_true rfl) ?_
  dsimp only [xargs]
  refine xj_aload_n (pc := 0) d_RW_length_0 rfl rfl ?_
  refine xj_rlen (pc := 1) d_RW_length_1 fl_RW_21 (by omega) ?_
  refine xj_iret (pc := 4) d_RW_length_4 rfl ?_
  exact ⟨rfl, rfl, rfl⟩
theorem s_RW_byteOr {i o : Int32} (hj : j < 12) (hL : Rl I F j L) : XM m_RW_byteOr [.ref j, .int i, .int o] I F (xpi (rg L i o) I F) := by
  refine XM.of (by decide) (Nat.le_of_ble_eq_true rfl) ?_
  dsimp only [xargs]
  have hc := xcap_le j
  have hll := hL.lt
  refine xj_iload_n (pc := 0) d_RW_byteOr_0 rfl rfl ?_
  refine xj_if_lt (pc := 1) (tgt := 21) d_RW_byteOr_1 (by decide) (fun h1 => ?_) (fun h1 => ?_)
  · refine xj_iload_n (pc := 21) d_RW_byteOr_21 rfl rfl ?_
    refine xj_iret (pc := 22) d_RW_byteOr_22 rfl ?_
    exact ⟨by first | (rw [rg, if_pos h1]; done) | (rw [rg_n (by omega), hget, hL.2.2 n _ hget]; rfl) | (rw [hL.1, n_le, n_nI (by omega), n_nI (by omega)] at h9; rw [rg_n (by omega), List.getElem?_eq_none (by omega)]; rfl), rfl, rfl⟩
  · obtain ⟨n, hn, rfl⟩ := nI_of h1
    refine xj_iload_n (pc := 4) d_RW_byteOr_4 rfl rfl ?_
    refine xj_aload_n (pc := 5) d_RW_byteOr_5 rfl rfl ?_
    refine xj_rlen (pc := 6) d_RW_byteOr_6 fl_RW_21 (by omega) ?_
    refine xj_icmp_ge (pc := 9) (tgt := 21) d_RW_byteOr_9 (by decide) (fun h9 => ?_) (fun h9 => ?_)
    · refine xj_iload_n (pc := 21) d_RW_byteOr_21 rfl rfl ?_
      refine xj_iret (pc := 22) d_RW_byteOr_22 rfl ?_
      exact ⟨by first | (rw [rg, if_pos h1]; done) | (rw [rg_n (by omega), hget, hL.2.2 n _ hget]; rfl) | (rw [hL.1, n_le, n_nI (by omega), n_nI (by omega)] at h9; rw [rg_n (by omega), List.getElem?_eq_none (by omega)]; rfl), rfl, rfl⟩
    · have hlt : n < L.length := by rw [hL.1, n_le, n_nI (by omega), n_nI (by omega)] at h9; omega
      have hget : L[n]? = some L[n] := List.getElem?_eq_getElem hlt
      refine xj_aload_n (pc := 12) d_RW_byteOr_12 rfl rfl ?_
      refine xj_rbytes (pc := 13) d_RW_byteOr_13 fl_RW_15 (by omega) ?_
      refine xj_iload_n (pc := 16) d_RW_byteOr_16 rfl rfl ?_
      refine xj_iald (pc := 17) d_RW_byteOr_17 (xsh_rarr hj) rfl (Nat.lt_of_lt_of_le hlt hL.2.1) (by omega) ?_
      refine xj_goto (pc := 18) (tgt := 22) d_RW_byteOr_18 (by decide) ?_
      refine xj_iret (pc := 22) d_RW_byteOr_22 rfl ?_
      exact ⟨by first | (rw [rg, if_pos h1]; done) | (rw [rg_n (by omega), hget, hL.2.2 n _ hget]; rfl) | (rw [hL.1, n_le, n_nI (by omega), n_nI (by omega)] at h9; rw [rg_n (by omega), List.getElem?_eq_none (by omega)]; rfl), rfl, rfl⟩
theorem ad_full {b : Int32} (hL : Rl I F j L) (h : Int32.ofNat (xcap j) ≤ I j) : Rs j ((L ++ [b]).take (xcap j)) I F I F := by
  have hc := xcap_le j
  have hll := hL.lt
  have h2 := hL.2.1
  rw [hL.1, show Int32.ofNat (xcap j) = nI (xcap j) from rfl, n_le, n_nI (by omega), n_nI (by omega)] at h
  have e : (L ++ [b]).take (xcap j) = L := by rw [show xcap j = L.length by omega]; exact List.take_left
  rw [e]; exact Rs.rf hL
theorem ad_in {b : Int32} (hL : Rl I F j L) (h : L.length < xcap j) : Rs j ((L ++ [b]).take (xcap j)) I F (upd I j (I j + 1)) (va_up F j (upd (F j) L.length b)) := by
  have e : (L ++ [b]).take (xcap j) = L ++ [b] := List.take_of_length_le (by simp; omega)
  rw [e]
  refine ⟨fun x hx => by simp [upd, hx], fun x hx => by simp [va_up, hx], ?_, by simp; omega, fun i c hc => ?_⟩
  · simp only [upd, if_pos]
    rw [hL.1, n_up]; simp
  · simp only [va_up, if_pos, upd]
    by_cases hi : i = L.length
    · subst hi
      rw [List.getElem?_append_right (Nat.le_refl _), Nat.sub_self] at hc
      rw [if_pos rfl]
      exact Option.some.inj hc
    · rw [if_neg hi]
      have hlt : i < L.length := by
        have := (List.getElem?_eq_some_iff.mp hc).1
        simp at this; omega
      rw [List.getElem?_append_left hlt] at hc
      exact hL.2.2 i c hc
theorem s_RW_add {b : Int32} (hj : j < 12) (hL : Rl I F j L) : XM m_RW_add [.ref j, .int b] I F (fun rv I1 F1 => rv = none ∧ Rs j ((L ++ [b]).take (xcap j)) I F I1 F1) := by
  refine XM.of (by decide) (Nat.le_of_ble_eq_true rfl) ?_
  dsimp only [xargs]
  have hc := xcap_le j
  have hll := hL.lt
  refine xj_aload_n (pc := 0) d_RW_add_0 rfl rfl ?_
  refine xj_rlen (pc := 1) d_RW_add_1 fl_RW_21 (by omega) ?_
  refine xj_aload_n (pc := 4) d_RW_add_4 rfl rfl ?_
  refine xj_rbytes (pc := 5) d_RW_add_5 fl_RW_15 (by omega) ?_
  refine xj_alen (pc := 8) d_RW_add_8 (xsh_rarr hj) rfl ?_
  refine xj_icmp_ge (pc := 9) (tgt := 32) d_RW_add_9 (by decide) (fun h9 => ?_) (fun h9 => ?_)
  · refine xj_vret (pc := 32) d_RW_add_32 rfl ?_
    refine ⟨rfl, ?_⟩
    first | exact ad_full hL h9 | exact ad_in hL hlt
  · have hlt : L.length < xcap j := by rw [hL.1, show Int32.ofNat (xcap j) = nI (xcap j) from rfl, n_le, n_nI (by omega), n_nI (by omega)] at h9; omega
    refine xj_aload_n (pc := 12) d_RW_add_12 rfl rfl ?_
    refine xj_rbytes (pc := 13) d_RW_add_13 fl_RW_15 (by omega) ?_
    refine xj_aload_n (pc := 16) d_RW_add_16 rfl rfl ?_
    refine xj_rlen (pc := 17) d_RW_add_17 fl_RW_21 (by omega) ?_
    refine xj_iload_n (pc := 20) d_RW_add_20 rfl rfl ?_
    refine xj_iast (pc := 21) d_RW_add_21 (xsh_rarr hj) hL.1 hlt (by omega) ?_
    refine xj_aload_n (pc := 22) d_RW_add_22 rfl rfl ?_
    refine xj_dup (pc := 23) d_RW_add_23 rfl ?_
    refine xj_rlen (pc := 24) d_RW_add_24 fl_RW_21 (by omega) ?_
    refine xj_iconst (pc := 27) (v := 1) d_RW_add_27 (by decide) ?_
    refine xj_iadd (pc := 28) d_RW_add_28 ?_
    refine xj_rput (pc := 29) d_RW_add_29 fl_RW_21 (by omega) ?_
    refine xj_vret (pc := 32) d_RW_add_32 rfl ?_
    refine ⟨rfl, ?_⟩
    first | exact ad_full hL h9 | exact ad_in hL hlt
theorem s_RW_addTimes_l {b t : Int32} (hj : j < 12) : ∀ (n k : Nat) (I1 : XI) (F1 : XF), t.toNatClampNeg = k + n → (t.toInt < 0 → k = 0) → Rs j ((L ++ List.replicate k b).take (xcap j)) I F I1 F1 →
    XJ none m_RW_addTimes 2 [some (.ref j), some (.int b), some (.int t), some (.int (nI k))] [] I1 F1 (fun rv I2 F2 => rv = none ∧ Rs j ((L ++ List.replicate t.toNatClampNeg b).take (xcap j)) I F I2 F2) := by
  have ht := n_hi t
  intro n
  induction n with
  | zero =>
    intro k I1 F1 hk h0 hR
    have hk2 : k = t.toNatClampNeg := by omega
    refine xj_iload_n (pc := 2) d_RW_addTimes_2 rfl rfl ?_
    refine xj_iload_n (pc := 3) d_RW_addTimes_3 rfl rfl ?_
    refine xj_icmp_ge (pc := 4) (tgt := 18) d_RW_addTimes_4 (by decide) (fun h4 => ?_) (fun h4 => absurd (by rw [n_cl] at hk2; rw [n_le, n_nI (by omega)]; omega) h4)
    refine xj_vret (pc := 18) d_RW_addTimes_18 rfl ?_
    exact ⟨rfl, by rw [← hk2]; exact hR⟩
  | succ n ih =>
    intro k I1 F1 hk h0 hR
    refine xj_iload_n (pc := 2) d_RW_addTimes_2 rfl rfl ?_
    refine xj_iload_n (pc := 3) d_RW_addTimes_3 rfl rfl ?_
    refine xj_icmp_ge (pc := 4) (tgt := 18) d_RW_addTimes_4 (by decide) (fun h4 => absurd h4 (by rw [n_cl] at hk; rw [n_le, n_nI (by omega)]; omega)) (fun h4 => ?_)
    refine xj_aload_n (pc := 7) d_RW_addTimes_7 rfl rfl ?_
    refine xj_iload_n (pc := 8) d_RW_addTimes_8 rfl rfl ?_
    refine xj_callV (pc := 9) d_RW_addTimes_9 ml_RW_25 ok_RW_add (s_RW_add hj hR.2.2) rfl rfl (xsh_row (by omega)) rfl rfl (Nat.le_of_ble_eq_true rfl) (by decide) ?_
    rintro rv I2 F2 ⟨rfl, h2⟩
    dsimp only [Option.toList, List.cons_append, List.nil_append]
    refine xj_inc1 (pc := 12) d_RW_addTimes_12 rfl (by decide) rfl ?_
    dsimp only [xset, xset2, xkill]
    rw [n_up]
    refine xj_goto (pc := 15) (tgt := 2) d_RW_addTimes_15 (by decide) ?_
    refine ih (k + 1) I2 F2 (by omega) (by rw [n_cl] at hk; omega) ?_
    have h3 := hR.tr h2
    rw [tk_app, List.append_assoc, ← List.replicate_succ'] at h3
    exact h3
theorem s_RW_addTimes {b t : Int32} (hj : j < 12) (hL : Rl I F j L) : XM m_RW_addTimes [.ref j, .int b, .int t] I F (fun rv I1 F1 => rv = none ∧ Rs j ((L ++ List.replicate t.toNatClampNeg b).take (xcap j)) I F I1 F1) := by
  refine XM.of (by decide) (Nat.le_of_ble_eq_true rfl) ?_
  dsimp only [xargs]
  refine xj_iconst (pc := 0) (v := 0) d_RW_addTimes_0 (by decide) ?_
  refine xj_istore_n (pc := 1) d_RW_addTimes_1 rfl (by decide) rfl ?_
  dsimp only [xset, xset2, xkill]
  exact s_RW_addTimes_l hj t.toNatClampNeg 0 I F (by omega) (fun _ => rfl) (Rs.rf (by rw [List.replicate_zero, List.append_nil, List.take_of_length_le hL.2.1]; exact hL))
theorem sl_succ {q s : Nat} {b : Int32} {L : List Int32} (hq : L[q]? = some b) (hs : s ≤ q) : (L.take (q + 1)).drop s = (L.take q).drop s ++ [b] := by
  have hlt := (List.getElem?_eq_some_iff.mp hq).1
  rw [List.take_add_one, hq, List.drop_append_of_le_length (by rw [List.length_take]; omega)]
  rfl
theorem n_mx0 (a : Int32) : (if a < 0 then 0 else a) = nI a.toInt.toNat := by
  have := n_hi a
  split
  · rename_i h; rw [n_lt, n_0] at h; rw [show a.toInt.toNat = 0 by omega]; rfl
  · rename_i h; rw [n_lt, n_0] at h; exact n_of (by omega)
theorem n_mnL {x : Int32} {n : Nat} (a : Int32) (h : x.toInt = n) : (if x < a then x else a).toInt ≤ n := by
  split
  · omega
  · rename_i h2; rw [n_lt] at h2; omega
theorem sl_fin {x a : Int32} {s : Nat} {L2 : List Int32} (h : x.toInt = L2.length) : (L2.take a.toInt.toNat).drop s = (L2.take (max (if x < a then x else a).toInt.toNat s)).drop s := by
  have e : (if x < a then x else a).toInt.toNat = min a.toInt.toNat L2.length := by
    split
    · rename_i h2; rw [n_lt] at h2; omega
    · rename_i h2; rw [n_lt] at h2; omega
  rw [e]
  apply List.ext_getElem?
  intro i
  simp only [List.getElem?_drop, List.getElem?_take]
  by_cases h1 : s + i < a.toInt.toNat
  · rw [if_pos h1]
    by_cases h2 : s + i < L2.length
    · rw [if_pos (by omega)]
    · rw [List.getElem?_eq_none (by omega)]; simp
  · rw [if_neg h1, if_neg (by omega)]
theorem s_RW_addRange_l {k s : Nat} {L2 : List Int32} {a1 a2 E : Int32} (hj : j < 12) (hk : k < 12) (hne : k ≠ j) (hL2 : Rl I F k L2) (hE : E.toInt ≤ L2.length) : ∀ (n q : Nat) (I1 : XI) (F1 : XF), E.toInt.toNat - q = n → q < 2147483648 → s ≤ q → Rs j ((L ++ (L2.take q).drop s).take (xcap j)) I F I1 F1 →
    XJ none m_RW_addRange 17 [some (.ref j), some (.ref k), some (.int a1), some (.int a2), some (.int E), some (.int (nI q))] [] I1 F1 (fun rv I2 F2 => rv = none ∧ Rs j ((L ++ (L2.take (max E.toInt.toNat q)).drop s).take (xcap j)) I F I2 F2) := by
  have hll := hL2.lt
  intro n
  induction n with
  | zero =>
    intro q I1 F1 hn hq2 hs hR
    refine xj_iload (pc := 17) d_RW_addRange_17 rfl ?_
    refine xj_iload (pc := 19) d_RW_addRange_19 rfl ?_
    refine xj_icmp_ge (pc := 21) (tgt := 41) d_RW_addRange_21 (by decide) (fun h21 => ?_) (fun h21 => absurd (by rw [n_le, n_nI (by omega)]; omega) h21)
    refine xj_vret (pc := 41) d_RW_addRange_41 rfl ?_
    exact ⟨rfl, by rw [Nat.max_eq_right (by omega)]; exact hR⟩
  | succ n ih =>
    intro q I1 F1 hn hq2 hs hR
    have hlt : q < L2.length := by omega
    have hget : L2[q]? = some L2[q] := List.getElem?_eq_getElem hlt
    have hL2' := hR.kp hne hL2
    refine xj_iload (pc := 17) d_RW_addRange_17 rfl ?_
    refine xj_iload (pc := 19) d_RW_addRange_19 rfl ?_
    refine xj_icmp_ge (pc := 21) (tgt := 41) d_RW_addRange_21 (by decide) (fun h21 => absurd h21 (by rw [n_le, n_nI (by omega)]; omega)) (fun h21 => ?_)
    refine xj_aload_n (pc := 24) d_RW_addRange_24 rfl rfl ?_
    refine xj_aload_n (pc := 25) d_RW_addRange_25 rfl rfl ?_
    refine xj_rbytes (pc := 26) d_RW_addRange_26 fl_RW_15 (by omega) ?_
    refine xj_iload (pc := 29) d_RW_addRange_29 rfl ?_
    refine xj_iald (pc := 31) d_RW_addRange_31 (xsh_rarr hk) rfl (Nat.lt_of_lt_of_le hlt hL2.2.1) (by have := xcap_le k; omega) ?_
    refine xj_callV (pc := 32) d_RW_addRange_32 ml_RW_25 ok_RW_add (s_RW_add hj hR.2.2) rfl rfl (xsh_row (by omega)) rfl rfl (Nat.le_of_ble_eq_true rfl) (by decide) ?_
    rintro rv I2 F2 ⟨rfl, h2⟩
    dsimp only [Option.toList, List.cons_append, List.nil_append]
    refine xj_inc1 (pc := 35) d_RW_addRange_35 rfl (by decide) rfl ?_
    dsimp only [xset, xset2, xkill]
    rw [n_up]
    refine xj_goto (pc := 38) (tgt := 17) d_RW_addRange_38 (by decide) ?_
    have e1 : max E.toInt.toNat q = max E.toInt.toNat (q + 1) := by omega
    rw [e1]
    refine ih (q + 1) I2 F2 (by omega) (by omega) (by omega) ?_
    have h3 := hR.tr h2
    rw [tk_app, List.append_assoc, hL2'.2.2 q _ hget, ← sl_succ hget hs] at h3
    exact h3
theorem s_RW_addRange {k : Nat} {L2 : List Int32} {a1 a2 : Int32} (hj : j < 12) (hk : k < 12) (hne : k ≠ j) (hL : Rl I F j L) (hL2 : Rl I F k L2) : XM m_RW_addRange [.ref j, .ref k, .int a1, .int a2] I F (fun rv I1 F1 => rv = none ∧ Rs j ((L ++ (L2.take a2.toInt.toNat).drop a1.toInt.toNat).take (xcap j)) I F I1 F1) := by
  refine XM.of (by decide) (Nat.le_of_ble_eq_true rfl) ?_
  dsimp only [xargs]
  have hll := hL2.lt
  have h240 := hL2.ti
  have := n_hi a1
  refine xj_iload_n (pc := 0) d_RW_addRange_0 rfl rfl ?_
  refine xj_aload_n (pc := 1) d_RW_addRange_1 rfl rfl ?_
  refine xj_rlen (pc := 2) d_RW_addRange_2 fl_RW_21 (by omega) ?_
  refine xj_mmin (pc := 5) d_RW_addRange_5 ml_RW_29 (by decide) (Nat.le_of_ble_eq_true rfl) ?_
  refine xj_istore (pc := 8) d_RW_addRange_8 (by decide) rfl ?_
  dsimp only [xset, xset2, xkill]
  refine xj_iload_n (pc := 10) d_RW_addRange_10 rfl rfl ?_
  refine xj_iconst (pc := 11) (v := 0) d_RW_addRange_11 (by decide) ?_
  refine xj_mmax (pc := 12) d_RW_addRange_12 ml_RW_9 (by decide) (Nat.le_of_ble_eq_true rfl) ?_
  refine xj_istore (pc := 15) d_RW_addRange_15 (by decide) rfl ?_
  dsimp only [xset, xset2, xkill]
  rw [n_mx0]
  exact s_RW_addRange_l (s := a1.toInt.toNat) (L := L) hj hk hne hL2 (n_mnL _ hL2.ti) _ a1.toInt.toNat I F rfl (by omega) (Nat.le_refl _) (Rs.rf (by rw [List.drop_take_self, List.append_nil, List.take_of_length_le hL.2.1]; exact hL)) |> xj_post (fun rv I2 F2 h => ⟨h.1, by rw [sl_fin hL2.ti]; exact h.2⟩)
theorem s_RW_addRow {k : Nat} {L2 : List Int32} (hj : j < 12) (hk : k < 12) (hne : k ≠ j) (hL : Rl I F j L) (hL2 : Rl I F k L2) : XM m_RW_addRow [.ref j, .ref k] I F (fun rv I1 F1 => rv = none ∧ Rs j ((L ++ L2).take (xcap j)) I F I1 F1) := by
  refine XM.of (by decide) (Nat.le_of_ble_eq_true rfl) ?_
  dsimp only [xargs]
  have h240 := hL2.ti
  refine xj_aload_n (pc := 0) d_RW_addRow_0 rfl rfl ?_
  refine xj_aload_n (pc := 1) d_RW_addRow_1 rfl rfl ?_
  refine xj_iconst (pc := 2) (v := 0) d_RW_addRow_2 (by decide) ?_
  refine xj_aload_n (pc := 3) d_RW_addRow_3 rfl rfl ?_
  refine xj_rlen (pc := 4) d_RW_addRow_4 fl_RW_21 (by omega) ?_
  refine xj_callV (pc := 7) d_RW_addRow_7 ml_RW_32 ok_RW_addRange (s_RW_addRange hj hk hne hL hL2) rfl rfl (xsh_row (by omega)) rfl rfl (Nat.le_of_ble_eq_true rfl) (by decide) ?_
  rintro rv I1 F1 ⟨rfl, h⟩
  dsimp only [Option.toList, List.cons_append, List.nil_append]
  refine xj_vret (pc := 10) d_RW_addRow_10 rfl ?_
  refine ⟨rfl, ?_⟩
  rw [h240, n_0, show ((L2.length : Int)).toNat = L2.length from rfl, List.take_length, show (0 : Int).toNat = 0 from rfl, List.drop_zero] at h
  exact h
theorem Rl.nil {I : XI} {F : XF} {j : Nat} (h : I j = 0) : Rl I F j [] := ⟨by rw [h]; rfl, Nat.zero_le _, fun i b hb => by simp at hb⟩
theorem Rs.zero {I : XI} {F : XF} {j : Nat} : Rs j [] I F (upd I j 0) F := ⟨fun x hx => by simp [upd, hx], fun _ _ => rfl, Rl.nil (by simp [upd])⟩
theorem s_RW_become {k : Nat} {L2 : List Int32} (hj : j < 12) (hk : k < 12) (hne : k ≠ j) (hL2 : Rl I F k L2) (hc : L2.length ≤ xcap j) : XM m_RW_become [.ref j, .ref k] I F (fun rv I1 F1 => rv = none ∧ Rs j L2 I F I1 F1) := by
  refine XM.of (by decide) (Nat.le_of_ble_eq_true rfl) ?_
  dsimp only [xargs]
  have hz : Rs j [] I F (upd I j 0) F := Rs.zero
  refine xj_aload_n (pc := 0) d_RW_become_0 rfl rfl ?_
  refine xj_iconst (pc := 1) (v := 0) d_RW_become_1 (by decide) ?_
  refine xj_rput (pc := 2) d_RW_become_2 fl_RW_21 (by omega) ?_
  refine xj_aload_n (pc := 5) d_RW_become_5 rfl rfl ?_
  refine xj_aload_n (pc := 6) d_RW_become_6 rfl rfl ?_
  refine xj_callV (pc := 7) d_RW_become_7 ml_RW_36 ok_RW_addRow (s_RW_addRow hj hk hne hz.2.2 (hz.kp hne hL2)) rfl rfl (xsh_row (by omega)) rfl rfl (Nat.le_of_ble_eq_true rfl) (by decide) ?_
  rintro rv I1 F1 ⟨rfl, h⟩
  dsimp only [Option.toList, List.cons_append, List.nil_append]
  refine xj_vret (pc := 10) d_RW_become_10 rfl ?_
  refine ⟨rfl, ?_⟩
  rw [List.nil_append, List.take_of_length_le hc] at h
  exact hz.tr h
theorem sh_in {n : Int32} (hL : Rl I F j L) (hn : 0 ≤ n.toInt) (h9 : n.toInt < (I j).toInt) : Rs j (L.take n.toInt.toNat) I F (upd I j n) F := by
  have h240 := hL.ti
  refine ⟨fun x hx => by simp [upd, hx], fun _ _ => rfl, ?_, ?_, fun i b hb => ?_⟩
  · simp only [upd, if_pos]
    exact n_of (by rw [List.length_take]; omega)
  · rw [List.length_take]; have := hL.2.1; omega
  · rw [List.getElem?_take] at hb
    split at hb
    · exact hL.2.2 i b hb
    · cases hb
theorem s_RW_shortenTo {n : Int32} (hj : j < 12) (hL : Rl I F j L) (hn : 0 ≤ n.toInt) : XM m_RW_shortenTo [.ref j, .int n] I F (fun rv I1 F1 => rv = none ∧ Rs j (L.take n.toInt.toNat) I F I1 F1) := by
  refine XM.of (by decide) (Nat.le_of_ble_eq_true rfl) ?_
  dsimp only [xargs]
  have h240 := hL.ti
  refine xj_iload_n (pc := 0) d_RW_shortenTo_0 rfl rfl ?_
  refine xj_if_lt (pc := 1) (tgt := 17) d_RW_shortenTo_1 (by decide) (fun h1 => absurd h1 (by rw [n_lt, n_0]; omega)) (fun h1 => ?_)
  refine xj_iload_n (pc := 4) d_RW_shortenTo_4 rfl rfl ?_
  refine xj_aload_n (pc := 5) d_RW_shortenTo_5 rfl rfl ?_
  refine xj_rlen (pc := 6) d_RW_shortenTo_6 fl_RW_21 (by omega) ?_
  refine xj_icmp_ge (pc := 9) (tgt := 17) d_RW_shortenTo_9 (by decide) (fun h9 => ?_) (fun h9 => ?_)
  · refine xj_vret (pc := 17) d_RW_shortenTo_17 rfl ?_
    refine ⟨rfl, ?_⟩
    rw [n_le] at h9
    first | (rw [List.take_of_length_le (by omega)]; exact Rs.rf hL; done) | exact sh_in hL hn (by omega)
  · refine xj_aload_n (pc := 12) d_RW_shortenTo_12 rfl rfl ?_
    refine xj_iload_n (pc := 13) d_RW_shortenTo_13 rfl rfl ?_
    refine xj_rput (pc := 14) d_RW_shortenTo_14 fl_RW_21 (by omega) ?_
    refine xj_vret (pc := 17) d_RW_shortenTo_17 rfl ?_
    refine ⟨rfl, ?_⟩
    rw [n_le] at h9
    first | (rw [List.take_of_length_le (by omega)]; exact Rs.rf hL; done) | exact sh_in hL hn (by omega)
theorem s_RW_lengthenTo {n b : Int32} (hj : j < 12) (hL : Rl I F j L) (hn : -1000 ≤ n.toInt) : XM m_RW_lengthenTo [.ref j, .int n, .int b] I F (fun rv I1 F1 => rv = none ∧ Rs j ((L ++ List.replicate (n.toInt.toNat - L.length) b).take (xcap j)) I F I1 F1) := by
  refine XM.of (by decide) (Nat.le_of_ble_eq_true rfl) ?_
  dsimp only [xargs]
  have h240 := hL.ti
  have hll := hL.lt
  have := n_hi n
  refine xj_aload_n (pc := 0) d_RW_lengthenTo_0 rfl rfl ?_
  refine xj_iload_n (pc := 1) d_RW_lengthenTo_1 rfl rfl ?_
  refine xj_iload_n (pc := 2) d_RW_lengthenTo_2 rfl rfl ?_
  refine xj_aload_n (pc := 3) d_RW_lengthenTo_3 rfl rfl ?_
  refine xj_rlen (pc := 4) d_RW_lengthenTo_4 fl_RW_21 (by omega) ?_
  refine xj_isub (pc := 7) d_RW_lengthenTo_7 ?_
  refine xj_callV (pc := 8) d_RW_lengthenTo_8 ml_RW_40 ok_RW_addTimes (s_RW_addTimes hj hL) rfl rfl (xsh_row (by omega)) rfl rfl (Nat.le_of_ble_eq_true rfl) (by decide) ?_
  rintro rv I1 F1 ⟨rfl, h⟩
  dsimp only [Option.toList, List.cons_append, List.nil_append]
  refine xj_vret (pc := 11) d_RW_lengthenTo_11 rfl ?_
  refine ⟨rfl, ?_⟩
  rw [n_cl, n_sub (by omega) (by omega), h240, show (n.toInt - (L.length : Int)).toNat = n.toInt.toNat - L.length by omega] at h
  exact h
/-- whether n bytes of L at p are those of L2 at s -/
def rng (L : List Int32) (p : Nat) (L2 : List Int32) (s n : Nat) : Bool := decide (p + n ≤ L.length) && (List.range n).all (fun q => decide ((L[p + q]?).getD (-1) = (L2[s + q]?).getD (-1)))
def b01 (b : Bool) : Int32 := if b then 1 else 0
theorem b01_ne {b : Bool} (h : ¬ b01 b = 0) : b = true := by cases b; exact absurd rfl h; rfl
theorem b01_eq {b : Bool} (h : b01 b = 0) : b = false := by cases b; rfl; exact absurd h (by decide)
theorem rng_t {L L2 : List Int32} {p s n : Nat} : rng L p L2 s n = true ↔ p + n ≤ L.length ∧ ∀ q, q < n → (L[p + q]?).getD (-1) = (L2[s + q]?).getD (-1) := by
  simp [rng, List.all_eq_true]
theorem s_RW_hasRangeAt_l {k p s nn : Nat} {L2 : List Int32} (hj : j < 12) (hk : k < 12) (hL : Rl I F j L) (hL2 : Rl I F k L2) (hp : p + nn ≤ L.length) (hs : s + nn < 100000) : ∀ (n q : Nat), q + n = nn → (∀ i, i < q → (L[p + i]?).getD (-1) = (L2[s + i]?).getD (-1)) →
    XJ none m_RW_hasRangeAt 20 [some (.ref j), some (.int (nI p)), some (.ref k), some (.int (nI s)), some (.int (nI nn)), some (.int (nI q))] [] I F (xpi (b01 (rng L p L2 s nn)) I F) := by
  have hll := hL.lt
  intro n
  induction n with
  | zero =>
    intro q hq hi
    refine xj_iload (pc := 20) d_RW_hasRangeAt_20 rfl ?_
    refine xj_iload (pc := 22) d_RW_hasRangeAt_22 rfl ?_
    refine xj_icmp_ge (pc := 24) (tgt := 56) d_RW_hasRangeAt_24 (by decide) (fun h24 => ?_) (fun h24 => absurd (by rw [n_le, n_nI (by omega), n_nI (by omega)]; omega) h24)
    refine xj_iconst (pc := 56) (v := 1) d_RW_hasRangeAt_56 (by decide) ?_
    refine xj_zret (pc := 57) d_RW_hasRangeAt_57 rfl (by first | exact Or.inl rfl | exact Or.inr rfl | assumption | omega) ?_
    refine ⟨?_, rfl, rfl⟩
    rw [b01, if_pos (rng_t.mpr ⟨hp, fun i h => hi i (by omega)⟩)]
  | succ n ih =>
    intro q hq hi
    refine xj_iload (pc := 20) d_RW_hasRangeAt_20 rfl ?_
    refine xj_iload (pc := 22) d_RW_hasRangeAt_22 rfl ?_
    refine xj_icmp_ge (pc := 24) (tgt := 56) d_RW_hasRangeAt_24 (by decide) (fun h24 => absurd h24 (by rw [n_le, n_nI (by omega), n_nI (by omega)]; omega)) (fun h24 => ?_)
    refine xj_aload_n (pc := 27) d_RW_hasRangeAt_27 rfl rfl ?_
    refine xj_iload_n (pc := 28) d_RW_hasRangeAt_28 rfl rfl ?_
    refine xj_iload (pc := 29) d_RW_hasRangeAt_29 rfl ?_
    refine xj_iadd (pc := 31) d_RW_hasRangeAt_31 ?_
    refine xj_iconst (pc := 32) (v := -1) d_RW_hasRangeAt_32 (by decide) ?_
    refine xj_callV (pc := 33) d_RW_hasRangeAt_33 ml_RW_48 ok_RW_byteOr (s_RW_byteOr hj hL) rfl rfl (xsh_row (by omega)) rfl rfl (Nat.le_of_ble_eq_true rfl) (by decide) ?_
    rintro rv I1 F1 ⟨rfl, rfl, rfl⟩
    dsimp only [Option.toList, List.cons_append, List.nil_append]
    refine xj_aload_n (pc := 36) d_RW_hasRangeAt_36 rfl rfl ?_
    refine xj_iload_n (pc := 37) d_RW_hasRangeAt_37 rfl rfl ?_
    refine xj_iload (pc := 38) d_RW_hasRangeAt_38 rfl ?_
    refine xj_iadd (pc := 40) d_RW_hasRangeAt_40 ?_
    refine xj_iconst (pc := 41) (v := -1) d_RW_hasRangeAt_41 (by decide) ?_
    refine xj_callV (pc := 42) d_RW_hasRangeAt_42 ml_RW_48 ok_RW_byteOr (s_RW_byteOr hk hL2) rfl rfl (xsh_row (by omega)) rfl rfl (Nat.le_of_ble_eq_true rfl) (by decide) ?_
    rintro rv I1 F1 ⟨rfl, rfl, rfl⟩
    dsimp only [Option.toList, List.cons_append, List.nil_append]
    rw [n_addN, n_addN, rg_n (by omega), rg_n (by omega)]
    refine xj_icmp_eq (pc := 45) (tgt := 50) d_RW_hasRangeAt_45 (by decide) (fun h45 => ?_) (fun h45 => ?_)
    · refine xj_inc1 (pc := 50) d_RW_hasRangeAt_50 rfl (by decide) rfl ?_
      dsimp only [xset, xset2, xkill]
      rw [n_up]
      refine xj_goto (pc := 53) (tgt := 20) d_RW_hasRangeAt_53 (by decide) ?_
      exact ih (q + 1) (by omega) (fun i hi2 => by rcases Nat.lt_or_ge i q with h | h; exact hi i h; rw [show i = q by omega]; exact h45)
    · refine xj_iconst (pc := 48) (v := 0) d_RW_hasRangeAt_48 (by decide) ?_
      refine xj_zret (pc := 49) d_RW_hasRangeAt_49 rfl (by first | exact Or.inl rfl | exact Or.inr rfl | assumption | omega) ?_
      refine ⟨?_, rfl, rfl⟩
      rw [b01, if_neg (fun h => h45 ((rng_t.mp h).2 q (by omega)))]
theorem s_RW_hasRangeAt {k p s nn : Nat} {L2 : List Int32} (hj : j < 12) (hk : k < 12) (hL : Rl I F j L) (hL2 : Rl I F k L2) (hp : p < 100000) (hs : s < 50000) (hn : nn < 50000) : XM m_RW_hasRangeAt [.ref j, .int (nI p), .ref k, .int (nI s), .int (nI nn)] I F (xpi (b01 (rng L p L2 s nn)) I F) := by
  refine XM.of (by decide) (Nat.le_of_ble_eq_true rfl) ?_
  dsimp only [xargs]
  have h240 := hL.ti
  have hll := hL.lt
  refine xj_iload_n (pc := 0) d_RW_hasRangeAt_0 rfl rfl ?_
  refine xj_if_lt (pc := 1) (tgt := 15) d_RW_hasRangeAt_1 (by decide) (fun h1 => absurd h1 (by rw [n_lt, n_0, n_nI (by omega)]; omega)) (fun h1 => ?_)
  refine xj_iload (pc := 4) d_RW_hasRangeAt_4 rfl ?_
  refine xj_aload_n (pc := 6) d_RW_hasRangeAt_6 rfl rfl ?_
  refine xj_rlen (pc := 7) d_RW_hasRangeAt_7 fl_RW_21 (by omega) ?_
  refine xj_iload_n (pc := 10) d_RW_hasRangeAt_10 rfl rfl ?_
  refine xj_isub (pc := 11) d_RW_hasRangeAt_11 ?_
  have e1 : (I j - nI p).toInt = (L.length : Int) - p := by rw [n_sub (by rw [h240, n_nI (by omega)]; omega) (by rw [h240, n_nI (by omega)]; omega), h240, n_nI (by omega)]
  refine xj_icmp_le (pc := 12) (tgt := 17) d_RW_hasRangeAt_12 (by decide) (fun h12 => ?_) (fun h12 => ?_)
  · refine xj_iconst (pc := 17) (v := 0) d_RW_hasRangeAt_17 (by decide) ?_
    refine xj_istore (pc := 18) d_RW_hasRangeAt_18 (by decide) rfl ?_
    dsimp only [xset, xset2, xkill]
    rw [n_le, e1, n_nI (by omega)] at h12
    exact s_RW_hasRangeAt_l hj hk hL hL2 (by omega) (by omega) nn 0 (by omega) (fun i h => absurd h (by omega))
  · refine xj_iconst (pc := 15) (v := 0) d_RW_hasRangeAt_15 (by decide) ?_
    refine xj_zret (pc := 16) d_RW_hasRangeAt_16 rfl (by first | exact Or.inl rfl | exact Or.inr rfl | assumption | omega) ?_
    refine ⟨?_, rfl, rfl⟩
    rw [n_le, e1, n_nI (by omega)] at h12
    rw [b01, if_neg (fun h => by have := (rng_t.mp h).1; omega)]
theorem s_RW_hasAt {k p : Nat} {L2 : List Int32} (hj : j < 12) (hk : k < 12) (hL : Rl I F j L) (hL2 : Rl I F k L2) (hp : p < 100000) : XM m_RW_hasAt [.ref j, .int (nI p), .ref k] I F (xpi (b01 (decide (0 < L2.length) && rng L p L2 0 L2.length)) I F) := by
  refine XM.of (by decide) (Nat.le_of_ble_eq_true rfl) ?_
  dsimp only [xargs]
  have h240 := hL2.ti
  have hll := hL2.lt
  refine xj_aload_n (pc := 0) d_RW_hasAt_0 rfl rfl ?_
  refine xj_rlen (pc := 1) d_RW_hasAt_1 fl_RW_21 (by omega) ?_
  refine xj_if_le (pc := 4) (tgt := 25) d_RW_hasAt_4 (by decide) (fun h4 => ?_) (fun h4 => ?_)
  · refine xj_iconst (pc := 25) (v := 0) d_RW_hasAt_25 (by decide) ?_
    refine xj_zret (pc := 26) d_RW_hasAt_26 rfl (by first | exact Or.inl rfl | exact Or.inr rfl | assumption | omega) ?_
    refine ⟨?_, rfl, rfl⟩
    rw [n_le, n_0] at h4
    first | (rw [decide_eq_false (show ¬ 0 < L2.length by omega)]; rfl; done) | (rw [decide_eq_true (show 0 < L2.length by omega), Bool.true_and]; first | (rw [h18]; done) | (rw [b01_ne h18]; rfl))
  · refine xj_aload_n (pc := 7) d_RW_hasAt_7 rfl rfl ?_
    refine xj_iload_n (pc := 8) d_RW_hasAt_8 rfl rfl ?_
    refine xj_aload_n (pc := 9) d_RW_hasAt_9 rfl rfl ?_
    refine xj_iconst (pc := 10) (v := 0) d_RW_hasAt_10 (by decide) ?_
    refine xj_aload_n (pc := 11) d_RW_hasAt_11 rfl rfl ?_
    refine xj_rlen (pc := 12) d_RW_hasAt_12 fl_RW_21 (by omega) ?_
    rw [hL2.1]
    refine xj_callV (pc := 15) d_RW_hasAt_15 ml_RW_44 ok_RW_hasRangeAt (s_RW_hasRangeAt (s := 0) hj hk hL hL2 hp (by omega) (by omega)) rfl rfl (xsh_row (by omega)) rfl rfl (Nat.le_of_ble_eq_true rfl) (by decide) ?_
    rintro rv I1 F1 ⟨rfl, rfl, rfl⟩
    dsimp only [Option.toList, List.cons_append, List.nil_append]
    refine xj_if_eq (pc := 18) (tgt := 25) d_RW_hasAt_18 (by decide) (fun h18 => ?_) (fun h18 => ?_)
    · refine xj_iconst (pc := 25) (v := 0) d_RW_hasAt_25 (by decide) ?_
      refine xj_zret (pc := 26) d_RW_hasAt_26 rfl (by first | exact Or.inl rfl | exact Or.inr rfl | assumption | omega) ?_
      refine ⟨?_, rfl, rfl⟩
      rw [n_le, n_0] at h4
      first | (rw [decide_eq_false (show ¬ 0 < L2.length by omega)]; rfl; done) | (rw [decide_eq_true (show 0 < L2.length by omega), Bool.true_and]; first | (rw [h18]; done) | (rw [b01_ne h18]; rfl))
    · refine xj_iconst (pc := 21) (v := 1) d_RW_hasAt_21 (by decide) ?_
      refine xj_goto (pc := 22) (tgt := 26) d_RW_hasAt_22 (by decide) ?_
      refine xj_zret (pc := 26) d_RW_hasAt_26 rfl (by first | exact Or.inl rfl | exact Or.inr rfl | assumption | omega) ?_
      refine ⟨?_, rfl, rfl⟩
      rw [n_le, n_0] at h4
      first | (rw [decide_eq_false (show ¬ 0 < L2.length by omega)]; rfl; done) | (rw [decide_eq_true (show 0 < L2.length by omega), Bool.true_and]; first | (rw [h18]; done) | (rw [b01_ne h18]; rfl))
theorem s_RW_aFB_it {v sh sh2 : Int32} {M : List Int32} {I1 : XI} {F1 : XF} {P : XP} (hj : j < 12) (hs : ¬ sh < 0) (e : sh + (-8) = sh2) (hR : Rs j M I F I1 F1)
    (kk : ∀ (I2 : XI) (F2 : XF), Rs j ((M ++ [(v >>> (sh &&& 31)) &&& 255]).take (xcap j)) I F I2 F2 → XJ none m_RW_addFourBytes 3 [some (.ref j), some (.int v), some (.int sh2)] [] I2 F2 P) :
    XJ none m_RW_addFourBytes 3 [some (.ref j), some (.int v), some (.int sh)] [] I1 F1 P := by
  refine xj_iload_n (pc := 3) d_RW_addFourBytes_3 rfl rfl ?_
  refine xj_if_lt (pc := 4) (tgt := 24) d_RW_addFourBytes_4 (by decide) (fun h4 => absurd h4 (hs)) (fun h4 => ?_)
  refine xj_aload_n (pc := 7) d_RW_addFourBytes_7 rfl rfl ?_
  refine xj_iload_n (pc := 8) d_RW_addFourBytes_8 rfl rfl ?_
  refine xj_iload_n (pc := 9) d_RW_addFourBytes_9 rfl rfl ?_
  refine xj_ishr (pc := 10) d_RW_addFourBytes_10 ?_
  refine xj_sipush (pc := 11) (v := 255) d_RW_addFourBytes_11 (by decide) ?_
  refine xj_iand (pc := 14) d_RW_addFourBytes_14 ?_
  refine xj_callV (pc := 15) d_RW_addFourBytes_15 ml_RW_25 ok_RW_add (s_RW_add hj hR.2.2) rfl rfl (xsh_row (by omega)) rfl rfl (Nat.le_of_ble_eq_true rfl) (by decide) ?_
  rintro rv I2 F2 ⟨rfl, h⟩
  dsimp only [Option.toList, List.cons_append, List.nil_append]
  refine xj_incm8 (pc := 18) d_RW_addFourBytes_18 rfl (by decide) rfl ?_
  dsimp only [xset, xset2, xkill]
  rw [e]
  refine xj_goto (pc := 21) (tgt := 3) d_RW_addFourBytes_21 (by decide) ?_
  exact kk I2 F2 (hR.tr h)
theorem s_RW_addFourBytes {v : Int32} (hj : j < 12) (hL : Rl I F j L) : XM m_RW_addFourBytes [.ref j, .int v] I F (fun rv I1 F1 => rv = none ∧ Rs j ((L ++ fb v).take (xcap j)) I F I1 F1) := by
  refine XM.of (by decide) (Nat.le_of_ble_eq_true rfl) ?_
  dsimp only [xargs]
  refine xj_bipush (pc := 0) (v := 24) d_RW_addFourBytes_0 (by decide) ?_
  refine xj_istore_n (pc := 2) d_RW_addFourBytes_2 rfl (by decide) rfl ?_
  dsimp only [xset, xset2, xkill]
  refine s_RW_aFB_it hj (by decide) (show (24 : Int32) + (-8) = 16 by decide) (Rs.rf hL) (fun I1 F1 h1 => ?_)
  refine s_RW_aFB_it hj (by decide) (show (16 : Int32) + (-8) = 8 by decide) h1 (fun I2 F2 h2 => ?_)
  rw [tk_app] at h2
  refine s_RW_aFB_it hj (by decide) (show (8 : Int32) + (-8) = 0 by decide) h2 (fun I3 F3 h3 => ?_)
  rw [tk_app] at h3
  refine s_RW_aFB_it hj (by decide) (show (0 : Int32) + (-8) = -8 by decide) h3 (fun I4 F4 g4 => ?_)
  refine xj_iload_n (pc := 3) d_RW_addFourBytes_3 rfl rfl ?_
  refine xj_if_lt (pc := 4) (tgt := 24) d_RW_addFourBytes_4 (by decide) (fun h4 => ?_) (fun h4 => absurd (by decide) h4)
  refine xj_vret (pc := 24) d_RW_addFourBytes_24 rfl ?_
  refine ⟨rfl, ?_⟩
  rw [tk_app, List.append_assoc, List.append_assoc, List.append_assoc] at g4
  exact g4
end ROW
