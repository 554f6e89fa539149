section ORDP
variable {L X Y Z : List Int32}
/-! the order of words -/
def wlt : List Int32 → List Int32 → Bool
  | [], [] => false
  | [], _ :: _ => true
  | _ :: _, [] => false
  | x :: X, y :: Y => if x = y then wlt X Y else decide (x < y)
theorem wlt_irr : ∀ (X : List Int32), wlt X X = false
  | [] => rfl
  | x :: X => by rw [wlt, if_pos rfl]; exact wlt_irr X
theorem wlt_tr : ∀ (X Y Z : List Int32), wlt X Y = true → wlt Y Z = true → wlt X Z = true
  | [], [], _, h, _ => by simp [wlt] at h
  | [], _ :: _, [], _, h => by simp [wlt] at h
  | [], _ :: _, _ :: _, _, _ => rfl
  | _ :: _, [], _, h, _ => by simp [wlt] at h
  | _ :: _, _ :: _, [], _, h => by simp [wlt] at h
  | x :: X, y :: Y, z :: Z, h, h2 => by
    rw [wlt] at h h2 ⊢
    by_cases e : x = y
    · subst e
      rw [if_pos rfl] at h
      by_cases e2 : x = z
      · rw [if_pos e2] at h2 ⊢; exact wlt_tr X Y Z h h2
      · rw [if_neg e2] at h2 ⊢; exact h2
    · rw [if_neg e, decide_eq_true_eq, n_lt] at h
      by_cases e2 : y = z
      · subst e2
        rw [if_neg e, decide_eq_true_eq, n_lt]; exact h
      · rw [if_neg e2, decide_eq_true_eq, n_lt] at h2
        rw [if_neg (by rw [n_eq]; omega), decide_eq_true_eq, n_lt]; omega
theorem wlt_tri : ∀ (X Y : List Int32), wlt X Y = false → wlt Y X = false → X = Y
  | [], [], _, _ => rfl
  | [], _ :: _, h, _ => by simp [wlt] at h
  | _ :: _, [], _, h => by simp [wlt] at h
  | x :: X, y :: Y, h, h2 => by
    rw [wlt] at h h2
    by_cases e : x = y
    · subst e
      rw [if_pos rfl] at h h2
      rw [wlt_tri X Y h h2]
    · rw [if_neg e, decide_eq_false_iff_not, n_lt] at h
      rw [if_neg (fun q => e q.symm), decide_eq_false_iff_not, n_lt] at h2
      exact absurd (n_eq.mpr (by omega)) e
theorem wlt_pre : ∀ (t : Nat) (X Y : List Int32), t ≤ X.length → t ≤ Y.length → (∀ s, s < t → X[s]? = Y[s]?) → wlt X Y = wlt (X.drop t) (Y.drop t)
  | 0, _, _, _, _, _ => rfl
  | t + 1, [], _, h, _, _ => by simp at h
  | t + 1, _ :: _, [], _, h, _ => by simp at h
  | t + 1, x :: X, y :: Y, h1, h2, h => by
    have e : x = y := Option.some.inj (h 0 (by omega))
    rw [wlt, if_pos e, List.drop_succ_cons, List.drop_succ_cons]
    exact wlt_pre t X Y (by simpa using h1) (by simpa using h2) (fun s hs => by have := h (s + 1) (by omega); rw [List.getElem?_cons_succ, List.getElem?_cons_succ] at this; exact this)
def wl (L : List Int32) (i j : Nat) : Prop := wlt (wat L i) (wat L j) = true ∨ (wat L i = wat L j ∧ i < j)
def wlb (L : List Int32) (i j : Nat) : Bool := wlt (wat L i) (wat L j) || (decide (wat L i = wat L j) && decide (i < j))
theorem wlb_t {i j : Nat} : wlb L i j = true ↔ wl L i j := by simp [wlb, wl]
theorem wl_irr {i : Nat} : ¬ wl L i i := by
  rintro (h | h)
  · rw [wlt_irr] at h; exact absurd h (by decide)
  · omega
theorem wl_tr {i j k : Nat} (h : wl L i j) (h2 : wl L j k) : wl L i k := by
  rcases h with h | ⟨h, hi⟩
  · rcases h2 with h2 | ⟨h2, hj⟩
    · exact Or.inl (wlt_tr _ _ _ h h2)
    · exact Or.inl (h2 ▸ h)
  · rcases h2 with h2 | ⟨h2, hj⟩
    · exact Or.inl (h ▸ h2)
    · exact Or.inr ⟨h.trans h2, by omega⟩
def Srt (L : List Int32) (R : List Nat) (n : Nat) : Prop := R.Pairwise (wl L) ∧ R.Perm (List.range n)
theorem so_ins {R : List Nat} {i j : Nat} (h : Srt L R i) (hj : j ≤ R.length) (h1 : ∀ y ∈ R.drop j, wlt (wat L i) (wat L y) = true) (h2 : ∀ y, 0 < j → R[j - 1]? = some y → wlt (wat L i) (wat L y) = false) : Srt L (R.take j ++ i :: R.drop j) (i + 1) := by
  have hp : (R.take j ++ R.drop j).Pairwise (wl L) := by rw [List.take_append_drop]; exact h.1
  obtain ⟨p1, p2, p3⟩ := List.pairwise_append.mp hp
  refine ⟨List.pairwise_append.mpr ⟨p1, List.pairwise_cons.mpr ⟨fun b hb => Or.inl (h1 b hb), p2⟩, fun a ha b hb => ?_⟩, ?_⟩
  · rcases List.mem_cons.mp hb with rfl | hb
    · obtain ⟨p, hpa⟩ := List.mem_iff_getElem?.mp ha
      rw [List.getElem?_take] at hpa
      split at hpa
      · rename_i hpj
        have hy : R[j - 1]? = some R[j - 1] := List.getElem?_eq_getElem (by omega)
        have hm : R[j - 1] < b := List.mem_range.mp (h.2.subset (List.getElem_mem (by omega)))
        have hw := h2 _ (by omega) hy
        have hyi : wl L R[j - 1] b := by
          cases hc : wlt (wat L R[j - 1]) (wat L b) with
          | true => exact Or.inl hc
          | false => exact Or.inr ⟨wlt_tri _ _ hc hw, hm⟩
        rcases Nat.lt_or_ge p (j - 1) with z | z
        · have hz := List.pairwise_iff_getElem.mp h.1 p (j - 1) (by omega) (by omega) z
          rw [List.getElem?_eq_getElem (by omega)] at hpa
          rw [Option.some.inj hpa] at hz
          exact wl_tr hz hyi
        · rw [show p = j - 1 by omega, hy] at hpa
          rw [← Option.some.inj hpa]; exact hyi
      · simp at hpa
    · exact p3 a ha b hb
  · refine List.perm_middle.trans ?_
    rw [List.take_append_drop, List.range_succ]
    exact (List.Perm.cons i h.2).trans (List.perm_append_singleton i _).symm
theorem so_fd {R : List Nat} {P : Nat → Bool} : ∀ (n : Nat), n ≤ R.length → (∀ y ∈ R.drop n, P y = true) → ∃ j, j ≤ R.length ∧ (∀ y ∈ R.drop j, P y = true) ∧ ∀ y, 0 < j → R[j - 1]? = some y → P y = false
  | 0, h, h1 => ⟨0, h, h1, fun y hy _ => absurd hy (by decide)⟩
  | n + 1, h, h1 => by
    have hn : R[n]? = some R[n] := List.getElem?_eq_getElem (by omega)
    cases hp : P R[n] with
    | false => exact ⟨n + 1, h, h1, fun y _ hy => by rw [Nat.add_sub_cancel, hn] at hy; rw [← Option.some.inj hy]; exact hp⟩
    | true =>
      refine so_fd n (by omega) (fun y hy => ?_)
      rw [List.drop_eq_getElem_cons (by omega)] at hy
      rcases List.mem_cons.mp hy with rfl | hy
      · exact hp
      · exact h1 y hy
theorem so_ex (L : List Int32) : ∀ (i : Nat), ∃ R, Srt L R i
  | 0 => ⟨[], List.Pairwise.nil, List.Perm.refl _⟩
  | i + 1 => by
    obtain ⟨R, h⟩ := so_ex L i
    obtain ⟨j, h1, h2, h3⟩ := so_fd (R := R) (P := fun y => wlt (wat L i) (wat L y)) R.length (Nat.le_refl _) (fun y hy => by simp at hy)
    exact ⟨_, so_ins h h1 h2 h3⟩
/-- how many words stand ahead of word k; where word k goes; which word goes to place i -/
def ah (L : List Int32) (k : Nat) : Nat := (List.range (wst L).length).countP (fun j => wlb L j k)
def ps (L : List Int32) (how : Int32) (k : Nat) : Nat := if how = 0 then (wst L).length - 1 - k else ah L k
def rk (L : List Int32) (how : Int32) (i : Nat) : Nat := ((List.range (wst L).length).find? (fun k => ps L how k == i)).getD 0
def Rk (L : List Int32) (how : Int32) (R : List Nat) : Prop := R.Perm (List.range (wst L).length) ∧ ∀ q k, R[q]? = some k → ps L how k = q
theorem ah_at {R : List Nat} {q k : Nat} (h : Srt L R (wst L).length) (hq : R[q]? = some k) : ah L k = q := by
  obtain ⟨hl, e⟩ := List.getElem?_eq_some_iff.mp hq
  have hR : R = R.take q ++ k :: R.drop (q + 1) := by
    conv => lhs; rw [← List.take_append_drop q R, List.drop_eq_getElem_cons hl, e]
  have hp : (R.take q ++ k :: R.drop (q + 1)).Pairwise (wl L) := hR ▸ h.1
  obtain ⟨-, p2, p3⟩ := List.pairwise_append.mp hp
  have p4 := (List.pairwise_cons.mp p2).1
  rw [ah, ← h.2.countP_eq, hR, List.countP_append, List.countP_cons, List.countP_eq_length.mpr (fun a ha => wlb_t.mpr (p3 a ha k List.mem_cons_self)), List.countP_eq_zero.mpr (fun a ha z => wl_irr (wl_tr (p4 a ha) (wlb_t.mp z))), if_neg (fun z => wl_irr (wlb_t.mp z)), List.length_take]
  omega
theorem rk_srt {R : List Nat} {how : Int32} (hh : ¬ how = 0) (h : Srt L R (wst L).length) : Rk L how R := ⟨h.2, fun q k hq => by rw [ps, if_neg hh]; exact ah_at h hq⟩
theorem rk_rev {R : List Nat} (hl : R.length = (wst L).length) (h : ∀ q k, R[q]? = some k → k = (wst L).length - 1 - q) : Rk L 0 R := by
  have e : R = (List.range (wst L).length).reverse := by
    apply List.ext_getElem?
    intro q
    rcases Nat.lt_or_ge q R.length with z | z
    · have hz : R[q]? = some R[q] := List.getElem?_eq_getElem z
      rw [List.getElem?_reverse (by rw [List.length_range]; omega), List.length_range, List.getElem?_range (by omega), hz, h q _ hz]
    · rw [List.getElem?_eq_none z, List.getElem?_eq_none (by rw [List.length_reverse, List.length_range]; omega)]
  refine ⟨by rw [e]; exact List.reverse_perm _, fun q k hq => ?_⟩
  have := (List.getElem?_eq_some_iff.mp hq).1
  rw [ps, if_pos rfl, h q k hq]; omega
theorem rk_ex (L : List Int32) (how : Int32) : ∃ R, Rk L how R := by
  by_cases h : how = 0
  · subst h
    refine ⟨(List.range (wst L).length).map (fun q => (wst L).length - 1 - q), rk_rev (by simp) (fun q k hq => ?_)⟩
    rw [List.getElem?_map] at hq
    rcases Nat.lt_or_ge q (wst L).length with z | z
    · rw [List.getElem?_range z] at hq; exact (Option.some.inj hq).symm
    · rw [List.getElem?_eq_none (by rw [List.length_range]; exact z)] at hq; simp at hq
  · obtain ⟨R, hR⟩ := so_ex L (wst L).length
    exact ⟨R, rk_srt h hR⟩
theorem Rk.len {R : List Nat} {how : Int32} (h : Rk L how R) : R.length = (wst L).length := by rw [h.1.length_eq, List.length_range]
theorem rk_at {R : List Nat} {how : Int32} {q k : Nat} (h : Rk L how R) (hq : R[q]? = some k) : rk L how q = k := by
  have hk : k ∈ List.range (wst L).length := h.1.subset (List.mem_of_getElem? hq)
  rw [rk]
  cases hf : (List.range (wst L).length).find? (fun k => ps L how k == q) with
  | none => exact absurd (beq_iff_eq.mpr (h.2 q k hq)) (List.find?_eq_none.mp hf k hk)
  | some k2 =>
    have h1 := List.find?_some hf
    have h2 : k2 ∈ R := h.1.symm.subset (List.mem_of_find?_eq_some hf)
    obtain ⟨p, hp⟩ := List.mem_iff_getElem?.mp h2
    have h3 := h.2 p k2 hp
    rw [beq_iff_eq] at h1
    rw [show p = q by omega, hq] at hp
    exact (Option.some.inj hp).symm
theorem ps_rk {how : Int32} {i : Nat} (hi : i < (wst L).length) : ps L how (rk L how i) = i ∧ rk L how i < (wst L).length := by
  obtain ⟨R, h⟩ := rk_ex L how
  have hll : i < R.length := by rw [h.len]; exact hi
  have hz : R[i]? = some R[i] := List.getElem?_eq_getElem hll
  rw [rk_at h hz]
  exact ⟨h.2 i _ hz, List.mem_range.mp (h.1.subset (List.mem_of_getElem? hz))⟩
theorem ps_k {how : Int32} {k : Nat} (hk : k < (wst L).length) : ps L how k < (wst L).length ∧ rk L how (ps L how k) = k := by
  obtain ⟨R, h⟩ := rk_ex L how
  obtain ⟨p, hp⟩ := List.mem_iff_getElem?.mp (h.1.symm.subset (List.mem_range.mpr hk))
  rw [h.2 p k hp]
  exact ⟨by have := (List.getElem?_eq_some_iff.mp hp).1; rw [h.len] at this; exact this, rk_at h hp⟩
theorem ps_inj {how : Int32} {j k : Nat} (hj : j < (wst L).length) (hk : k < (wst L).length) (h : ps L how j = ps L how k) : j = k := by
  rw [← (ps_k (how := how) hj).2, ← (ps_k (how := how) hk).2, h]
/-! what is made -/
def dn (L : List Int32) (i : Nat) : Nat := if i = 0 then 0 else wsp L (i - 1)
def mrk (L : List Int32) (r : Nat → Nat) (i : Nat) : List Int32 := (List.range i).flatMap (fun j => (L.take (wbg L j)).drop (dn L j) ++ wat L (r j))
def m_rank (L : List Int32) (how : Int32) : List Int32 := mrk L (rk L how) (wst L).length ++ L.drop (dn L (wst L).length)
def sp_order (S : XSt) (a how to : Int32) : Int32 × XSt := if isR a && isR to && decide (0 ≤ how.toInt ∧ how.toInt ≤ 1) then sMk S to (m_rank (sR S a) how) else (-1, S)
theorem mrk_succ (L : List Int32) (r : Nat → Nat) (i : Nat) : mrk L r (i + 1) = mrk L r i ++ ((L.take (wbg L i)).drop (dn L i) ++ wat L (r i)) := by
  rw [mrk, List.range_succ, List.flatMap_append]; simp [mrk]
theorem tw_mem {p : Int32 → Bool} {b : Int32} : ∀ {X : List Int32}, b ∈ X.takeWhile p → p b = true
  | [], h => by simp at h
  | x :: X, h => by
    rw [List.takeWhile_cons] at h
    split at h
    · rename_i hx
      rcases List.mem_cons.mp h with rfl | h
      · exact hx
      · exact tw_mem h
    · simp at h
theorem dn_le (L : List Int32) (i : Nat) : dn L i ≤ L.length := by
  rw [dn]; split
  · exact Nat.zero_le _
  · exact wsp_le L _
theorem dn_bg {i : Nat} (h : i < (wst L).length) : dn L i ≤ wbg L i := by
  rw [dn]
  split
  · exact Nat.zero_le _
  · rename_i h0
    have e1 : wbg L (i - 1) = (wst L)[i - 1] := by rw [wbg, List.getD_eq_getElem?_getD, List.getElem?_eq_getElem (by omega)]; rfl
    have e2 : wbg L i = (wst L)[i] := by rw [wbg, List.getD_eq_getElem?_getD, List.getElem?_eq_getElem (by omega)]; rfl
    have hlt : wbg L (i - 1) < wbg L i := by rw [e1, e2]; exact List.pairwise_iff_getElem.mp (wsi_sorted L L.length) (i - 1) i _ _ (by omega)
    have hb : wb L (wbg L i) = true := by rw [e2]; exact (wsi_mem (L := L) (i := L.length) (List.getElem_mem (l := wst L) h)).2
    simp only [wb, Bool.and_eq_true, Bool.or_eq_true, decide_eq_true_eq, beq_iff_eq] at hb
    have hb2 : L.getD (wbg L i - 1) 32 = 32 := hb.2.resolve_left (by omega)
    rcases Nat.lt_or_ge (wbg L i) (wsp L (i - 1)) with z | z
    · exfalso
      have hle := wbg_le L i
      have hl := wat_len L (i - 1)
      have ht : wbg L i - 1 - wbg L (i - 1) < (wat L (i - 1)).length := by omega
      have hg := wat_get L (i - 1) ht
      rw [show wbg L (i - 1) + (wbg L i - 1 - wbg L (i - 1)) = wbg L i - 1 by omega, List.getElem?_eq_getElem ht] at hg
      rw [List.getD_eq_getElem?_getD, ← hg, Option.getD_some] at hb2
      have hm := List.getElem_mem ht
      rw [hb2] at hm
      have := tw_mem (show (32 : Int32) ∈ (L.drop ((wst L).getD (i - 1) L.length)).takeWhile (fun b => decide (b ≠ 32)) from hm)
      simp at this
    · exact z
theorem sum_perm {f : Nat → Nat} {R R2 : List Nat} (h : R.Perm R2) : (R.map f).sum = (R2.map f).sum := by
  induction h with
  | nil => rfl
  | cons x _ ih => simp [ih]
  | swap x y l => simp; omega
  | trans _ _ h1 h2 => exact h1.trans h2
def rsum (L : List Int32) (r : Nat → Nat) (i : Nat) : Nat := ((List.range i).map (fun j => (wat L (r j)).length)).sum
theorem rsum_succ (L : List Int32) (r : Nat → Nat) (i : Nat) : rsum L r (i + 1) = rsum L r i + (wat L (r i)).length := by
  rw [rsum, List.range_succ]; simp [rsum]
theorem mrk_len (r : Nat → Nat) : ∀ (i : Nat), i ≤ (wst L).length → (mrk L r i).length + wsum L i = dn L i + rsum L r i
  | 0, _ => by simp [mrk, wsum, dn, rsum]
  | i + 1, h => by
    have h1 := mrk_len r i (by omega)
    have h2 := dn_bg (L := L) (i := i) (by omega)
    have h3 := wat_len L i
    have h4 := wbg_sp L i
    have h5 := wbg_le L i
    have e : wsum L (i + 1) = wsum L i + (wat L i).length := rfl
    have e2 : dn L (i + 1) = wsp L i := by rw [dn, if_neg (by omega), Nat.add_sub_cancel]
    rw [mrk_succ, List.length_append, List.length_append, List.length_drop, List.length_take, rsum_succ, e, e2]
    omega
theorem rsum_id (L : List Int32) : ∀ i, rsum L id i = wsum L i
  | 0 => rfl
  | i + 1 => by rw [rsum_succ, rsum_id L i]; rfl
theorem rank_len (L : List Int32) (how : Int32) : (m_rank L how).length = L.length := by
  obtain ⟨R, h⟩ := rk_ex L how
  have e : (List.range (wst L).length).map (rk L how) = R := by
    apply List.ext_getElem?
    intro q
    rw [List.getElem?_map]
    rcases Nat.lt_or_ge q (wst L).length with z | z
    · have hll : q < R.length := by rw [h.len]; exact z
      have hz : R[q]? = some R[q] := List.getElem?_eq_getElem hll
      rw [List.getElem?_range z, hz, Option.map_some, rk_at h hz]
    · rw [List.getElem?_eq_none (by rw [List.length_range]; exact z), List.getElem?_eq_none (by rw [h.len]; exact z)]; rfl
  have hs : rsum L (rk L how) (wst L).length = wsum L (wst L).length := by
    rw [← rsum_id, rsum, rsum]
    have := sum_perm (f := fun j => (wat L j).length) h.1
    rw [← e, List.map_map] at this
    exact this
  have h1 := mrk_len (L := L) (rk L how) (wst L).length (Nat.le_refl _)
  have h2 := dn_le L (wst L).length
  rw [m_rank, List.length_append, List.length_drop]; omega
end ORDP
