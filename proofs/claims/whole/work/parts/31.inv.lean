/-! the class's state and what a call of it says -/
def bt (b : Int32) : Prop := 0 ≤ b.toInt ∧ b.toInt < 256
def OKS (S : XSt) : Prop := (∀ b ∈ S.1, bt b) ∧ (∀ r, r < 10 → (S.2.1 r).length ≤ 200 ∧ ∀ b ∈ S.2.1 r, bt b) ∧ bt S.2.2
def CI (I : XI) (F : XF) (S : XSt) : Prop := Rl I F 11 S.1 ∧ (∀ r, r < 10 → Rl I F r (S.2.1 r)) ∧ I 12 = S.2.2 ∧ ∃ M, Rl I F 10 M
/-- the model's cells are as they were -/
def CM (I : XI) (F : XF) (I1 : XI) (F1 : XF) : Prop := (∀ x, 17 ≤ x → I1 x = I x) ∧ (∀ x, 19 ≤ x → F1 x = F x)
def CQ (q : Int32 × XSt) (I : XI) (F : XF) : XP := fun rv I1 F1 => rv = some (.int q.1) ∧ CI I1 F1 q.2 ∧ CM I F I1 F1
theorem CM.rf {I : XI} {F : XF} : CM I F I F := ⟨fun _ _ => rfl, fun _ _ => rfl⟩
theorem CM.tr {I I1 I2 : XI} {F F1 F2 : XF} (h : CM I F I1 F1) (h2 : CM I1 F1 I2 F2) : CM I F I2 F2 := ⟨fun x hx => (h2.1 x hx).trans (h.1 x hx), fun x hx => (h2.2 x hx).trans (h.2 x hx)⟩
theorem Rs.cm {I I1 : XI} {F F1 : XF} {j : Nat} {M : List Int32} (h : Rs j M I F I1 F1) (hj : j < 12) : CM I F I1 F1 := ⟨fun x hx => h.1 x (by omega), fun x hx => h.2.1 x (by omega)⟩
theorem regc (r : Int32) : (∃ k : Nat, k < 10 ∧ r = nI k ∧ isR r = true ∧ r.toInt.toNat = k) ∨ isR r = false := by
  by_cases h : 0 ≤ r.toInt ∧ r.toInt < 10
  · exact Or.inl ⟨r.toInt.toNat, by omega, n_of (by omega), by simp [isR, h], rfl⟩
  · exact Or.inr (by simp only [isR, decide_eq_false_iff_not]; exact h)
theorem x_ten {k : Nat} (hk : k < 10) : ([0, 1, 2, 3, 4, 5, 6, 7, 8, 9] : List Nat)[k]? = some k := by
  match k, hk with
  | 0, _ => rfl
  | 1, _ => rfl
  | 2, _ => rfl
  | 3, _ => rfl
  | 4, _ => rfl
  | 5, _ => rfl
  | 6, _ => rfl
  | 7, _ => rfl
  | 8, _ => rfl
  | 9, _ => rfl
  | k + 10, h => exact absurd h (by omega)
theorem bh_min {s n all : Int32} (h1 : -10 ≤ s.toInt) (h2 : -1 ≤ n.toInt) (h3 : 0 ≤ all.toInt) (h4 : s.toInt < 2147483648) : (if all.toInt64 < s.toInt64 + n.toInt64 then all.toInt64 else s.toInt64 + n.toInt64).toInt32.toInt = min (s.toInt + n.toInt) all.toInt := by
  have := n_hi n
  have := n_hi all
  have e : (s.toInt64 + n.toInt64).toInt = s.toInt + n.toInt := by rw [l_add (by rw [l_of, l_of]; omega) (by rw [l_of, l_of]; omega), l_of, l_of]
  split
  · rename_i h
    rw [l_lt, e, l_of] at h
    rw [l_i (by rw [l_of]; omega) (by rw [l_of]; omega), l_of]; omega
  · rename_i h
    rw [l_lt, e, l_of] at h
    rw [l_i (by rw [e]; omega) (by rw [e]; omega), e]; omega
section INV
variable {I I1 I2 : XI} {F F1 F2 : XF} {S : XSt} {k : Nat} {M : List Int32}
theorem CI.mk10 (h : CI I F S) (hR : Rs 10 M I F I1 F1) : CI I1 F1 S := ⟨hR.kp (by decide) h.1, fun r hr => hR.kp (by omega) (h.2.1 r hr), by rw [hR.1 12 (by decide)]; exact h.2.2.1, _, hR.2.2⟩
/-- what is made goes into its register -/
theorem ck_done {to : Int32} (h : CI I F S) (hR : Rs 10 M I F I1 F1) (hK : Rs k M I1 F1 I2 F2) (hk : k < 10) (ht : to.toInt.toNat = k) (hM : M.length ≤ 200) : CQ (sMk S to M) I F (some (.int (nI M.length))) I2 F2 := by
  have e : sMk S to M = (nI M.length, sPut S to M) := by rw [sMk, if_neg (by omega)]
  rw [e]
  refine ⟨rfl, ⟨hK.kp (by omega) (hR.kp (by decide) h.1), fun r hr => ?_, ?_, M, hK.kp (by omega) hR.2.2⟩, (hR.cm (by decide)).tr (hK.cm (by omega))⟩
  · show Rl I2 F2 r (va_up S.2.1 to.toInt.toNat M r)
    rw [ht]
    by_cases hrk : r = k
    · subst hrk; simp only [va_up, if_pos]; exact hK.2.2
    · simp only [va_up, if_neg hrk]; exact hK.kp hrk (hR.kp (by omega) (h.2.1 r hr))
  · show I2 12 = S.2.2
    rw [hK.1 12 (by omega), hR.1 12 (by decide)]; exact h.2.2.1
theorem ck_none {q : Int32 × XSt} (h : CI I F S) (hq : q = (-1, S)) : CQ q I F (some (.int (-1))) I F := by rw [hq]; exact ⟨rfl, h, CM.rf⟩
theorem ck_full {to : Int32} (h : CI I F S) (hM : 200 < M.length) : CQ (sMk S to M) I F (some (.int (-4))) I F := by rw [sMk, if_pos hM]; exact ⟨rfl, h, CM.rf⟩
theorem CI.at (h : CI I F S) (hk : k < 10) {a : Int32} (ha : a.toInt.toNat = k) : Rl I F k (sR S a) := by rw [sR, ha]; exact h.2.1 k hk
theorem s_RD_register_k {r : Int32} (hk : k < 10) (e : r = nI k) : XM m_RD_register [.ref 24, .int r] I F (xpr (.ref k) I F) := by
  refine XM.of (by decide) (Nat.le_of_ble_eq_true rfl) ?_
  dsimp only [xargs]
  subst e
  refine xj_iload_n (pc := 0) d_RD_register_0 rfl rfl ?_
  refine xj_if_lt (pc := 1) (tgt := 10) d_RD_register_1 (by decide) (fun h1 => absurd h1 (by rw [n_lt, n_0, n_nI (by omega)]; omega)) (fun h1 => ?_)
  refine xj_iload_n (pc := 4) d_RD_register_4 rfl rfl ?_
  refine xj_bipush (pc := 5) (v := 10) d_RD_register_5 (by decide) ?_
  refine xj_icmp_lt (pc := 7) (tgt := 14) d_RD_register_7 (by decide) (fun h7 => ?_) (fun h7 => absurd (by rw [n_lt, n_10, n_nI (by omega)]; omega) h7)
  refine xj_aload_n (pc := 14) d_RD_register_14 rfl rfl ?_
  refine xj_getR (pc := 15) d_RD_register_15 fl_RD_18 rfl rfl ?_
  refine xj_iload_n (pc := 18) d_RD_register_18 rfl rfl ?_
  refine xj_aald (pc := 19) d_RD_register_19 (l0 := [0, 1, 2, 3, 4, 5, 6, 7, 8, 9]) rfl rfl (x_ten hk) (by decide) ?_
  refine xj_aret (pc := 20) d_RD_register_20 rfl ?_
  exact ⟨rfl, rfl, rfl⟩
theorem s_RD_register_n {r : Int32} (h : isR r = false) : XM m_RD_register [.ref 24, .int r] I F (xpr .null I F) := by
  refine XM.of (by decide) (Nat.le_of_ble_eq_true rfl) ?_
  dsimp only [xargs]
  simp only [isR, decide_eq_false_iff_not] at h
  refine xj_iload_n (pc := 0) d_RD_register_0 rfl rfl ?_
  refine xj_if_lt (pc := 1) (tgt := 10) d_RD_register_1 (by decide) (fun h1 => ?_) (fun h1 => ?_)
  · simp only [n_lt, n_le, c_gt, c_le, c_lt, c_ge, not_lt_i, not_le_i, n_0, n_1, n_2, n_3, n_4, n_m1, n_10, n_200, n_240, n_256] at h1
    refine xj_null (pc := 10) d_RD_register_10 ?_
    refine xj_goto (pc := 11) (tgt := 20) d_RD_register_11 (by decide) ?_
    refine xj_nret (pc := 20) d_RD_register_20 rfl ?_
    exact ⟨rfl, rfl, rfl⟩
  · simp only [n_lt, n_le, c_gt, c_le, c_lt, c_ge, not_lt_i, not_le_i, n_0, n_1, n_2, n_3, n_4, n_m1, n_10, n_200, n_240, n_256] at h1
    refine xj_iload_n (pc := 4) d_RD_register_4 rfl rfl ?_
    refine xj_bipush (pc := 5) (v := 10) d_RD_register_5 (by decide) ?_
    refine xj_icmp_lt (pc := 7) (tgt := 14) d_RD_register_7 (by decide) (fun h7 => ?_) (fun h7 => ?_)
    · simp only [n_lt, n_le, c_gt, c_le, c_lt, c_ge, not_lt_i, not_le_i, n_0, n_1, n_2, n_3, n_4, n_m1, n_10, n_200, n_240, n_256] at h7
      exact absurd ⟨h1, h7⟩ h
    · simp only [n_lt, n_le, c_gt, c_le, c_lt, c_ge, not_lt_i, not_le_i, n_0, n_1, n_2, n_3, n_4, n_m1, n_10, n_200, n_240, n_256] at h7
      refine xj_null (pc := 10) d_RD_register_10 ?_
      refine xj_goto (pc := 11) (tgt := 20) d_RD_register_11 (by decide) ?_
      refine xj_nret (pc := 20) d_RD_register_20 rfl ?_
      exact ⟨rfl, rfl, rfl⟩
theorem s_RD_keepMade (hk : k < 10) (hM : Rl I F 10 M) : XM m_RD_keepMade [.ref 24, .ref k] I F (fun rv I1 F1 => rv = some (.int (nI M.length)) ∧ Rs k M I F I1 F1) := by
  refine XM.of (by decide) (Nat.le_of_ble_eq_true rfl) ?_
  dsimp only [xargs]
  refine xj_aload_n (pc := 0) d_RD_keepMade_0 rfl rfl ?_
  refine xj_aload_n (pc := 1) d_RD_keepMade_1 rfl rfl ?_
  refine xj_getR (pc := 2) d_RD_keepMade_2 fl_RD_22 rfl rfl ?_
  refine xj_callV (pc := 5) d_RD_keepMade_5 ml_RD_60 ok_RW_become (s_RW_become (j := k) (k := 10) (by omega) (by decide) (by omega) hM (Nat.le_trans hM.2.1 (xcap_ge k))) rfl rfl (xsh_row (by omega)) rfl rfl (Nat.le_of_ble_eq_true rfl) (by decide) ?_
  rintro rv I1 F1 ⟨rfl, h⟩
  dsimp only [Option.toList, List.cons_append, List.nil_append]
  refine xj_aload_n (pc := 8) d_RD_keepMade_8 rfl rfl ?_
  refine xj_callV (pc := 9) d_RD_keepMade_9 ml_RD_46 ok_RW_length (s_RW_length (by omega)) rfl rfl (xsh_row (by omega)) rfl rfl (Nat.le_of_ble_eq_true rfl) (by decide) ?_
  rintro rv I1 F1 ⟨rfl, rfl, rfl⟩
  dsimp only [Option.toList, List.cons_append, List.nil_append]
  refine xj_iret (pc := 12) d_RD_keepMade_12 rfl ?_
  exact ⟨by rw [h.2.2.1], h⟩
theorem s_RD_behindRun {s n all : Int32} (g1 : -10 ≤ s.toInt) (g2 : -1 ≤ n.toInt) (g3 : 0 ≤ all.toInt) : XM m_RD_behindRun [.int s, .int n, .int all] I F (fun rv I1 F1 => ∃ v : Int32, v.toInt = (if n.toInt = -1 then all.toInt else min (s.toInt + n.toInt) all.toInt) ∧ rv = some (.int v) ∧ I = I1 ∧ F = F1) := by
  refine XM.of (by decide) (Nat.le_of_ble_eq_true rfl) ?_
  dsimp only [xargs]
  have := n_hi s
  have := n_hi n
  have := n_hi all
  refine xj_iload_n (pc := 0) d_RD_behindRun_0 rfl rfl ?_
  refine xj_iconst (pc := 1) (v := -1) d_RD_behindRun_1 (by decide) ?_
  refine xj_icmp_ne (pc := 2) (tgt := 9) d_RD_behindRun_2 (by decide) (fun h2 => ?_) (fun h2 => ?_)
  · refine xj_iload_n (pc := 9) d_RD_behindRun_9 rfl rfl ?_
    refine xj_i2l (pc := 10) d_RD_behindRun_10 ?_
    refine xj_iload_n (pc := 11) d_RD_behindRun_11 rfl rfl ?_
    refine xj_i2l (pc := 12) d_RD_behindRun_12 ?_
    refine xj_ladd (pc := 13) d_RD_behindRun_13 ?_
    refine xj_iload_n (pc := 14) d_RD_behindRun_14 rfl rfl ?_
    refine xj_i2l (pc := 15) d_RD_behindRun_15 ?_
    refine xj_lmin (pc := 16) d_RD_behindRun_16 ml_RD_174 (by decide) (Nat.le_of_ble_eq_true rfl) ?_
    refine xj_l2i (pc := 19) d_RD_behindRun_19 ?_
    refine xj_iret (pc := 20) d_RD_behindRun_20 rfl ?_
    first | exact ⟨_, (bh_min g1 g2 g3 (by omega)).trans (if_neg (fun e => h2 (by rw [n_eq, n_m1]; exact e))).symm, rfl, rfl, rfl⟩ | exact ⟨_, (if_pos (by rw [h2, n_m1])).symm, rfl, rfl, rfl⟩
  · refine xj_iload_n (pc := 5) d_RD_behindRun_5 rfl rfl ?_
    refine xj_goto (pc := 6) (tgt := 20) d_RD_behindRun_6 (by decide) ?_
    refine xj_iret (pc := 20) d_RD_behindRun_20 rfl ?_
    first | exact ⟨_, (bh_min g1 g2 g3 (by omega)).trans (if_neg (fun e => h2 (by rw [n_eq, n_m1]; exact e))).symm, rfl, rfl, rfl⟩ | exact ⟨_, (if_pos (by rw [h2, n_m1])).symm, rfl, rfl, rfl⟩
end INV
