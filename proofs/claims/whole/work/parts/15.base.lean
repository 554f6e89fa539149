/-! numbers -/
theorem n_lt {x y : Int32} : x < y ↔ x.toInt < y.toInt := Int32.lt_iff_toInt_lt
theorem n_le {x y : Int32} : x ≤ y ↔ x.toInt ≤ y.toInt := Int32.le_iff_toInt_le
theorem n_eq {x y : Int32} : x = y ↔ x.toInt = y.toInt := Int32.toInt_inj.symm
theorem n_cl (x : Int32) : x.toNatClampNeg = x.toInt.toNat := rfl
theorem n_0 : (0 : Int32).toInt = 0 := by decide
theorem n_1 : (1 : Int32).toInt = 1 := by decide
theorem n_2 : (2 : Int32).toInt = 2 := by decide
theorem n_3 : (3 : Int32).toInt = 3 := by decide
theorem n_4 : (4 : Int32).toInt = 4 := by decide
theorem n_m1 : (-1 : Int32).toInt = -1 := by decide
theorem n_10 : (10 : Int32).toInt = 10 := by decide
theorem n_200 : (200 : Int32).toInt = 200 := by decide
theorem n_240 : (240 : Int32).toInt = 240 := by decide
theorem n_256 : (256 : Int32).toInt = 256 := by decide
theorem n_255 : (255 : Int32).toInt = 255 := by decide
theorem n_20 : (20 : Int32).toInt = 20 := by decide
theorem not_lt_i {a b : Int} : (¬ a < b) ↔ b ≤ a := Int.not_lt
theorem not_le_i {a b : Int} : (¬ a ≤ b) ↔ b < a := Int.not_le
theorem n_lo (x : Int32) : -2147483648 ≤ x.toInt := Int32.le_toInt x
theorem n_hi (x : Int32) : x.toInt < 2147483648 := Int32.toInt_lt x
theorem n_bm {z : Int} (h1 : -2147483648 ≤ z) (h2 : z < 2147483648) : z.bmod 4294967296 = z := by
  rw [Int.bmod_def]
  split <;> omega
theorem n_add {x y : Int32} (h1 : -2147483648 ≤ x.toInt + y.toInt) (h2 : x.toInt + y.toInt < 2147483648) : (x + y).toInt = x.toInt + y.toInt := by
  rw [Int32.toInt_add]; exact n_bm h1 h2
theorem n_sub {x y : Int32} (h1 : -2147483648 ≤ x.toInt - y.toInt) (h2 : x.toInt - y.toInt < 2147483648) : (x - y).toInt = x.toInt - y.toInt := by
  rw [Int32.toInt_sub]; exact n_bm h1 h2
theorem n_mul {x y : Int32} (h1 : -2147483648 ≤ x.toInt * y.toInt) (h2 : x.toInt * y.toInt < 2147483648) : (x * y).toInt = x.toInt * y.toInt := by
  rw [Int32.toInt_mul]; exact n_bm h1 h2
theorem n_nI {n : Nat} (h : n < 2147483648) : (nI n).toInt = n := nI_toInt (by omega)
theorem n_of {x : Int32} {n : Nat} (h : x.toInt = n) : x = nI n := by
  have := n_hi x
  rw [n_eq, n_nI (by omega)]; exact h
theorem n_ex {x : Int32} (h : 0 ≤ x.toInt) : ∃ n : Nat, n < 2147483648 ∧ x = nI n ∧ x.toInt = n := by
  have := n_hi x
  exact ⟨x.toInt.toNat, by omega, n_of (by omega), by omega⟩
theorem n_up {n : Nat} : nI n + 1 = nI (n + 1) := (nI_succ n).symm
theorem n_dec {n : Nat} (h : 0 < n) : nI n + (-1) = nI (n - 1) := by
  obtain ⟨m, rfl⟩ : ∃ m, n = m + 1 := ⟨n - 1, by omega⟩
  exact pk_m1 m
theorem n_addN (a b : Nat) : nI a + nI b = nI (a + b) := nI_add a b
theorem n_subN {a b : Nat} (h : b ≤ a) : nI a - nI b = nI (a - b) := pk_sub h
/-! longs -/
theorem l_lt {x y : Int64} : x < y ↔ x.toInt < y.toInt := Int64.lt_iff_toInt_lt
theorem l_le {x y : Int64} : x ≤ y ↔ x.toInt ≤ y.toInt := Int64.le_iff_toInt_le
theorem l_eq {x y : Int64} : x = y ↔ x.toInt = y.toInt := Int64.toInt_inj.symm
theorem l_200 : (200 : Int64).toInt = 200 := by decide
theorem l_0 : (0 : Int64).toInt = 0 := by decide
theorem l_1 : (1 : Int64).toInt = 1 := by decide
theorem l_bm {z : Int} (h1 : -9223372036854775808 ≤ z) (h2 : z < 9223372036854775808) : z.bmod 18446744073709551616 = z := by
  rw [Int.bmod_def]
  split <;> omega
theorem l_of (x : Int32) : x.toInt64.toInt = x.toInt := Int32.toInt_toInt64 x
theorem l_add {x y : Int64} (h1 : -9223372036854775808 ≤ x.toInt + y.toInt) (h2 : x.toInt + y.toInt < 9223372036854775808) : (x + y).toInt = x.toInt + y.toInt := by
  rw [Int64.toInt_add]; exact l_bm h1 h2
theorem l_sub {x y : Int64} (h1 : -9223372036854775808 ≤ x.toInt - y.toInt) (h2 : x.toInt - y.toInt < 9223372036854775808) : (x - y).toInt = x.toInt - y.toInt := by
  rw [Int64.toInt_sub]; exact l_bm h1 h2
theorem l_mul {x y : Int64} (h1 : -9223372036854775808 ≤ x.toInt * y.toInt) (h2 : x.toInt * y.toInt < 9223372036854775808) : (x * y).toInt = x.toInt * y.toInt := by
  rw [Int64.toInt_mul]; exact l_bm h1 h2
theorem l_i {x : Int64} (h1 : -2147483648 ≤ x.toInt) (h2 : x.toInt < 2147483648) : x.toInt32.toInt = x.toInt := by
  rw [Int64.toInt_toInt32]; exact n_bm h1 h2
theorem c_gt {x y : Int64} : 0 < lg_cmp x y ↔ y.toInt < x.toInt := by
  unfold lg_cmp
  by_cases h : x > y
  · rw [if_pos h]; exact ⟨fun _ => l_lt.mp h, fun _ => by decide⟩
  · rw [if_neg h]
    refine ⟨fun h2 => ?_, fun h2 => absurd (l_lt.mpr h2) h⟩
    split at h2 <;> exact absurd h2 (by decide)
theorem c_le {x y : Int64} : lg_cmp x y ≤ 0 ↔ x.toInt ≤ y.toInt := by
  have h := c_gt (x := x) (y := y)
  have : (lg_cmp x y ≤ 0) ↔ ¬ (0 < lg_cmp x y) := by rw [n_le, n_lt]; omega
  rw [this, h]; omega
theorem c_lt {x y : Int64} : lg_cmp x y < 0 ↔ x.toInt < y.toInt := by
  unfold lg_cmp
  by_cases h : x > y
  · rw [if_pos h]; have := l_lt.mp h; exact ⟨fun q => absurd q (by decide), fun q => by omega⟩
  · rw [if_neg h]
    by_cases h2 : x = y
    · rw [if_pos h2, h2]; exact ⟨fun q => absurd q (by decide), fun q => by omega⟩
    · rw [if_neg h2]
      have h3 : ¬ x.toInt = y.toInt := fun q => h2 (l_eq.mpr q)
      have h4 : ¬ y.toInt < x.toInt := fun q => h (l_lt.mpr q)
      exact ⟨fun _ => by omega, fun _ => by decide⟩
theorem c_ge {x y : Int64} : 0 ≤ lg_cmp x y ↔ y.toInt ≤ x.toInt := by
  have h := c_lt (x := x) (y := y)
  have : (0 ≤ lg_cmp x y) ↔ ¬ (lg_cmp x y < 0) := by rw [n_le, n_lt]; omega
  rw [this, h]; omega
/-! rows of bytes -/
theorem tk_app {α : Type} (X Y : List α) (c : Nat) : (X.take c ++ Y).take c = (X ++ Y).take c := by
  rw [List.take_append, List.take_append, List.take_take, Nat.min_self, List.length_take]
  by_cases h : X.length ≤ c
  · rw [Nat.min_eq_right h]
  · rw [Nat.min_eq_left (by omega), show c - X.length = 0 by omega, Nat.sub_self]
theorem xcap_le (j : Nat) : xcap j ≤ 240 := by unfold xcap; split <;> omega
theorem xcap_ge (j : Nat) : 200 ≤ xcap j := by unfold xcap; split <;> omega
def Rl (I : XI) (F : XF) (j : Nat) (L : List Int32) : Prop := I j = nI L.length ∧ L.length ≤ xcap j ∧ ∀ (i : Nat) (b : Int32), L[i]? = some b → F j i = b
/-- row j has become M, all else is as it was -/
def Rs (j : Nat) (M : List Int32) (I : XI) (F : XF) (I1 : XI) (F1 : XF) : Prop := (∀ x, x ≠ j → I1 x = I x) ∧ (∀ x, x ≠ j → F1 x = F x) ∧ Rl I1 F1 j M
theorem Rs.rf {j : Nat} {M : List Int32} {I : XI} {F : XF} (h : Rl I F j M) : Rs j M I F I F := ⟨fun _ _ => rfl, fun _ _ => rfl, h⟩
theorem Rs.tr {j : Nat} {M M2 : List Int32} {I I1 I2 : XI} {F F1 F2 : XF} (h : Rs j M I F I1 F1) (h2 : Rs j M2 I1 F1 I2 F2) : Rs j M2 I F I2 F2 :=
  ⟨fun x hx => (h2.1 x hx).trans (h.1 x hx), fun x hx => (h2.2.1 x hx).trans (h.2.1 x hx), h2.2.2⟩
theorem Rs.kp {j k : Nat} {M L : List Int32} {I I1 : XI} {F F1 : XF} (h : Rs j M I F I1 F1) (hk : k ≠ j) (hl : Rl I F k L) : Rl I1 F1 k L :=
  ⟨by rw [h.1 k hk]; exact hl.1, hl.2.1, fun i b hb => by rw [h.2.1 k hk]; exact hl.2.2 i b hb⟩
theorem Rl.lt {I : XI} {F : XF} {j : Nat} {L : List Int32} (h : Rl I F j L) : L.length ≤ 240 := Nat.le_trans h.2.1 (xcap_le j)
theorem Rl.ti {I : XI} {F : XF} {j : Nat} {L : List Int32} (h : Rl I F j L) : (I j).toInt = L.length := by
  have := h.lt
  rw [h.1, n_nI (by omega)]
/-- byte i, or o -/
def rg (L : List Int32) (i o : Int32) : Int32 := if i < 0 then o else (L[i.toNatClampNeg]?).getD o
theorem rg_n {L : List Int32} {n : Nat} {o : Int32} (h : n < 2147483648) : rg L (nI n) o = (L[n]?).getD o := by
  have h1 : ¬ nI n < 0 := nI_pos (by omega)
  rw [rg, if_neg h1, nI_clamp (by omega)]
def xpi (v : Int32) (I : XI) (F : XF) : XP := fun rv I1 F1 => rv = some (.int v) ∧ I = I1 ∧ F = F1
def xpr (v : Value) (I : XI) (F : XF) : XP := fun rv I1 F1 => rv = some v ∧ I = I1 ∧ F = F1
