section MOE
variable {I I1 I2 : XI} {F F1 F2 : XF} {S : XSt} {r k : Nat} {M X L T : List Int32}
theorem s_MO_stands_l {ka kb q : Nat} {A B : List Int32} (hka : ka < 10) (hkb : kb < 10) (hA : Mr F ka A) (hB : Mr F kb B) (hq : q + A.length ≤ B.length) : ∀ (m i : Nat), i + m = A.length → (∀ j, j < i → (B[q + j]?).getD (-1) = (A[0 + j]?).getD (-1)) →
    XJ none m_MO_stands 22 [some (.ref 36), some (.int (nI ka)), some (.int (nI kb)), some (.int (nI q)), some (.int (nI i))] [] I F (xpi (b01 (stands A B q)) I F) := by
  have sA := hA.sz
  have h1 := hA.2.1
  have h2 := hB.2.1
  intro m
  induction m with
  | zero =>
    intro i hi hj
    have hr : rng B q A 0 A.length = true := rng_t.mpr ⟨hq, fun j h => hj j (by omega)⟩
    refine xj_iload (pc := 22) d_MO_stands_22 rfl ?_
    refine xj_aload_n (pc := 24) d_MO_stands_24 rfl rfl ?_
    refine xj_getR (pc := 25) d_MO_stands_25 fl_MO_16 rfl rfl ?_
    refine xj_iload_n (pc := 28) d_MO_stands_28 rfl rfl ?_
    refine xj_iald (pc := 29) d_MO_stands_29 (n := 10) (x := 21) rfl rfl hka (by decide) ?_
    refine xj_icmp_ge (pc := 30) (tgt := 60) d_MO_stands_30 (by decide) (fun h30 => ?_) (fun h30 => absurd (by rw [n_le, sA, n_nI (by omega)]; omega) h30)
    refine xj_aload_n (pc := 60) d_MO_stands_60 rfl rfl ?_
    refine xj_getR (pc := 61) d_MO_stands_61 fl_MO_16 rfl rfl ?_
    refine xj_iload_n (pc := 64) d_MO_stands_64 rfl rfl ?_
    refine xj_iald (pc := 65) d_MO_stands_65 (n := 10) (x := 21) rfl rfl hka (by decide) ?_
    refine xj_if_le (pc := 66) (tgt := 73) d_MO_stands_66 (by decide) (fun h66 => ?_) (fun h66 => ?_)
    · refine xj_iconst (pc := 73) (v := 0) d_MO_stands_73 (by decide) ?_
      refine xj_zret (pc := 74) d_MO_stands_74 rfl (by first | exact Or.inl rfl | exact Or.inr rfl | assumption | omega) ?_
      rw [n_le, n_0, sA] at h66
      rw [← st_eq, hr, Bool.and_true]
      first | (rw [decide_eq_false (by omega)]; exact ⟨rfl, rfl, rfl⟩; done) | (rw [decide_eq_true (by omega)]; exact ⟨rfl, rfl, rfl⟩)
    · refine xj_iconst (pc := 69) (v := 1) d_MO_stands_69 (by decide) ?_
      refine xj_goto (pc := 70) (tgt := 74) d_MO_stands_70 (by decide) ?_
      refine xj_zret (pc := 74) d_MO_stands_74 rfl (by first | exact Or.inl rfl | exact Or.inr rfl | assumption | omega) ?_
      rw [n_le, n_0, sA] at h66
      rw [← st_eq, hr, Bool.and_true]
      first | (rw [decide_eq_false (by omega)]; exact ⟨rfl, rfl, rfl⟩; done) | (rw [decide_eq_true (by omega)]; exact ⟨rfl, rfl, rfl⟩)
  | succ m ih =>
    intro i hi hj
    have hga : A[i]? = some A[i] := List.getElem?_eq_getElem (by omega)
    have hgb : B[q + i]? = some B[q + i] := List.getElem?_eq_getElem (by omega)
    refine xj_iload (pc := 22) d_MO_stands_22 rfl ?_
    refine xj_aload_n (pc := 24) d_MO_stands_24 rfl rfl ?_
    refine xj_getR (pc := 25) d_MO_stands_25 fl_MO_16 rfl rfl ?_
    refine xj_iload_n (pc := 28) d_MO_stands_28 rfl rfl ?_
    refine xj_iald (pc := 29) d_MO_stands_29 (n := 10) (x := 21) rfl rfl hka (by decide) ?_
    refine xj_icmp_ge (pc := 30) (tgt := 60) d_MO_stands_30 (by decide) (fun h30 => absurd h30 (by rw [n_le, sA, n_nI (by omega)]; omega)) (fun h30 => ?_)
    refine xj_aload_n (pc := 33) d_MO_stands_33 rfl rfl ?_
    refine xj_iload_n (pc := 34) d_MO_stands_34 rfl rfl ?_
    refine xj_iload (pc := 35) d_MO_stands_35 rfl ?_
    refine xj_callV (pc := 37) d_MO_stands_37 ml_MO_46 ok_MO_of (s_MO_ofL hka hA hga) rfl rfl rfl rfl rfl (Nat.le_of_ble_eq_true rfl) (by decide) ?_
    rintro rv I1 F1 ⟨rfl, rfl, rfl⟩
    dsimp only [Option.toList, List.cons_append, List.nil_append]
    refine xj_aload_n (pc := 40) d_MO_stands_40 rfl rfl ?_
    refine xj_iload_n (pc := 41) d_MO_stands_41 rfl rfl ?_
    refine xj_iload_n (pc := 42) d_MO_stands_42 rfl rfl ?_
    refine xj_iload (pc := 43) d_MO_stands_43 rfl ?_
    refine xj_iadd (pc := 45) d_MO_stands_45 ?_
    rw [n_addN]
    refine xj_callV (pc := 46) d_MO_stands_46 ml_MO_46 ok_MO_of (s_MO_ofL hkb hB hgb) rfl rfl rfl rfl rfl (Nat.le_of_ble_eq_true rfl) (by decide) ?_
    rintro rv I1 F1 ⟨rfl, rfl, rfl⟩
    dsimp only [Option.toList, List.cons_append, List.nil_append]
    refine xj_icmp_eq (pc := 49) (tgt := 54) d_MO_stands_49 (by decide) (fun h49 => ?_) (fun h49 => ?_)
    · refine xj_inc1 (pc := 54) d_MO_stands_54 rfl (by decide) rfl ?_
      dsimp only [xset, xset2, xkill]
      rw [n_up]
      refine xj_goto (pc := 57) (tgt := 22) d_MO_stands_57 (by decide) ?_
      refine ih (i + 1) (by omega) (fun j h => ?_)
      rcases Nat.lt_or_ge j i with z | z
      · exact hj j z
      · rw [show j = i by omega, hgb, Nat.zero_add, hga]; exact h49.symm
    · refine xj_iconst (pc := 52) (v := 0) d_MO_stands_52 (by decide) ?_
      refine xj_zret (pc := 53) d_MO_stands_53 rfl (by first | exact Or.inl rfl | exact Or.inr rfl | assumption | omega) ?_
      have hne : ¬ stands A B q = true := fun z => h49 (by (have := st_eq A B q; rw [z] at this; simp only [Bool.and_eq_true] at this; have h9 := (rng_t.mp this.2).2 i (by omega); rw [hgb, Nat.zero_add, hga] at h9; exact h9.symm))
      rw [b01, if_neg hne]
      exact ⟨rfl, rfl, rfl⟩
theorem s_MO_stands {ka kb q : Nat} {A B : List Int32} (hka : ka < 10) (hkb : kb < 10) (hA : Mr F ka A) (hB : Mr F kb B) (hq : q ≤ 1000) : XM m_MO_stands [.ref 36, .int (nI ka), .int (nI kb), .int (nI q)] I F (xpi (b01 (stands A B q)) I F) := by
  refine XM.of (by decide) (Nat.le_of_ble_eq_true rfl) ?_
  dsimp only [xargs]
  have sB := hB.sz
  have h1 := hA.2.1
  have h2 := hB.2.1
  refine xj_iload_n (pc := 0) d_MO_stands_0 rfl rfl ?_
  refine xj_aload_n (pc := 1) d_MO_stands_1 rfl rfl ?_
  refine xj_getR (pc := 2) d_MO_stands_2 fl_MO_16 rfl rfl ?_
  refine xj_iload_n (pc := 5) d_MO_stands_5 rfl rfl ?_
  refine xj_iald (pc := 6) d_MO_stands_6 (n := 10) (x := 21) rfl rfl hka (by decide) ?_
  refine xj_iadd (pc := 7) d_MO_stands_7 ?_
  refine xj_aload_n (pc := 8) d_MO_stands_8 rfl rfl ?_
  refine xj_getR (pc := 9) d_MO_stands_9 fl_MO_16 rfl rfl ?_
  refine xj_iload_n (pc := 12) d_MO_stands_12 rfl rfl ?_
  refine xj_iald (pc := 13) d_MO_stands_13 (n := 10) (x := 21) rfl rfl hkb (by decide) ?_
  rw [hA.1, n_addN]
  refine xj_icmp_le (pc := 14) (tgt := 19) d_MO_stands_14 (by decide) (fun h14 => ?_) (fun h14 => ?_)
  · refine xj_iconst (pc := 19) (v := 0) d_MO_stands_19 (by decide) ?_
    refine xj_istore (pc := 20) d_MO_stands_20 (by decide) rfl ?_
    dsimp only [xset, xset2, xkill]
    rw [n_le, sB, n_nI (by omega)] at h14
    exact s_MO_stands_l hka hkb hA hB (by omega) A.length 0 (by omega) (fun j h => absurd h (by omega))
  · refine xj_iconst (pc := 17) (v := 0) d_MO_stands_17 (by decide) ?_
    refine xj_zret (pc := 18) d_MO_stands_18 rfl (by first | exact Or.inl rfl | exact Or.inr rfl | assumption | omega) ?_
    rw [n_le, sB, n_nI (by omega)] at h14
    have hne : ¬ stands A B q = true := fun z => h14 (by have := st_fit z; omega)
    rw [b01, if_neg hne]
    exact ⟨rfl, rfl, rfl⟩
/-! find -/
theorem ff_snoc (P : Nat → Bool) : ∀ n k, ff P (n + 1) k = if ff P n k = 0 then (if P (k + n) then k + n + 1 else 0) else ff P n k
  | 0, k => by simp [ff]
  | n + 1, k => by
    rw [ff]
    by_cases h : P k = true
    · rw [if_pos h, ff, if_pos h, if_neg (by omega)]
    · rw [if_neg h, ff_snoc P n (k + 1), ff, if_neg h, show k + 1 + n = k + (n + 1) by omega]
theorem ff_skip (P : Nat → Bool) : ∀ j n k, (∀ q, q < j → P (k + q) = false) → ff P (j + n) k = ff P n (k + j)
  | 0, n, k, _ => by rw [Nat.zero_add, Nat.add_zero]
  | j + 1, n, k, h => by
    have h0 := h 0 (by omega)
    rw [Nat.add_zero] at h0
    rw [show j + 1 + n = (j + n) + 1 by omega, ff, h0, if_neg (by decide), ff_skip P j n (k + 1) (fun q hq => by rw [show k + 1 + q = k + (q + 1) by omega]; exact h (q + 1) (by omega)), show k + 1 + j = k + (j + 1) by omega]
theorem ff_congr {P Q : Nat → Bool} : ∀ n k, (∀ q, k ≤ q → q < k + n → P q = Q q) → ff P n k = ff Q n k
  | 0, _, _ => rfl
  | n + 1, k, h => by rw [ff, ff, h k (by omega) (by omega), ff_congr n (k + 1) (fun q a b => h q (by omega) (by omega))]
theorem ff_none (P : Nat → Bool) : ∀ n k, (∀ q, k ≤ q → q < k + n → P q = false) → ff P n k = 0
  | 0, _, _ => rfl
  | n + 1, k, h => by rw [ff, h k (by omega) (by omega), if_neg (by decide), ff_none P n (k + 1) (fun q a b => h q (by omega) (by omega))]
theorem fl_cut {P Q : Nat → Bool} {m : Nat} : ∀ n, (∀ q, q < n → P q = (Q q && decide (q < m))) → m ≤ n → fl P n = fl Q m
  | 0, _, h => by rw [show m = 0 by omega]; rfl
  | n + 1, h, hm => by
    rcases Nat.lt_or_ge n m with z | z
    · rw [show m = n + 1 by omega]
      have : ∀ j, j ≤ n + 1 → fl P j = fl Q j := by
        intro j
        induction j with
        | zero => intro _; rfl
        | succ j ih => intro hj; rw [fl, fl, ih (by omega), h j (by omega), decide_eq_true (by omega), Bool.and_true]
      exact this (n + 1) (Nat.le_refl _)
    · rw [fl, h n (by omega), decide_eq_false (by omega), Bool.and_false, if_neg (by decide)]
      exact fl_cut n (fun q hq => h q (by omega)) z
theorem ff_le (P : Nat → Bool) : ∀ n k, ff P n k ≤ k + n
  | 0, _ => Nat.zero_le _
  | n + 1, k => by rw [ff]; split; omega; have := ff_le P n (k + 1); omega
theorem fl_le (P : Nat → Bool) : ∀ n, fl P n ≤ n
  | 0 => Nat.le_refl _
  | n + 1 => by rw [fl]; split; omega; have := fl_le P n; omega
theorem fd_same {x : Nat} : (if x = 0 then 0 else x) = x := by split <;> omega
theorem t_MO_find_l0 {ka kb : Nat} {A B : List Int32} {kk last e : Int32} (hI : MI I F S) (hl : last = 0) (hka : ka < 10) (hkb : kb < 10) (hA : Mr F ka A) (hB : Mr F kb B) : ∀ (m i : Nat), i + m = B.length →
    XJ none m_MO_find 64 [some (.ref 36), some (.int (nI ka)), some (.int (nI kb)), some (.int kk), some (.int last), some (.int (nI (ff (fun q => stands A B q && decide (kk.toInt ≤ q + 1)) i 0))), some (.int e), some (.int (nI i))] [] I F (NQ (nI (ff (fun q => stands A B q && decide (kk.toInt ≤ q + 1)) B.length 0), S) I F) := by
  have sB := hB.sz
  have h2 := hB.2.1
  have h1 := hA.2.1
  intro m
  induction m with
  | zero =>
    intro i hi
    refine xj_iload (pc := 64) d_MO_find_64 rfl ?_
    refine xj_aload_n (pc := 66) d_MO_find_66 rfl rfl ?_
    refine xj_getR (pc := 67) d_MO_find_67 fl_MO_16 rfl rfl ?_
    refine xj_iload_n (pc := 70) d_MO_find_70 rfl rfl ?_
    refine xj_iald (pc := 71) d_MO_find_71 (n := 10) (x := 21) rfl rfl hkb (by decide) ?_
    refine xj_icmp_ge (pc := 72) (tgt := 155) d_MO_find_72 (by decide) (fun h72 => ?_) (fun h72 => absurd (by rw [n_le, sB, n_nI (by omega)]; omega) h72)
    refine xj_iload (pc := 155) d_MO_find_155 rfl ?_
    refine xj_iret (pc := 157) d_MO_find_157 rfl ?_
    rw [show i = B.length by omega]
    exact nk_ans hI
  | succ m ih =>
    intro i hi
    have hfl := ff_le (fun q => stands A B q && decide (kk.toInt ≤ q + 1)) i 0
    have hst := ff_snoc (fun q => stands A B q && decide (kk.toInt ≤ q + 1)) i 0
    rw [Nat.zero_add] at hst
    have e0 : (nI (ff (fun q => stands A B q && decide (kk.toInt ≤ q + 1)) i 0) = 0) ↔ ff (fun q => stands A B q && decide (kk.toInt ≤ q + 1)) i 0 = 0 := by rw [n_eq, n_nI (by omega), n_0]; omega
    have e1 : (nI i + 1).toInt = i + 1 := by rw [n_up, n_nI (by omega)]; omega
    have hih := ih (i + 1) (by omega)
    by_cases c1 : stands A B i = true
    · by_cases c2 : kk.toInt ≤ i + 1
      · have hP : (stands A B i && decide (kk.toInt ≤ (i : Int) + 1)) = true := by rw [c1, decide_eq_true c2]; rfl
        rw [hst, hP] at hih
        refine xj_iload (pc := 64) d_MO_find_64 rfl ?_
        refine xj_aload_n (pc := 66) d_MO_find_66 rfl rfl ?_
        refine xj_getR (pc := 67) d_MO_find_67 fl_MO_16 rfl rfl ?_
        refine xj_iload_n (pc := 70) d_MO_find_70 rfl rfl ?_
        refine xj_iald (pc := 71) d_MO_find_71 (n := 10) (x := 21) rfl rfl hkb (by decide) ?_
        refine xj_icmp_ge (pc := 72) (tgt := 155) d_MO_find_72 (by decide) (fun h72 => absurd h72 (by rw [n_le, sB, n_nI (by omega)]; omega)) (fun h72 => ?_)
        refine xj_aload_n (pc := 75) d_MO_find_75 rfl rfl ?_
        refine xj_iload_n (pc := 76) d_MO_find_76 rfl rfl ?_
        refine xj_iload_n (pc := 77) d_MO_find_77 rfl rfl ?_
        refine xj_iload (pc := 78) d_MO_find_78 rfl ?_
        refine xj_callV (pc := 80) d_MO_find_80 ml_MO_70 ok_MO_stands (s_MO_stands hka hkb hA hB (by omega)) rfl rfl rfl rfl rfl (Nat.le_of_ble_eq_true rfl) (by decide) ?_
        rintro rv I1 F1 ⟨rfl, rfl, rfl⟩
        dsimp only [Option.toList, List.cons_append, List.nil_append]
        refine xj_if_eq (pc := 83) (tgt := 120) d_MO_find_83 (by decide) (fun h83 => absurd h83 (by rw [c1]; decide)) (fun h83 => ?_)
        refine xj_iload (pc := 86) d_MO_find_86 rfl ?_
        refine xj_if_eq (pc := 88) (tgt := 108) d_MO_find_88 (by decide) (fun h88 => ?_) (fun h88 => absurd (hl) h88)
        refine xj_iload (pc := 108) d_MO_find_108 rfl ?_
        refine xj_iconst (pc := 110) (v := 1) d_MO_find_110 (by decide) ?_
        refine xj_iadd (pc := 111) d_MO_find_111 ?_
        refine xj_iload_n (pc := 112) d_MO_find_112 rfl rfl ?_
        refine xj_icmp_lt (pc := 113) (tgt := 120) d_MO_find_113 (by decide) (fun h113 => absurd h113 (by rw [n_lt, e1]; omega)) (fun h113 => ?_)
        refine xj_iconst (pc := 116) (v := 1) d_MO_find_116 (by decide) ?_
        refine xj_goto (pc := 117) (tgt := 121) d_MO_find_117 (by decide) ?_
        refine xj_istore (pc := 121) d_MO_find_121 (by decide) rfl ?_
        dsimp only [xset, xset2, xkill]
        refine xj_iload (pc := 123) d_MO_find_123 rfl ?_
        refine xj_if_eq (pc := 125) (tgt := 145) d_MO_find_125 (by decide) (fun h125 => absurd h125 (by decide)) (fun h125 => ?_)
        refine xj_iload (pc := 128) d_MO_find_128 rfl ?_
        refine xj_if_ne (pc := 130) (tgt := 138) d_MO_find_130 (by decide) (fun h130 => absurd (hl) h130) (fun h130 => ?_)
        refine xj_iload (pc := 133) d_MO_find_133 rfl ?_
        refine xj_if_ne (pc := 135) (tgt := 145) d_MO_find_135 (by decide) (fun h135 => ?_) (fun h135 => ?_)
        · refine xj_iload (pc := 145) d_MO_find_145 rfl ?_
          refine xj_istore (pc := 147) d_MO_find_147 (by decide) rfl ?_
          dsimp only [xset, xset2, xkill]
          refine xj_inc1 (pc := 149) d_MO_find_149 rfl (by decide) rfl ?_
          dsimp only [xset, xset2, xkill]
          rw [n_up]
          refine xj_goto (pc := 152) (tgt := 64) d_MO_find_152 (by decide) ?_
          first | (rw [if_neg (fun z => h135 (e0.mpr z))] at hih; exact xj_take 8 hih; done) | (rw [if_pos (e0.mp h135), if_pos rfl] at hih; exact xj_take 8 hih)
        · refine xj_iload (pc := 138) d_MO_find_138 rfl ?_
          refine xj_iconst (pc := 140) (v := 1) d_MO_find_140 (by decide) ?_
          refine xj_iadd (pc := 141) d_MO_find_141 ?_
          refine xj_goto (pc := 142) (tgt := 147) d_MO_find_142 (by decide) ?_
          refine xj_istore (pc := 147) d_MO_find_147 (by decide) rfl ?_
          dsimp only [xset, xset2, xkill]
          refine xj_inc1 (pc := 149) d_MO_find_149 rfl (by decide) rfl ?_
          dsimp only [xset, xset2, xkill]
          rw [n_up]
          refine xj_goto (pc := 152) (tgt := 64) d_MO_find_152 (by decide) ?_
          first | (rw [if_neg (fun z => h135 (e0.mpr z))] at hih; exact xj_take 8 hih; done) | (rw [if_pos (e0.mp h135), if_pos rfl] at hih; exact xj_take 8 hih)
      · have hP : (stands A B i && decide (kk.toInt ≤ (i : Int) + 1)) = false := by rw [decide_eq_false c2, Bool.and_false]
        rw [hst, hP, if_neg (show ¬ false = true by decide), fd_same] at hih
        refine xj_iload (pc := 64) d_MO_find_64 rfl ?_
        refine xj_aload_n (pc := 66) d_MO_find_66 rfl rfl ?_
        refine xj_getR (pc := 67) d_MO_find_67 fl_MO_16 rfl rfl ?_
        refine xj_iload_n (pc := 70) d_MO_find_70 rfl rfl ?_
        refine xj_iald (pc := 71) d_MO_find_71 (n := 10) (x := 21) rfl rfl hkb (by decide) ?_
        refine xj_icmp_ge (pc := 72) (tgt := 155) d_MO_find_72 (by decide) (fun h72 => absurd h72 (by rw [n_le, sB, n_nI (by omega)]; omega)) (fun h72 => ?_)
        refine xj_aload_n (pc := 75) d_MO_find_75 rfl rfl ?_
        refine xj_iload_n (pc := 76) d_MO_find_76 rfl rfl ?_
        refine xj_iload_n (pc := 77) d_MO_find_77 rfl rfl ?_
        refine xj_iload (pc := 78) d_MO_find_78 rfl ?_
        refine xj_callV (pc := 80) d_MO_find_80 ml_MO_70 ok_MO_stands (s_MO_stands hka hkb hA hB (by omega)) rfl rfl rfl rfl rfl (Nat.le_of_ble_eq_true rfl) (by decide) ?_
        rintro rv I1 F1 ⟨rfl, rfl, rfl⟩
        dsimp only [Option.toList, List.cons_append, List.nil_append]
        refine xj_if_eq (pc := 83) (tgt := 120) d_MO_find_83 (by decide) (fun h83 => absurd h83 (by rw [c1]; decide)) (fun h83 => ?_)
        refine xj_iload (pc := 86) d_MO_find_86 rfl ?_
        refine xj_if_eq (pc := 88) (tgt := 108) d_MO_find_88 (by decide) (fun h88 => ?_) (fun h88 => absurd (hl) h88)
        refine xj_iload (pc := 108) d_MO_find_108 rfl ?_
        refine xj_iconst (pc := 110) (v := 1) d_MO_find_110 (by decide) ?_
        refine xj_iadd (pc := 111) d_MO_find_111 ?_
        refine xj_iload_n (pc := 112) d_MO_find_112 rfl rfl ?_
        refine xj_icmp_lt (pc := 113) (tgt := 120) d_MO_find_113 (by decide) (fun h113 => ?_) (fun h113 => absurd (by rw [n_lt, e1]; omega) h113)
        refine xj_iconst (pc := 120) (v := 0) d_MO_find_120 (by decide) ?_
        refine xj_istore (pc := 121) d_MO_find_121 (by decide) rfl ?_
        dsimp only [xset, xset2, xkill]
        refine xj_iload (pc := 123) d_MO_find_123 rfl ?_
        refine xj_if_eq (pc := 125) (tgt := 145) d_MO_find_125 (by decide) (fun h125 => ?_) (fun h125 => absurd (rfl) h125)
        refine xj_iload (pc := 145) d_MO_find_145 rfl ?_
        refine xj_istore (pc := 147) d_MO_find_147 (by decide) rfl ?_
        dsimp only [xset, xset2, xkill]
        refine xj_inc1 (pc := 149) d_MO_find_149 rfl (by decide) rfl ?_
        dsimp only [xset, xset2, xkill]
        rw [n_up]
        refine xj_goto (pc := 152) (tgt := 64) d_MO_find_152 (by decide) ?_
        exact xj_take 8 hih
    · have hP : (stands A B i && decide (kk.toInt ≤ (i : Int) + 1)) = false := by rw [show stands A B i = false by simpa using c1]; rfl
      rw [hst, hP, if_neg (show ¬ false = true by decide), fd_same] at hih
      refine xj_iload (pc := 64) d_MO_find_64 rfl ?_
      refine xj_aload_n (pc := 66) d_MO_find_66 rfl rfl ?_
      refine xj_getR (pc := 67) d_MO_find_67 fl_MO_16 rfl rfl ?_
      refine xj_iload_n (pc := 70) d_MO_find_70 rfl rfl ?_
      refine xj_iald (pc := 71) d_MO_find_71 (n := 10) (x := 21) rfl rfl hkb (by decide) ?_
      refine xj_icmp_ge (pc := 72) (tgt := 155) d_MO_find_72 (by decide) (fun h72 => absurd h72 (by rw [n_le, sB, n_nI (by omega)]; omega)) (fun h72 => ?_)
      refine xj_aload_n (pc := 75) d_MO_find_75 rfl rfl ?_
      refine xj_iload_n (pc := 76) d_MO_find_76 rfl rfl ?_
      refine xj_iload_n (pc := 77) d_MO_find_77 rfl rfl ?_
      refine xj_iload (pc := 78) d_MO_find_78 rfl ?_
      refine xj_callV (pc := 80) d_MO_find_80 ml_MO_70 ok_MO_stands (s_MO_stands hka hkb hA hB (by omega)) rfl rfl rfl rfl rfl (Nat.le_of_ble_eq_true rfl) (by decide) ?_
      rintro rv I1 F1 ⟨rfl, rfl, rfl⟩
      dsimp only [Option.toList, List.cons_append, List.nil_append]
      refine xj_if_eq (pc := 83) (tgt := 120) d_MO_find_83 (by decide) (fun h83 => ?_) (fun h83 => absurd (by rw [show stands A B i = false by simpa using c1]; rfl) h83)
      refine xj_iconst (pc := 120) (v := 0) d_MO_find_120 (by decide) ?_
      refine xj_istore (pc := 121) d_MO_find_121 (by decide) rfl ?_
      dsimp only [xset, xset2, xkill]
      refine xj_iload (pc := 123) d_MO_find_123 rfl ?_
      refine xj_if_eq (pc := 125) (tgt := 145) d_MO_find_125 (by decide) (fun h125 => ?_) (fun h125 => absurd (rfl) h125)
      refine xj_iload (pc := 145) d_MO_find_145 rfl ?_
      refine xj_istore (pc := 147) d_MO_find_147 (by decide) rfl ?_
      dsimp only [xset, xset2, xkill]
      refine xj_inc1 (pc := 149) d_MO_find_149 rfl (by decide) rfl ?_
      dsimp only [xset, xset2, xkill]
      rw [n_up]
      refine xj_goto (pc := 152) (tgt := 64) d_MO_find_152 (by decide) ?_
      exact xj_take 8 hih
theorem t_MO_find_l1 {ka kb ee : Nat} {A B : List Int32} {kk last : Int32} (hI : MI I F S) (hl : ¬ last = 0) (hka : ka < 10) (hkb : kb < 10) (hA : Mr F ka A) (hB : Mr F kb B) (he : ee ≤ 200) : ∀ (m i : Nat), i + m = B.length →
    XJ none m_MO_find 64 [some (.ref 36), some (.int (nI ka)), some (.int (nI kb)), some (.int kk), some (.int last), some (.int (nI (fl (fun q => stands A B q && decide (q < ee + 1 - A.length)) i))), some (.int (nI ee)), some (.int (nI i))] [] I F (NQ (nI (fl (fun q => stands A B q && decide (q < ee + 1 - A.length)) B.length), S) I F) := by
  have sB := hB.sz
  have sA := hA.sz
  have h2 := hB.2.1
  have h1 := hA.2.1
  intro m
  induction m with
  | zero =>
    intro i hi
    refine xj_iload (pc := 64) d_MO_find_64 rfl ?_
    refine xj_aload_n (pc := 66) d_MO_find_66 rfl rfl ?_
    refine xj_getR (pc := 67) d_MO_find_67 fl_MO_16 rfl rfl ?_
    refine xj_iload_n (pc := 70) d_MO_find_70 rfl rfl ?_
    refine xj_iald (pc := 71) d_MO_find_71 (n := 10) (x := 21) rfl rfl hkb (by decide) ?_
    refine xj_icmp_ge (pc := 72) (tgt := 155) d_MO_find_72 (by decide) (fun h72 => ?_) (fun h72 => absurd (by rw [n_le, sB, n_nI (by omega)]; omega) h72)
    refine xj_iload (pc := 155) d_MO_find_155 rfl ?_
    refine xj_iret (pc := 157) d_MO_find_157 rfl ?_
    rw [show i = B.length by omega]
    exact nk_ans hI
  | succ m ih =>
    intro i hi
    have hih := ih (i + 1) (by omega)
    rw [fl] at hih
    have e1 : (nI i + F 21 ka).toInt = i + A.length := by rw [hA.1, n_addN, n_nI (by omega)]; omega
    by_cases c1 : stands A B i = true
    · by_cases c2 : i < ee + 1 - A.length
      · rw [c1, decide_eq_true c2, Bool.true_and, if_pos rfl] at hih
        refine xj_iload (pc := 64) d_MO_find_64 rfl ?_
        refine xj_aload_n (pc := 66) d_MO_find_66 rfl rfl ?_
        refine xj_getR (pc := 67) d_MO_find_67 fl_MO_16 rfl rfl ?_
        refine xj_iload_n (pc := 70) d_MO_find_70 rfl rfl ?_
        refine xj_iald (pc := 71) d_MO_find_71 (n := 10) (x := 21) rfl rfl hkb (by decide) ?_
        refine xj_icmp_ge (pc := 72) (tgt := 155) d_MO_find_72 (by decide) (fun h72 => absurd h72 (by rw [n_le, sB, n_nI (by omega)]; omega)) (fun h72 => ?_)
        refine xj_aload_n (pc := 75) d_MO_find_75 rfl rfl ?_
        refine xj_iload_n (pc := 76) d_MO_find_76 rfl rfl ?_
        refine xj_iload_n (pc := 77) d_MO_find_77 rfl rfl ?_
        refine xj_iload (pc := 78) d_MO_find_78 rfl ?_
        refine xj_callV (pc := 80) d_MO_find_80 ml_MO_70 ok_MO_stands (s_MO_stands hka hkb hA hB (by omega)) rfl rfl rfl rfl rfl (Nat.le_of_ble_eq_true rfl) (by decide) ?_
        rintro rv I1 F1 ⟨rfl, rfl, rfl⟩
        dsimp only [Option.toList, List.cons_append, List.nil_append]
        refine xj_if_eq (pc := 83) (tgt := 120) d_MO_find_83 (by decide) (fun h83 => absurd h83 (by rw [c1]; decide)) (fun h83 => ?_)
        refine xj_iload (pc := 86) d_MO_find_86 rfl ?_
        refine xj_if_eq (pc := 88) (tgt := 108) d_MO_find_88 (by decide) (fun h88 => absurd h88 (hl)) (fun h88 => ?_)
        refine xj_iload (pc := 91) d_MO_find_91 rfl ?_
        refine xj_aload_n (pc := 93) d_MO_find_93 rfl rfl ?_
        refine xj_getR (pc := 94) d_MO_find_94 fl_MO_16 rfl rfl ?_
        refine xj_iload_n (pc := 97) d_MO_find_97 rfl rfl ?_
        refine xj_iald (pc := 98) d_MO_find_98 (n := 10) (x := 21) rfl rfl hka (by decide) ?_
        refine xj_iadd (pc := 99) d_MO_find_99 ?_
        refine xj_iload (pc := 100) d_MO_find_100 rfl ?_
        refine xj_icmp_gt (pc := 102) (tgt := 120) d_MO_find_102 (by decide) (fun h102 => absurd h102 (by rw [n_lt, e1, n_nI (by omega)]; omega)) (fun h102 => ?_)
        refine xj_goto (pc := 105) (tgt := 116) d_MO_find_105 (by decide) ?_
        refine xj_iconst (pc := 116) (v := 1) d_MO_find_116 (by decide) ?_
        refine xj_goto (pc := 117) (tgt := 121) d_MO_find_117 (by decide) ?_
        refine xj_istore (pc := 121) d_MO_find_121 (by decide) rfl ?_
        dsimp only [xset, xset2, xkill]
        refine xj_iload (pc := 123) d_MO_find_123 rfl ?_
        refine xj_if_eq (pc := 125) (tgt := 145) d_MO_find_125 (by decide) (fun h125 => absurd h125 (by decide)) (fun h125 => ?_)
        refine xj_iload (pc := 128) d_MO_find_128 rfl ?_
        refine xj_if_ne (pc := 130) (tgt := 138) d_MO_find_130 (by decide) (fun h130 => ?_) (fun h130 => absurd h130 (hl))
        refine xj_iload (pc := 138) d_MO_find_138 rfl ?_
        refine xj_iconst (pc := 140) (v := 1) d_MO_find_140 (by decide) ?_
        refine xj_iadd (pc := 141) d_MO_find_141 ?_
        refine xj_goto (pc := 142) (tgt := 147) d_MO_find_142 (by decide) ?_
        refine xj_istore (pc := 147) d_MO_find_147 (by decide) rfl ?_
        dsimp only [xset, xset2, xkill]
        refine xj_inc1 (pc := 149) d_MO_find_149 rfl (by decide) rfl ?_
        dsimp only [xset, xset2, xkill]
        rw [n_up]
        refine xj_goto (pc := 152) (tgt := 64) d_MO_find_152 (by decide) ?_
        exact xj_take 8 hih
      · rw [decide_eq_false c2, Bool.and_false, if_neg (by decide)] at hih
        refine xj_iload (pc := 64) d_MO_find_64 rfl ?_
        refine xj_aload_n (pc := 66) d_MO_find_66 rfl rfl ?_
        refine xj_getR (pc := 67) d_MO_find_67 fl_MO_16 rfl rfl ?_
        refine xj_iload_n (pc := 70) d_MO_find_70 rfl rfl ?_
        refine xj_iald (pc := 71) d_MO_find_71 (n := 10) (x := 21) rfl rfl hkb (by decide) ?_
        refine xj_icmp_ge (pc := 72) (tgt := 155) d_MO_find_72 (by decide) (fun h72 => absurd h72 (by rw [n_le, sB, n_nI (by omega)]; omega)) (fun h72 => ?_)
        refine xj_aload_n (pc := 75) d_MO_find_75 rfl rfl ?_
        refine xj_iload_n (pc := 76) d_MO_find_76 rfl rfl ?_
        refine xj_iload_n (pc := 77) d_MO_find_77 rfl rfl ?_
        refine xj_iload (pc := 78) d_MO_find_78 rfl ?_
        refine xj_callV (pc := 80) d_MO_find_80 ml_MO_70 ok_MO_stands (s_MO_stands hka hkb hA hB (by omega)) rfl rfl rfl rfl rfl (Nat.le_of_ble_eq_true rfl) (by decide) ?_
        rintro rv I1 F1 ⟨rfl, rfl, rfl⟩
        dsimp only [Option.toList, List.cons_append, List.nil_append]
        refine xj_if_eq (pc := 83) (tgt := 120) d_MO_find_83 (by decide) (fun h83 => absurd h83 (by rw [c1]; decide)) (fun h83 => ?_)
        refine xj_iload (pc := 86) d_MO_find_86 rfl ?_
        refine xj_if_eq (pc := 88) (tgt := 108) d_MO_find_88 (by decide) (fun h88 => absurd h88 (hl)) (fun h88 => ?_)
        refine xj_iload (pc := 91) d_MO_find_91 rfl ?_
        refine xj_aload_n (pc := 93) d_MO_find_93 rfl rfl ?_
        refine xj_getR (pc := 94) d_MO_find_94 fl_MO_16 rfl rfl ?_
        refine xj_iload_n (pc := 97) d_MO_find_97 rfl rfl ?_
        refine xj_iald (pc := 98) d_MO_find_98 (n := 10) (x := 21) rfl rfl hka (by decide) ?_
        refine xj_iadd (pc := 99) d_MO_find_99 ?_
        refine xj_iload (pc := 100) d_MO_find_100 rfl ?_
        refine xj_icmp_gt (pc := 102) (tgt := 120) d_MO_find_102 (by decide) (fun h102 => ?_) (fun h102 => absurd (by rw [n_lt, e1, n_nI (by omega)]; omega) h102)
        refine xj_iconst (pc := 120) (v := 0) d_MO_find_120 (by decide) ?_
        refine xj_istore (pc := 121) d_MO_find_121 (by decide) rfl ?_
        dsimp only [xset, xset2, xkill]
        refine xj_iload (pc := 123) d_MO_find_123 rfl ?_
        refine xj_if_eq (pc := 125) (tgt := 145) d_MO_find_125 (by decide) (fun h125 => ?_) (fun h125 => absurd (rfl) h125)
        refine xj_iload (pc := 145) d_MO_find_145 rfl ?_
        refine xj_istore (pc := 147) d_MO_find_147 (by decide) rfl ?_
        dsimp only [xset, xset2, xkill]
        refine xj_inc1 (pc := 149) d_MO_find_149 rfl (by decide) rfl ?_
        dsimp only [xset, xset2, xkill]
        rw [n_up]
        refine xj_goto (pc := 152) (tgt := 64) d_MO_find_152 (by decide) ?_
        exact xj_take 8 hih
    · rw [show stands A B i = false by simpa using c1, Bool.false_and, if_neg (by decide)] at hih
      refine xj_iload (pc := 64) d_MO_find_64 rfl ?_
      refine xj_aload_n (pc := 66) d_MO_find_66 rfl rfl ?_
      refine xj_getR (pc := 67) d_MO_find_67 fl_MO_16 rfl rfl ?_
      refine xj_iload_n (pc := 70) d_MO_find_70 rfl rfl ?_
      refine xj_iald (pc := 71) d_MO_find_71 (n := 10) (x := 21) rfl rfl hkb (by decide) ?_
      refine xj_icmp_ge (pc := 72) (tgt := 155) d_MO_find_72 (by decide) (fun h72 => absurd h72 (by rw [n_le, sB, n_nI (by omega)]; omega)) (fun h72 => ?_)
      refine xj_aload_n (pc := 75) d_MO_find_75 rfl rfl ?_
      refine xj_iload_n (pc := 76) d_MO_find_76 rfl rfl ?_
      refine xj_iload_n (pc := 77) d_MO_find_77 rfl rfl ?_
      refine xj_iload (pc := 78) d_MO_find_78 rfl ?_
      refine xj_callV (pc := 80) d_MO_find_80 ml_MO_70 ok_MO_stands (s_MO_stands hka hkb hA hB (by omega)) rfl rfl rfl rfl rfl (Nat.le_of_ble_eq_true rfl) (by decide) ?_
      rintro rv I1 F1 ⟨rfl, rfl, rfl⟩
      dsimp only [Option.toList, List.cons_append, List.nil_append]
      refine xj_if_eq (pc := 83) (tgt := 120) d_MO_find_83 (by decide) (fun h83 => ?_) (fun h83 => absurd (by rw [show stands A B i = false by simpa using c1]; rfl) h83)
      refine xj_iconst (pc := 120) (v := 0) d_MO_find_120 (by decide) ?_
      refine xj_istore (pc := 121) d_MO_find_121 (by decide) rfl ?_
      dsimp only [xset, xset2, xkill]
      refine xj_iload (pc := 123) d_MO_find_123 rfl ?_
      refine xj_if_eq (pc := 125) (tgt := 145) d_MO_find_125 (by decide) (fun h125 => ?_) (fun h125 => absurd (rfl) h125)
      refine xj_iload (pc := 145) d_MO_find_145 rfl ?_
      refine xj_istore (pc := 147) d_MO_find_147 (by decide) rfl ?_
      dsimp only [xset, xset2, xkill]
      refine xj_inc1 (pc := 149) d_MO_find_149 rfl (by decide) rfl ?_
      dsimp only [xset, xset2, xkill]
      rw [n_up]
      refine xj_goto (pc := 152) (tgt := 64) d_MO_find_152 (by decide) ?_
      exact xj_take 8 hih
theorem nf_none {a b k last : Int32} (h : MI I F S) (hq : isR a = false ∨ isR b = false ∨ (last = 0 ∧ k.toInt < 1) ∨ (¬ k = -1 ∧ k.toInt < 1)) : NQ (sp_find S a b k last, S) I F (some (.int (-1))) I F := by
  have e : sp_find S a b k last = -1 := by
    rw [sp_find, if_neg]
    intro q
    simp only [Bool.and_eq_true, Bool.or_eq_true, decide_eq_true_eq] at q
    rcases hq with hq | hq | hq | hq
    · rw [hq] at q; exact absurd q.1.1 (by decide)
    · rw [hq] at q; exact absurd q.1.2 (by decide)
    · rcases q.2 with q2 | q2
      · omega
      · exact q2.2 hq.1
    · rcases q.2 with q2 | q2
      · omega
      · exact hq.1 (by rw [n_eq, n_m1]; exact q2.1)
  rw [e]; exact nk_ans h
theorem t_MO_find_e {a b k last : Int32} (hI : MI I F S) (ha : isR a = true) (hb : isR b = true) (hk : 1 ≤ k.toInt ∨ (k.toInt = -1 ∧ ¬ last = 0)) : XJ none m_MO_find 31 [some (.ref 36), some (.int a), some (.int b), some (.int k), some (.int last)] [] I F (NQ (sp_find S a b k last, S) I F) := by
  have := n_hi k
  rw [sp_find, if_pos (by simp only [ha, hb, Bool.true_and, Bool.or_eq_true, Bool.and_eq_true, decide_eq_true_eq]; exact hk)]
  try dsimp only
  obtain ⟨ka, hka, rfl, ta⟩ := isR_k ha
  obtain ⟨kb, hkb, rfl, tb⟩ := isR_k hb
  have hA := hI.at hka ta
  have hB := hI.at hkb tb
  have sB := hB.sz
  have h2 := hB.2.1
  have hfin : ∀ (x : Int32), x.toInt = ((if k.toInt = -1 ∨ ((sR S (nI kb)).length : Int) < k.toInt then (sR S (nI kb)).length else k.toInt.toNat : Nat) : Int) → XJ none m_MO_find 64 [some (.ref 36), some (.int (nI ka)), some (.int (nI kb)), some (.int k), some (.int last), some (.int 0), some (.int x), some (.int 0)] [] I F (NQ (if last = 0 then nI (ff (stands (sR S (nI ka)) (sR S (nI kb))) ((sR S (nI kb)).length - (k.toInt.toNat - 1)) (k.toInt.toNat - 1)) else nI (fl (stands (sR S (nI ka)) (sR S (nI kb))) ((if k.toInt = -1 ∨ ((sR S (nI kb)).length : Int) < k.toInt then (sR S (nI kb)).length else k.toInt.toNat) + 1 - (sR S (nI ka)).length)), S) I F) := by
    intro x hx
    by_cases hl : last = 0
    · rw [if_pos hl]
      have hk1 : 1 ≤ k.toInt := by rcases hk with q | q; exact q; exact absurd hl q.2
      have e : ff (stands (sR S (nI ka)) (sR S (nI kb))) ((sR S (nI kb)).length - (k.toInt.toNat - 1)) (k.toInt.toNat - 1) = ff (fun q => stands (sR S (nI ka)) (sR S (nI kb)) q && decide (k.toInt ≤ q + 1)) (sR S (nI kb)).length 0 := by
        rcases Nat.lt_or_ge (k.toInt.toNat - 1) (sR S (nI kb)).length with z | z
        · have := ff_skip (fun q => stands (sR S (nI ka)) (sR S (nI kb)) q && decide (k.toInt ≤ q + 1)) (k.toInt.toNat - 1) ((sR S (nI kb)).length - (k.toInt.toNat - 1)) 0 (fun q hq => by show (_ && decide (k.toInt ≤ ((0 + q : Nat) : Int) + 1)) = false; rw [decide_eq_false (by omega), Bool.and_false])
          rw [show k.toInt.toNat - 1 + ((sR S (nI kb)).length - (k.toInt.toNat - 1)) = (sR S (nI kb)).length by omega, Nat.zero_add] at this
          rw [this]
          apply ff_congr
          intro q h3 h4
          show _ = (_ && decide (k.toInt ≤ (q : Int) + 1))
          rw [decide_eq_true (by omega), Bool.and_true]
        · rw [show (sR S (nI kb)).length - (k.toInt.toNat - 1) = 0 by omega, ff, ff_none _ _ _ (fun q h3 h4 => by show (_ && decide (k.toInt ≤ (q : Int) + 1)) = false; rw [decide_eq_false (by omega), Bool.and_false])]
      rw [e]
      exact t_MO_find_l0 hI hl hka hkb hA hB _ 0 (by rw [Nat.zero_add])
    · rw [if_neg hl]
      obtain rfl := n_of hx
      have hee : (if k.toInt = -1 ∨ ((sR S (nI kb)).length : Int) < k.toInt then (sR S (nI kb)).length else k.toInt.toNat) ≤ (sR S (nI kb)).length := by split <;> omega
      generalize (if k.toInt = -1 ∨ ((sR S (nI kb)).length : Int) < k.toInt then (sR S (nI kb)).length else k.toInt.toNat) = ee at hee hx ⊢
      have e : fl (stands (sR S (nI ka)) (sR S (nI kb))) (ee + 1 - (sR S (nI ka)).length) = fl (fun q => stands (sR S (nI ka)) (sR S (nI kb)) q && decide (q < ee + 1 - (sR S (nI ka)).length)) (sR S (nI kb)).length := by
        rcases Nat.eq_zero_or_pos (sR S (nI ka)).length with z | z
        · have hno : ∀ q, stands (sR S (nI ka)) (sR S (nI kb)) q = false := fun q => by
            cases hs : stands (sR S (nI ka)) (sR S (nI kb)) q with
            | false => rfl
            | true => have := st_pos hs; omega
          have hz : ∀ (P : Nat → Bool) n, (∀ q, P q = false) → fl P n = 0 := by
            intro P n hP
            induction n with
            | zero => rfl
            | succ n ih => rw [fl, hP n, if_neg (by decide), ih]
          rw [hz _ _ hno, hz _ _ (fun q => by rw [hno q]; rfl)]
        · exact (fl_cut _ (fun q _ => rfl) (by omega)).symm
      rw [e]
      exact t_MO_find_l1 hI hl hka hkb hA hB (by omega) _ 0 (by rw [Nat.zero_add])
  refine xj_iconst (pc := 31) (v := 0) d_MO_find_31 (by decide) ?_
  refine xj_istore (pc := 32) d_MO_find_32 (by decide) rfl ?_
  dsimp only [xset, xset2, xkill]
  refine xj_iload_n (pc := 34) d_MO_find_34 rfl rfl ?_
  refine xj_iconst (pc := 35) (v := -1) d_MO_find_35 (by decide) ?_
  refine xj_icmp_eq (pc := 36) (tgt := 49) d_MO_find_36 (by decide) (fun h36 => ?_) (fun h36 => ?_)
  · refine xj_aload_n (pc := 49) d_MO_find_49 rfl rfl ?_
    refine xj_getR (pc := 50) d_MO_find_50 fl_MO_16 rfl rfl ?_
    refine xj_iload_n (pc := 53) d_MO_find_53 rfl rfl ?_
    refine xj_iald (pc := 54) d_MO_find_54 (n := 10) (x := 21) rfl rfl hkb (by decide) ?_
    refine xj_goto (pc := 55) (tgt := 59) d_MO_find_55 (by decide) ?_
    refine xj_istore (pc := 59) d_MO_find_59 (by decide) rfl ?_
    dsimp only [xset, xset2, xkill]
    refine xj_iconst (pc := 61) (v := 0) d_MO_find_61 (by decide) ?_
    refine xj_istore (pc := 62) d_MO_find_62 (by decide) rfl ?_
    dsimp only [xset, xset2, xkill]
    refine hfin _ ?_
    first | (rw [if_pos (Or.inl (by rw [h36, n_m1])), sB]; done) | (rw [n_le, sB] at h46; have hk2 : ¬ k.toInt = -1 := (fun q => h36 (by rw [n_eq, n_m1]; exact q)); first | (rw [if_neg (by omega)]; omega) | (rw [if_pos (by omega), sB]))
  · refine xj_iload_n (pc := 39) d_MO_find_39 rfl rfl ?_
    refine xj_aload_n (pc := 40) d_MO_find_40 rfl rfl ?_
    refine xj_getR (pc := 41) d_MO_find_41 fl_MO_16 rfl rfl ?_
    refine xj_iload_n (pc := 44) d_MO_find_44 rfl rfl ?_
    refine xj_iald (pc := 45) d_MO_find_45 (n := 10) (x := 21) rfl rfl hkb (by decide) ?_
    refine xj_icmp_le (pc := 46) (tgt := 58) d_MO_find_46 (by decide) (fun h46 => ?_) (fun h46 => ?_)
    · refine xj_iload_n (pc := 58) d_MO_find_58 rfl rfl ?_
      refine xj_istore (pc := 59) d_MO_find_59 (by decide) rfl ?_
      dsimp only [xset, xset2, xkill]
      refine xj_iconst (pc := 61) (v := 0) d_MO_find_61 (by decide) ?_
      refine xj_istore (pc := 62) d_MO_find_62 (by decide) rfl ?_
      dsimp only [xset, xset2, xkill]
      refine hfin _ ?_
      first | (rw [if_pos (Or.inl (by rw [h36, n_m1])), sB]; done) | (rw [n_le, sB] at h46; have hk2 : ¬ k.toInt = -1 := (fun q => h36 (by rw [n_eq, n_m1]; exact q)); first | (rw [if_neg (by omega)]; omega) | (rw [if_pos (by omega), sB]))
    · refine xj_aload_n (pc := 49) d_MO_find_49 rfl rfl ?_
      refine xj_getR (pc := 50) d_MO_find_50 fl_MO_16 rfl rfl ?_
      refine xj_iload_n (pc := 53) d_MO_find_53 rfl rfl ?_
      refine xj_iald (pc := 54) d_MO_find_54 (n := 10) (x := 21) rfl rfl hkb (by decide) ?_
      refine xj_goto (pc := 55) (tgt := 59) d_MO_find_55 (by decide) ?_
      refine xj_istore (pc := 59) d_MO_find_59 (by decide) rfl ?_
      dsimp only [xset, xset2, xkill]
      refine xj_iconst (pc := 61) (v := 0) d_MO_find_61 (by decide) ?_
      refine xj_istore (pc := 62) d_MO_find_62 (by decide) rfl ?_
      dsimp only [xset, xset2, xkill]
      refine hfin _ ?_
      first | (rw [if_pos (Or.inl (by rw [h36, n_m1])), sB]; done) | (rw [n_le, sB] at h46; have hk2 : ¬ k.toInt = -1 := (fun q => h36 (by rw [n_eq, n_m1]; exact q)); first | (rw [if_neg (by omega)]; omega) | (rw [if_pos (by omega), sB]))
theorem t_MO_find {a b k last : Int32} (hI : MI I F S) : XM m_MO_find [.ref 36, .int a, .int b, .int k, .int last] I F (NQ (sp_find S a b k last, S) I F) := by
  refine XM.of (by decide) (Nat.le_of_ble_eq_true rfl) ?_
  dsimp only [xargs]
  have := n_hi k
  have hcl : (¬ 1 ≤ k.toInt) → k = -1 → last = 0 → k.toInt < 1 := fun _ q _ => by rw [q, n_m1]; decide
  refine xj_iload_n (pc := 0) d_MO_find_0 rfl rfl ?_
  refine xj_callS (pc := 1) d_MO_find_1 ml_MO_42 ok_MO_is (s_MO_is) rfl rfl rfl (Nat.le_of_ble_eq_true rfl) (by decide) ?_
  rintro rv I1 F1 ⟨rfl, rfl, rfl⟩
  dsimp only [Option.toList, List.cons_append, List.nil_append]
  refine xj_if_eq (pc := 4) (tgt := 29) d_MO_find_4 (by decide) (fun h4 => ?_) (fun h4 => ?_)
  · refine xj_iconst (pc := 29) (v := -1) d_MO_find_29 (by decide) ?_
    refine xj_iret (pc := 30) d_MO_find_30 rfl ?_
    first | exact nf_none hI (Or.inr (Or.inl (b01_eq h11))) | exact nf_none hI (Or.inl (b01_eq h4)) | (rw [n_le, n_1] at h16; first | exact nf_none hI (Or.inr (Or.inr (Or.inl ⟨h21, by omega⟩))) | exact nf_none hI (Or.inr (Or.inr (Or.inr ⟨h26, by omega⟩))))
  · refine xj_iload_n (pc := 7) d_MO_find_7 rfl rfl ?_
    refine xj_callS (pc := 8) d_MO_find_8 ml_MO_42 ok_MO_is (s_MO_is) rfl rfl rfl (Nat.le_of_ble_eq_true rfl) (by decide) ?_
    rintro rv I1 F1 ⟨rfl, rfl, rfl⟩
    dsimp only [Option.toList, List.cons_append, List.nil_append]
    refine xj_if_eq (pc := 11) (tgt := 29) d_MO_find_11 (by decide) (fun h11 => ?_) (fun h11 => ?_)
    · refine xj_iconst (pc := 29) (v := -1) d_MO_find_29 (by decide) ?_
      refine xj_iret (pc := 30) d_MO_find_30 rfl ?_
      first | exact nf_none hI (Or.inr (Or.inl (b01_eq h11))) | exact nf_none hI (Or.inl (b01_eq h4)) | (rw [n_le, n_1] at h16; first | exact nf_none hI (Or.inr (Or.inr (Or.inl ⟨h21, by omega⟩))) | exact nf_none hI (Or.inr (Or.inr (Or.inr ⟨h26, by omega⟩))))
    · refine xj_iload_n (pc := 14) d_MO_find_14 rfl rfl ?_
      refine xj_iconst (pc := 15) (v := 1) d_MO_find_15 (by decide) ?_
      refine xj_icmp_ge (pc := 16) (tgt := 31) d_MO_find_16 (by decide) (fun h16 => ?_) (fun h16 => ?_)
      · have ha := b01_ne h4
        have hb := b01_ne h11
        have hk1 : 1 ≤ k.toInt ∨ (k.toInt = -1 ∧ ¬ last = 0) := by (first | exact Or.inl (by rw [n_le, n_1] at h16; exact h16) | exact Or.inr ⟨by rw [h26, n_m1], h21⟩)
        exact t_MO_find_e hI ha hb hk1
      · refine xj_iload (pc := 19) d_MO_find_19 rfl ?_
        refine xj_if_eq (pc := 21) (tgt := 29) d_MO_find_21 (by decide) (fun h21 => ?_) (fun h21 => ?_)
        · refine xj_iconst (pc := 29) (v := -1) d_MO_find_29 (by decide) ?_
          refine xj_iret (pc := 30) d_MO_find_30 rfl ?_
          first | exact nf_none hI (Or.inr (Or.inl (b01_eq h11))) | exact nf_none hI (Or.inl (b01_eq h4)) | (rw [n_le, n_1] at h16; first | exact nf_none hI (Or.inr (Or.inr (Or.inl ⟨h21, by omega⟩))) | exact nf_none hI (Or.inr (Or.inr (Or.inr ⟨h26, by omega⟩))))
        · refine xj_iload_n (pc := 24) d_MO_find_24 rfl rfl ?_
          refine xj_iconst (pc := 25) (v := -1) d_MO_find_25 (by decide) ?_
          refine xj_icmp_eq (pc := 26) (tgt := 31) d_MO_find_26 (by decide) (fun h26 => ?_) (fun h26 => ?_)
          · have ha := b01_ne h4
            have hb := b01_ne h11
            have hk1 : 1 ≤ k.toInt ∨ (k.toInt = -1 ∧ ¬ last = 0) := by (first | exact Or.inl (by rw [n_le, n_1] at h16; exact h16) | exact Or.inr ⟨by rw [h26, n_m1], h21⟩)
            exact t_MO_find_e hI ha hb hk1
          · refine xj_iconst (pc := 29) (v := -1) d_MO_find_29 (by decide) ?_
            refine xj_iret (pc := 30) d_MO_find_30 rfl ?_
            first | exact nf_none hI (Or.inr (Or.inl (b01_eq h11))) | exact nf_none hI (Or.inl (b01_eq h4)) | (rw [n_le, n_1] at h16; first | exact nf_none hI (Or.inr (Or.inr (Or.inl ⟨h21, by omega⟩))) | exact nf_none hI (Or.inr (Or.inr (Or.inr ⟨h26, by omega⟩))))
end MOE
