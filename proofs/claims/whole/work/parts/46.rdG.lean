section RDG
variable {I I1 I2 : XI} {F F1 F2 : XF} {S : XSt} {k : Nat} {M X L : List Int32}
theorem OKS.bb (h : OKS S) (hk : k < 10) {a : Int32} (ha : a.toInt.toNat = k) : ∀ b ∈ sR S a, bt b := by rw [sR, ha]; exact (h.2.1 k hk).2
/-! verify -/
theorem t_RD_verify_l1 {a b kk other : Int32} {ka kb : Nat} {B : List Int32} {P : XP} (hb : ∀ x ∈ B, bt x) (hkb : kb < 10) (hB : Rl I F kb B) (k2 : ∀ (F1 : XF) (f : Nat → Int32), (∀ x, x ≠ 18 → F1 x = F x) → Tb F1 f → (∀ c, c < 256 → f c = if nI c ∈ B then 1 else 0) → XJ none m_RD_verify 74 [some (.ref 24), some (.int a), some (.int b), some (.int kk), some (.int other), some (.ref ka), some (.ref kb)] [] I F1 P) : ∀ (m i : Nat) (F1 : XF) (f : Nat → Int32), i + m = B.length → (∀ x, x ≠ 18 → F1 x = F x) → Tb F1 f → (∀ c, c < 256 → f c = if nI c ∈ B.take i then 1 else 0) →
    XJ none m_RD_verify 42 [some (.ref 24), some (.int a), some (.int b), some (.int kk), some (.int other), some (.ref ka), some (.ref kb), some (.int (nI i))] [] I F1 P := by
  have eB := hB.ti
  have hBl := hB.lt
  intro m
  induction m with
  | zero =>
    intro i F1 f hi h1 h2 h3
    refine xj_iload (pc := 42) d_RD_verify_42 rfl ?_
    refine xj_aload (pc := 44) d_RD_verify_44 rfl ?_
    refine xj_callV (pc := 46) d_RD_verify_46 ml_RD_46 ok_RW_length (s_RW_length (by omega)) rfl rfl (xsh_row (by omega)) rfl rfl (Nat.le_of_ble_eq_true rfl) (by decide) ?_
    rintro rv I1 F1 ⟨rfl, rfl, rfl⟩
    dsimp only [Option.toList, List.cons_append, List.nil_append]
    refine xj_icmp_ge (pc := 49) (tgt := 74) d_RD_verify_49 (by decide) (fun h49 => ?_) (fun h49 => absurd (by rw [n_le, n_nI (by omega)]; omega) h49)
    exact xj_take 7 (k2 F1 f h1 h2 (fun c hc => by rw [h3 c hc, List.take_of_length_le (by omega)]))
  | succ m ih =>
    intro i F1 f hi h1 h2 h3
    have hget : B[i]? = some B[i] := List.getElem?_eq_getElem (by omega)
    obtain ⟨c, hc, ec⟩ := bt_n (hb B[i] (List.getElem_mem _))
    rw [ec] at hget
    have hB1 : Rl I F1 kb B := Tc.kp ⟨rfl, h1⟩ (by omega) hB
    refine xj_iload (pc := 42) d_RD_verify_42 rfl ?_
    refine xj_aload (pc := 44) d_RD_verify_44 rfl ?_
    refine xj_callV (pc := 46) d_RD_verify_46 ml_RD_46 ok_RW_length (s_RW_length (by omega)) rfl rfl (xsh_row (by omega)) rfl rfl (Nat.le_of_ble_eq_true rfl) (by decide) ?_
    rintro rv I1 F1 ⟨rfl, rfl, rfl⟩
    dsimp only [Option.toList, List.cons_append, List.nil_append]
    refine xj_icmp_ge (pc := 49) (tgt := 74) d_RD_verify_49 (by decide) (fun h49 => absurd h49 (by rw [n_le, n_nI (by omega)]; omega)) (fun h49 => ?_)
    refine xj_aload_n (pc := 52) d_RD_verify_52 rfl rfl ?_
    refine xj_getR (pc := 53) d_RD_verify_53 fl_RD_38 rfl rfl ?_
    refine xj_aload (pc := 56) d_RD_verify_56 rfl ?_
    refine xj_iload (pc := 58) d_RD_verify_58 rfl ?_
    refine xj_iconst (pc := 60) (v := -1) d_RD_verify_60 (by decide) ?_
    refine xj_callV (pc := 61) d_RD_verify_61 ml_RD_64 ok_RW_byteOr (s_RW_byteOr (by omega) hB1) rfl rfl (xsh_row (by omega)) rfl rfl (Nat.le_of_ble_eq_true rfl) (by decide) ?_
    rintro rv I1 F1 ⟨rfl, rfl, rfl⟩
    dsimp only [Option.toList, List.cons_append, List.nil_append]
    rw [rg_n (by omega), hget, Option.getD_some]
    refine xj_iconst (pc := 64) (v := 1) d_RD_verify_64 (by decide) ?_
    refine xj_callV (pc := 65) d_RD_verify_65 ml_RD_133 ok_BT_note (s_BT_note hc h2) rfl rfl rfl rfl rfl (Nat.le_of_ble_eq_true rfl) (by decide) ?_
    rintro rv I2 F2 ⟨rfl, ⟨rfl, g1⟩, g2⟩
    dsimp only [Option.toList, List.cons_append, List.nil_append]
    refine xj_inc1 (pc := 68) d_RD_verify_68 rfl (by decide) rfl ?_
    dsimp only [xset, xset2, xkill]
    rw [n_up]
    refine xj_goto (pc := 71) (tgt := 42) d_RD_verify_71 (by decide) ?_
    refine ih (i + 1) F2 _ (by omega) (fun x hx => (g1 x hx).trans (h1 x hx)) g2 (fun d hd => ?_)
    rw [eo_up h3 hc d hd, List.take_add_one, hget]
    simp only [Option.toList, List.mem_cons, List.mem_append, List.not_mem_nil, or_false]
    congr 1
    exact propext ⟨fun q => q.symm, fun q => q.symm⟩
theorem t_RD_verify_l2 {a b kk other w : Int32} {ka kb : Nat} {A B : List Int32} {f : Nat → Int32} (hC : CI I F S) (hX : CX I F I1 F1) (hM : ∃ M, Rl I1 F1 10 M) (hb : ∀ x ∈ A, bt x) (hka : ka < 10) (hA : Rl I1 F1 ka A) (hT : Tb F1 f) (hf : ∀ c, c < 256 → f c = if nI c ∈ B then 1 else 0) (hw : w = if other = 0 then 1 else 0) : ∀ (m i : Nat), A.length - i = m → i < 2147483648 →
    XJ none m_RD_verify 91 [some (.ref 24), some (.int a), some (.int b), some (.int kk), some (.int other), some (.ref ka), some (.ref kb), some (.int w), some (.int (nI i))] [] I1 F1 (CQ (nI (ff (fun q => decide (A.getD q 0 ∈ B) != decide (other ≠ 0)) m i), S) I F) := by
  have eA := hA.ti
  have hAl := hA.lt
  intro m
  induction m with
  | zero =>
    intro i hi hi2
    refine xj_iload (pc := 91) d_RD_verify_91 rfl ?_
    refine xj_aload (pc := 93) d_RD_verify_93 rfl ?_
    refine xj_callV (pc := 95) d_RD_verify_95 ml_RD_46 ok_RW_length (s_RW_length (by omega)) rfl rfl (xsh_row (by omega)) rfl rfl (Nat.le_of_ble_eq_true rfl) (by decide) ?_
    rintro rv I1 F1 ⟨rfl, rfl, rfl⟩
    dsimp only [Option.toList, List.cons_append, List.nil_append]
    refine xj_icmp_ge (pc := 98) (tgt := 132) d_RD_verify_98 (by decide) (fun h98 => ?_) (fun h98 => absurd (by rw [n_le, n_nI (by omega)]; omega) h98)
    refine xj_iconst (pc := 132) (v := 0) d_RD_verify_132 (by decide) ?_
    refine xj_iret (pc := 133) d_RD_verify_133 rfl ?_
    exact ck_ansX hC hX hM
  | succ m ih =>
    intro i hi hi2
    have hlt : i < A.length := by omega
    have hget : A[i]? = some A[i] := List.getElem?_eq_getElem hlt
    obtain ⟨c, hc, ec⟩ := bt_n (hb A[i] (List.getElem_mem _))
    rw [ec] at hget
    have hd : A.getD i 0 = nI c := by rw [List.getD_eq_getElem?_getD, hget]; rfl
    have key : (f c = w) ↔ (decide (A.getD i 0 ∈ B) != decide (other ≠ 0)) = true := by
      rw [hf c hc, hw, hd]
      by_cases q1 : nI c ∈ B <;> by_cases q2 : other = 0 <;> simp [q1, q2]
    refine xj_iload (pc := 91) d_RD_verify_91 rfl ?_
    refine xj_aload (pc := 93) d_RD_verify_93 rfl ?_
    refine xj_callV (pc := 95) d_RD_verify_95 ml_RD_46 ok_RW_length (s_RW_length (by omega)) rfl rfl (xsh_row (by omega)) rfl rfl (Nat.le_of_ble_eq_true rfl) (by decide) ?_
    rintro rv I1 F1 ⟨rfl, rfl, rfl⟩
    dsimp only [Option.toList, List.cons_append, List.nil_append]
    refine xj_icmp_ge (pc := 98) (tgt := 132) d_RD_verify_98 (by decide) (fun h98 => absurd h98 (by rw [n_le, n_nI (by omega)]; omega)) (fun h98 => ?_)
    refine xj_aload_n (pc := 101) d_RD_verify_101 rfl rfl ?_
    refine xj_getR (pc := 102) d_RD_verify_102 fl_RD_38 rfl rfl ?_
    refine xj_aload (pc := 105) d_RD_verify_105 rfl ?_
    refine xj_iload (pc := 107) d_RD_verify_107 rfl ?_
    refine xj_iconst (pc := 109) (v := -1) d_RD_verify_109 (by decide) ?_
    refine xj_callV (pc := 110) d_RD_verify_110 ml_RD_64 ok_RW_byteOr (s_RW_byteOr (by omega) hA) rfl rfl (xsh_row (by omega)) rfl rfl (Nat.le_of_ble_eq_true rfl) (by decide) ?_
    rintro rv I1 F1 ⟨rfl, rfl, rfl⟩
    dsimp only [Option.toList, List.cons_append, List.nil_append]
    rw [rg_n (by omega), hget, Option.getD_some]
    refine xj_callV (pc := 113) d_RD_verify_113 ml_RD_136 ok_BT_noted (s_BT_noted hc hT) rfl rfl rfl rfl rfl (Nat.le_of_ble_eq_true rfl) (by decide) ?_
    rintro rv I1 F1 ⟨rfl, rfl, rfl⟩
    dsimp only [Option.toList, List.cons_append, List.nil_append]
    refine xj_iload (pc := 116) d_RD_verify_116 rfl ?_
    refine xj_icmp_ne (pc := 118) (tgt := 126) d_RD_verify_118 (by decide) (fun h118 => ?_) (fun h118 => ?_)
    · refine xj_inc1 (pc := 126) d_RD_verify_126 rfl (by decide) rfl ?_
      dsimp only [xset, xset2, xkill]
      rw [n_up]
      refine xj_goto (pc := 129) (tgt := 91) d_RD_verify_129 (by decide) ?_
      rw [ff, if_neg (fun q => h118 (key.mpr q))]
      exact ih (i + 1) (by omega) (by omega)
    · refine xj_iload (pc := 121) d_RD_verify_121 rfl ?_
      refine xj_iconst (pc := 123) (v := 1) d_RD_verify_123 (by decide) ?_
      refine xj_iadd (pc := 124) d_RD_verify_124 ?_
      refine xj_iret (pc := 125) d_RD_verify_125 rfl ?_
      rw [ff, if_pos (key.mp h118), n_up]
      exact ck_ansX hC hX hM
theorem t_RD_verify {a b k other : Int32} (hS : OKS S) (hC : CI I F S) : XM m_RD_verify [.ref 24, .int a, .int b, .int k, .int other] I F (CQ (sp_verify S a b k other, S) I F) := by
  refine XM.of (by decide) (Nat.le_of_ble_eq_true rfl) ?_
  dsimp only [xargs]
  have := n_hi k
  have hend : ∀ (ka kb : Nat) (F1 : XF) (f : Nat → Int32), ka < 10 → kb < 10 → a.toInt.toNat = ka → b.toInt.toNat = kb → 1 ≤ k.toInt → (∀ x, x ≠ 18 → F1 x = F x) → Tb F1 f → (∀ c, c < 256 → f c = if nI c ∈ sR S b then 1 else 0) → XJ none m_RD_verify 74 [some (.ref 24), some (.int a), some (.int b), some (.int k), some (.int other), some (.ref ka), some (.ref kb)] [] I F1 (CQ (nI (ff (fun q => decide ((sR S a).getD q 0 ∈ sR S b) != decide (other ≠ 0)) ((sR S a).length - (k.toInt.toNat - 1)) (k.toInt.toNat - 1)), S) I F) := by
    intro ka kb F1 f hka hkb ha hb hk h1 h2 h3
    have ht : Tc I F I F1 := ⟨rfl, h1⟩
    refine xj_iload (pc := 74) d_RD_verify_74 rfl ?_
    refine xj_if_eq (pc := 76) (tgt := 83) d_RD_verify_76 (by decide) (fun h76 => ?_) (fun h76 => ?_)
    · refine xj_iconst (pc := 83) (v := 1) d_RD_verify_83 (by decide) ?_
      refine xj_istore (pc := 84) d_RD_verify_84 (by decide) rfl ?_
      dsimp only [xset, xset2, xkill]
      refine xj_iload_n (pc := 86) d_RD_verify_86 rfl rfl ?_
      refine xj_iconst (pc := 87) (v := 1) d_RD_verify_87 (by decide) ?_
      refine xj_isub (pc := 88) d_RD_verify_88 ?_
      refine xj_istore (pc := 89) d_RD_verify_89 (by decide) rfl ?_
      dsimp only [xset, xset2, xkill]
      rw [n_of (x := k - 1) (n := k.toInt.toNat - 1) (by rw [n_k1 hk]; omega)]
      exact t_RD_verify_l2 hC ht.cx (hC.2.2.2.elim fun M hM => ⟨M, ht.kp (by decide) hM⟩) (hS.bb hka ha) hka (ht.kp (by omega) (hC.at hka ha)) h2 h3 (by first | rw [if_pos h76] | rw [if_neg h76]) _ _ rfl (by omega)
    · refine xj_iconst (pc := 79) (v := 0) d_RD_verify_79 (by decide) ?_
      refine xj_goto (pc := 80) (tgt := 84) d_RD_verify_80 (by decide) ?_
      refine xj_istore (pc := 84) d_RD_verify_84 (by decide) rfl ?_
      dsimp only [xset, xset2, xkill]
      refine xj_iload_n (pc := 86) d_RD_verify_86 rfl rfl ?_
      refine xj_iconst (pc := 87) (v := 1) d_RD_verify_87 (by decide) ?_
      refine xj_isub (pc := 88) d_RD_verify_88 ?_
      refine xj_istore (pc := 89) d_RD_verify_89 (by decide) rfl ?_
      dsimp only [xset, xset2, xkill]
      rw [n_of (x := k - 1) (n := k.toInt.toNat - 1) (by rw [n_k1 hk]; omega)]
      exact t_RD_verify_l2 hC ht.cx (hC.2.2.2.elim fun M hM => ⟨M, ht.kp (by decide) hM⟩) (hS.bb hka ha) hka (ht.kp (by omega) (hC.at hka ha)) h2 h3 (by first | rw [if_pos h76] | rw [if_neg h76]) _ _ rfl (by omega)
  refine xj_aload_n (pc := 0) d_RD_verify_0 rfl rfl ?_
  refine xj_iload_n (pc := 1) d_RD_verify_1 rfl rfl ?_
  rcases regc a with ⟨k_a, hk_a, e_a, i_a, t_a⟩ | i_a
  · refine xj_callV (pc := 2) d_RD_verify_2 ml_RD_56 ok_RD_register (s_RD_register_k hk_a e_a) rfl rfl rfl rfl rfl (Nat.le_of_ble_eq_true rfl) (by decide) ?_
    rintro rv I1 F1 ⟨rfl, rfl, rfl⟩
    dsimp only [Option.toList, List.cons_append, List.nil_append]
    refine xj_astore (pc := 5) d_RD_verify_5 (by decide) rfl ?_
    dsimp only [xset, xset2, xkill]
    refine xj_aload_n (pc := 7) d_RD_verify_7 rfl rfl ?_
    refine xj_iload_n (pc := 8) d_RD_verify_8 rfl rfl ?_
    rcases regc b with ⟨k_b, hk_b, e_b, i_b, t_b⟩ | i_b
    · refine xj_callV (pc := 9) d_RD_verify_9 ml_RD_56 ok_RD_register (s_RD_register_k hk_b e_b) rfl rfl rfl rfl rfl (Nat.le_of_ble_eq_true rfl) (by decide) ?_
      rintro rv I1 F1 ⟨rfl, rfl, rfl⟩
      dsimp only [Option.toList, List.cons_append, List.nil_append]
      refine xj_astore (pc := 12) d_RD_verify_12 (by decide) rfl ?_
      dsimp only [xset, xset2, xkill]
      refine xj_aload (pc := 14) d_RD_verify_14 rfl ?_
      refine xj_ifnull (pc := 16) d_RD_verify_16 ?_
      refine xj_aload (pc := 19) d_RD_verify_19 rfl ?_
      refine xj_ifnull (pc := 21) d_RD_verify_21 ?_
      refine xj_iload_n (pc := 24) d_RD_verify_24 rfl rfl ?_
      refine xj_iconst (pc := 25) (v := 1) d_RD_verify_25 (by decide) ?_
      refine xj_icmp_ge (pc := 26) (tgt := 31) d_RD_verify_26 (by decide) (fun h26 => ?_) (fun h26 => ?_)
      · simp only [n_lt, n_le, c_gt, c_le, c_lt, c_ge, not_lt_i, not_le_i, n_0, n_1, n_2, n_3, n_4, n_m1, n_10, n_200, n_240, n_256] at h26
        rw [sp_verify, if_pos (by simp only [i_a, i_b, Bool.true_and, decide_eq_true_eq]; omega)]
        refine xj_aload_n (pc := 31) d_RD_verify_31 rfl rfl ?_
        refine xj_getR (pc := 32) d_RD_verify_32 fl_RD_38 rfl rfl ?_
        refine xj_iconst (pc := 35) (v := 0) d_RD_verify_35 (by decide) ?_
        refine xj_callV (pc := 36) d_RD_verify_36 ml_RD_130 ok_BT_setAll (s_BT_setAll) rfl rfl rfl rfl rfl (Nat.le_of_ble_eq_true rfl) (by decide) ?_
        rintro rv I1 F1 ⟨rfl, ⟨rfl, g1⟩, g2⟩
        dsimp only [Option.toList, List.cons_append, List.nil_append]
        refine xj_iconst (pc := 39) (v := 0) d_RD_verify_39 (by decide) ?_
        refine xj_istore (pc := 40) d_RD_verify_40 (by decide) rfl ?_
        dsimp only [xset, xset2, xkill]
        exact t_RD_verify_l1 (hS.bb hk_b t_b) hk_b (Tc.kp ⟨rfl, g1⟩ (by omega) (hC.at hk_b t_b)) (fun F2 f g3 g4 g5 => hend k_a k_b F2 f hk_a hk_b t_a t_b (by omega) (fun x hx => (g3 x hx).trans (g1 x hx)) g4 g5) _ 0 F1 _ (by rw [Nat.zero_add]) (fun _ _ => rfl) g2 (fun c hc => by simp)
      · simp only [n_lt, n_le, c_gt, c_le, c_lt, c_ge, not_lt_i, not_le_i, n_0, n_1, n_2, n_3, n_4, n_m1, n_10, n_200, n_240, n_256] at h26
        refine xj_iconst (pc := 29) (v := -1) d_RD_verify_29 (by decide) ?_
        refine xj_iret (pc := 30) d_RD_verify_30 rfl ?_
        rw [sp_verify, if_neg (fun q => by simp only [Bool.and_eq_true, decide_eq_true_eq] at q; first | omega | simp_all)]
        exact ck_ans hC
    · refine xj_callV (pc := 9) d_RD_verify_9 ml_RD_56 ok_RD_register (s_RD_register_n i_b) rfl rfl rfl rfl rfl (Nat.le_of_ble_eq_true rfl) (by decide) ?_
      rintro rv I1 F1 ⟨rfl, rfl, rfl⟩
      dsimp only [Option.toList, List.cons_append, List.nil_append]
      refine xj_astoreN (pc := 12) d_RD_verify_12 (by decide) rfl ?_
      dsimp only [xset, xset2, xkill]
      refine xj_aload (pc := 14) d_RD_verify_14 rfl ?_
      refine xj_ifnull (pc := 16) d_RD_verify_16 ?_
      refine xj_aloadN (pc := 19) d_RD_verify_19 rfl ?_
      refine xj_ifnullN (pc := 21) (tgt := 29) d_RD_verify_21 (by decide) ?_
      refine xj_iconst (pc := 29) (v := -1) d_RD_verify_29 (by decide) ?_
      refine xj_iret (pc := 30) d_RD_verify_30 rfl ?_
      rw [sp_verify, if_neg (fun q => by simp only [Bool.and_eq_true, decide_eq_true_eq] at q; first | omega | simp_all)]
      exact ck_ans hC
  · refine xj_callV (pc := 2) d_RD_verify_2 ml_RD_56 ok_RD_register (s_RD_register_n i_a) rfl rfl rfl rfl rfl (Nat.le_of_ble_eq_true rfl) (by decide) ?_
    rintro rv I1 F1 ⟨rfl, rfl, rfl⟩
    dsimp only [Option.toList, List.cons_append, List.nil_append]
    refine xj_astoreN (pc := 5) d_RD_verify_5 (by decide) rfl ?_
    dsimp only [xset, xset2, xkill]
    refine xj_aload_n (pc := 7) d_RD_verify_7 rfl rfl ?_
    refine xj_iload_n (pc := 8) d_RD_verify_8 rfl rfl ?_
    rcases regc b with ⟨k_b, hk_b, e_b, i_b, t_b⟩ | i_b
    · refine xj_callV (pc := 9) d_RD_verify_9 ml_RD_56 ok_RD_register (s_RD_register_k hk_b e_b) rfl rfl rfl rfl rfl (Nat.le_of_ble_eq_true rfl) (by decide) ?_
      rintro rv I1 F1 ⟨rfl, rfl, rfl⟩
      dsimp only [Option.toList, List.cons_append, List.nil_append]
      refine xj_astore (pc := 12) d_RD_verify_12 (by decide) rfl ?_
      dsimp only [xset, xset2, xkill]
      refine xj_aloadN (pc := 14) d_RD_verify_14 rfl ?_
      refine xj_ifnullN (pc := 16) (tgt := 29) d_RD_verify_16 (by decide) ?_
      refine xj_iconst (pc := 29) (v := -1) d_RD_verify_29 (by decide) ?_
      refine xj_iret (pc := 30) d_RD_verify_30 rfl ?_
      rw [sp_verify, if_neg (fun q => by simp only [Bool.and_eq_true, decide_eq_true_eq] at q; first | omega | simp_all)]
      exact ck_ans hC
    · refine xj_callV (pc := 9) d_RD_verify_9 ml_RD_56 ok_RD_register (s_RD_register_n i_b) rfl rfl rfl rfl rfl (Nat.le_of_ble_eq_true rfl) (by decide) ?_
      rintro rv I1 F1 ⟨rfl, rfl, rfl⟩
      dsimp only [Option.toList, List.cons_append, List.nil_append]
      refine xj_astoreN (pc := 12) d_RD_verify_12 (by decide) rfl ?_
      dsimp only [xset, xset2, xkill]
      refine xj_aloadN (pc := 14) d_RD_verify_14 rfl ?_
      refine xj_ifnullN (pc := 16) (tgt := 29) d_RD_verify_16 (by decide) ?_
      refine xj_iconst (pc := 29) (v := -1) d_RD_verify_29 (by decide) ?_
      refine xj_iret (pc := 30) d_RD_verify_30 rfl ?_
      rw [sp_verify, if_neg (fun q => by simp only [Bool.and_eq_true, decide_eq_true_eq] at q; first | omega | simp_all)]
      exact ck_ans hC
/-! strip -/
def rdw (p : Int32) (X : List Int32) : List Int32 := (X.reverse.dropWhile (fun b => b == p)).reverse
theorem rdw_nil (p : Int32) : rdw p [] = [] := rfl
theorem rdw_app (p : Int32) (X : List Int32) (b : Int32) : rdw p (X ++ [b]) = if b = p then rdw p X else X ++ [b] := by
  rw [rdw, List.reverse_append, List.reverse_cons, List.reverse_nil, List.nil_append, List.singleton_append, List.dropWhile_cons]
  by_cases h : b = p
  · simp [h, rdw]
  · simp [h]
theorem dw_len (p : Int32) : ∀ (X : List Int32), (X.dropWhile (fun b => b == p)).length ≤ X.length
  | [] => Nat.le_refl _
  | b :: t => by
    rw [List.dropWhile_cons]
    split
    · have := dw_len p t; simp only [List.length_cons]; omega
    · exact Nat.le_refl _
theorem m_strip_len (p : Int32) (L : List Int32) (ends : Int32) : (m_strip p L ends).length ≤ L.length := by
  have h1 := dw_len p L
  unfold m_strip
  dsimp only
  have hx : (if ends = 2 then L else L.dropWhile (fun b => b == p)).length ≤ L.length := by
    split
    · exact Nat.le_refl _
    · exact h1
  split
  · exact hx
  · rw [List.length_reverse]
    exact Nat.le_trans (dw_len _ _) (by rw [List.length_reverse]; exact hx)
theorem t_RD_strip_l1 {a ends to : Int32} {ka kt : Nat} {P : XP} (hp : I 12 = S.2.2) (hka : ka < 10) (hL : Rl I F ka L) (k2 : ∀ st : Nat, st ≤ L.length → (ends = 2 → st = 0) → (¬ ends = 2 → L.dropWhile (fun b => b == S.2.2) = L.drop st) → XJ none m_RD_strip 78 [some (.ref 24), some (.int a), some (.int ends), some (.int to), some (.ref ka), some (.ref kt), some (.int (nI st)), some (.int (nI L.length))] [] I F P) : ∀ (m st : Nat), st + m = L.length → (ends = 2 → st = 0) → L.dropWhile (fun b => b == S.2.2) = (L.drop st).dropWhile (fun b => b == S.2.2) →
    XJ none m_RD_strip 45 [some (.ref 24), some (.int a), some (.int ends), some (.int to), some (.ref ka), some (.ref kt), some (.int (nI st)), some (.int (nI L.length))] [] I F P := by
  have hll := hL.lt
  intro m
  induction m with
  | zero =>
    intro st hm h2 hd
    refine xj_iload_n (pc := 45) d_RD_strip_45 rfl rfl ?_
    refine xj_iconst (pc := 46) (v := 2) d_RD_strip_46 (by decide) ?_
    refine xj_icmp_eq (pc := 47) (tgt := 78) d_RD_strip_47 (by decide) (fun h47 => ?_) (fun h47 => ?_)
    · exact k2 st (by omega) h2 (fun _ => by rw [hd, List.drop_of_length_le (by omega)]; rfl)
    · refine xj_iload (pc := 50) d_RD_strip_50 rfl ?_
      refine xj_iload (pc := 52) d_RD_strip_52 rfl ?_
      refine xj_icmp_ge (pc := 54) (tgt := 78) d_RD_strip_54 (by decide) (fun h54 => ?_) (fun h54 => absurd (by rw [n_le, n_nI (by omega), n_nI (by omega)]; omega) h54)
      exact k2 st (by omega) h2 (fun _ => by rw [hd, List.drop_of_length_le (by omega)]; rfl)
  | succ m ih =>
    intro st hm h2 hd
    have hget : L[st]? = some L[st] := List.getElem?_eq_getElem (by omega)
    have hdr : L.drop st = L[st] :: L.drop (st + 1) := List.drop_eq_getElem_cons (by omega)
    refine xj_iload_n (pc := 45) d_RD_strip_45 rfl rfl ?_
    refine xj_iconst (pc := 46) (v := 2) d_RD_strip_46 (by decide) ?_
    refine xj_icmp_eq (pc := 47) (tgt := 78) d_RD_strip_47 (by decide) (fun h47 => ?_) (fun h47 => ?_)
    · exact k2 st (by omega) h2 (fun _ => by first | (exact absurd h47 (by assumption)) | (rw [hd, hdr, List.dropWhile_cons, if_neg (by simp [h69])]))
    · refine xj_iload (pc := 50) d_RD_strip_50 rfl ?_
      refine xj_iload (pc := 52) d_RD_strip_52 rfl ?_
      refine xj_icmp_ge (pc := 54) (tgt := 78) d_RD_strip_54 (by decide) (fun h54 => absurd h54 (by rw [n_le, n_nI (by omega), n_nI (by omega)]; omega)) (fun h54 => ?_)
      refine xj_aload (pc := 57) d_RD_strip_57 rfl ?_
      refine xj_iload (pc := 59) d_RD_strip_59 rfl ?_
      refine xj_iconst (pc := 61) (v := -1) d_RD_strip_61 (by decide) ?_
      refine xj_callV (pc := 62) d_RD_strip_62 ml_RD_64 ok_RW_byteOr (s_RW_byteOr (by omega) hL) rfl rfl (xsh_row (by omega)) rfl rfl (Nat.le_of_ble_eq_true rfl) (by decide) ?_
      rintro rv I1 F1 ⟨rfl, rfl, rfl⟩
      dsimp only [Option.toList, List.cons_append, List.nil_append]
      refine xj_aload_n (pc := 65) d_RD_strip_65 rfl rfl ?_
      refine xj_getI (pc := 66) d_RD_strip_66 fl_RD_42 rfl rfl ?_
      rw [rg_n (by omega), hget, Option.getD_some, hp]
      refine xj_icmp_ne (pc := 69) (tgt := 78) d_RD_strip_69 (by decide) (fun h69 => ?_) (fun h69 => ?_)
      · exact k2 st (by omega) h2 (fun _ => by first | (exact absurd h47 (by assumption)) | (rw [hd, hdr, List.dropWhile_cons, if_neg (by simp [h69])]))
      · refine xj_inc1 (pc := 72) d_RD_strip_72 rfl (by decide) rfl ?_
        dsimp only [xset, xset2, xkill]
        rw [n_up]
        refine xj_goto (pc := 75) (tgt := 45) d_RD_strip_75 (by decide) ?_
        refine ih (st + 1) (by omega) (fun q => absurd q h47) ?_
        rw [hd, hdr, List.dropWhile_cons, if_pos (by simp [h69])]
theorem t_RD_strip_l2 {a ends to : Int32} {ka kt st : Nat} {P : XP} (hp : I 12 = S.2.2) (hka : ka < 10) (hL : Rl I F ka L) (k2 : ∀ sp : Nat, st ≤ sp → sp ≤ L.length → (ends = 1 → sp = L.length) → (¬ ends = 1 → rdw S.2.2 (L.drop st) = (L.take sp).drop st) → XJ none m_RD_strip 113 [some (.ref 24), some (.int a), some (.int ends), some (.int to), some (.ref ka), some (.ref kt), some (.int (nI st)), some (.int (nI sp))] [] I F P) : ∀ (m sp : Nat), sp = st + m → sp ≤ L.length → (ends = 1 → sp = L.length) → rdw S.2.2 (L.drop st) = rdw S.2.2 ((L.take sp).drop st) →
    XJ none m_RD_strip 78 [some (.ref 24), some (.int a), some (.int ends), some (.int to), some (.ref ka), some (.ref kt), some (.int (nI st)), some (.int (nI sp))] [] I F P := by
  have hll := hL.lt
  intro m
  induction m with
  | zero =>
    intro sp hm hs h2 hd
    refine xj_iload_n (pc := 78) d_RD_strip_78 rfl rfl ?_
    refine xj_iconst (pc := 79) (v := 1) d_RD_strip_79 (by decide) ?_
    refine xj_icmp_eq (pc := 80) (tgt := 113) d_RD_strip_80 (by decide) (fun h80 => ?_) (fun h80 => ?_)
    · exact k2 sp (by omega) hs h2 (fun _ => by rw [hd, show (L.take sp).drop st = [] from List.drop_of_length_le (by rw [List.length_take]; omega)]; rfl)
    · refine xj_iload (pc := 83) d_RD_strip_83 rfl ?_
      refine xj_iload (pc := 85) d_RD_strip_85 rfl ?_
      refine xj_icmp_le (pc := 87) (tgt := 113) d_RD_strip_87 (by decide) (fun h87 => ?_) (fun h87 => absurd (by rw [n_le, n_nI (by omega), n_nI (by omega)]; omega) h87)
      exact k2 sp (by omega) hs h2 (fun _ => by rw [hd, show (L.take sp).drop st = [] from List.drop_of_length_le (by rw [List.length_take]; omega)]; rfl)
  | succ m ih =>
    intro sp hm hs h2 hd
    obtain ⟨q, rfl⟩ : ∃ q, sp = q + 1 := ⟨sp - 1, by omega⟩
    have hget : L[q]? = some L[q] := List.getElem?_eq_getElem (by omega)
    rw [sl_succ hget (by omega), rdw_app] at hd
    refine xj_iload_n (pc := 78) d_RD_strip_78 rfl rfl ?_
    refine xj_iconst (pc := 79) (v := 1) d_RD_strip_79 (by decide) ?_
    refine xj_icmp_eq (pc := 80) (tgt := 113) d_RD_strip_80 (by decide) (fun h80 => ?_) (fun h80 => ?_)
    · exact k2 (q + 1) (by omega) hs h2 (fun _ => by first | (exact absurd h80 (by assumption)) | (rw [hd, if_neg h104, sl_succ hget (by omega)]))
    · refine xj_iload (pc := 83) d_RD_strip_83 rfl ?_
      refine xj_iload (pc := 85) d_RD_strip_85 rfl ?_
      refine xj_icmp_le (pc := 87) (tgt := 113) d_RD_strip_87 (by decide) (fun h87 => absurd h87 (by rw [n_le, n_nI (by omega), n_nI (by omega)]; omega)) (fun h87 => ?_)
      refine xj_aload (pc := 90) d_RD_strip_90 rfl ?_
      refine xj_iload (pc := 92) d_RD_strip_92 rfl ?_
      refine xj_iconst (pc := 94) (v := 1) d_RD_strip_94 (by decide) ?_
      refine xj_isub (pc := 95) d_RD_strip_95 ?_
      refine xj_iconst (pc := 96) (v := -1) d_RD_strip_96 (by decide) ?_
      rw [show nI (q + 1) - 1 = nI q from nI_pred q]
      refine xj_callV (pc := 97) d_RD_strip_97 ml_RD_64 ok_RW_byteOr (s_RW_byteOr (by omega) hL) rfl rfl (xsh_row (by omega)) rfl rfl (Nat.le_of_ble_eq_true rfl) (by decide) ?_
      rintro rv I1 F1 ⟨rfl, rfl, rfl⟩
      dsimp only [Option.toList, List.cons_append, List.nil_append]
      refine xj_aload_n (pc := 100) d_RD_strip_100 rfl rfl ?_
      refine xj_getI (pc := 101) d_RD_strip_101 fl_RD_42 rfl rfl ?_
      rw [rg_n (by omega), hget, Option.getD_some, hp]
      refine xj_icmp_ne (pc := 104) (tgt := 113) d_RD_strip_104 (by decide) (fun h104 => ?_) (fun h104 => ?_)
      · exact k2 (q + 1) (by omega) hs h2 (fun _ => by first | (exact absurd h80 (by assumption)) | (rw [hd, if_neg h104, sl_succ hget (by omega)]))
      · refine xj_incm1 (pc := 107) d_RD_strip_107 rfl (by decide) rfl ?_
        dsimp only [xset, xset2, xkill]
        rw [n_dec (by omega), Nat.add_sub_cancel]
        refine xj_goto (pc := 110) (tgt := 78) d_RD_strip_110 (by decide) ?_
        refine ih q (by omega) (by omega) (fun z => absurd z h80) ?_
        rw [hd, if_pos h104]
theorem st_eqm {p ends : Int32} {L : List Int32} {st sp : Nat} (q2 : ends = 2 → st = 0) (q3 : ¬ ends = 2 → L.dropWhile (fun b => b == p) = L.drop st) (p3 : ends = 1 → sp = L.length) (p4 : ¬ ends = 1 → rdw p (L.drop st) = (L.take sp).drop st) : (L.take sp).drop st = m_strip p L ends := by
  have e1 : (if ends = 2 then L else L.dropWhile (fun b => b == p)) = L.drop st := by
    by_cases h : ends = 2
    · rw [if_pos h, q2 h, List.drop_zero]
    · rw [if_neg h, q3 h]
  unfold m_strip
  dsimp only
  rw [e1]
  by_cases h : ends = 1
  · rw [if_pos h, p3 h, List.take_length]
  · rw [if_neg h]; exact (p4 h).symm
theorem t_RD_strip {a ends to : Int32} (hS : OKS S) (hC : CI I F S) : XM m_RD_strip [.ref 24, .int a, .int ends, .int to] I F (CQ (sp_strip S a ends to) I F) := by
  refine XM.of (by decide) (Nat.le_of_ble_eq_true rfl) ?_
  dsimp only [xargs]
  obtain ⟨M0, hM0⟩ := hC.2.2.2
  have hend : ∀ (ka kt st sp : Nat), ka < 10 → kt < 10 → a.toInt.toNat = ka → to.toInt.toNat = kt → st ≤ sp → sp ≤ (sR S a).length → ((sR S a).take sp).drop st = m_strip S.2.2 (sR S a) ends → XJ none m_RD_strip 113 [some (.ref 24), some (.int a), some (.int ends), some (.int to), some (.ref ka), some (.ref kt), some (.int (nI st)), some (.int (nI sp))] [] I F (CQ (sMk S to (m_strip S.2.2 (sR S a) ends)) I F) := by
    intro ka kt st sp hka hkt ha ht h1 h2 he
    have hLe := hS.le hka ha
    have hLl := Nat.le_trans (m_strip_len S.2.2 (sR S a) ends) hLe
    refine xj_aload_n (pc := 113) d_RD_strip_113 rfl rfl ?_
    refine xj_getR (pc := 114) d_RD_strip_114 fl_RD_22 rfl rfl ?_
    refine xj_iconst (pc := 117) (v := 0) d_RD_strip_117 (by decide) ?_
    refine xj_callV (pc := 118) d_RD_strip_118 ml_RD_53 ok_RW_shortenTo (s_RW_clear (by decide) hM0) rfl rfl (xsh_row (by omega)) rfl rfl (Nat.le_of_ble_eq_true rfl) (by decide) ?_
    rintro rv I1 F1 ⟨rfl, g1⟩
    dsimp only [Option.toList, List.cons_append, List.nil_append]
    refine xj_aload_n (pc := 121) d_RD_strip_121 rfl rfl ?_
    refine xj_getR (pc := 122) d_RD_strip_122 fl_RD_22 rfl rfl ?_
    refine xj_aload (pc := 125) d_RD_strip_125 rfl ?_
    refine xj_iload (pc := 127) d_RD_strip_127 rfl ?_
    refine xj_iload (pc := 129) d_RD_strip_129 rfl ?_
    refine xj_callV (pc := 131) d_RD_strip_131 ml_RD_72 ok_RW_addRange (s_RW_addRange (by decide) (by omega) (by omega) g1.2.2 (g1.kp (by omega) (hC.at hka ha))) rfl rfl (xsh_row (by omega)) rfl rfl (Nat.le_of_ble_eq_true rfl) (by decide) ?_
    rintro rv I2 F2 ⟨rfl, g2⟩
    rw [List.nil_append, n_nI (by omega), n_nI (by omega), show ((sp : Nat) : Int).toNat = sp from rfl, show ((st : Nat) : Int).toNat = st from rfl, he, xcap10, List.take_of_length_le hLl] at g2
    replace g2 := g1.tr g2
    dsimp only [Option.toList, List.cons_append, List.nil_append]
    refine xj_aload_n (pc := 134) d_RD_strip_134 rfl rfl ?_
    refine xj_aload (pc := 135) d_RD_strip_135 rfl ?_
    refine xj_callV (pc := 137) d_RD_strip_137 ml_RD_79 ok_RD_keepMade (s_RD_keepMade hkt g2.2.2) rfl rfl rfl rfl rfl (Nat.le_of_ble_eq_true rfl) (by decide) ?_
    rintro rv I3 F3 ⟨rfl, g3⟩
    dsimp only [Option.toList, List.cons_append, List.nil_append]
    refine xj_iret (pc := 140) d_RD_strip_140 rfl ?_
    exact ck_done hC g2 g3 hkt ht hLl
  refine xj_aload_n (pc := 0) d_RD_strip_0 rfl rfl ?_
  refine xj_iload_n (pc := 1) d_RD_strip_1 rfl rfl ?_
  rcases regc a with ⟨k_a, hk_a, e_a, i_a, t_a⟩ | i_a
  · refine xj_callV (pc := 2) d_RD_strip_2 ml_RD_56 ok_RD_register (s_RD_register_k hk_a e_a) rfl rfl rfl rfl rfl (Nat.le_of_ble_eq_true rfl) (by decide) ?_
    rintro rv I1 F1 ⟨rfl, rfl, rfl⟩
    dsimp only [Option.toList, List.cons_append, List.nil_append]
    refine xj_astore (pc := 5) d_RD_strip_5 (by decide) rfl ?_
    dsimp only [xset, xset2, xkill]
    refine xj_aload_n (pc := 7) d_RD_strip_7 rfl rfl ?_
    refine xj_iload_n (pc := 8) d_RD_strip_8 rfl rfl ?_
    rcases regc to with ⟨k_to, hk_to, e_to, i_to, t_to⟩ | i_to
    · refine xj_callV (pc := 9) d_RD_strip_9 ml_RD_56 ok_RD_register (s_RD_register_k hk_to e_to) rfl rfl rfl rfl rfl (Nat.le_of_ble_eq_true rfl) (by decide) ?_
      rintro rv I1 F1 ⟨rfl, rfl, rfl⟩
      dsimp only [Option.toList, List.cons_append, List.nil_append]
      refine xj_astore (pc := 12) d_RD_strip_12 (by decide) rfl ?_
      dsimp only [xset, xset2, xkill]
      refine xj_aload (pc := 14) d_RD_strip_14 rfl ?_
      refine xj_ifnull (pc := 16) d_RD_strip_16 ?_
      refine xj_aload (pc := 19) d_RD_strip_19 rfl ?_
      refine xj_ifnull (pc := 21) d_RD_strip_21 ?_
      refine xj_iload_n (pc := 24) d_RD_strip_24 rfl rfl ?_
      refine xj_if_lt (pc := 25) (tgt := 33) d_RD_strip_25 (by decide) (fun h25 => ?_) (fun h25 => ?_)
      · simp only [n_lt, n_le, c_gt, c_le, c_lt, c_ge, not_lt_i, not_le_i, n_0, n_1, n_2, n_3, n_4, n_m1, n_10, n_200, n_240, n_256] at h25
        refine xj_iconst (pc := 33) (v := -1) d_RD_strip_33 (by decide) ?_
        refine xj_iret (pc := 34) d_RD_strip_34 rfl ?_
        exact ck_none hC (if_neg (fun q => by simp only [Bool.and_eq_true, decide_eq_true_eq] at q; first | omega | simp_all))
      · simp only [n_lt, n_le, c_gt, c_le, c_lt, c_ge, not_lt_i, not_le_i, n_0, n_1, n_2, n_3, n_4, n_m1, n_10, n_200, n_240, n_256] at h25
        refine xj_iload_n (pc := 28) d_RD_strip_28 rfl rfl ?_
        refine xj_iconst (pc := 29) (v := 2) d_RD_strip_29 (by decide) ?_
        refine xj_icmp_le (pc := 30) (tgt := 35) d_RD_strip_30 (by decide) (fun h30 => ?_) (fun h30 => ?_)
        · simp only [n_lt, n_le, c_gt, c_le, c_lt, c_ge, not_lt_i, not_le_i, n_0, n_1, n_2, n_3, n_4, n_m1, n_10, n_200, n_240, n_256] at h30
          rw [sp_strip, if_pos (by simp only [i_a, i_to, Bool.true_and, decide_eq_true_eq]; omega)]
          have hLa := hC.at hk_a t_a
          refine xj_iconst (pc := 35) (v := 0) d_RD_strip_35 (by decide) ?_
          refine xj_istore (pc := 36) d_RD_strip_36 (by decide) rfl ?_
          dsimp only [xset, xset2, xkill]
          refine xj_aload (pc := 38) d_RD_strip_38 rfl ?_
          refine xj_callV (pc := 40) d_RD_strip_40 ml_RD_46 ok_RW_length (s_RW_length (by omega)) rfl rfl (xsh_row (by omega)) rfl rfl (Nat.le_of_ble_eq_true rfl) (by decide) ?_
          rintro rv I1 F1 ⟨rfl, rfl, rfl⟩
          dsimp only [Option.toList, List.cons_append, List.nil_append]
          rw [hLa.1]
          refine xj_istore (pc := 43) d_RD_strip_43 (by decide) rfl ?_
          dsimp only [xset, xset2, xkill]
          refine t_RD_strip_l1 hC.2.2.1 hk_a hLa (fun st q1 q2 q3 => ?_) _ 0 (by rw [Nat.zero_add]) (fun _ => rfl) rfl
          refine t_RD_strip_l2 hC.2.2.1 hk_a hLa (fun sp p1 p2 p3 p4 => ?_) ((sR S a).length - st) _ (by omega) (Nat.le_refl _) (fun _ => rfl) (by rw [List.take_length])
          exact hend k_a k_to st sp hk_a hk_to t_a t_to p1 p2 (st_eqm q2 q3 p3 p4)
        · simp only [n_lt, n_le, c_gt, c_le, c_lt, c_ge, not_lt_i, not_le_i, n_0, n_1, n_2, n_3, n_4, n_m1, n_10, n_200, n_240, n_256] at h30
          refine xj_iconst (pc := 33) (v := -1) d_RD_strip_33 (by decide) ?_
          refine xj_iret (pc := 34) d_RD_strip_34 rfl ?_
          exact ck_none hC (if_neg (fun q => by simp only [Bool.and_eq_true, decide_eq_true_eq] at q; first | omega | simp_all))
    · refine xj_callV (pc := 9) d_RD_strip_9 ml_RD_56 ok_RD_register (s_RD_register_n i_to) rfl rfl rfl rfl rfl (Nat.le_of_ble_eq_true rfl) (by decide) ?_
      rintro rv I1 F1 ⟨rfl, rfl, rfl⟩
      dsimp only [Option.toList, List.cons_append, List.nil_append]
      refine xj_astoreN (pc := 12) d_RD_strip_12 (by decide) rfl ?_
      dsimp only [xset, xset2, xkill]
      refine xj_aload (pc := 14) d_RD_strip_14 rfl ?_
      refine xj_ifnull (pc := 16) d_RD_strip_16 ?_
      refine xj_aloadN (pc := 19) d_RD_strip_19 rfl ?_
      refine xj_ifnullN (pc := 21) (tgt := 33) d_RD_strip_21 (by decide) ?_
      refine xj_iconst (pc := 33) (v := -1) d_RD_strip_33 (by decide) ?_
      refine xj_iret (pc := 34) d_RD_strip_34 rfl ?_
      exact ck_none hC (if_neg (fun q => by simp only [Bool.and_eq_true, decide_eq_true_eq] at q; first | omega | simp_all))
  · refine xj_callV (pc := 2) d_RD_strip_2 ml_RD_56 ok_RD_register (s_RD_register_n i_a) rfl rfl rfl rfl rfl (Nat.le_of_ble_eq_true rfl) (by decide) ?_
    rintro rv I1 F1 ⟨rfl, rfl, rfl⟩
    dsimp only [Option.toList, List.cons_append, List.nil_append]
    refine xj_astoreN (pc := 5) d_RD_strip_5 (by decide) rfl ?_
    dsimp only [xset, xset2, xkill]
    refine xj_aload_n (pc := 7) d_RD_strip_7 rfl rfl ?_
    refine xj_iload_n (pc := 8) d_RD_strip_8 rfl rfl ?_
    rcases regc to with ⟨k_to, hk_to, e_to, i_to, t_to⟩ | i_to
    · refine xj_callV (pc := 9) d_RD_strip_9 ml_RD_56 ok_RD_register (s_RD_register_k hk_to e_to) rfl rfl rfl rfl rfl (Nat.le_of_ble_eq_true rfl) (by decide) ?_
      rintro rv I1 F1 ⟨rfl, rfl, rfl⟩
      dsimp only [Option.toList, List.cons_append, List.nil_append]
      refine xj_astore (pc := 12) d_RD_strip_12 (by decide) rfl ?_
      dsimp only [xset, xset2, xkill]
      refine xj_aloadN (pc := 14) d_RD_strip_14 rfl ?_
      refine xj_ifnullN (pc := 16) (tgt := 33) d_RD_strip_16 (by decide) ?_
      refine xj_iconst (pc := 33) (v := -1) d_RD_strip_33 (by decide) ?_
      refine xj_iret (pc := 34) d_RD_strip_34 rfl ?_
      exact ck_none hC (if_neg (fun q => by simp only [Bool.and_eq_true, decide_eq_true_eq] at q; first | omega | simp_all))
    · refine xj_callV (pc := 9) d_RD_strip_9 ml_RD_56 ok_RD_register (s_RD_register_n i_to) rfl rfl rfl rfl rfl (Nat.le_of_ble_eq_true rfl) (by decide) ?_
      rintro rv I1 F1 ⟨rfl, rfl, rfl⟩
      dsimp only [Option.toList, List.cons_append, List.nil_append]
      refine xj_astoreN (pc := 12) d_RD_strip_12 (by decide) rfl ?_
      dsimp only [xset, xset2, xkill]
      refine xj_aloadN (pc := 14) d_RD_strip_14 rfl ?_
      refine xj_ifnullN (pc := 16) (tgt := 33) d_RD_strip_16 (by decide) ?_
      refine xj_iconst (pc := 33) (v := -1) d_RD_strip_33 (by decide) ?_
      refine xj_iret (pc := 34) d_RD_strip_34 rfl ?_
      exact ck_none hC (if_neg (fun q => by simp only [Bool.and_eq_true, decide_eq_true_eq] at q; first | omega | simp_all))
end RDG
