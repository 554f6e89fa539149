section RDA
variable {I I1 I2 : XI} {F F1 F2 : XF} {S : XSt} {k : Nat} {M X : List Int32}
theorem s_RW_clear {j : Nat} {L : List Int32} (hj : j < 12) (hL : Rl I F j L) : XM m_RW_shortenTo [.ref j, .int 0] I F (fun rv I1 F1 => rv = none ∧ Rs j [] I F I1 F1) :=
  (s_RW_shortenTo hj hL (by decide)).post (fun rv I1 F1 h => ⟨h.1, h.2⟩)
theorem ck_doneE {to : Int32} (h : CI I F S) (hR : Rs 10 X I F I1 F1) (hK : Rs k X I1 F1 I2 F2) (hk : k < 10) (ht : to.toInt.toNat = k) (e : X = M) (hM : M.length ≤ 200) : CQ (sMk S to M) I F (some (.int (nI X.length))) I2 F2 := by
  subst e; exact ck_done h hR hK hk ht hM
theorem xcap10 : xcap 10 = 200 := rfl
theorem CI.pd (h : CI I F S) (hR : Rs 10 X I F I1 F1) : I1 12 = S.2.2 := by rw [hR.1 12 (by decide)]; exact h.2.2.1
theorem OKS.le (h : OKS S) (hk : k < 10) {a : Int32} (ha : a.toInt.toNat = k) : (sR S a).length ≤ 200 := by rw [sR, ha]; exact (h.2.1 k hk).1
theorem sl_dt {L : List Int32} {v s m : Nat} (h : ∀ i, s + i < L.length → (s + i < v ↔ i < m)) : (L.take v).drop s = (L.drop s).take m := by
  apply List.ext_getElem?
  intro i
  simp only [List.getElem?_drop, List.getElem?_take]
  by_cases hl : s + i < L.length
  · by_cases h1 : i < m
    · rw [if_pos ((h i hl).mpr h1), if_pos h1]
    · rw [if_neg (fun q => h1 ((h i hl).mp q)), if_neg h1]
  · rw [List.getElem?_eq_none (by omega)]; simp
theorem n_k1 {k : Int32} (h : 1 ≤ k.toInt) : (k - 1).toInt = k.toInt - 1 := by
  have := n_hi k
  rw [n_sub (by rw [n_1]; omega) (by rw [n_1]; omega), n_1]
/-! fill -/
theorem m_fill_len (p : Int32) (L : List Int32) (way : Int32) (n : Nat) : (m_fill p L way n).length = n := by
  unfold m_fill
  simp only [List.length_append, List.length_replicate, List.length_take, List.length_drop]
  split
  · omega
  · split <;> omega
theorem td2 (z : Int) : (0 ≤ z ∧ z.tdiv 2 = z / 2) ∨ (z < 0 ∧ z.tdiv 2 = -((-z) / 2)) := by
  rcases Int.lt_or_le z 0 with h | h
  · right
    refine ⟨h, ?_⟩
    have : z = -(-z) := by omega
    rw [this, Int.neg_tdiv, Int.tdiv_eq_ediv_of_nonneg (by omega)]
    omega
  · left; exact ⟨h, Int.tdiv_eq_ediv_of_nonneg h⟩
theorem fill_eq {p p1 p3 : Int32} {L : List Int32} {n A way : Int32} (h1 : p1 = p) (h3 : p3 = p) (hn : 0 ≤ n.toInt) (hn2 : n.toInt ≤ 200) (hL : L.length ≤ 200) (hA : A.toInt = if way = 0 then 0 else if way = 1 then n.toInt - L.length else (n.toInt - L.length).tdiv 2) :
    ((((List.replicate A.toNatClampNeg p1).take (xcap 10) ++ (L.take (n - A).toInt.toNat).drop (-A).toInt.toNat).take (xcap 10)) ++ List.replicate (n.toInt.toNat - (((List.replicate A.toNatClampNeg p1).take (xcap 10) ++ (L.take (n - A).toInt.toNat).drop (-A).toInt.toNat).take (xcap 10)).length) p3).take (xcap 10) = m_fill p L way n.toInt.toNat := by
  rw [h1, h3, xcap10]
  have ht := td2 (n.toInt - L.length)
  have hb : -200 ≤ A.toInt ∧ A.toInt ≤ 200 := by
    rw [hA]; split
    · omega
    · split <;> omega
  have e1 : (n - A).toInt = n.toInt - A.toInt := n_sub (by omega) (by omega)
  have e2 : (-A).toInt = -A.toInt := by
    have : -A = 0 - A := by simp
    rw [this, n_sub (by rw [n_0]; omega) (by rw [n_0]; omega), n_0]; omega
  rw [n_cl, e1, e2, List.take_of_length_le (l := List.replicate A.toInt.toNat p) (i := 200) (by rw [List.length_replicate]; omega)]
  have hx : (L.take (n.toInt - A.toInt).toNat).drop (-A.toInt).toNat = (L.drop (if way = 0 then 0 else if way = 1 then L.length - n.toInt.toNat else (L.length - n.toInt.toNat) / 2)).take n.toInt.toNat := by
    have hc : (-A.toInt).toNat = (if way = 0 then 0 else if way = 1 then L.length - n.toInt.toNat else (L.length - n.toInt.toNat) / 2) := by
      rw [hA]; split
      · rfl
      · split <;> omega
    rw [← hc]
    apply sl_dt
    intro i hi
    have hd : A.toInt ≤ 0 ∨ (0 < A.toInt ∧ n.toInt - A.toInt ≥ L.length) := by
      rw [hA]; split
      · omega
      · split <;> omega
    omega
  have ha : A.toInt.toNat = (if way = 0 then 0 else if way = 1 then n.toInt.toNat - L.length else (n.toInt.toNat - L.length) / 2) := by
    rw [hA]; split
    · rfl
    · split <;> omega
  rw [hx, ha]
  have hlen : (List.replicate (if way = 0 then 0 else if way = 1 then n.toInt.toNat - L.length else (n.toInt.toNat - L.length) / 2) p ++ (L.drop (if way = 0 then 0 else if way = 1 then L.length - n.toInt.toNat else (L.length - n.toInt.toNat) / 2)).take n.toInt.toNat).length ≤ n.toInt.toNat ∧ n.toInt.toNat - (List.replicate (if way = 0 then 0 else if way = 1 then n.toInt.toNat - L.length else (n.toInt.toNat - L.length) / 2) p ++ (L.drop (if way = 0 then 0 else if way = 1 then L.length - n.toInt.toNat else (L.length - n.toInt.toNat) / 2)).take n.toInt.toNat).length = (n.toInt.toNat - L.length) - (if way = 0 then 0 else if way = 1 then n.toInt.toNat - L.length else (n.toInt.toNat - L.length) / 2) := by
    simp only [List.length_append, List.length_replicate, List.length_take, List.length_drop]
    split
    · omega
    · split <;> omega
  rw [tk_app, List.take_of_length_le (l := List.replicate _ _ ++ _) (i := 200) (by omega), hlen.2]
  rw [List.take_of_length_le]
  · rfl
  · rw [List.length_append, List.length_replicate]; omega
theorem t_RD_fill {way a n to : Int32} (hS : OKS S) (hC : CI I F S) : XM m_RD_fill [.ref 24, .int way, .int a, .int n, .int to] I F (CQ (sp_fill S way a n to) I F) := by
  refine XM.of (by decide) (Nat.le_of_ble_eq_true rfl) ?_
  dsimp only [xargs]
  obtain ⟨M0, hM0⟩ := hC.2.2.2
  have := n_hi n
  refine xj_aload_n (pc := 0) d_RD_fill_0 rfl rfl ?_
  refine xj_iload_n (pc := 1) d_RD_fill_1 rfl rfl ?_
  rcases regc a with ⟨k_a, hk_a, e_a, i_a, t_a⟩ | i_a
  · refine xj_callV (pc := 2) d_RD_fill_2 ml_RD_56 ok_RD_register (s_RD_register_k hk_a e_a) rfl rfl rfl rfl rfl (Nat.le_of_ble_eq_true rfl) (by decide) ?_
    rintro rv I1 F1 ⟨rfl, rfl, rfl⟩
    dsimp only [Option.toList, List.cons_append, List.nil_append]
    refine xj_astore (pc := 5) d_RD_fill_5 (by decide) rfl ?_
    dsimp only [xset, xset2, xkill]
    refine xj_aload_n (pc := 7) d_RD_fill_7 rfl rfl ?_
    refine xj_iload (pc := 8) d_RD_fill_8 rfl ?_
    rcases regc to with ⟨k_to, hk_to, e_to, i_to, t_to⟩ | i_to
    · refine xj_callV (pc := 10) d_RD_fill_10 ml_RD_56 ok_RD_register (s_RD_register_k hk_to e_to) rfl rfl rfl rfl rfl (Nat.le_of_ble_eq_true rfl) (by decide) ?_
      rintro rv I1 F1 ⟨rfl, rfl, rfl⟩
      dsimp only [Option.toList, List.cons_append, List.nil_append]
      refine xj_astore (pc := 13) d_RD_fill_13 (by decide) rfl ?_
      dsimp only [xset, xset2, xkill]
      refine xj_aload (pc := 15) d_RD_fill_15 rfl ?_
      refine xj_ifnull (pc := 17) d_RD_fill_17 ?_
      refine xj_aload (pc := 20) d_RD_fill_20 rfl ?_
      refine xj_ifnull (pc := 22) d_RD_fill_22 ?_
      refine xj_iload_n (pc := 25) d_RD_fill_25 rfl rfl ?_
      refine xj_if_lt (pc := 26) (tgt := 38) d_RD_fill_26 (by decide) (fun h26 => ?_) (fun h26 => ?_)
      · simp only [n_lt, n_le, c_gt, c_le, c_lt, c_ge, not_lt_i, not_le_i, n_0, n_1, n_2, n_3, n_4, n_m1, n_10, n_200, n_240, n_256] at h26
        refine xj_iconst (pc := 38) (v := -1) d_RD_fill_38 (by decide) ?_
        refine xj_iret (pc := 39) d_RD_fill_39 rfl ?_
        exact ck_none hC (if_neg (fun q => by simp only [Bool.and_eq_true, decide_eq_true_eq] at q; first | omega | simp_all))
      · simp only [n_lt, n_le, c_gt, c_le, c_lt, c_ge, not_lt_i, not_le_i, n_0, n_1, n_2, n_3, n_4, n_m1, n_10, n_200, n_240, n_256] at h26
        refine xj_iload_n (pc := 29) d_RD_fill_29 rfl rfl ?_
        refine xj_iconst (pc := 30) (v := 2) d_RD_fill_30 (by decide) ?_
        refine xj_icmp_gt (pc := 31) (tgt := 38) d_RD_fill_31 (by decide) (fun h31 => ?_) (fun h31 => ?_)
        · simp only [n_lt, n_le, c_gt, c_le, c_lt, c_ge, not_lt_i, not_le_i, n_0, n_1, n_2, n_3, n_4, n_m1, n_10, n_200, n_240, n_256] at h31
          refine xj_iconst (pc := 38) (v := -1) d_RD_fill_38 (by decide) ?_
          refine xj_iret (pc := 39) d_RD_fill_39 rfl ?_
          exact ck_none hC (if_neg (fun q => by simp only [Bool.and_eq_true, decide_eq_true_eq] at q; first | omega | simp_all))
        · simp only [n_lt, n_le, c_gt, c_le, c_lt, c_ge, not_lt_i, not_le_i, n_0, n_1, n_2, n_3, n_4, n_m1, n_10, n_200, n_240, n_256] at h31
          refine xj_iload_n (pc := 34) d_RD_fill_34 rfl rfl ?_
          refine xj_if_ge (pc := 35) (tgt := 40) d_RD_fill_35 (by decide) (fun h35 => ?_) (fun h35 => ?_)
          · simp only [n_lt, n_le, c_gt, c_le, c_lt, c_ge, not_lt_i, not_le_i, n_0, n_1, n_2, n_3, n_4, n_m1, n_10, n_200, n_240, n_256] at h35
            have hpos : (isR a && isR to && decide (0 ≤ way.toInt ∧ way.toInt ≤ 2 ∧ 0 ≤ n.toInt)) = true := by simp only [i_a, i_to, Bool.true_and, decide_eq_true_eq]; omega
            rw [sp_fill, if_pos hpos]
            have hLa := hC.at hk_a t_a
            have hLe := hS.le hk_a t_a
            refine xj_iload_n (pc := 40) d_RD_fill_40 rfl rfl ?_
            refine xj_sipush (pc := 41) (v := 200) d_RD_fill_41 (by decide) ?_
            refine xj_icmp_le (pc := 44) (tgt := 50) d_RD_fill_44 (by decide) (fun h44 => ?_) (fun h44 => ?_)
            · simp only [n_lt, n_le, c_gt, c_le, c_lt, c_ge, not_lt_i, not_le_i, n_0, n_1, n_2, n_3, n_4, n_m1, n_10, n_200, n_240, n_256] at h44
              refine xj_iload_n (pc := 50) d_RD_fill_50 rfl rfl ?_
              refine xj_aload (pc := 51) d_RD_fill_51 rfl ?_
              refine xj_callV (pc := 53) d_RD_fill_53 ml_RD_46 ok_RW_length (s_RW_length (by omega)) rfl rfl (xsh_row (by omega)) rfl rfl (Nat.le_of_ble_eq_true rfl) (by decide) ?_
              rintro rv I1 F1 ⟨rfl, rfl, rfl⟩
              dsimp only [Option.toList, List.cons_append, List.nil_append]
              refine xj_isub (pc := 56) d_RD_fill_56 ?_
              refine xj_istore (pc := 57) d_RD_fill_57 (by decide) rfl ?_
              dsimp only [xset, xset2, xkill]
              refine xj_iload_n (pc := 59) d_RD_fill_59 rfl rfl ?_
              refine xj_if_ne (pc := 60) (tgt := 67) d_RD_fill_60 (by decide) (fun h60 => ?_) (fun h60 => ?_)
              · refine xj_iload_n (pc := 67) d_RD_fill_67 rfl rfl ?_
                refine xj_iconst (pc := 68) (v := 1) d_RD_fill_68 (by decide) ?_
                refine xj_icmp_ne (pc := 69) (tgt := 77) d_RD_fill_69 (by decide) (fun h69 => ?_) (fun h69 => ?_)
                · refine xj_iload (pc := 77) d_RD_fill_77 rfl ?_
                  refine xj_iconst (pc := 79) (v := 2) d_RD_fill_79 (by decide) ?_
                  refine xj_idiv (pc := 80) d_RD_fill_80 (by decide) ?_
                  refine xj_istore (pc := 81) d_RD_fill_81 (by decide) rfl ?_
                  dsimp only [xset, xset2, xkill]
                  refine xj_aload_n (pc := 83) d_RD_fill_83 rfl rfl ?_
                  refine xj_getR (pc := 84) d_RD_fill_84 fl_RD_22 rfl rfl ?_
                  refine xj_iconst (pc := 87) (v := 0) d_RD_fill_87 (by decide) ?_
                  refine xj_callV (pc := 88) d_RD_fill_88 ml_RD_53 ok_RW_shortenTo (s_RW_clear (by decide) hM0) rfl rfl (xsh_row (by omega)) rfl rfl (Nat.le_of_ble_eq_true rfl) (by decide) ?_
                  rintro rv I1 F1 ⟨rfl, g1⟩
                  dsimp only [Option.toList, List.cons_append, List.nil_append]
                  refine xj_aload_n (pc := 91) d_RD_fill_91 rfl rfl ?_
                  refine xj_getR (pc := 92) d_RD_fill_92 fl_RD_22 rfl rfl ?_
                  refine xj_aload_n (pc := 95) d_RD_fill_95 rfl rfl ?_
                  refine xj_getI (pc := 96) d_RD_fill_96 fl_RD_42 rfl rfl ?_
                  refine xj_iload (pc := 99) d_RD_fill_99 rfl ?_
                  refine xj_callV (pc := 101) d_RD_fill_101 ml_RD_68 ok_RW_addTimes (s_RW_addTimes (by decide) g1.2.2) rfl rfl (xsh_row (by omega)) rfl rfl (Nat.le_of_ble_eq_true rfl) (by decide) ?_
                  rintro rv I2 F2 ⟨rfl, g2⟩
                  rw [List.nil_append] at g2
                  replace g2 := g1.tr g2
                  dsimp only [Option.toList, List.cons_append, List.nil_append]
                  refine xj_aload_n (pc := 104) d_RD_fill_104 rfl rfl ?_
                  refine xj_getR (pc := 105) d_RD_fill_105 fl_RD_22 rfl rfl ?_
                  refine xj_aload (pc := 108) d_RD_fill_108 rfl ?_
                  refine xj_iload (pc := 110) d_RD_fill_110 rfl ?_
                  refine xj_ineg (pc := 112) d_RD_fill_112 ?_
                  refine xj_iload_n (pc := 113) d_RD_fill_113 rfl rfl ?_
                  refine xj_iload (pc := 114) d_RD_fill_114 rfl ?_
                  refine xj_isub (pc := 116) d_RD_fill_116 ?_
                  refine xj_callV (pc := 117) d_RD_fill_117 ml_RD_72 ok_RW_addRange (s_RW_addRange (by decide) (by omega) (by omega) g2.2.2 (g2.kp (by omega) hLa)) rfl rfl (xsh_row (by omega)) rfl rfl (Nat.le_of_ble_eq_true rfl) (by decide) ?_
                  rintro rv I3 F3 ⟨rfl, g3⟩
                  replace g3 := g2.tr g3
                  dsimp only [Option.toList, List.cons_append, List.nil_append]
                  refine xj_aload_n (pc := 120) d_RD_fill_120 rfl rfl ?_
                  refine xj_getR (pc := 121) d_RD_fill_121 fl_RD_22 rfl rfl ?_
                  refine xj_iload_n (pc := 124) d_RD_fill_124 rfl rfl ?_
                  refine xj_aload_n (pc := 125) d_RD_fill_125 rfl rfl ?_
                  refine xj_getI (pc := 126) d_RD_fill_126 fl_RD_42 rfl rfl ?_
                  refine xj_callV (pc := 129) d_RD_fill_129 ml_RD_76 ok_RW_lengthenTo (s_RW_lengthenTo (by decide) g3.2.2 (by omega)) rfl rfl (xsh_row (by omega)) rfl rfl (Nat.le_of_ble_eq_true rfl) (by decide) ?_
                  rintro rv I4 F4 ⟨rfl, g4⟩
                  replace g4 := g3.tr g4
                  dsimp only [Option.toList, List.cons_append, List.nil_append]
                  refine xj_aload_n (pc := 132) d_RD_fill_132 rfl rfl ?_
                  refine xj_aload (pc := 133) d_RD_fill_133 rfl ?_
                  refine xj_callV (pc := 135) d_RD_fill_135 ml_RD_79 ok_RD_keepMade (s_RD_keepMade hk_to g4.2.2) rfl rfl rfl rfl rfl (Nat.le_of_ble_eq_true rfl) (by decide) ?_
                  rintro rv I5 F5 ⟨rfl, g5⟩
                  dsimp only [Option.toList, List.cons_append, List.nil_append]
                  refine xj_iret (pc := 138) d_RD_fill_138 rfl ?_
                  refine ck_doneE hC g4 g5 hk_to t_to (fill_eq (hC.pd g1) (hC.pd g3) (by omega) (by omega) hLe ?_) (by rw [m_fill_len]; omega)
                  have eL := hLa.ti
                  have ht := td2 (n.toInt - (sR S a).length)
                  have eM : (n - I k_a).toInt = n.toInt - (sR S a).length := by rw [n_sub (by omega) (by omega), eL]
                  first | (rw [if_pos h60]; rfl; done) | (rw [if_neg h60, if_pos h69]; exact eM; done) | (rw [if_neg h60, if_neg h69, Int32.toInt_div, eM, n_2]; exact n_bm (by omega) (by omega))
                · refine xj_iload (pc := 72) d_RD_fill_72 rfl ?_
                  refine xj_goto (pc := 74) (tgt := 81) d_RD_fill_74 (by decide) ?_
                  refine xj_istore (pc := 81) d_RD_fill_81 (by decide) rfl ?_
                  dsimp only [xset, xset2, xkill]
                  refine xj_aload_n (pc := 83) d_RD_fill_83 rfl rfl ?_
                  refine xj_getR (pc := 84) d_RD_fill_84 fl_RD_22 rfl rfl ?_
                  refine xj_iconst (pc := 87) (v := 0) d_RD_fill_87 (by decide) ?_
                  refine xj_callV (pc := 88) d_RD_fill_88 ml_RD_53 ok_RW_shortenTo (s_RW_clear (by decide) hM0) rfl rfl (xsh_row (by omega)) rfl rfl (Nat.le_of_ble_eq_true rfl) (by decide) ?_
                  rintro rv I1 F1 ⟨rfl, g1⟩
                  dsimp only [Option.toList, List.cons_append, List.nil_append]
                  refine xj_aload_n (pc := 91) d_RD_fill_91 rfl rfl ?_
                  refine xj_getR (pc := 92) d_RD_fill_92 fl_RD_22 rfl rfl ?_
                  refine xj_aload_n (pc := 95) d_RD_fill_95 rfl rfl ?_
                  refine xj_getI (pc := 96) d_RD_fill_96 fl_RD_42 rfl rfl ?_
                  refine xj_iload (pc := 99) d_RD_fill_99 rfl ?_
                  refine xj_callV (pc := 101) d_RD_fill_101 ml_RD_68 ok_RW_addTimes (s_RW_addTimes (by decide) g1.2.2) rfl rfl (xsh_row (by omega)) rfl rfl (Nat.le_of_ble_eq_true rfl) (by decide) ?_
                  rintro rv I2 F2 ⟨rfl, g2⟩
                  rw [List.nil_append] at g2
                  replace g2 := g1.tr g2
                  dsimp only [Option.toList, List.cons_append, List.nil_append]
                  refine xj_aload_n (pc := 104) d_RD_fill_104 rfl rfl ?_
                  refine xj_getR (pc := 105) d_RD_fill_105 fl_RD_22 rfl rfl ?_
                  refine xj_aload (pc := 108) d_RD_fill_108 rfl ?_
                  refine xj_iload (pc := 110) d_RD_fill_110 rfl ?_
                  refine xj_ineg (pc := 112) d_RD_fill_112 ?_
                  refine xj_iload_n (pc := 113) d_RD_fill_113 rfl rfl ?_
                  refine xj_iload (pc := 114) d_RD_fill_114 rfl ?_
                  refine xj_isub (pc := 116) d_RD_fill_116 ?_
                  refine xj_callV (pc := 117) d_RD_fill_117 ml_RD_72 ok_RW_addRange (s_RW_addRange (by decide) (by omega) (by omega) g2.2.2 (g2.kp (by omega) hLa)) rfl rfl (xsh_row (by omega)) rfl rfl (Nat.le_of_ble_eq_true rfl) (by decide) ?_
                  rintro rv I3 F3 ⟨rfl, g3⟩
                  replace g3 := g2.tr g3
                  dsimp only [Option.toList, List.cons_append, List.nil_append]
                  refine xj_aload_n (pc := 120) d_RD_fill_120 rfl rfl ?_
                  refine xj_getR (pc := 121) d_RD_fill_121 fl_RD_22 rfl rfl ?_
                  refine xj_iload_n (pc := 124) d_RD_fill_124 rfl rfl ?_
                  refine xj_aload_n (pc := 125) d_RD_fill_125 rfl rfl ?_
                  refine xj_getI (pc := 126) d_RD_fill_126 fl_RD_42 rfl rfl ?_
                  refine xj_callV (pc := 129) d_RD_fill_129 ml_RD_76 ok_RW_lengthenTo (s_RW_lengthenTo (by decide) g3.2.2 (by omega)) rfl rfl (xsh_row (by omega)) rfl rfl (Nat.le_of_ble_eq_true rfl) (by decide) ?_
                  rintro rv I4 F4 ⟨rfl, g4⟩
                  replace g4 := g3.tr g4
                  dsimp only [Option.toList, List.cons_append, List.nil_append]
                  refine xj_aload_n (pc := 132) d_RD_fill_132 rfl rfl ?_
                  refine xj_aload (pc := 133) d_RD_fill_133 rfl ?_
                  refine xj_callV (pc := 135) d_RD_fill_135 ml_RD_79 ok_RD_keepMade (s_RD_keepMade hk_to g4.2.2) rfl rfl rfl rfl rfl (Nat.le_of_ble_eq_true rfl) (by decide) ?_
                  rintro rv I5 F5 ⟨rfl, g5⟩
                  dsimp only [Option.toList, List.cons_append, List.nil_append]
                  refine xj_iret (pc := 138) d_RD_fill_138 rfl ?_
                  refine ck_doneE hC g4 g5 hk_to t_to (fill_eq (hC.pd g1) (hC.pd g3) (by omega) (by omega) hLe ?_) (by rw [m_fill_len]; omega)
                  have eL := hLa.ti
                  have ht := td2 (n.toInt - (sR S a).length)
                  have eM : (n - I k_a).toInt = n.toInt - (sR S a).length := by rw [n_sub (by omega) (by omega), eL]
                  first | (rw [if_pos h60]; rfl; done) | (rw [if_neg h60, if_pos h69]; exact eM; done) | (rw [if_neg h60, if_neg h69, Int32.toInt_div, eM, n_2]; exact n_bm (by omega) (by omega))
              · refine xj_iconst (pc := 63) (v := 0) d_RD_fill_63 (by decide) ?_
                refine xj_goto (pc := 64) (tgt := 81) d_RD_fill_64 (by decide) ?_
                refine xj_istore (pc := 81) d_RD_fill_81 (by decide) rfl ?_
                dsimp only [xset, xset2, xkill]
                refine xj_aload_n (pc := 83) d_RD_fill_83 rfl rfl ?_
                refine xj_getR (pc := 84) d_RD_fill_84 fl_RD_22 rfl rfl ?_
                refine xj_iconst (pc := 87) (v := 0) d_RD_fill_87 (by decide) ?_
                refine xj_callV (pc := 88) d_RD_fill_88 ml_RD_53 ok_RW_shortenTo (s_RW_clear (by decide) hM0) rfl rfl (xsh_row (by omega)) rfl rfl (Nat.le_of_ble_eq_true rfl) (by decide) ?_
                rintro rv I1 F1 ⟨rfl, g1⟩
                dsimp only [Option.toList, List.cons_append, List.nil_append]
                refine xj_aload_n (pc := 91) d_RD_fill_91 rfl rfl ?_
                refine xj_getR (pc := 92) d_RD_fill_92 fl_RD_22 rfl rfl ?_
                refine xj_aload_n (pc := 95) d_RD_fill_95 rfl rfl ?_
                refine xj_getI (pc := 96) d_RD_fill_96 fl_RD_42 rfl rfl ?_
                refine xj_iload (pc := 99) d_RD_fill_99 rfl ?_
                refine xj_callV (pc := 101) d_RD_fill_101 ml_RD_68 ok_RW_addTimes (s_RW_addTimes (by decide) g1.2.2) rfl rfl (xsh_row (by omega)) rfl rfl (Nat.le_of_ble_eq_true rfl) (by decide) ?_
                rintro rv I2 F2 ⟨rfl, g2⟩
                rw [List.nil_append] at g2
                replace g2 := g1.tr g2
                dsimp only [Option.toList, List.cons_append, List.nil_append]
                refine xj_aload_n (pc := 104) d_RD_fill_104 rfl rfl ?_
                refine xj_getR (pc := 105) d_RD_fill_105 fl_RD_22 rfl rfl ?_
                refine xj_aload (pc := 108) d_RD_fill_108 rfl ?_
                refine xj_iload (pc := 110) d_RD_fill_110 rfl ?_
                refine xj_ineg (pc := 112) d_RD_fill_112 ?_
                refine xj_iload_n (pc := 113) d_RD_fill_113 rfl rfl ?_
                refine xj_iload (pc := 114) d_RD_fill_114 rfl ?_
                refine xj_isub (pc := 116) d_RD_fill_116 ?_
                refine xj_callV (pc := 117) d_RD_fill_117 ml_RD_72 ok_RW_addRange (s_RW_addRange (by decide) (by omega) (by omega) g2.2.2 (g2.kp (by omega) hLa)) rfl rfl (xsh_row (by omega)) rfl rfl (Nat.le_of_ble_eq_true rfl) (by decide) ?_
                rintro rv I3 F3 ⟨rfl, g3⟩
                replace g3 := g2.tr g3
                dsimp only [Option.toList, List.cons_append, List.nil_append]
                refine xj_aload_n (pc := 120) d_RD_fill_120 rfl rfl ?_
                refine xj_getR (pc := 121) d_RD_fill_121 fl_RD_22 rfl rfl ?_
                refine xj_iload_n (pc := 124) d_RD_fill_124 rfl rfl ?_
                refine xj_aload_n (pc := 125) d_RD_fill_125 rfl rfl ?_
                refine xj_getI (pc := 126) d_RD_fill_126 fl_RD_42 rfl rfl ?_
                refine xj_callV (pc := 129) d_RD_fill_129 ml_RD_76 ok_RW_lengthenTo (s_RW_lengthenTo (by decide) g3.2.2 (by omega)) rfl rfl (xsh_row (by omega)) rfl rfl (Nat.le_of_ble_eq_true rfl) (by decide) ?_
                rintro rv I4 F4 ⟨rfl, g4⟩
                replace g4 := g3.tr g4
                dsimp only [Option.toList, List.cons_append, List.nil_append]
                refine xj_aload_n (pc := 132) d_RD_fill_132 rfl rfl ?_
                refine xj_aload (pc := 133) d_RD_fill_133 rfl ?_
                refine xj_callV (pc := 135) d_RD_fill_135 ml_RD_79 ok_RD_keepMade (s_RD_keepMade hk_to g4.2.2) rfl rfl rfl rfl rfl (Nat.le_of_ble_eq_true rfl) (by decide) ?_
                rintro rv I5 F5 ⟨rfl, g5⟩
                dsimp only [Option.toList, List.cons_append, List.nil_append]
                refine xj_iret (pc := 138) d_RD_fill_138 rfl ?_
                refine ck_doneE hC g4 g5 hk_to t_to (fill_eq (hC.pd g1) (hC.pd g3) (by omega) (by omega) hLe ?_) (by rw [m_fill_len]; omega)
                have eL := hLa.ti
                have ht := td2 (n.toInt - (sR S a).length)
                have eM : (n - I k_a).toInt = n.toInt - (sR S a).length := by rw [n_sub (by omega) (by omega), eL]
                first | (rw [if_pos h60]; rfl; done) | (rw [if_neg h60, if_pos h69]; exact eM; done) | (rw [if_neg h60, if_neg h69, Int32.toInt_div, eM, n_2]; exact n_bm (by omega) (by omega))
            · simp only [n_lt, n_le, c_gt, c_le, c_lt, c_ge, not_lt_i, not_le_i, n_0, n_1, n_2, n_3, n_4, n_m1, n_10, n_200, n_240, n_256] at h44
              refine xj_bipush (pc := 47) (v := -4) d_RD_fill_47 (by decide) ?_
              refine xj_iret (pc := 49) d_RD_fill_49 rfl ?_
              exact ck_full hC (by rw [m_fill_len]; omega)
          · simp only [n_lt, n_le, c_gt, c_le, c_lt, c_ge, not_lt_i, not_le_i, n_0, n_1, n_2, n_3, n_4, n_m1, n_10, n_200, n_240, n_256] at h35
            refine xj_iconst (pc := 38) (v := -1) d_RD_fill_38 (by decide) ?_
            refine xj_iret (pc := 39) d_RD_fill_39 rfl ?_
            exact ck_none hC (if_neg (fun q => by simp only [Bool.and_eq_true, decide_eq_true_eq] at q; first | omega | simp_all))
    · refine xj_callV (pc := 10) d_RD_fill_10 ml_RD_56 ok_RD_register (s_RD_register_n i_to) rfl rfl rfl rfl rfl (Nat.le_of_ble_eq_true rfl) (by decide) ?_
      rintro rv I1 F1 ⟨rfl, rfl, rfl⟩
      dsimp only [Option.toList, List.cons_append, List.nil_append]
      refine xj_astoreN (pc := 13) d_RD_fill_13 (by decide) rfl ?_
      dsimp only [xset, xset2, xkill]
      refine xj_aload (pc := 15) d_RD_fill_15 rfl ?_
      refine xj_ifnull (pc := 17) d_RD_fill_17 ?_
      refine xj_aloadN (pc := 20) d_RD_fill_20 rfl ?_
      refine xj_ifnullN (pc := 22) (tgt := 38) d_RD_fill_22 (by decide) ?_
      refine xj_iconst (pc := 38) (v := -1) d_RD_fill_38 (by decide) ?_
      refine xj_iret (pc := 39) d_RD_fill_39 rfl ?_
      exact ck_none hC (if_neg (fun q => by simp only [Bool.and_eq_true, decide_eq_true_eq] at q; first | omega | simp_all))
  · refine xj_callV (pc := 2) d_RD_fill_2 ml_RD_56 ok_RD_register (s_RD_register_n i_a) rfl rfl rfl rfl rfl (Nat.le_of_ble_eq_true rfl) (by decide) ?_
    rintro rv I1 F1 ⟨rfl, rfl, rfl⟩
    dsimp only [Option.toList, List.cons_append, List.nil_append]
    refine xj_astoreN (pc := 5) d_RD_fill_5 (by decide) rfl ?_
    dsimp only [xset, xset2, xkill]
    refine xj_aload_n (pc := 7) d_RD_fill_7 rfl rfl ?_
    refine xj_iload (pc := 8) d_RD_fill_8 rfl ?_
    rcases regc to with ⟨k_to, hk_to, e_to, i_to, t_to⟩ | i_to
    · refine xj_callV (pc := 10) d_RD_fill_10 ml_RD_56 ok_RD_register (s_RD_register_k hk_to e_to) rfl rfl rfl rfl rfl (Nat.le_of_ble_eq_true rfl) (by decide) ?_
      rintro rv I1 F1 ⟨rfl, rfl, rfl⟩
      dsimp only [Option.toList, List.cons_append, List.nil_append]
      refine xj_astore (pc := 13) d_RD_fill_13 (by decide) rfl ?_
      dsimp only [xset, xset2, xkill]
      refine xj_aloadN (pc := 15) d_RD_fill_15 rfl ?_
      refine xj_ifnullN (pc := 17) (tgt := 38) d_RD_fill_17 (by decide) ?_
      refine xj_iconst (pc := 38) (v := -1) d_RD_fill_38 (by decide) ?_
      refine xj_iret (pc := 39) d_RD_fill_39 rfl ?_
      exact ck_none hC (if_neg (fun q => by simp only [Bool.and_eq_true, decide_eq_true_eq] at q; first | omega | simp_all))
    · refine xj_callV (pc := 10) d_RD_fill_10 ml_RD_56 ok_RD_register (s_RD_register_n i_to) rfl rfl rfl rfl rfl (Nat.le_of_ble_eq_true rfl) (by decide) ?_
      rintro rv I1 F1 ⟨rfl, rfl, rfl⟩
      dsimp only [Option.toList, List.cons_append, List.nil_append]
      refine xj_astoreN (pc := 13) d_RD_fill_13 (by decide) rfl ?_
      dsimp only [xset, xset2, xkill]
      refine xj_aloadN (pc := 15) d_RD_fill_15 rfl ?_
      refine xj_ifnullN (pc := 17) (tgt := 38) d_RD_fill_17 (by decide) ?_
      refine xj_iconst (pc := 38) (v := -1) d_RD_fill_38 (by decide) ?_
      refine xj_iret (pc := 39) d_RD_fill_39 rfl ?_
      exact ck_none hC (if_neg (fun q => by simp only [Bool.and_eq_true, decide_eq_true_eq] at q; first | omega | simp_all))
end RDA
