section MOK
variable {I I1 I2 : XI} {F F1 F2 : XF} {S : XSt} {r k : Nat} {M X L T : List Int32} {P : XP}
theorem wbg_ltt {i j : Nat} (hj : j < (wst L).length) (h : i < j) : wbg L i < wbg L j := by
  rw [wbg, wbg, List.getD_eq_getElem?_getD, List.getD_eq_getElem?_getD, List.getElem?_eq_getElem hj, List.getElem?_eq_getElem (show i < (wst L).length by omega)]
  exact List.pairwise_iff_getElem.mp (wsi_sorted L L.length) i j _ _ h
theorem wbg_iff {i j : Nat} (hi : i < (wst L).length) (hj : j < (wst L).length) : wbg L i < wbg L j ↔ i < j := by
  constructor
  · intro h
    rcases Nat.lt_or_ge i j with z | z
    · exact z
    · have := so_mono L z; omega
  · exact wbg_ltt hj
theorem tw_stop {p : Int32 → Bool} {b : Int32} : ∀ {X : List Int32}, X[(X.takeWhile p).length]? = some b → p b = false
  | [], h => by simp at h
  | x :: X, h => by
    rw [List.takeWhile_cons] at h
    split at h
    · rw [List.length_cons, List.getElem?_cons_succ] at h; exact tw_stop h
    · rename_i hx
      have e : x = b := Option.some.inj h
      rw [← e]; simpa using hx
/-- at the end of a word: the row's end, or a blank -/
theorem wat_stop {i t : Nat} (ht : t = (wat L i).length) : L.length ≤ wbg L i + t ∨ L[wbg L i + t]? = some 32 := by
  rcases Nat.lt_or_ge (wbg L i + t) L.length with z | z
  · right
    have hg : L[wbg L i + t]? = some L[wbg L i + t] := List.getElem?_eq_getElem z
    have := tw_stop (p := fun b => decide (b ≠ 32)) (X := L.drop (wbg L i)) (b := L[wbg L i + t]) (by rw [List.getElem?_drop, ← hg, ht]; rfl)
    simp at this
    rw [hg, this]
  · exact Or.inl z
theorem wat_in {i t : Nat} (ht : t < (wat L i).length) : wbg L i + t < L.length ∧ L[wbg L i + t]? = some (wat L i)[t] ∧ ¬ (wat L i)[t] = 32 := by
  have h1 := wat_len L i
  have h2 := wsp_le L i
  have hg := wat_get L i ht
  rw [List.getElem?_eq_getElem ht] at hg
  refine ⟨by omega, hg.symm, fun e => ?_⟩
  have := tw_mem (show (wat L i)[t] ∈ (L.drop (wbg L i)).takeWhile (fun b => decide (b ≠ 32)) from List.getElem_mem ht)
  simp [e] at this
def xat (X : List Int32) (t : Nat) : Int32 := (X[t]?).getD (-1)
theorem ahead_iff {i j t : Nat} (hB : Bt L) (h200 : L.length ≤ 200) (hi : i < (wst L).length) (hj : j < (wst L).length) (t1 : t ≤ (wat L i).length) (t2 : t ≤ (wat L j).length) (hp : ∀ s, s < t → (wat L i)[s]? = (wat L j)[s]?) (hx : t < (wat L i).length → t < (wat L j).length → ¬ (wat L i)[t]? = (wat L j)[t]?) : wl L i j ↔ (xat (wat L i) t < xat (wat L j) t ∨ xat (wat L i) t = xat (wat L j) t ∧ nI (wbg L i) < nI (wbg L j)) := by
  have b1 := wbg_le L i
  have b2 := wbg_le L j
  have hw : nI (wbg L i) < nI (wbg L j) ↔ i < j := by rw [n_lt, n_nI (by omega), n_nI (by omega), ← wbg_iff hi hj]; omega
  rw [hw, wl]
  have byt : ∀ q (hq : q < (wst L).length) (ht : t < (wat L q).length), 0 ≤ ((wat L q)[t]).toInt := fun q _ ht => (hB _ (List.mem_of_getElem? (wat_in ht).2.1)).1
  rcases Nat.lt_or_ge t (wat L i).length with y | y
  · have gx : (wat L i)[t]? = some (wat L i)[t] := List.getElem?_eq_getElem y
    have ex : xat (wat L i) t = (wat L i)[t] := by rw [xat, gx]; rfl
    have zx := byt i hi y
    rcases Nat.lt_or_ge t (wat L j).length with z | z
    · have gy : (wat L j)[t]? = some (wat L j)[t] := List.getElem?_eq_getElem z
      have ey : xat (wat L j) t = (wat L j)[t] := by rw [xat, gy]; rfl
      have hne : ¬ (wat L i)[t] = (wat L j)[t] := fun e => hx y z (by rw [gx, gy, e])
      rw [wlt_df hp gx gy hne, decide_eq_true_eq, ex, ey]
      constructor
      · rintro (q | q)
        · exact Or.inl q
        · exact absurd (by rw [q.1]) (hx y z)
      · rintro (q | q)
        · exact Or.inl q
        · exact absurd q.1 hne
    · have ey : xat (wat L j) t = -1 := by rw [xat, List.getElem?_eq_none z]; rfl
      have hwl : ¬ wlt (wat L i) (wat L j) = true := by
        rw [wlt_end (t := t) (by omega) hp]; omega
      constructor
      · rintro (q | q)
        · exact absurd q hwl
        · have := congrArg List.length q.1; omega
      · rintro (q | q)
        · rw [ex, ey, n_lt, n_m1] at q; omega
        · rw [ex, ey, n_eq, n_m1] at q; omega
  · have ex : xat (wat L i) t = -1 := by rw [xat, List.getElem?_eq_none y]; rfl
    rcases Nat.lt_or_ge t (wat L j).length with z | z
    · have gy : (wat L j)[t]? = some (wat L j)[t] := List.getElem?_eq_getElem z
      have ey : xat (wat L j) t = (wat L j)[t] := by rw [xat, gy]; rfl
      have zy := byt j hj z
      exact ⟨fun _ => Or.inl (by rw [ex, ey, n_lt, n_m1]; omega), fun _ => Or.inl ((wlt_end (t := t) (by omega) hp).mpr (by omega))⟩
    · have ey : xat (wat L j) t = -1 := by rw [xat, List.getElem?_eq_none z]; rfl
      have e : wat L i = wat L j := List.ext_getElem? (fun s => by
        rcases Nat.lt_or_ge s t with q | q
        · exact hp s q
        · rw [List.getElem?_eq_none (by omega), List.getElem?_eq_none (by omega)])
      have hwl : ¬ wlt (wat L i) (wat L j) = true := by rw [e, wlt_irr]; decide
      rw [ex, ey]
      constructor
      · rintro (q | q)
        · exact absurd q hwl
        · exact Or.inr ⟨rfl, q.2⟩
      · rintro (q | q)
        · rw [n_lt] at q; omega
        · exact Or.inr ⟨e, q.2⟩
theorem s_MO_ah3 {i j : Nat} {a p q x y : Int32} (hh : wl L i j ↔ (x < y ∨ x = y ∧ nI (wbg L i) < nI (wbg L j))) :
    XJ none m_MO_isAhead 150 [some (.ref 36), some (.int a), some (.int (nI (wbg L i))), some (.int (nI (wbg L j))), some (.int p), some (.int q), some (.int x), some (.int y)] [] I F (xpi (b01 (wlb L i j)) I F) := by
  have ht : wl L i j → wlb L i j = true := wlb_t.mpr
  have hf : ¬ wl L i j → wlb L i j = false := fun q => Bool.eq_false_iff.mpr (fun z => q (wlb_t.mp z))
  refine xj_iload (pc := 150) d_MO_isAhead_150 rfl ?_
  refine xj_iload (pc := 152) d_MO_isAhead_152 rfl ?_
  refine xj_icmp_lt (pc := 154) (tgt := 169) d_MO_isAhead_154 (by decide) (fun h154 => ?_) (fun h154 => ?_)
  · refine xj_iconst (pc := 169) (v := 1) d_MO_isAhead_169 (by decide) ?_
    refine xj_goto (pc := 170) (tgt := 174) d_MO_isAhead_170 (by decide) ?_
    refine xj_zret (pc := 174) d_MO_isAhead_174 rfl (by first | exact Or.inl rfl | exact Or.inr rfl | assumption | omega) ?_
    first | (rw [ht (hh.mpr (Or.inl h154))]; exact ⟨rfl, rfl, rfl⟩; done) | (rw [ht (hh.mpr (Or.inr ⟨h161, by rw [n_le] at h166; rw [n_lt]; omega⟩))]; exact ⟨rfl, rfl, rfl⟩; done) | (rw [hf (fun z => by rcases hh.mp z with z | z; exact h154 z; exact h161 z.1)]; exact ⟨rfl, rfl, rfl⟩; done) | (rw [hf (fun z => by rcases hh.mp z with z | z; exact h154 z; rw [n_le] at h166; rw [n_lt] at z; omega)]; exact ⟨rfl, rfl, rfl⟩)
  · refine xj_iload (pc := 157) d_MO_isAhead_157 rfl ?_
    refine xj_iload (pc := 159) d_MO_isAhead_159 rfl ?_
    refine xj_icmp_ne (pc := 161) (tgt := 173) d_MO_isAhead_161 (by decide) (fun h161 => ?_) (fun h161 => ?_)
    · refine xj_iconst (pc := 173) (v := 0) d_MO_isAhead_173 (by decide) ?_
      refine xj_zret (pc := 174) d_MO_isAhead_174 rfl (by first | exact Or.inl rfl | exact Or.inr rfl | assumption | omega) ?_
      first | (rw [ht (hh.mpr (Or.inl h154))]; exact ⟨rfl, rfl, rfl⟩; done) | (rw [ht (hh.mpr (Or.inr ⟨h161, by rw [n_le] at h166; rw [n_lt]; omega⟩))]; exact ⟨rfl, rfl, rfl⟩; done) | (rw [hf (fun z => by rcases hh.mp z with z | z; exact h154 z; exact h161 z.1)]; exact ⟨rfl, rfl, rfl⟩; done) | (rw [hf (fun z => by rcases hh.mp z with z | z; exact h154 z; rw [n_le] at h166; rw [n_lt] at z; omega)]; exact ⟨rfl, rfl, rfl⟩)
    · refine xj_iload_n (pc := 164) d_MO_isAhead_164 rfl rfl ?_
      refine xj_iload_n (pc := 165) d_MO_isAhead_165 rfl rfl ?_
      refine xj_icmp_ge (pc := 166) (tgt := 173) d_MO_isAhead_166 (by decide) (fun h166 => ?_) (fun h166 => ?_)
      · refine xj_iconst (pc := 173) (v := 0) d_MO_isAhead_173 (by decide) ?_
        refine xj_zret (pc := 174) d_MO_isAhead_174 rfl (by first | exact Or.inl rfl | exact Or.inr rfl | assumption | omega) ?_
        first | (rw [ht (hh.mpr (Or.inl h154))]; exact ⟨rfl, rfl, rfl⟩; done) | (rw [ht (hh.mpr (Or.inr ⟨h161, by rw [n_le] at h166; rw [n_lt]; omega⟩))]; exact ⟨rfl, rfl, rfl⟩; done) | (rw [hf (fun z => by rcases hh.mp z with z | z; exact h154 z; exact h161 z.1)]; exact ⟨rfl, rfl, rfl⟩; done) | (rw [hf (fun z => by rcases hh.mp z with z | z; exact h154 z; rw [n_le] at h166; rw [n_lt] at z; omega)]; exact ⟨rfl, rfl, rfl⟩)
      · refine xj_iconst (pc := 169) (v := 1) d_MO_isAhead_169 (by decide) ?_
        refine xj_goto (pc := 170) (tgt := 174) d_MO_isAhead_170 (by decide) ?_
        refine xj_zret (pc := 174) d_MO_isAhead_174 rfl (by first | exact Or.inl rfl | exact Or.inr rfl | assumption | omega) ?_
        first | (rw [ht (hh.mpr (Or.inl h154))]; exact ⟨rfl, rfl, rfl⟩; done) | (rw [ht (hh.mpr (Or.inr ⟨h161, by rw [n_le] at h166; rw [n_lt]; omega⟩))]; exact ⟨rfl, rfl, rfl⟩; done) | (rw [hf (fun z => by rcases hh.mp z with z | z; exact h154 z; exact h161 z.1)]; exact ⟨rfl, rfl, rfl⟩; done) | (rw [hf (fun z => by rcases hh.mp z with z | z; exact h154 z; rw [n_le] at h166; rw [n_lt] at z; omega)]; exact ⟨rfl, rfl, rfl⟩)
theorem s_MO_ah2 {i j t : Nat} {p x : Int32} {ka : Nat} (hka : ka < 10) (hL : Mr F ka L) (t2 : t ≤ (wat L j).length) (hh : wl L i j ↔ (x < xat (wat L j) t ∨ x = xat (wat L j) t ∧ nI (wbg L i) < nI (wbg L j))) :
    XJ none m_MO_isAhead 114 [some (.ref 36), some (.int (nI ka)), some (.int (nI (wbg L i))), some (.int (nI (wbg L j))), some (.int p), some (.int (nI (wbg L j + t))), some (.int x)] [] I F (xpi (b01 (wlb L i j)) I F) := by
  have h200 := hL.2.1
  have hz := hL.sz
  have b2 := wbg_le L j
  have l2 := wat_len L j
  have s2 := wsp_le L j
  rcases Nat.lt_or_ge t (wat L j).length with z | z
  · obtain ⟨w1, w2, w3⟩ := wat_in z
    have ey : xat (wat L j) t = (wat L j)[t] := by rw [xat, List.getElem?_eq_getElem z]; rfl
    rw [ey] at hh
    refine xj_iload (pc := 114) d_MO_isAhead_114 rfl ?_
    refine xj_aload_n (pc := 116) d_MO_isAhead_116 rfl rfl ?_
    refine xj_getR (pc := 117) d_MO_isAhead_117 fl_MO_16 rfl rfl ?_
    refine xj_iload_n (pc := 120) d_MO_isAhead_120 rfl rfl ?_
    refine xj_iald (pc := 121) d_MO_isAhead_121 (n := 10) (x := 21) rfl rfl hka (by decide) ?_
    refine xj_icmp_ge (pc := 122) (tgt := 147) d_MO_isAhead_122 (by decide) (fun h122 => absurd h122 (by rw [n_le, hz, n_nI (by omega)]; omega)) (fun h122 => ?_)
    refine xj_aload_n (pc := 125) d_MO_isAhead_125 rfl rfl ?_
    refine xj_iload_n (pc := 126) d_MO_isAhead_126 rfl rfl ?_
    refine xj_iload (pc := 127) d_MO_isAhead_127 rfl ?_
    refine xj_callV (pc := 129) d_MO_isAhead_129 ml_MO_46 ok_MO_of (s_MO_ofL hka hL w2) rfl rfl rfl rfl rfl (Nat.le_of_ble_eq_true rfl) (by decide) ?_
    rintro rv I1 F1 ⟨rfl, rfl, rfl⟩
    dsimp only [Option.toList, List.cons_append, List.nil_append]
    refine xj_bipush (pc := 132) (v := 32) d_MO_isAhead_132 (by decide) ?_
    refine xj_icmp_eq (pc := 134) (tgt := 147) d_MO_isAhead_134 (by decide) (fun h134 => absurd h134 (w3)) (fun h134 => ?_)
    refine xj_aload_n (pc := 137) d_MO_isAhead_137 rfl rfl ?_
    refine xj_iload_n (pc := 138) d_MO_isAhead_138 rfl rfl ?_
    refine xj_iload (pc := 139) d_MO_isAhead_139 rfl ?_
    refine xj_callV (pc := 141) d_MO_isAhead_141 ml_MO_46 ok_MO_of (s_MO_ofL hka hL w2) rfl rfl rfl rfl rfl (Nat.le_of_ble_eq_true rfl) (by decide) ?_
    rintro rv I1 F1 ⟨rfl, rfl, rfl⟩
    dsimp only [Option.toList, List.cons_append, List.nil_append]
    refine xj_goto (pc := 144) (tgt := 148) d_MO_isAhead_144 (by decide) ?_
    refine xj_istore (pc := 148) d_MO_isAhead_148 (by decide) rfl ?_
    dsimp only [xset, xset2, xkill]
    exact s_MO_ah3 hh
  · have ey : xat (wat L j) t = -1 := by rw [xat, List.getElem?_eq_none z]; rfl
    rw [ey] at hh
    rcases wat_stop (L := L) (i := j) (t := t) (by omega) with w | w
    · refine xj_iload (pc := 114) d_MO_isAhead_114 rfl ?_
      refine xj_aload_n (pc := 116) d_MO_isAhead_116 rfl rfl ?_
      refine xj_getR (pc := 117) d_MO_isAhead_117 fl_MO_16 rfl rfl ?_
      refine xj_iload_n (pc := 120) d_MO_isAhead_120 rfl rfl ?_
      refine xj_iald (pc := 121) d_MO_isAhead_121 (n := 10) (x := 21) rfl rfl hka (by decide) ?_
      refine xj_icmp_ge (pc := 122) (tgt := 147) d_MO_isAhead_122 (by decide) (fun h122 => ?_) (fun h122 => absurd (by rw [n_le, hz, n_nI (by omega)]; omega) h122)
      refine xj_iconst (pc := 147) (v := -1) d_MO_isAhead_147 (by decide) ?_
      refine xj_istore (pc := 148) d_MO_isAhead_148 (by decide) rfl ?_
      dsimp only [xset, xset2, xkill]
      exact s_MO_ah3 hh
    · have w1 := (List.getElem?_eq_some_iff.mp w).1
      refine xj_iload (pc := 114) d_MO_isAhead_114 rfl ?_
      refine xj_aload_n (pc := 116) d_MO_isAhead_116 rfl rfl ?_
      refine xj_getR (pc := 117) d_MO_isAhead_117 fl_MO_16 rfl rfl ?_
      refine xj_iload_n (pc := 120) d_MO_isAhead_120 rfl rfl ?_
      refine xj_iald (pc := 121) d_MO_isAhead_121 (n := 10) (x := 21) rfl rfl hka (by decide) ?_
      refine xj_icmp_ge (pc := 122) (tgt := 147) d_MO_isAhead_122 (by decide) (fun h122 => absurd h122 (by rw [n_le, hz, n_nI (by omega)]; omega)) (fun h122 => ?_)
      refine xj_aload_n (pc := 125) d_MO_isAhead_125 rfl rfl ?_
      refine xj_iload_n (pc := 126) d_MO_isAhead_126 rfl rfl ?_
      refine xj_iload (pc := 127) d_MO_isAhead_127 rfl ?_
      refine xj_callV (pc := 129) d_MO_isAhead_129 ml_MO_46 ok_MO_of (s_MO_ofL hka hL w) rfl rfl rfl rfl rfl (Nat.le_of_ble_eq_true rfl) (by decide) ?_
      rintro rv I1 F1 ⟨rfl, rfl, rfl⟩
      dsimp only [Option.toList, List.cons_append, List.nil_append]
      refine xj_bipush (pc := 132) (v := 32) d_MO_isAhead_132 (by decide) ?_
      refine xj_icmp_eq (pc := 134) (tgt := 147) d_MO_isAhead_134 (by decide) (fun h134 => ?_) (fun h134 => absurd (rfl) h134)
      refine xj_iconst (pc := 147) (v := -1) d_MO_isAhead_147 (by decide) ?_
      refine xj_istore (pc := 148) d_MO_isAhead_148 (by decide) rfl ?_
      dsimp only [xset, xset2, xkill]
      exact s_MO_ah3 hh
theorem s_MO_ah1 {i j t : Nat} {ka : Nat} (hka : ka < 10) (hL : Mr F ka L) (t1 : t ≤ (wat L i).length) (t2 : t ≤ (wat L j).length) (hh : wl L i j ↔ (xat (wat L i) t < xat (wat L j) t ∨ xat (wat L i) t = xat (wat L j) t ∧ nI (wbg L i) < nI (wbg L j))) :
    XJ none m_MO_isAhead 78 [some (.ref 36), some (.int (nI ka)), some (.int (nI (wbg L i))), some (.int (nI (wbg L j))), some (.int (nI (wbg L i + t))), some (.int (nI (wbg L j + t)))] [] I F (xpi (b01 (wlb L i j)) I F) := by
  have h200 := hL.2.1
  have hz := hL.sz
  have b2 := wbg_le L i
  have l2 := wat_len L i
  have s2 := wsp_le L i
  rcases Nat.lt_or_ge t (wat L i).length with z | z
  · obtain ⟨w1, w2, w3⟩ := wat_in z
    have ey : xat (wat L i) t = (wat L i)[t] := by rw [xat, List.getElem?_eq_getElem z]; rfl
    rw [ey] at hh
    refine xj_iload (pc := 78) d_MO_isAhead_78 rfl ?_
    refine xj_aload_n (pc := 80) d_MO_isAhead_80 rfl rfl ?_
    refine xj_getR (pc := 81) d_MO_isAhead_81 fl_MO_16 rfl rfl ?_
    refine xj_iload_n (pc := 84) d_MO_isAhead_84 rfl rfl ?_
    refine xj_iald (pc := 85) d_MO_isAhead_85 (n := 10) (x := 21) rfl rfl hka (by decide) ?_
    refine xj_icmp_ge (pc := 86) (tgt := 111) d_MO_isAhead_86 (by decide) (fun h86 => absurd h86 (by rw [n_le, hz, n_nI (by omega)]; omega)) (fun h86 => ?_)
    refine xj_aload_n (pc := 89) d_MO_isAhead_89 rfl rfl ?_
    refine xj_iload_n (pc := 90) d_MO_isAhead_90 rfl rfl ?_
    refine xj_iload (pc := 91) d_MO_isAhead_91 rfl ?_
    refine xj_callV (pc := 93) d_MO_isAhead_93 ml_MO_46 ok_MO_of (s_MO_ofL hka hL w2) rfl rfl rfl rfl rfl (Nat.le_of_ble_eq_true rfl) (by decide) ?_
    rintro rv I1 F1 ⟨rfl, rfl, rfl⟩
    dsimp only [Option.toList, List.cons_append, List.nil_append]
    refine xj_bipush (pc := 96) (v := 32) d_MO_isAhead_96 (by decide) ?_
    refine xj_icmp_eq (pc := 98) (tgt := 111) d_MO_isAhead_98 (by decide) (fun h98 => absurd h98 (w3)) (fun h98 => ?_)
    refine xj_aload_n (pc := 101) d_MO_isAhead_101 rfl rfl ?_
    refine xj_iload_n (pc := 102) d_MO_isAhead_102 rfl rfl ?_
    refine xj_iload (pc := 103) d_MO_isAhead_103 rfl ?_
    refine xj_callV (pc := 105) d_MO_isAhead_105 ml_MO_46 ok_MO_of (s_MO_ofL hka hL w2) rfl rfl rfl rfl rfl (Nat.le_of_ble_eq_true rfl) (by decide) ?_
    rintro rv I1 F1 ⟨rfl, rfl, rfl⟩
    dsimp only [Option.toList, List.cons_append, List.nil_append]
    refine xj_goto (pc := 108) (tgt := 112) d_MO_isAhead_108 (by decide) ?_
    refine xj_istore (pc := 112) d_MO_isAhead_112 (by decide) rfl ?_
    dsimp only [xset, xset2, xkill]
    exact s_MO_ah2 hka hL t2 hh
  · have ey : xat (wat L i) t = -1 := by rw [xat, List.getElem?_eq_none z]; rfl
    rw [ey] at hh
    rcases wat_stop (L := L) (i := i) (t := t) (by omega) with w | w
    · refine xj_iload (pc := 78) d_MO_isAhead_78 rfl ?_
      refine xj_aload_n (pc := 80) d_MO_isAhead_80 rfl rfl ?_
      refine xj_getR (pc := 81) d_MO_isAhead_81 fl_MO_16 rfl rfl ?_
      refine xj_iload_n (pc := 84) d_MO_isAhead_84 rfl rfl ?_
      refine xj_iald (pc := 85) d_MO_isAhead_85 (n := 10) (x := 21) rfl rfl hka (by decide) ?_
      refine xj_icmp_ge (pc := 86) (tgt := 111) d_MO_isAhead_86 (by decide) (fun h86 => ?_) (fun h86 => absurd (by rw [n_le, hz, n_nI (by omega)]; omega) h86)
      refine xj_iconst (pc := 111) (v := -1) d_MO_isAhead_111 (by decide) ?_
      refine xj_istore (pc := 112) d_MO_isAhead_112 (by decide) rfl ?_
      dsimp only [xset, xset2, xkill]
      exact s_MO_ah2 hka hL t2 hh
    · have w1 := (List.getElem?_eq_some_iff.mp w).1
      refine xj_iload (pc := 78) d_MO_isAhead_78 rfl ?_
      refine xj_aload_n (pc := 80) d_MO_isAhead_80 rfl rfl ?_
      refine xj_getR (pc := 81) d_MO_isAhead_81 fl_MO_16 rfl rfl ?_
      refine xj_iload_n (pc := 84) d_MO_isAhead_84 rfl rfl ?_
      refine xj_iald (pc := 85) d_MO_isAhead_85 (n := 10) (x := 21) rfl rfl hka (by decide) ?_
      refine xj_icmp_ge (pc := 86) (tgt := 111) d_MO_isAhead_86 (by decide) (fun h86 => absurd h86 (by rw [n_le, hz, n_nI (by omega)]; omega)) (fun h86 => ?_)
      refine xj_aload_n (pc := 89) d_MO_isAhead_89 rfl rfl ?_
      refine xj_iload_n (pc := 90) d_MO_isAhead_90 rfl rfl ?_
      refine xj_iload (pc := 91) d_MO_isAhead_91 rfl ?_
      refine xj_callV (pc := 93) d_MO_isAhead_93 ml_MO_46 ok_MO_of (s_MO_ofL hka hL w) rfl rfl rfl rfl rfl (Nat.le_of_ble_eq_true rfl) (by decide) ?_
      rintro rv I1 F1 ⟨rfl, rfl, rfl⟩
      dsimp only [Option.toList, List.cons_append, List.nil_append]
      refine xj_bipush (pc := 96) (v := 32) d_MO_isAhead_96 (by decide) ?_
      refine xj_icmp_eq (pc := 98) (tgt := 111) d_MO_isAhead_98 (by decide) (fun h98 => ?_) (fun h98 => absurd (rfl) h98)
      refine xj_iconst (pc := 111) (v := -1) d_MO_isAhead_111 (by decide) ?_
      refine xj_istore (pc := 112) d_MO_isAhead_112 (by decide) rfl ?_
      dsimp only [xset, xset2, xkill]
      exact s_MO_ah2 hka hL t2 hh
theorem s_MO_ah_l {i j ka : Nat} (hka : ka < 10) (hL : Mr F ka L) (hB : Bt L) (hi : i < (wst L).length) (hj : j < (wst L).length) : ∀ (m t : Nat), t + m = (wat L i).length → t ≤ (wat L j).length → (∀ s, s < t → (wat L i)[s]? = (wat L j)[s]?) →
    XJ none m_MO_isAhead 6 [some (.ref 36), some (.int (nI ka)), some (.int (nI (wbg L i))), some (.int (nI (wbg L j))), some (.int (nI (wbg L i + t))), some (.int (nI (wbg L j + t)))] [] I F (xpi (b01 (wlb L i j)) I F) := by
  have h200 := hL.2.1
  have hz := hL.sz
  have bi := wbg_le L i
  have li := wat_len L i
  have si := wsp_le L i
  have bj := wbg_le L j
  have lj := wat_len L j
  have sj := wsp_le L j
  intro m
  induction m with
  | zero =>
    intro t ht t2 hp
    have hend : XJ none m_MO_isAhead 78 [some (.ref 36), some (.int (nI ka)), some (.int (nI (wbg L i))), some (.int (nI (wbg L j))), some (.int (nI (wbg L i + t))), some (.int (nI (wbg L j + t)))] [] I F (xpi (b01 (wlb L i j)) I F) := s_MO_ah1 hka hL (by omega) t2 (ahead_iff hB h200 hi hj (by omega) t2 hp (fun z _ => absurd z (by omega)))
    rcases wat_stop (L := L) (i := i) (t := t) (by omega) with w | w
    · refine xj_iload (pc := 6) d_MO_isAhead_6 rfl ?_
      refine xj_aload_n (pc := 8) d_MO_isAhead_8 rfl rfl ?_
      refine xj_getR (pc := 9) d_MO_isAhead_9 fl_MO_16 rfl rfl ?_
      refine xj_iload_n (pc := 12) d_MO_isAhead_12 rfl rfl ?_
      refine xj_iald (pc := 13) d_MO_isAhead_13 (n := 10) (x := 21) rfl rfl hka (by decide) ?_
      refine xj_icmp_ge (pc := 14) (tgt := 78) d_MO_isAhead_14 (by decide) (fun h14 => ?_) (fun h14 => absurd (by rw [n_le, hz, n_nI (by omega)]; omega) h14)
      exact hend
    · have w1 := (List.getElem?_eq_some_iff.mp w).1
      rcases Nat.lt_or_ge (wbg L j + t) L.length with y | y
      · refine xj_iload (pc := 6) d_MO_isAhead_6 rfl ?_
        refine xj_aload_n (pc := 8) d_MO_isAhead_8 rfl rfl ?_
        refine xj_getR (pc := 9) d_MO_isAhead_9 fl_MO_16 rfl rfl ?_
        refine xj_iload_n (pc := 12) d_MO_isAhead_12 rfl rfl ?_
        refine xj_iald (pc := 13) d_MO_isAhead_13 (n := 10) (x := 21) rfl rfl hka (by decide) ?_
        refine xj_icmp_ge (pc := 14) (tgt := 78) d_MO_isAhead_14 (by decide) (fun h14 => absurd h14 (by rw [n_le, hz, n_nI (by omega)]; omega)) (fun h14 => ?_)
        refine xj_iload (pc := 17) d_MO_isAhead_17 rfl ?_
        refine xj_aload_n (pc := 19) d_MO_isAhead_19 rfl rfl ?_
        refine xj_getR (pc := 20) d_MO_isAhead_20 fl_MO_16 rfl rfl ?_
        refine xj_iload_n (pc := 23) d_MO_isAhead_23 rfl rfl ?_
        refine xj_iald (pc := 24) d_MO_isAhead_24 (n := 10) (x := 21) rfl rfl hka (by decide) ?_
        refine xj_icmp_ge (pc := 25) (tgt := 78) d_MO_isAhead_25 (by decide) (fun h25 => absurd h25 (by rw [n_le, hz, n_nI (by omega)]; omega)) (fun h25 => ?_)
        refine xj_aload_n (pc := 28) d_MO_isAhead_28 rfl rfl ?_
        refine xj_iload_n (pc := 29) d_MO_isAhead_29 rfl rfl ?_
        refine xj_iload (pc := 30) d_MO_isAhead_30 rfl ?_
        refine xj_callV (pc := 32) d_MO_isAhead_32 ml_MO_46 ok_MO_of (s_MO_ofL hka hL w) rfl rfl rfl rfl rfl (Nat.le_of_ble_eq_true rfl) (by decide) ?_
        rintro rv I1 F1 ⟨rfl, rfl, rfl⟩
        dsimp only [Option.toList, List.cons_append, List.nil_append]
        refine xj_bipush (pc := 35) (v := 32) d_MO_isAhead_35 (by decide) ?_
        refine xj_icmp_eq (pc := 37) (tgt := 78) d_MO_isAhead_37 (by decide) (fun h37 => ?_) (fun h37 => absurd (rfl) h37)
        exact hend
      · refine xj_iload (pc := 6) d_MO_isAhead_6 rfl ?_
        refine xj_aload_n (pc := 8) d_MO_isAhead_8 rfl rfl ?_
        refine xj_getR (pc := 9) d_MO_isAhead_9 fl_MO_16 rfl rfl ?_
        refine xj_iload_n (pc := 12) d_MO_isAhead_12 rfl rfl ?_
        refine xj_iald (pc := 13) d_MO_isAhead_13 (n := 10) (x := 21) rfl rfl hka (by decide) ?_
        refine xj_icmp_ge (pc := 14) (tgt := 78) d_MO_isAhead_14 (by decide) (fun h14 => absurd h14 (by rw [n_le, hz, n_nI (by omega)]; omega)) (fun h14 => ?_)
        refine xj_iload (pc := 17) d_MO_isAhead_17 rfl ?_
        refine xj_aload_n (pc := 19) d_MO_isAhead_19 rfl rfl ?_
        refine xj_getR (pc := 20) d_MO_isAhead_20 fl_MO_16 rfl rfl ?_
        refine xj_iload_n (pc := 23) d_MO_isAhead_23 rfl rfl ?_
        refine xj_iald (pc := 24) d_MO_isAhead_24 (n := 10) (x := 21) rfl rfl hka (by decide) ?_
        refine xj_icmp_ge (pc := 25) (tgt := 78) d_MO_isAhead_25 (by decide) (fun h25 => ?_) (fun h25 => absurd (by rw [n_le, hz, n_nI (by omega)]; omega) h25)
        exact hend
  | succ m ih =>
    intro t ht t2 hp
    have t1 : t < (wat L i).length := by omega
    obtain ⟨u1, u2, u3⟩ := wat_in t1
    rcases Nat.lt_or_ge t (wat L j).length with z | z
    · obtain ⟨v1, v2, v3⟩ := wat_in z
      by_cases hE : (wat L i)[t] = (wat L j)[t]
      · refine xj_iload (pc := 6) d_MO_isAhead_6 rfl ?_
        refine xj_aload_n (pc := 8) d_MO_isAhead_8 rfl rfl ?_
        refine xj_getR (pc := 9) d_MO_isAhead_9 fl_MO_16 rfl rfl ?_
        refine xj_iload_n (pc := 12) d_MO_isAhead_12 rfl rfl ?_
        refine xj_iald (pc := 13) d_MO_isAhead_13 (n := 10) (x := 21) rfl rfl hka (by decide) ?_
        refine xj_icmp_ge (pc := 14) (tgt := 78) d_MO_isAhead_14 (by decide) (fun h14 => absurd h14 (by rw [n_le, hz, n_nI (by omega)]; omega)) (fun h14 => ?_)
        refine xj_iload (pc := 17) d_MO_isAhead_17 rfl ?_
        refine xj_aload_n (pc := 19) d_MO_isAhead_19 rfl rfl ?_
        refine xj_getR (pc := 20) d_MO_isAhead_20 fl_MO_16 rfl rfl ?_
        refine xj_iload_n (pc := 23) d_MO_isAhead_23 rfl rfl ?_
        refine xj_iald (pc := 24) d_MO_isAhead_24 (n := 10) (x := 21) rfl rfl hka (by decide) ?_
        refine xj_icmp_ge (pc := 25) (tgt := 78) d_MO_isAhead_25 (by decide) (fun h25 => absurd h25 (by rw [n_le, hz, n_nI (by omega)]; omega)) (fun h25 => ?_)
        refine xj_aload_n (pc := 28) d_MO_isAhead_28 rfl rfl ?_
        refine xj_iload_n (pc := 29) d_MO_isAhead_29 rfl rfl ?_
        refine xj_iload (pc := 30) d_MO_isAhead_30 rfl ?_
        refine xj_callV (pc := 32) d_MO_isAhead_32 ml_MO_46 ok_MO_of (s_MO_ofL hka hL u2) rfl rfl rfl rfl rfl (Nat.le_of_ble_eq_true rfl) (by decide) ?_
        rintro rv I1 F1 ⟨rfl, rfl, rfl⟩
        dsimp only [Option.toList, List.cons_append, List.nil_append]
        refine xj_bipush (pc := 35) (v := 32) d_MO_isAhead_35 (by decide) ?_
        refine xj_icmp_eq (pc := 37) (tgt := 78) d_MO_isAhead_37 (by decide) (fun h37 => absurd h37 (u3)) (fun h37 => ?_)
        refine xj_aload_n (pc := 40) d_MO_isAhead_40 rfl rfl ?_
        refine xj_iload_n (pc := 41) d_MO_isAhead_41 rfl rfl ?_
        refine xj_iload (pc := 42) d_MO_isAhead_42 rfl ?_
        refine xj_callV (pc := 44) d_MO_isAhead_44 ml_MO_46 ok_MO_of (s_MO_ofL hka hL v2) rfl rfl rfl rfl rfl (Nat.le_of_ble_eq_true rfl) (by decide) ?_
        rintro rv I1 F1 ⟨rfl, rfl, rfl⟩
        dsimp only [Option.toList, List.cons_append, List.nil_append]
        refine xj_bipush (pc := 47) (v := 32) d_MO_isAhead_47 (by decide) ?_
        refine xj_icmp_eq (pc := 49) (tgt := 78) d_MO_isAhead_49 (by decide) (fun h49 => absurd h49 (v3)) (fun h49 => ?_)
        refine xj_aload_n (pc := 52) d_MO_isAhead_52 rfl rfl ?_
        refine xj_iload_n (pc := 53) d_MO_isAhead_53 rfl rfl ?_
        refine xj_iload (pc := 54) d_MO_isAhead_54 rfl ?_
        refine xj_callV (pc := 56) d_MO_isAhead_56 ml_MO_46 ok_MO_of (s_MO_ofL hka hL u2) rfl rfl rfl rfl rfl (Nat.le_of_ble_eq_true rfl) (by decide) ?_
        rintro rv I1 F1 ⟨rfl, rfl, rfl⟩
        dsimp only [Option.toList, List.cons_append, List.nil_append]
        refine xj_aload_n (pc := 59) d_MO_isAhead_59 rfl rfl ?_
        refine xj_iload_n (pc := 60) d_MO_isAhead_60 rfl rfl ?_
        refine xj_iload (pc := 61) d_MO_isAhead_61 rfl ?_
        refine xj_callV (pc := 63) d_MO_isAhead_63 ml_MO_46 ok_MO_of (s_MO_ofL hka hL v2) rfl rfl rfl rfl rfl (Nat.le_of_ble_eq_true rfl) (by decide) ?_
        rintro rv I1 F1 ⟨rfl, rfl, rfl⟩
        dsimp only [Option.toList, List.cons_append, List.nil_append]
        refine xj_icmp_ne (pc := 66) (tgt := 78) d_MO_isAhead_66 (by decide) (fun h66 => absurd (hE) h66) (fun h66 => ?_)
        refine xj_inc1 (pc := 69) d_MO_isAhead_69 rfl (by decide) rfl ?_
        dsimp only [xset, xset2, xkill]
        refine xj_inc1 (pc := 72) d_MO_isAhead_72 rfl (by decide) rfl ?_
        dsimp only [xset, xset2, xkill]
        rw [n_up, n_up]
        refine xj_goto (pc := 75) (tgt := 6) d_MO_isAhead_75 (by decide) ?_
        refine ih (t + 1) (by omega) (by omega) (fun s hs => ?_)
        rcases Nat.lt_or_ge s t with q | q
        · exact hp s q
        · rw [show s = t by omega, List.getElem?_eq_getElem t1, List.getElem?_eq_getElem z, hE]
      · refine xj_iload (pc := 6) d_MO_isAhead_6 rfl ?_
        refine xj_aload_n (pc := 8) d_MO_isAhead_8 rfl rfl ?_
        refine xj_getR (pc := 9) d_MO_isAhead_9 fl_MO_16 rfl rfl ?_
        refine xj_iload_n (pc := 12) d_MO_isAhead_12 rfl rfl ?_
        refine xj_iald (pc := 13) d_MO_isAhead_13 (n := 10) (x := 21) rfl rfl hka (by decide) ?_
        refine xj_icmp_ge (pc := 14) (tgt := 78) d_MO_isAhead_14 (by decide) (fun h14 => absurd h14 (by rw [n_le, hz, n_nI (by omega)]; omega)) (fun h14 => ?_)
        refine xj_iload (pc := 17) d_MO_isAhead_17 rfl ?_
        refine xj_aload_n (pc := 19) d_MO_isAhead_19 rfl rfl ?_
        refine xj_getR (pc := 20) d_MO_isAhead_20 fl_MO_16 rfl rfl ?_
        refine xj_iload_n (pc := 23) d_MO_isAhead_23 rfl rfl ?_
        refine xj_iald (pc := 24) d_MO_isAhead_24 (n := 10) (x := 21) rfl rfl hka (by decide) ?_
        refine xj_icmp_ge (pc := 25) (tgt := 78) d_MO_isAhead_25 (by decide) (fun h25 => absurd h25 (by rw [n_le, hz, n_nI (by omega)]; omega)) (fun h25 => ?_)
        refine xj_aload_n (pc := 28) d_MO_isAhead_28 rfl rfl ?_
        refine xj_iload_n (pc := 29) d_MO_isAhead_29 rfl rfl ?_
        refine xj_iload (pc := 30) d_MO_isAhead_30 rfl ?_
        refine xj_callV (pc := 32) d_MO_isAhead_32 ml_MO_46 ok_MO_of (s_MO_ofL hka hL u2) rfl rfl rfl rfl rfl (Nat.le_of_ble_eq_true rfl) (by decide) ?_
        rintro rv I1 F1 ⟨rfl, rfl, rfl⟩
        dsimp only [Option.toList, List.cons_append, List.nil_append]
        refine xj_bipush (pc := 35) (v := 32) d_MO_isAhead_35 (by decide) ?_
        refine xj_icmp_eq (pc := 37) (tgt := 78) d_MO_isAhead_37 (by decide) (fun h37 => absurd h37 (u3)) (fun h37 => ?_)
        refine xj_aload_n (pc := 40) d_MO_isAhead_40 rfl rfl ?_
        refine xj_iload_n (pc := 41) d_MO_isAhead_41 rfl rfl ?_
        refine xj_iload (pc := 42) d_MO_isAhead_42 rfl ?_
        refine xj_callV (pc := 44) d_MO_isAhead_44 ml_MO_46 ok_MO_of (s_MO_ofL hka hL v2) rfl rfl rfl rfl rfl (Nat.le_of_ble_eq_true rfl) (by decide) ?_
        rintro rv I1 F1 ⟨rfl, rfl, rfl⟩
        dsimp only [Option.toList, List.cons_append, List.nil_append]
        refine xj_bipush (pc := 47) (v := 32) d_MO_isAhead_47 (by decide) ?_
        refine xj_icmp_eq (pc := 49) (tgt := 78) d_MO_isAhead_49 (by decide) (fun h49 => absurd h49 (v3)) (fun h49 => ?_)
        refine xj_aload_n (pc := 52) d_MO_isAhead_52 rfl rfl ?_
        refine xj_iload_n (pc := 53) d_MO_isAhead_53 rfl rfl ?_
        refine xj_iload (pc := 54) d_MO_isAhead_54 rfl ?_
        refine xj_callV (pc := 56) d_MO_isAhead_56 ml_MO_46 ok_MO_of (s_MO_ofL hka hL u2) rfl rfl rfl rfl rfl (Nat.le_of_ble_eq_true rfl) (by decide) ?_
        rintro rv I1 F1 ⟨rfl, rfl, rfl⟩
        dsimp only [Option.toList, List.cons_append, List.nil_append]
        refine xj_aload_n (pc := 59) d_MO_isAhead_59 rfl rfl ?_
        refine xj_iload_n (pc := 60) d_MO_isAhead_60 rfl rfl ?_
        refine xj_iload (pc := 61) d_MO_isAhead_61 rfl ?_
        refine xj_callV (pc := 63) d_MO_isAhead_63 ml_MO_46 ok_MO_of (s_MO_ofL hka hL v2) rfl rfl rfl rfl rfl (Nat.le_of_ble_eq_true rfl) (by decide) ?_
        rintro rv I1 F1 ⟨rfl, rfl, rfl⟩
        dsimp only [Option.toList, List.cons_append, List.nil_append]
        refine xj_icmp_ne (pc := 66) (tgt := 78) d_MO_isAhead_66 (by decide) (fun h66 => ?_) (fun h66 => absurd h66 (hE))
        exact s_MO_ah1 hka hL (by omega) t2 (ahead_iff hB h200 hi hj (by omega) t2 hp (fun _ _ q => hE (by rw [List.getElem?_eq_getElem t1, List.getElem?_eq_getElem z] at q; exact Option.some.inj q)))
    · have hend : XJ none m_MO_isAhead 78 [some (.ref 36), some (.int (nI ka)), some (.int (nI (wbg L i))), some (.int (nI (wbg L j))), some (.int (nI (wbg L i + t))), some (.int (nI (wbg L j + t)))] [] I F (xpi (b01 (wlb L i j)) I F) := s_MO_ah1 hka hL (by omega) t2 (ahead_iff hB h200 hi hj (by omega) t2 hp (fun _ q => absurd q (by omega)))
      rcases wat_stop (L := L) (i := j) (t := t) (by omega) with w | w
      · refine xj_iload (pc := 6) d_MO_isAhead_6 rfl ?_
        refine xj_aload_n (pc := 8) d_MO_isAhead_8 rfl rfl ?_
        refine xj_getR (pc := 9) d_MO_isAhead_9 fl_MO_16 rfl rfl ?_
        refine xj_iload_n (pc := 12) d_MO_isAhead_12 rfl rfl ?_
        refine xj_iald (pc := 13) d_MO_isAhead_13 (n := 10) (x := 21) rfl rfl hka (by decide) ?_
        refine xj_icmp_ge (pc := 14) (tgt := 78) d_MO_isAhead_14 (by decide) (fun h14 => absurd h14 (by rw [n_le, hz, n_nI (by omega)]; omega)) (fun h14 => ?_)
        refine xj_iload (pc := 17) d_MO_isAhead_17 rfl ?_
        refine xj_aload_n (pc := 19) d_MO_isAhead_19 rfl rfl ?_
        refine xj_getR (pc := 20) d_MO_isAhead_20 fl_MO_16 rfl rfl ?_
        refine xj_iload_n (pc := 23) d_MO_isAhead_23 rfl rfl ?_
        refine xj_iald (pc := 24) d_MO_isAhead_24 (n := 10) (x := 21) rfl rfl hka (by decide) ?_
        refine xj_icmp_ge (pc := 25) (tgt := 78) d_MO_isAhead_25 (by decide) (fun h25 => ?_) (fun h25 => absurd (by rw [n_le, hz, n_nI (by omega)]; omega) h25)
        exact hend
      · have w1 := (List.getElem?_eq_some_iff.mp w).1
        refine xj_iload (pc := 6) d_MO_isAhead_6 rfl ?_
        refine xj_aload_n (pc := 8) d_MO_isAhead_8 rfl rfl ?_
        refine xj_getR (pc := 9) d_MO_isAhead_9 fl_MO_16 rfl rfl ?_
        refine xj_iload_n (pc := 12) d_MO_isAhead_12 rfl rfl ?_
        refine xj_iald (pc := 13) d_MO_isAhead_13 (n := 10) (x := 21) rfl rfl hka (by decide) ?_
        refine xj_icmp_ge (pc := 14) (tgt := 78) d_MO_isAhead_14 (by decide) (fun h14 => absurd h14 (by rw [n_le, hz, n_nI (by omega)]; omega)) (fun h14 => ?_)
        refine xj_iload (pc := 17) d_MO_isAhead_17 rfl ?_
        refine xj_aload_n (pc := 19) d_MO_isAhead_19 rfl rfl ?_
        refine xj_getR (pc := 20) d_MO_isAhead_20 fl_MO_16 rfl rfl ?_
        refine xj_iload_n (pc := 23) d_MO_isAhead_23 rfl rfl ?_
        refine xj_iald (pc := 24) d_MO_isAhead_24 (n := 10) (x := 21) rfl rfl hka (by decide) ?_
        refine xj_icmp_ge (pc := 25) (tgt := 78) d_MO_isAhead_25 (by decide) (fun h25 => absurd h25 (by rw [n_le, hz, n_nI (by omega)]; omega)) (fun h25 => ?_)
        refine xj_aload_n (pc := 28) d_MO_isAhead_28 rfl rfl ?_
        refine xj_iload_n (pc := 29) d_MO_isAhead_29 rfl rfl ?_
        refine xj_iload (pc := 30) d_MO_isAhead_30 rfl ?_
        refine xj_callV (pc := 32) d_MO_isAhead_32 ml_MO_46 ok_MO_of (s_MO_ofL hka hL u2) rfl rfl rfl rfl rfl (Nat.le_of_ble_eq_true rfl) (by decide) ?_
        rintro rv I1 F1 ⟨rfl, rfl, rfl⟩
        dsimp only [Option.toList, List.cons_append, List.nil_append]
        refine xj_bipush (pc := 35) (v := 32) d_MO_isAhead_35 (by decide) ?_
        refine xj_icmp_eq (pc := 37) (tgt := 78) d_MO_isAhead_37 (by decide) (fun h37 => absurd h37 (u3)) (fun h37 => ?_)
        refine xj_aload_n (pc := 40) d_MO_isAhead_40 rfl rfl ?_
        refine xj_iload_n (pc := 41) d_MO_isAhead_41 rfl rfl ?_
        refine xj_iload (pc := 42) d_MO_isAhead_42 rfl ?_
        refine xj_callV (pc := 44) d_MO_isAhead_44 ml_MO_46 ok_MO_of (s_MO_ofL hka hL w) rfl rfl rfl rfl rfl (Nat.le_of_ble_eq_true rfl) (by decide) ?_
        rintro rv I1 F1 ⟨rfl, rfl, rfl⟩
        dsimp only [Option.toList, List.cons_append, List.nil_append]
        refine xj_bipush (pc := 47) (v := 32) d_MO_isAhead_47 (by decide) ?_
        refine xj_icmp_eq (pc := 49) (tgt := 78) d_MO_isAhead_49 (by decide) (fun h49 => ?_) (fun h49 => absurd (rfl) h49)
        exact hend
theorem s_MO_ah {i j ka : Nat} (hka : ka < 10) (hL : Mr F ka L) (hB : Bt L) (hi : i < (wst L).length) (hj : j < (wst L).length) : XM m_MO_isAhead [.ref 36, .int (nI ka), .int (nI (wbg L i)), .int (nI (wbg L j))] I F (xpi (b01 (wlb L i j)) I F) := by
  refine XM.of (by decide) (Nat.le_of_ble_eq_true rfl) ?_
  dsimp only [xargs]
  refine xj_iload_n (pc := 0) d_MO_isAhead_0 rfl rfl ?_
  refine xj_istore (pc := 1) d_MO_isAhead_1 (by decide) rfl ?_
  dsimp only [xset, xset2, xkill]
  refine xj_iload_n (pc := 3) d_MO_isAhead_3 rfl rfl ?_
  refine xj_istore (pc := 4) d_MO_isAhead_4 (by decide) rfl ?_
  dsimp only [xset, xset2, xkill]
  exact s_MO_ah_l hka hL hB hi hj _ 0 (Nat.zero_add _) (Nat.zero_le _) (fun s hs => absurd hs (by omega))
theorem t_MO_ord_a {how : Int32} {ka kt : Nat} (hka : ka < 10) (hL : Mr F ka L) (k2 : ∀ (F1 : XF), (∀ x, x ≠ 24 → F1 x = F x) → (∀ q s, (wst L)[q]? = some s → F1 24 (q + 1) = nI s) → XJ none m_MO_order 99 [some (.ref 36), some (.int (nI ka)), some (.int how), some (.int (nI kt)), some (.int (nI (wst L).length)), some (.int (nI L.length))] [] I F1 P) : ∀ (m p : Nat) (F1 : XF), p + m = L.length → (∀ x, x ≠ 24 → F1 x = F x) → (∀ q s, (wsi L p)[q]? = some s → F1 24 (q + 1) = nI s) →
    XJ none m_MO_order 36 [some (.ref 36), some (.int (nI ka)), some (.int how), some (.int (nI kt)), some (.int (nI (wsi L p).length)), some (.int (nI p))] [] I F1 P := by
  have h200 := hL.2.1
  have hc := wst_cnt h200
  intro m
  induction m with
  | zero =>
    intro p F1 hp g1 g2
    have hz := (hL.kp (g1 20 (by decide)) (g1 21 (by decide))).sz
    have e : p = L.length := by omega
    subst e
    refine xj_iload (pc := 36) d_MO_order_36 rfl ?_
    refine xj_aload_n (pc := 38) d_MO_order_38 rfl rfl ?_
    refine xj_getR (pc := 39) d_MO_order_39 fl_MO_16 rfl rfl ?_
    refine xj_iload_n (pc := 42) d_MO_order_42 rfl rfl ?_
    refine xj_iald (pc := 43) d_MO_order_43 (n := 10) (x := 21) rfl rfl hka (by decide) ?_
    refine xj_icmp_ge (pc := 44) (tgt := 99) d_MO_order_44 (by decide) (fun h44 => ?_) (fun h44 => absurd (by rw [n_le, hz, n_nI (by omega)]; omega) h44)
    exact k2 F1 g1 g2
  | succ m ih =>
    intro p F1 hp g1 g2
    have hL1 : Mr F1 ka L := hL.kp (g1 20 (by decide)) (g1 21 (by decide))
    have hz := hL1.sz
    have hb : L[p]? = some L[p] := List.getElem?_eq_getElem (by omega)
    have hgd : L.getD p 32 = L[p] := by rw [List.getD_eq_getElem?_getD, hb]; rfl
    have hpre := wsi_pre L (p + 1) L.length (by omega)
    rw [← wst_wsi] at hpre
    have hno : ¬ wb L p = true → wsi L (p + 1) = wsi L p := fun z => by rw [wsi_succ, if_neg z, List.append_nil]
    have hin : wb L p = true → XJ none m_MO_order 81 [some (.ref 36), some (.int (nI ka)), some (.int how), some (.int (nI kt)), some (.int (nI (wsi L p).length)), some (.int (nI p))] [] I F1 P := by
      intro z
      have e : wsi L (p + 1) = wsi L p ++ [p] := by rw [wsi_succ, if_pos z]
      rw [e, List.length_append, List.length_singleton] at hpre
      refine xj_inc1 (pc := 81) d_MO_order_81 rfl (by decide) rfl ?_
      dsimp only [xset, xset2, xkill]
      rw [n_up]
      refine xj_aload_n (pc := 84) d_MO_order_84 rfl rfl ?_
      refine xj_getR (pc := 85) d_MO_order_85 fl_MO_29 rfl rfl ?_
      refine xj_iload (pc := 88) d_MO_order_88 rfl ?_
      refine xj_iload (pc := 90) d_MO_order_90 rfl ?_
      refine xj_iast (pc := 92) d_MO_order_92 (n := 102) (x := 24) rfl rfl (by omega) (by decide) ?_
      refine xj_inc1 (pc := 93) d_MO_order_93 rfl (by decide) rfl ?_
      dsimp only [xset, xset2, xkill]
      rw [n_up]
      refine xj_goto (pc := 96) (tgt := 36) d_MO_order_96 (by decide) ?_
      have q3 := ih (p + 1) (va_up F1 24 (upd (F1 24) ((wsi L p).length + 1) (nI p))) (by omega) (fun x hx => by simp only [va_up, if_neg hx]; exact g1 x hx) (fun q s hq => ?_)
      · rw [e, List.length_append, List.length_singleton] at q3; exact q3
      · simp only [va_up, if_pos, upd]
        rw [e] at hq
        rcases Nat.lt_or_ge q (wsi L p).length with y | y
        · rw [List.getElem?_append_left y] at hq; rw [if_neg (by omega)]; exact g2 q s hq
        · have hq2 := (List.getElem?_eq_some_iff.mp hq).1; rw [List.length_append, List.length_singleton] at hq2; rw [show q = (wsi L p).length by omega, List.getElem?_append_right (Nat.le_refl _), Nat.sub_self] at hq; rw [if_pos (by omega)]; exact congrArg nI (Option.some.inj hq)
    by_cases hs : L[p] = 32
    · have e := hno (fun z => by simp only [wb, Bool.and_eq_true, decide_eq_true_eq] at z; exact z.1 (by rw [hgd]; exact hs))
      refine xj_iload (pc := 36) d_MO_order_36 rfl ?_
      refine xj_aload_n (pc := 38) d_MO_order_38 rfl rfl ?_
      refine xj_getR (pc := 39) d_MO_order_39 fl_MO_16 rfl rfl ?_
      refine xj_iload_n (pc := 42) d_MO_order_42 rfl rfl ?_
      refine xj_iald (pc := 43) d_MO_order_43 (n := 10) (x := 21) rfl rfl hka (by decide) ?_
      refine xj_icmp_ge (pc := 44) (tgt := 99) d_MO_order_44 (by decide) (fun h44 => absurd h44 (by rw [n_le, hz, n_nI (by omega)]; omega)) (fun h44 => ?_)
      refine xj_aload_n (pc := 47) d_MO_order_47 rfl rfl ?_
      refine xj_iload_n (pc := 48) d_MO_order_48 rfl rfl ?_
      refine xj_iload (pc := 49) d_MO_order_49 rfl ?_
      refine xj_callV (pc := 51) d_MO_order_51 ml_MO_46 ok_MO_of (s_MO_ofL hka hL1 hb) rfl rfl rfl rfl rfl (Nat.le_of_ble_eq_true rfl) (by decide) ?_
      rintro rv I1 F1 ⟨rfl, rfl, rfl⟩
      dsimp only [Option.toList, List.cons_append, List.nil_append]
      refine xj_bipush (pc := 54) (v := 32) d_MO_order_54 (by decide) ?_
      refine xj_icmp_eq (pc := 56) (tgt := 93) d_MO_order_56 (by decide) (fun h56 => ?_) (fun h56 => absurd (hs) h56)
      refine xj_inc1 (pc := 93) d_MO_order_93 rfl (by decide) rfl ?_
      dsimp only [xset, xset2, xkill]
      rw [n_up]
      refine xj_goto (pc := 96) (tgt := 36) d_MO_order_96 (by decide) ?_
      have q3 := ih (p + 1) F1 (by omega) g1 (by rw [e]; exact g2)
      rw [e] at q3
      exact q3
    · by_cases h0 : p = 0
      · have z : wb L p = true := by simp only [wb, Bool.and_eq_true, Bool.or_eq_true, decide_eq_true_eq, beq_iff_eq]; exact ⟨by rw [hgd]; exact hs, Or.inl h0⟩
        refine xj_iload (pc := 36) d_MO_order_36 rfl ?_
        refine xj_aload_n (pc := 38) d_MO_order_38 rfl rfl ?_
        refine xj_getR (pc := 39) d_MO_order_39 fl_MO_16 rfl rfl ?_
        refine xj_iload_n (pc := 42) d_MO_order_42 rfl rfl ?_
        refine xj_iald (pc := 43) d_MO_order_43 (n := 10) (x := 21) rfl rfl hka (by decide) ?_
        refine xj_icmp_ge (pc := 44) (tgt := 99) d_MO_order_44 (by decide) (fun h44 => absurd h44 (by rw [n_le, hz, n_nI (by omega)]; omega)) (fun h44 => ?_)
        refine xj_aload_n (pc := 47) d_MO_order_47 rfl rfl ?_
        refine xj_iload_n (pc := 48) d_MO_order_48 rfl rfl ?_
        refine xj_iload (pc := 49) d_MO_order_49 rfl ?_
        refine xj_callV (pc := 51) d_MO_order_51 ml_MO_46 ok_MO_of (s_MO_ofL hka hL1 hb) rfl rfl rfl rfl rfl (Nat.le_of_ble_eq_true rfl) (by decide) ?_
        rintro rv I1 F1 ⟨rfl, rfl, rfl⟩
        dsimp only [Option.toList, List.cons_append, List.nil_append]
        refine xj_bipush (pc := 54) (v := 32) d_MO_order_54 (by decide) ?_
        refine xj_icmp_eq (pc := 56) (tgt := 93) d_MO_order_56 (by decide) (fun h56 => absurd h56 (hs)) (fun h56 => ?_)
        refine xj_iload (pc := 59) d_MO_order_59 rfl ?_
        refine xj_if_le (pc := 61) (tgt := 81) d_MO_order_61 (by decide) (fun h61 => ?_) (fun h61 => absurd (by rw [n_le, n_0, n_nI (by omega)]; omega) h61)
        exact hin z
      · have hb2 : L[p - 1]? = some L[p - 1] := List.getElem?_eq_getElem (by omega)
        have hgd2 : L.getD (p - 1) 32 = L[p - 1] := by rw [List.getD_eq_getElem?_getD, hb2]; rfl
        have em : nI p - 1 = nI (p - 1) := n_subN (a := p) (b := 1) (by omega)
        by_cases hs2 : L[p - 1] = 32
        · have z : wb L p = true := by simp only [wb, Bool.and_eq_true, Bool.or_eq_true, decide_eq_true_eq, beq_iff_eq]; exact ⟨by rw [hgd]; exact hs, Or.inr (by rw [hgd2]; exact hs2)⟩
          refine xj_iload (pc := 36) d_MO_order_36 rfl ?_
          refine xj_aload_n (pc := 38) d_MO_order_38 rfl rfl ?_
          refine xj_getR (pc := 39) d_MO_order_39 fl_MO_16 rfl rfl ?_
          refine xj_iload_n (pc := 42) d_MO_order_42 rfl rfl ?_
          refine xj_iald (pc := 43) d_MO_order_43 (n := 10) (x := 21) rfl rfl hka (by decide) ?_
          refine xj_icmp_ge (pc := 44) (tgt := 99) d_MO_order_44 (by decide) (fun h44 => absurd h44 (by rw [n_le, hz, n_nI (by omega)]; omega)) (fun h44 => ?_)
          refine xj_aload_n (pc := 47) d_MO_order_47 rfl rfl ?_
          refine xj_iload_n (pc := 48) d_MO_order_48 rfl rfl ?_
          refine xj_iload (pc := 49) d_MO_order_49 rfl ?_
          refine xj_callV (pc := 51) d_MO_order_51 ml_MO_46 ok_MO_of (s_MO_ofL hka hL1 hb) rfl rfl rfl rfl rfl (Nat.le_of_ble_eq_true rfl) (by decide) ?_
          rintro rv I1 F1 ⟨rfl, rfl, rfl⟩
          dsimp only [Option.toList, List.cons_append, List.nil_append]
          refine xj_bipush (pc := 54) (v := 32) d_MO_order_54 (by decide) ?_
          refine xj_icmp_eq (pc := 56) (tgt := 93) d_MO_order_56 (by decide) (fun h56 => absurd h56 (hs)) (fun h56 => ?_)
          refine xj_iload (pc := 59) d_MO_order_59 rfl ?_
          refine xj_if_le (pc := 61) (tgt := 81) d_MO_order_61 (by decide) (fun h61 => absurd h61 (by rw [n_le, n_0, n_nI (by omega)]; omega)) (fun h61 => ?_)
          refine xj_aload_n (pc := 64) d_MO_order_64 rfl rfl ?_
          refine xj_iload_n (pc := 65) d_MO_order_65 rfl rfl ?_
          refine xj_iload (pc := 66) d_MO_order_66 rfl ?_
          refine xj_iconst (pc := 68) (v := 1) d_MO_order_68 (by decide) ?_
          refine xj_isub (pc := 69) d_MO_order_69 ?_
          rw [em]
          refine xj_callV (pc := 70) d_MO_order_70 ml_MO_46 ok_MO_of (s_MO_ofL hka hL1 hb2) rfl rfl rfl rfl rfl (Nat.le_of_ble_eq_true rfl) (by decide) ?_
          rintro rv I1 F1 ⟨rfl, rfl, rfl⟩
          dsimp only [Option.toList, List.cons_append, List.nil_append]
          refine xj_bipush (pc := 73) (v := 32) d_MO_order_73 (by decide) ?_
          refine xj_icmp_eq (pc := 75) (tgt := 81) d_MO_order_75 (by decide) (fun h75 => ?_) (fun h75 => absurd (hs2) h75)
          exact hin z
        · have e := hno (fun z => by simp only [wb, Bool.and_eq_true, Bool.or_eq_true, decide_eq_true_eq, beq_iff_eq] at z; rcases z.2 with y | y; exact h0 y; exact hs2 (by rw [← hgd2]; exact y))
          refine xj_iload (pc := 36) d_MO_order_36 rfl ?_
          refine xj_aload_n (pc := 38) d_MO_order_38 rfl rfl ?_
          refine xj_getR (pc := 39) d_MO_order_39 fl_MO_16 rfl rfl ?_
          refine xj_iload_n (pc := 42) d_MO_order_42 rfl rfl ?_
          refine xj_iald (pc := 43) d_MO_order_43 (n := 10) (x := 21) rfl rfl hka (by decide) ?_
          refine xj_icmp_ge (pc := 44) (tgt := 99) d_MO_order_44 (by decide) (fun h44 => absurd h44 (by rw [n_le, hz, n_nI (by omega)]; omega)) (fun h44 => ?_)
          refine xj_aload_n (pc := 47) d_MO_order_47 rfl rfl ?_
          refine xj_iload_n (pc := 48) d_MO_order_48 rfl rfl ?_
          refine xj_iload (pc := 49) d_MO_order_49 rfl ?_
          refine xj_callV (pc := 51) d_MO_order_51 ml_MO_46 ok_MO_of (s_MO_ofL hka hL1 hb) rfl rfl rfl rfl rfl (Nat.le_of_ble_eq_true rfl) (by decide) ?_
          rintro rv I1 F1 ⟨rfl, rfl, rfl⟩
          dsimp only [Option.toList, List.cons_append, List.nil_append]
          refine xj_bipush (pc := 54) (v := 32) d_MO_order_54 (by decide) ?_
          refine xj_icmp_eq (pc := 56) (tgt := 93) d_MO_order_56 (by decide) (fun h56 => absurd h56 (hs)) (fun h56 => ?_)
          refine xj_iload (pc := 59) d_MO_order_59 rfl ?_
          refine xj_if_le (pc := 61) (tgt := 81) d_MO_order_61 (by decide) (fun h61 => absurd h61 (by rw [n_le, n_0, n_nI (by omega)]; omega)) (fun h61 => ?_)
          refine xj_aload_n (pc := 64) d_MO_order_64 rfl rfl ?_
          refine xj_iload_n (pc := 65) d_MO_order_65 rfl rfl ?_
          refine xj_iload (pc := 66) d_MO_order_66 rfl ?_
          refine xj_iconst (pc := 68) (v := 1) d_MO_order_68 (by decide) ?_
          refine xj_isub (pc := 69) d_MO_order_69 ?_
          rw [em]
          refine xj_callV (pc := 70) d_MO_order_70 ml_MO_46 ok_MO_of (s_MO_ofL hka hL1 hb2) rfl rfl rfl rfl rfl (Nat.le_of_ble_eq_true rfl) (by decide) ?_
          rintro rv I1 F1 ⟨rfl, rfl, rfl⟩
          dsimp only [Option.toList, List.cons_append, List.nil_append]
          refine xj_bipush (pc := 73) (v := 32) d_MO_order_73 (by decide) ?_
          refine xj_icmp_eq (pc := 75) (tgt := 81) d_MO_order_75 (by decide) (fun h75 => absurd h75 (hs2)) (fun h75 => ?_)
          refine xj_goto (pc := 78) (tgt := 93) d_MO_order_78 (by decide) ?_
          refine xj_inc1 (pc := 93) d_MO_order_93 rfl (by decide) rfl ?_
          dsimp only [xset, xset2, xkill]
          rw [n_up]
          refine xj_goto (pc := 96) (tgt := 36) d_MO_order_96 (by decide) ?_
          have q3 := ih (p + 1) F1 (by omega) g1 (by rw [e]; exact g2)
          rw [e] at q3
          exact q3
def ahc (L : List Int32) (k j : Nat) : Nat := (List.range j).countP (fun q => wlb L q k)
theorem ahc_succ (L : List Int32) (k j : Nat) : ahc L k (j + 1) = ahc L k j + (if wlb L j k then 1 else 0) := by
  rw [ahc, List.range_succ, List.countP_append, ahc]; simp [List.countP_cons]
theorem st_get (h : ∀ q s, (wst L)[q]? = some s → F 24 (q + 1) = nI s) {q : Nat} (hq : q < (wst L).length) : F 24 (q + 1) = nI (wbg L q) := by
  have hg : (wst L)[q]? = some (wst L)[q] := List.getElem?_eq_getElem hq
  rw [h q _ hg, wbg, List.getD_eq_getElem?_getD, hg]; rfl
theorem t_MO_ord_i {how : Int32} {ka kt k : Nat} (hka : ka < 10) (hL : Mr F ka L) (hB : Bt L) (hk : k < (wst L).length) (hs : ∀ q s, (wst L)[q]? = some s → F 24 (q + 1) = nI s) (k2 : XJ none m_MO_order 167 [some (.ref 36), some (.int (nI ka)), some (.int how), some (.int (nI kt)), some (.int (nI (wst L).length)), some (.int (nI (k + 1))), some (.int (nI (ah L k))), some (.int (nI ((wst L).length + 1)))] [] I F P) : ∀ (m j : Nat), j + m = (wst L).length →
    XJ none m_MO_order 115 [some (.ref 36), some (.int (nI ka)), some (.int how), some (.int (nI kt)), some (.int (nI (wst L).length)), some (.int (nI (k + 1))), some (.int (nI (ahc L k j))), some (.int (nI (j + 1)))] [] I F P := by
  have h200 := hL.2.1
  have hc := wst_cnt h200
  intro m
  induction m with
  | zero =>
    intro j hj
    have e : j = (wst L).length := by omega
    subst e
    refine xj_iload (pc := 115) d_MO_order_115 rfl ?_
    refine xj_iload (pc := 117) d_MO_order_117 rfl ?_
    refine xj_icmp_gt (pc := 119) (tgt := 167) d_MO_order_119 (by decide) (fun h119 => ?_) (fun h119 => absurd (by rw [n_lt, n_nI (by omega), n_nI (by omega)]; omega) h119)
    exact k2
  | succ m ih =>
    intro j hj
    have hjc : j < (wst L).length := by omega
    by_cases hjk : j = k
    · subst hjk
      have e : ahc L j (j + 1) = ahc L j j := by rw [ahc_succ, if_neg (fun z => wl_irr (wlb_t.mp z)), Nat.add_zero]
      refine xj_iload (pc := 115) d_MO_order_115 rfl ?_
      refine xj_iload (pc := 117) d_MO_order_117 rfl ?_
      refine xj_icmp_gt (pc := 119) (tgt := 167) d_MO_order_119 (by decide) (fun h119 => absurd h119 (by rw [n_lt, n_nI (by omega), n_nI (by omega)]; omega)) (fun h119 => ?_)
      refine xj_iload (pc := 122) d_MO_order_122 rfl ?_
      refine xj_iload (pc := 124) d_MO_order_124 rfl ?_
      refine xj_iload (pc := 126) d_MO_order_126 rfl ?_
      refine xj_icmp_eq (pc := 128) (tgt := 157) d_MO_order_128 (by decide) (fun h128 => ?_) (fun h128 => absurd (rfl) h128)
      refine xj_iconst (pc := 157) (v := 0) d_MO_order_157 (by decide) ?_
      refine xj_iadd (pc := 158) d_MO_order_158 ?_
      rw [show nI (ahc L j j) + 0 = nI (ahc L j (j + 1)) by rw [e]; exact n_addN _ 0]
      refine xj_istore (pc := 159) d_MO_order_159 (by decide) rfl ?_
      dsimp only [xset, xset2, xkill]
      refine xj_inc1 (pc := 161) d_MO_order_161 rfl (by decide) rfl ?_
      dsimp only [xset, xset2, xkill]
      rw [n_up]
      refine xj_goto (pc := 164) (tgt := 115) d_MO_order_164 (by decide) ?_
      exact ih (j + 1) (by omega)
    · cases hb : wlb L j k with
      | true =>
        have e : ahc L k (j + 1) = ahc L k j + 1 := by rw [ahc_succ, if_pos hb]
        refine xj_iload (pc := 115) d_MO_order_115 rfl ?_
        refine xj_iload (pc := 117) d_MO_order_117 rfl ?_
        refine xj_icmp_gt (pc := 119) (tgt := 167) d_MO_order_119 (by decide) (fun h119 => absurd h119 (by rw [n_lt, n_nI (by omega), n_nI (by omega)]; omega)) (fun h119 => ?_)
        refine xj_iload (pc := 122) d_MO_order_122 rfl ?_
        refine xj_iload (pc := 124) d_MO_order_124 rfl ?_
        refine xj_iload (pc := 126) d_MO_order_126 rfl ?_
        refine xj_icmp_eq (pc := 128) (tgt := 157) d_MO_order_128 (by decide) (fun h128 => absurd h128 (fun z => hjk (by have := congrArg Int32.toInt z; rw [n_nI (by omega), n_nI (by omega)] at this; omega))) (fun h128 => ?_)
        refine xj_aload_n (pc := 131) d_MO_order_131 rfl rfl ?_
        refine xj_iload_n (pc := 132) d_MO_order_132 rfl rfl ?_
        refine xj_aload_n (pc := 133) d_MO_order_133 rfl rfl ?_
        refine xj_getR (pc := 134) d_MO_order_134 fl_MO_29 rfl rfl ?_
        refine xj_iload (pc := 137) d_MO_order_137 rfl ?_
        refine xj_iald (pc := 139) d_MO_order_139 (n := 102) (x := 24) rfl rfl (by omega) (by decide) ?_
        rw [st_get hs hjc]
        refine xj_aload_n (pc := 140) d_MO_order_140 rfl rfl ?_
        refine xj_getR (pc := 141) d_MO_order_141 fl_MO_29 rfl rfl ?_
        refine xj_iload (pc := 144) d_MO_order_144 rfl ?_
        refine xj_iald (pc := 146) d_MO_order_146 (n := 102) (x := 24) rfl rfl (by omega) (by decide) ?_
        rw [st_get hs hk]
        refine xj_callV (pc := 147) d_MO_order_147 ml_MO_91 ok_MO_isAhead (s_MO_ah hka hL hB hjc hk) rfl rfl rfl rfl rfl (Nat.le_of_ble_eq_true rfl) (by decide) ?_
        rintro rv I1 F1 ⟨rfl, rfl, rfl⟩
        dsimp only [Option.toList, List.cons_append, List.nil_append]
        refine xj_if_eq (pc := 150) (tgt := 157) d_MO_order_150 (by decide) (fun h150 => absurd h150 (by rw [hb]; decide)) (fun h150 => ?_)
        refine xj_iconst (pc := 153) (v := 1) d_MO_order_153 (by decide) ?_
        refine xj_goto (pc := 154) (tgt := 158) d_MO_order_154 (by decide) ?_
        refine xj_iadd (pc := 158) d_MO_order_158 ?_
        rw [n_up, ← e]
        refine xj_istore (pc := 159) d_MO_order_159 (by decide) rfl ?_
        dsimp only [xset, xset2, xkill]
        refine xj_inc1 (pc := 161) d_MO_order_161 rfl (by decide) rfl ?_
        dsimp only [xset, xset2, xkill]
        rw [n_up]
        refine xj_goto (pc := 164) (tgt := 115) d_MO_order_164 (by decide) ?_
        exact ih (j + 1) (by omega)
      | false =>
        have e : ahc L k (j + 1) = ahc L k j := by rw [ahc_succ, if_neg (by rw [hb]; decide), Nat.add_zero]
        refine xj_iload (pc := 115) d_MO_order_115 rfl ?_
        refine xj_iload (pc := 117) d_MO_order_117 rfl ?_
        refine xj_icmp_gt (pc := 119) (tgt := 167) d_MO_order_119 (by decide) (fun h119 => absurd h119 (by rw [n_lt, n_nI (by omega), n_nI (by omega)]; omega)) (fun h119 => ?_)
        refine xj_iload (pc := 122) d_MO_order_122 rfl ?_
        refine xj_iload (pc := 124) d_MO_order_124 rfl ?_
        refine xj_iload (pc := 126) d_MO_order_126 rfl ?_
        refine xj_icmp_eq (pc := 128) (tgt := 157) d_MO_order_128 (by decide) (fun h128 => absurd h128 (fun z => hjk (by have := congrArg Int32.toInt z; rw [n_nI (by omega), n_nI (by omega)] at this; omega))) (fun h128 => ?_)
        refine xj_aload_n (pc := 131) d_MO_order_131 rfl rfl ?_
        refine xj_iload_n (pc := 132) d_MO_order_132 rfl rfl ?_
        refine xj_aload_n (pc := 133) d_MO_order_133 rfl rfl ?_
        refine xj_getR (pc := 134) d_MO_order_134 fl_MO_29 rfl rfl ?_
        refine xj_iload (pc := 137) d_MO_order_137 rfl ?_
        refine xj_iald (pc := 139) d_MO_order_139 (n := 102) (x := 24) rfl rfl (by omega) (by decide) ?_
        rw [st_get hs hjc]
        refine xj_aload_n (pc := 140) d_MO_order_140 rfl rfl ?_
        refine xj_getR (pc := 141) d_MO_order_141 fl_MO_29 rfl rfl ?_
        refine xj_iload (pc := 144) d_MO_order_144 rfl ?_
        refine xj_iald (pc := 146) d_MO_order_146 (n := 102) (x := 24) rfl rfl (by omega) (by decide) ?_
        rw [st_get hs hk]
        refine xj_callV (pc := 147) d_MO_order_147 ml_MO_91 ok_MO_isAhead (s_MO_ah hka hL hB hjc hk) rfl rfl rfl rfl rfl (Nat.le_of_ble_eq_true rfl) (by decide) ?_
        rintro rv I1 F1 ⟨rfl, rfl, rfl⟩
        dsimp only [Option.toList, List.cons_append, List.nil_append]
        refine xj_if_eq (pc := 150) (tgt := 157) d_MO_order_150 (by decide) (fun h150 => ?_) (fun h150 => absurd (by rw [hb]; rfl) h150)
        refine xj_iconst (pc := 157) (v := 0) d_MO_order_157 (by decide) ?_
        refine xj_iadd (pc := 158) d_MO_order_158 ?_
        rw [show nI (ahc L k j) + 0 = nI (ahc L k (j + 1)) by rw [e]; exact n_addN _ 0]
        refine xj_istore (pc := 159) d_MO_order_159 (by decide) rfl ?_
        dsimp only [xset, xset2, xkill]
        refine xj_inc1 (pc := 161) d_MO_order_161 rfl (by decide) rfl ?_
        dsimp only [xset, xset2, xkill]
        rw [n_up]
        refine xj_goto (pc := 164) (tgt := 115) d_MO_order_164 (by decide) ?_
        exact ih (j + 1) (by omega)
theorem t_MO_ord_b {how : Int32} {ka kt : Nat} (hka : ka < 10) (hL : Mr F ka L) (hB : Bt L) (hs : ∀ q s, (wst L)[q]? = some s → F 24 (q + 1) = nI s) (k2 : ∀ (F1 : XF), (∀ x, x ≠ 25 → F1 x = F x) → (∀ q, q < (wst L).length → F1 25 (q + 1) = nI (rk L how q + 1)) → XJ none m_MO_order 198 [some (.ref 36), some (.int (nI ka)), some (.int how), some (.int (nI kt)), some (.int (nI (wst L).length)), some (.int (nI ((wst L).length + 1)))] [] I F1 P) : ∀ (m k : Nat) (F1 : XF), k + m = (wst L).length → (∀ x, x ≠ 25 → F1 x = F x) → (∀ j, j < k → F1 25 (ps L how j + 1) = nI (j + 1)) →
    XJ none m_MO_order 102 [some (.ref 36), some (.int (nI ka)), some (.int how), some (.int (nI kt)), some (.int (nI (wst L).length)), some (.int (nI (k + 1)))] [] I F1 P := by
  have h200 := hL.2.1
  have hc := wst_cnt h200
  intro m
  induction m with
  | zero =>
    intro k F1 hk g1 g2
    have e : k = (wst L).length := by omega
    subst e
    refine xj_iload (pc := 102) d_MO_order_102 rfl ?_
    refine xj_iload (pc := 104) d_MO_order_104 rfl ?_
    refine xj_icmp_gt (pc := 106) (tgt := 198) d_MO_order_106 (by decide) (fun h106 => ?_) (fun h106 => absurd (by rw [n_lt, n_nI (by omega), n_nI (by omega)]; omega) h106)
    refine k2 F1 g1 (fun q hq => ?_)
    have h1 := ps_rk (L := L) (how := how) hq
    have h2 := g2 (rk L how q) h1.2
    rw [h1.1] at h2
    exact h2
  | succ m ih =>
    intro k F1 hk g1 g2
    have hkc : k < (wst L).length := by omega
    have hps := (ps_k (L := L) (how := how) hkc).1
    have hL1 : Mr F1 ka L := hL.kp (g1 20 (by decide)) (g1 21 (by decide))
    have hs1 : ∀ q s, (wst L)[q]? = some s → F1 24 (q + 1) = nI s := by rw [g1 24 (by decide)]; exact hs
    have hst : XJ none m_MO_order 102 [some (.ref 36), some (.int (nI ka)), some (.int how), some (.int (nI kt)), some (.int (nI (wst L).length)), some (.int (nI (k + 1 + 1)))] [] I (va_up F1 25 (upd (F1 25) (ps L how k + 1) (nI (k + 1)))) P := ih (k + 1) _ (by omega) (fun x hx => by simp only [va_up, if_neg hx]; exact g1 x hx) (fun j hj => by
      simp only [va_up, if_pos, upd]
      rcases Nat.lt_or_ge j k with y | y
      · rw [if_neg (fun z => absurd (ps_inj (how := how) (L := L) (by omega) hkc (by omega)) (show ¬ j = k by omega))]; exact g2 j y
      · rw [show j = k by omega, if_pos rfl])
    have hmid : XJ none m_MO_order 167 [some (.ref 36), some (.int (nI ka)), some (.int how), some (.int (nI kt)), some (.int (nI (wst L).length)), some (.int (nI (k + 1))), some (.int (nI (ah L k))), some (.int (nI ((wst L).length + 1)))] [] I F1 P := by
      by_cases hh : how = 0
      · have ep : (nI (wst L).length + 1 - nI (k + 1)) = nI (ps L how k + 1) := by rw [n_up, n_subN (by omega), ps, if_pos hh]; congr 1; omega
        refine xj_aload_n (pc := 167) d_MO_order_167 rfl rfl ?_
        refine xj_getR (pc := 168) d_MO_order_168 fl_MO_32 rfl rfl ?_
        refine xj_iload_n (pc := 171) d_MO_order_171 rfl rfl ?_
        refine xj_if_ne (pc := 172) (tgt := 185) d_MO_order_172 (by decide) (fun h172 => absurd (hh) h172) (fun h172 => ?_)
        refine xj_iload (pc := 175) d_MO_order_175 rfl ?_
        refine xj_iconst (pc := 177) (v := 1) d_MO_order_177 (by decide) ?_
        refine xj_iadd (pc := 178) d_MO_order_178 ?_
        refine xj_iload (pc := 179) d_MO_order_179 rfl ?_
        refine xj_isub (pc := 181) d_MO_order_181 ?_
        refine xj_goto (pc := 182) (tgt := 189) d_MO_order_182 (by decide) ?_
        refine xj_iload (pc := 189) d_MO_order_189 rfl ?_
        rw [ep]
        refine xj_iast (pc := 191) d_MO_order_191 (n := 102) (x := 25) rfl rfl (by omega) (by decide) ?_
        refine xj_inc1 (pc := 192) d_MO_order_192 rfl (by decide) rfl ?_
        dsimp only [xset, xset2, xkill]
        rw [n_up]
        refine xj_goto (pc := 195) (tgt := 102) d_MO_order_195 (by decide) ?_
        exact xj_take 6 hst
      · have ep : nI (ah L k) + 1 = nI (ps L how k + 1) := by rw [n_up, ps, if_neg hh]
        refine xj_aload_n (pc := 167) d_MO_order_167 rfl rfl ?_
        refine xj_getR (pc := 168) d_MO_order_168 fl_MO_32 rfl rfl ?_
        refine xj_iload_n (pc := 171) d_MO_order_171 rfl rfl ?_
        refine xj_if_ne (pc := 172) (tgt := 185) d_MO_order_172 (by decide) (fun h172 => ?_) (fun h172 => absurd h172 (hh))
        refine xj_iload (pc := 185) d_MO_order_185 rfl ?_
        refine xj_iconst (pc := 187) (v := 1) d_MO_order_187 (by decide) ?_
        refine xj_iadd (pc := 188) d_MO_order_188 ?_
        refine xj_iload (pc := 189) d_MO_order_189 rfl ?_
        rw [ep]
        refine xj_iast (pc := 191) d_MO_order_191 (n := 102) (x := 25) rfl rfl (by omega) (by decide) ?_
        refine xj_inc1 (pc := 192) d_MO_order_192 rfl (by decide) rfl ?_
        dsimp only [xset, xset2, xkill]
        rw [n_up]
        refine xj_goto (pc := 195) (tgt := 102) d_MO_order_195 (by decide) ?_
        exact xj_take 6 hst
    refine xj_iload (pc := 102) d_MO_order_102 rfl ?_
    refine xj_iload (pc := 104) d_MO_order_104 rfl ?_
    refine xj_icmp_gt (pc := 106) (tgt := 198) d_MO_order_106 (by decide) (fun h106 => absurd h106 (by rw [n_lt, n_nI (by omega), n_nI (by omega)]; omega)) (fun h106 => ?_)
    refine xj_iconst (pc := 109) (v := 0) d_MO_order_109 (by decide) ?_
    refine xj_istore (pc := 110) d_MO_order_110 (by decide) rfl ?_
    dsimp only [xset, xset2, xkill]
    refine xj_iconst (pc := 112) (v := 1) d_MO_order_112 (by decide) ?_
    refine xj_istore (pc := 113) d_MO_order_113 (by decide) rfl ?_
    dsimp only [xset, xset2, xkill]
    exact t_MO_ord_i hka hL1 hB hkc hs1 hmid _ 0 (Nat.zero_add _)
theorem t_MO_ord_c {how : Int32} {ka kt : Nat} (hI : MI I F S) (hX : NX I F I1 F1) (hka : ka < 10) (hkt : kt < 10) (hL : Mr F1 ka L) (hs : ∀ q s, (wst L)[q]? = some s → F1 24 (q + 1) = nI s) (hr : ∀ q, q < (wst L).length → F1 25 (q + 1) = nI (rk L how q + 1)) : ∀ (m i : Nat) (I2 : XI) (F2 : XF), i + m = (wst L).length → Ms (mrk L (rk L how) i) I1 F1 I2 F2 →
    XJ none m_MO_order 204 [some (.ref 36), some (.int (nI ka)), some (.int how), some (.int (nI kt)), some (.int (nI (wst L).length)), some (.int (nI (dn L i))), some (.int (nI (i + 1)))] [] I2 F2 (NQ (sMk S (nI kt) (m_rank L how)) I F) := by
  have h200 := hL.2.1
  have hc := wst_cnt h200
  intro m
  induction m with
  | zero =>
    intro i I2 F2 hi g1
    have hd := dn_le L i
    refine xj_iload (pc := 204) d_MO_order_204 rfl ?_
    refine xj_iload (pc := 206) d_MO_order_206 rfl ?_
    refine xj_icmp_gt (pc := 208) (tgt := 277) d_MO_order_208 (by decide) (fun h208 => ?_) (fun h208 => absurd (by rw [n_lt, n_nI (by omega), n_nI (by omega)]; omega) h208)
    refine xj_aload_n (pc := 277) d_MO_order_277 rfl rfl ?_
    refine xj_iload_n (pc := 278) d_MO_order_278 rfl rfl ?_
    refine xj_iload (pc := 279) d_MO_order_279 rfl ?_
    refine xj_i2l (pc := 281) d_MO_order_281 ?_
    refine xj_ldc2 (pc := 282) (v := 200) d_MO_order_282 kc_MO_68 ?_
    refine xj_callV (pc := 285) d_MO_order_285 ml_MO_60 ok_MO_lay (s_MO_lay hka (g1.nx.mr hL) g1.2.2 (by rw [l_of, n_nI (by omega)]; omega)) rfl rfl rfl rfl rfl (Nat.le_of_ble_eq_true rfl) (by decide) ?_
    rintro rv I3 F3 ⟨rfl, g2⟩
    rw [l_of, l_200, n_nI (by omega), Int.toNat_natCast, List.take_of_length_le (show L.length ≤ (200 : Int).toNat by omega), show i = (wst L).length by omega] at g2
    replace g2 := g1.tr g2
    dsimp only [Option.toList, List.cons_append, List.nil_append]
    refine xj_aload_n (pc := 288) d_MO_order_288 rfl rfl ?_
    refine xj_iload_n (pc := 289) d_MO_order_289 rfl rfl ?_
    refine xj_callV (pc := 290) d_MO_order_290 ml_MO_64 ok_MO_keep (s_MO_keep hI (hX.tr g2.nx) g2.2.2 hkt) rfl rfl rfl rfl rfl (Nat.le_of_ble_eq_true rfl) (by decide) ?_
    rintro rv I4 F4 ⟨rfl, g4⟩
    dsimp only [Option.toList, List.cons_append, List.nil_append]
    refine xj_iret (pc := 293) d_MO_order_293 rfl ?_
    exact ⟨rfl, g4⟩
  | succ m ih =>
    intro i I2 F2 hi g1
    have hd := dn_le L i
    have hic : i < (wst L).length := by omega
    have hrc := (ps_rk (L := L) (how := how) hic).2
    have q1 := wbg_le L i
    have q2 := wbg_le L (rk L how i)
    have q3 := wsp_le L (rk L how i)
    have e24 : F2 24 (i + 1) = nI (wbg L i) := by rw [g1.2.1 24 (by decide)]; exact st_get hs hic
    refine xj_iload (pc := 204) d_MO_order_204 rfl ?_
    refine xj_iload (pc := 206) d_MO_order_206 rfl ?_
    refine xj_icmp_gt (pc := 208) (tgt := 277) d_MO_order_208 (by decide) (fun h208 => absurd h208 (by rw [n_lt, n_nI (by omega), n_nI (by omega)]; omega)) (fun h208 => ?_)
    refine xj_aload_n (pc := 211) d_MO_order_211 rfl rfl ?_
    refine xj_iload_n (pc := 212) d_MO_order_212 rfl rfl ?_
    refine xj_iload (pc := 213) d_MO_order_213 rfl ?_
    refine xj_i2l (pc := 215) d_MO_order_215 ?_
    refine xj_aload_n (pc := 216) d_MO_order_216 rfl rfl ?_
    refine xj_getR (pc := 217) d_MO_order_217 fl_MO_29 rfl rfl ?_
    refine xj_iload (pc := 220) d_MO_order_220 rfl ?_
    refine xj_iald (pc := 222) d_MO_order_222 (n := 102) (x := 24) rfl rfl (by omega) (by decide) ?_
    rw [e24]
    refine xj_i2l (pc := 223) d_MO_order_223 ?_
    refine xj_callV (pc := 224) d_MO_order_224 ml_MO_60 ok_MO_lay (s_MO_lay hka (g1.nx.mr hL) g1.2.2 (by rw [l_of, n_nI (by omega)]; omega)) rfl rfl rfl rfl rfl (Nat.le_of_ble_eq_true rfl) (by decide) ?_
    rintro rv I3 F3 ⟨rfl, g2⟩
    rw [l_of, l_of, n_nI (by omega), n_nI (by omega), Int.toNat_natCast, Int.toNat_natCast] at g2
    replace g2 := g1.tr g2
    have e25 : F3 25 (i + 1) = nI (rk L how i + 1) := (by rw [g2.2.1 25 (by decide)]; exact hr i hic)
    have e26 : F3 24 (rk L how i + 1) = nI (wbg L (rk L how i)) := (by rw [g2.2.1 24 (by decide)]; exact st_get hs hrc)
    dsimp only [Option.toList, List.cons_append, List.nil_append]
    refine xj_aload_n (pc := 227) d_MO_order_227 rfl rfl ?_
    refine xj_getR (pc := 228) d_MO_order_228 fl_MO_29 rfl rfl ?_
    refine xj_aload_n (pc := 231) d_MO_order_231 rfl rfl ?_
    refine xj_getR (pc := 232) d_MO_order_232 fl_MO_32 rfl rfl ?_
    refine xj_iload (pc := 235) d_MO_order_235 rfl ?_
    refine xj_iald (pc := 237) d_MO_order_237 (n := 102) (x := 25) rfl rfl (by omega) (by decide) ?_
    refine xj_iald (pc := 238) d_MO_order_238 (n := 102) (x := 24) rfl e25 (by omega) (by decide) ?_
    rw [e26]
    refine xj_istore (pc := 239) d_MO_order_239 (by decide) rfl ?_
    dsimp only [xset, xset2, xkill]
    refine xj_aload_n (pc := 241) d_MO_order_241 rfl rfl ?_
    refine xj_iload_n (pc := 242) d_MO_order_242 rfl rfl ?_
    refine xj_iload (pc := 243) d_MO_order_243 rfl ?_
    refine xj_i2l (pc := 245) d_MO_order_245 ?_
    refine xj_aload_n (pc := 246) d_MO_order_246 rfl rfl ?_
    refine xj_iload_n (pc := 247) d_MO_order_247 rfl rfl ?_
    refine xj_iload (pc := 248) d_MO_order_248 rfl ?_
    refine xj_callV (pc := 250) d_MO_order_250 ml_MO_88 ok_MO_wordEnd (s_MO_wordEnd hka (g2.nx.mr hL) q2) rfl rfl rfl rfl rfl (Nat.le_of_ble_eq_true rfl) (by decide) ?_
    rintro rv I1 F1 ⟨rfl, rfl, rfl⟩
    dsimp only [Option.toList, List.cons_append, List.nil_append]
    rw [← wsp_wen hrc]
    refine xj_i2l (pc := 253) d_MO_order_253 ?_
    refine xj_callV (pc := 254) d_MO_order_254 ml_MO_60 ok_MO_lay (s_MO_lay hka (g2.nx.mr hL) g2.2.2 (by rw [l_of, n_nI (by omega)]; omega)) rfl rfl rfl rfl rfl (Nat.le_of_ble_eq_true rfl) (by decide) ?_
    rintro rv I4 F4 ⟨rfl, g3⟩
    rw [l_of, l_of, n_nI (by omega), n_nI (by omega), Int.toNat_natCast, Int.toNat_natCast, wat_sl, List.append_assoc, ← mrk_succ] at g3
    replace g3 := g2.tr g3
    have e27 : F4 24 (i + 1) = nI (wbg L i) := (by rw [g3.2.1 24 (by decide)]; exact st_get hs hic)
    dsimp only [Option.toList, List.cons_append, List.nil_append]
    refine xj_aload_n (pc := 257) d_MO_order_257 rfl rfl ?_
    refine xj_iload_n (pc := 258) d_MO_order_258 rfl rfl ?_
    refine xj_aload_n (pc := 259) d_MO_order_259 rfl rfl ?_
    refine xj_getR (pc := 260) d_MO_order_260 fl_MO_29 rfl rfl ?_
    refine xj_iload (pc := 263) d_MO_order_263 rfl ?_
    refine xj_iald (pc := 265) d_MO_order_265 (n := 102) (x := 24) rfl rfl (by omega) (by decide) ?_
    rw [e27]
    refine xj_callV (pc := 266) d_MO_order_266 ml_MO_88 ok_MO_wordEnd (s_MO_wordEnd hka (g3.nx.mr hL) q1) rfl rfl rfl rfl rfl (Nat.le_of_ble_eq_true rfl) (by decide) ?_
    rintro rv I1 F1 ⟨rfl, rfl, rfl⟩
    dsimp only [Option.toList, List.cons_append, List.nil_append]
    rw [← wsp_wen hic, show wsp L i = dn L (i + 1) by rw [dn, if_neg (by omega), Nat.add_sub_cancel]]
    refine xj_istore (pc := 269) d_MO_order_269 (by decide) rfl ?_
    dsimp only [xset, xset2, xkill]
    refine xj_inc1 (pc := 271) d_MO_order_271 rfl (by decide) rfl ?_
    dsimp only [xset, xset2, xkill]
    rw [n_up]
    refine xj_goto (pc := 274) (tgt := 204) d_MO_order_274 (by decide) ?_
    exact xj_take 7 (ih (i + 1) I4 F4 (by omega) g3)
theorem t_MO_ord_d {how z : Int32} {ka kt : Nat} (hI : MI I F S) (hX : NX I F I1 F1) (hM : Mb I1 F1 []) (hka : ka < 10) (hkt : kt < 10) (hL : Mr F1 ka L) (hs : ∀ q s, (wst L)[q]? = some s → F1 24 (q + 1) = nI s) (hr : ∀ q, q < (wst L).length → F1 25 (q + 1) = nI (rk L how q + 1)) :
    XJ none m_MO_order 198 [some (.ref 36), some (.int (nI ka)), some (.int how), some (.int (nI kt)), some (.int (nI (wst L).length)), some (.int z)] [] I1 F1 (NQ (sMk S (nI kt) (m_rank L how)) I F) := by
  refine xj_iconst (pc := 198) (v := 0) d_MO_order_198 (by decide) ?_
  refine xj_istore (pc := 199) d_MO_order_199 (by decide) rfl ?_
  dsimp only [xset, xset2, xkill]
  refine xj_iconst (pc := 201) (v := 1) d_MO_order_201 (by decide) ?_
  refine xj_istore (pc := 202) d_MO_order_202 (by decide) rfl ?_
  dsimp only [xset, xset2, xkill]
  exact t_MO_ord_c hI hX hka hkt hL hs hr _ 0 I1 F1 (Nat.zero_add _) (Ms.rf hM)
theorem t_MO_ord_e {how z : Int32} {ka kt : Nat} (hI : MI I F S) (hX : NX I F I1 F1) (hM : I1 18 = 0) (hka : ka < 10) (hkt : kt < 10) (hL : Mr F1 ka L) (hB : Bt L) (hs : ∀ q s, (wst L)[q]? = some s → F1 24 (q + 1) = nI s) :
    XJ none m_MO_order 99 [some (.ref 36), some (.int (nI ka)), some (.int how), some (.int (nI kt)), some (.int (nI (wst L).length)), some (.int z)] [] I1 F1 (NQ (sMk S (nI kt) (m_rank L how)) I F) := by
  refine xj_iconst (pc := 99) (v := 1) d_MO_order_99 (by decide) ?_
  refine xj_istore (pc := 100) d_MO_order_100 (by decide) rfl ?_
  dsimp only [xset, xset2, xkill]
  exact t_MO_ord_b hka hL hB hs (fun F2 b1 b2 => t_MO_ord_d hI (hX.tr ⟨fun _ _ => rfl, fun x hx => b1 x (by omega)⟩) ⟨by rw [hM]; rfl, fun i b _ hb => by simp at hb⟩ hka hkt (hL.kp (b1 20 (by decide)) (b1 21 (by decide))) (by rw [b1 24 (by decide)]; exact hs) b2) _ 0 F1 (Nat.zero_add _) (fun _ _ => rfl) (fun j hj => absurd hj (by omega))
theorem t_MO_order {a how to : Int32} (hS : OKS S) (hI : MI I F S) : XM m_MO_order [.ref 36, .int a, .int how, .int to] I F (NQ (sp_order S a how to) I F) := by
  refine XM.of (by decide) (Nat.le_of_ble_eq_true rfl) ?_
  dsimp only [xargs]
  have g0 : Ms [] I F (upd I 18 0) F := Ms.zero
  refine xj_iload_n (pc := 0) d_MO_order_0 rfl rfl ?_
  refine xj_callS (pc := 1) d_MO_order_1 ml_MO_42 ok_MO_is (s_MO_is) rfl rfl rfl (Nat.le_of_ble_eq_true rfl) (by decide) ?_
  rintro rv I1 F1 ⟨rfl, rfl, rfl⟩
  dsimp only [Option.toList, List.cons_append, List.nil_append]
  refine xj_if_eq (pc := 4) (tgt := 23) d_MO_order_4 (by decide) (fun h4 => ?_) (fun h4 => ?_)
  · refine xj_iconst (pc := 23) (v := -1) d_MO_order_23 (by decide) ?_
    refine xj_iret (pc := 24) d_MO_order_24 rfl ?_
    exact nk_none hI (if_neg (fun q => by simp only [Bool.and_eq_true, decide_eq_true_eq] at q; first | (rw [n_lt, n_0] at h15; omega) | (rw [n_le, n_1] at h20; omega) | (rw [b01_eq h11] at q; simp at q; done) | (rw [b01_eq h4] at q; simp at q; done)))
  · refine xj_iload_n (pc := 7) d_MO_order_7 rfl rfl ?_
    refine xj_callS (pc := 8) d_MO_order_8 ml_MO_42 ok_MO_is (s_MO_is) rfl rfl rfl (Nat.le_of_ble_eq_true rfl) (by decide) ?_
    rintro rv I1 F1 ⟨rfl, rfl, rfl⟩
    dsimp only [Option.toList, List.cons_append, List.nil_append]
    refine xj_if_eq (pc := 11) (tgt := 23) d_MO_order_11 (by decide) (fun h11 => ?_) (fun h11 => ?_)
    · refine xj_iconst (pc := 23) (v := -1) d_MO_order_23 (by decide) ?_
      refine xj_iret (pc := 24) d_MO_order_24 rfl ?_
      exact nk_none hI (if_neg (fun q => by simp only [Bool.and_eq_true, decide_eq_true_eq] at q; first | (rw [n_lt, n_0] at h15; omega) | (rw [n_le, n_1] at h20; omega) | (rw [b01_eq h11] at q; simp at q; done) | (rw [b01_eq h4] at q; simp at q; done)))
    · refine xj_iload_n (pc := 14) d_MO_order_14 rfl rfl ?_
      refine xj_if_lt (pc := 15) (tgt := 23) d_MO_order_15 (by decide) (fun h15 => ?_) (fun h15 => ?_)
      · refine xj_iconst (pc := 23) (v := -1) d_MO_order_23 (by decide) ?_
        refine xj_iret (pc := 24) d_MO_order_24 rfl ?_
        exact nk_none hI (if_neg (fun q => by simp only [Bool.and_eq_true, decide_eq_true_eq] at q; first | (rw [n_lt, n_0] at h15; omega) | (rw [n_le, n_1] at h20; omega) | (rw [b01_eq h11] at q; simp at q; done) | (rw [b01_eq h4] at q; simp at q; done)))
      · refine xj_iload_n (pc := 18) d_MO_order_18 rfl rfl ?_
        refine xj_iconst (pc := 19) (v := 1) d_MO_order_19 (by decide) ?_
        refine xj_icmp_le (pc := 20) (tgt := 25) d_MO_order_20 (by decide) (fun h20 => ?_) (fun h20 => ?_)
        · have ha := b01_ne h4
          have hto := b01_ne h11
          rw [n_lt, n_0] at h15
          rw [n_le, n_1] at h20
          rw [sp_order, if_pos (by simp only [ha, hto, Bool.true_and, decide_eq_true_eq]; omega)]
          have hB := hS.r ha
          obtain ⟨ka, hka, rfl, ta⟩ := isR_k ha
          obtain ⟨kt, hkt, rfl, tt⟩ := isR_k hto
          have hL := hI.at hka ta
          refine xj_aload_n (pc := 25) d_MO_order_25 rfl rfl ?_
          refine xj_iconst (pc := 26) (v := 0) d_MO_order_26 (by decide) ?_
          refine xj_putI (pc := 27) d_MO_order_27 fl_MO_50 fp_MO_many rfl rfl ?_
          refine xj_iconst (pc := 30) (v := 0) d_MO_order_30 (by decide) ?_
          refine xj_istore (pc := 31) d_MO_order_31 (by decide) rfl ?_
          dsimp only [xset, xset2, xkill]
          refine xj_iconst (pc := 33) (v := 0) d_MO_order_33 (by decide) ?_
          refine xj_istore (pc := 34) d_MO_order_34 (by decide) rfl ?_
          dsimp only [xset, xset2, xkill]
          refine t_MO_ord_a hka hL (fun F1 a1 a2 => t_MO_ord_e hI ⟨fun x hx => by simp only [upd, if_neg hx], fun x hx => a1 x (by omega)⟩ (by simp [upd]) hka hkt (hL.kp (a1 20 (by decide)) (a1 21 (by decide))) hB a2) _ 0 F (Nat.zero_add _) (fun _ _ => rfl) (fun q s hq => by simp [wsi] at hq)
        · refine xj_iconst (pc := 23) (v := -1) d_MO_order_23 (by decide) ?_
          refine xj_iret (pc := 24) d_MO_order_24 rfl ?_
          exact nk_none hI (if_neg (fun q => by simp only [Bool.and_eq_true, decide_eq_true_eq] at q; first | (rw [n_lt, n_0] at h15; omega) | (rw [n_le, n_1] at h20; omega) | (rw [b01_eq h11] at q; simp at q; done) | (rw [b01_eq h4] at q; simp at q; done)))
end MOK
