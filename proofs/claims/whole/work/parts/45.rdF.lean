section RDF
variable {I I1 I2 : XI} {F F1 F2 : XF} {S : XSt} {k : Nat} {M X L : List Int32}
/-! in order -/
def srt (L : List Int32) (c : Nat) : List Int32 := (List.range c).flatMap (fun c => List.replicate (L.count (nI c)) (nI c))
theorem srt_succ (L : List Int32) (c : Nat) : srt L (c + 1) = srt L c ++ List.replicate (L.count (nI c)) (nI c) := by
  rw [srt, List.range_succ, List.flatMap_append]; simp [srt]
theorem srt_len0 (L : List Int32) : ∀ c, (srt L c).length = ((List.range c).map (fun c => L.count (nI c))).sum
  | 0 => rfl
  | c + 1 => by rw [srt_succ, List.length_append, List.length_replicate, srt_len0 L c, List.range_succ, List.map_append, List.sum_append]; simp
theorem one_sum {b : Int32} : ∀ (c : Nat), c < 1000 → ((List.range c).map (fun d => if b == nI d then 1 else 0)).sum = if 0 ≤ b.toInt ∧ b.toInt < c then 1 else 0
  | 0, _ => by rw [if_neg (by omega)]; rfl
  | c + 1, hc => by
    rw [List.range_succ, List.map_append, List.sum_append, one_sum c (by omega)]
    simp only [List.map_cons, List.map_nil, List.sum_cons, List.sum_nil, beq_iff_eq]
    by_cases h : b = nI c
    · have : b.toInt = c := by rw [h, n_nI (by omega)]
      rw [if_pos h, if_neg (by omega), if_pos (by omega)]; rfl
    · have : ¬ b.toInt = c := fun q => h (n_of q)
      rw [if_neg h]
      by_cases h2 : 0 ≤ b.toInt ∧ b.toInt < c
      · rw [if_pos h2, if_pos (by omega)]
        rfl
      · rw [if_neg h2, if_neg (by omega)]
        rfl
theorem srt_len : ∀ {L : List Int32}, (∀ b ∈ L, bt b) → (srt L 256).length = L.length
  | [], _ => by decide +kernel
  | b :: t, h => by
    have ih := srt_len (L := t) (fun x hx => h x (List.mem_cons_of_mem _ hx))
    have hb := h b List.mem_cons_self
    rw [srt_len0] at ih ⊢
    have e : (fun c => (b :: t).count (nI c)) = (fun c => t.count (nI c) + (fun d => if b == nI d then 1 else 0) c) := by
      funext c; rw [List.count_cons]
    have e2 : ∀ (l : List Nat) (f g : Nat → Nat), (l.map (fun c => f c + g c)).sum = (l.map f).sum + (l.map g).sum := by
      intro l f g
      induction l with
      | nil => rfl
      | cons a l ih => simp only [List.map_cons, List.sum_cons, ih]; omega
    rw [e, e2, ih, one_sum 256 (by decide), if_pos (show 0 ≤ b.toInt ∧ b.toInt < ((256 : Nat) : Int) from hb), List.length_cons]
def cn1 (L : List Int32) (i : Nat) : Nat → Int32 := fun c => nI ((L.take i).count (nI c))
theorem cn_up {L : List Int32} {i c : Nat} (h : L[i]? = some (nI c)) (hc : c < 256) (hl : L.length < 1000) : ∀ d, d < 256 → upd (cn1 L i) c (cn1 L i c + 1) d = cn1 L (i + 1) d := by
  intro d hd
  simp only [upd, cn1]
  rw [List.take_add_one, h, List.count_append]
  by_cases e : d = c
  · subst e; simp [n_up]
  · have : ¬ nI c = nI d := fun q => e (nI_inj (by omega) (by omega) q).symm
    simp [e, this]
theorem s_RD_mIO_l1 {P : XP} {x3 : Option Value} (hb : ∀ b ∈ L, bt b) (hk : k < 10) (hL : Rl I F k L) (kk : ∀ (F1 : XF), (∀ x, x ≠ 18 → F1 x = F x) → Tb F1 (cn1 L L.length) → XJ none m_RD_makeInOrder 49 [some (.ref 24), some (.ref k)] [] I F1 P) : ∀ (m i : Nat) (F1 : XF), i + m = L.length → (∀ x, x ≠ 18 → F1 x = F x) → Tb F1 (cn1 L i) →
    XJ none m_RD_makeInOrder 10 [some (.ref 24), some (.ref k), some (.int (nI i))] [] I F1 P := by
  have eL := hL.ti
  have hll := hL.lt
  intro m
  induction m with
  | zero =>
    intro i F1 hi h1 h2
    refine xj_iload_n (pc := 10) d_RD_makeInOrder_10 rfl rfl ?_
    refine xj_aload_n (pc := 11) d_RD_makeInOrder_11 rfl rfl ?_
    refine xj_callV (pc := 12) d_RD_makeInOrder_12 ml_RD_46 ok_RW_length (s_RW_length (by omega)) rfl rfl (xsh_row (by omega)) rfl rfl (Nat.le_of_ble_eq_true rfl) (by decide) ?_
    rintro rv I1 F1 ⟨rfl, rfl, rfl⟩
    dsimp only [Option.toList, List.cons_append, List.nil_append]
    refine xj_icmp_ge (pc := 15) (tgt := 49) d_RD_makeInOrder_15 (by decide) (fun h15 => ?_) (fun h15 => absurd (by rw [n_le, n_nI (by omega)]; omega) h15)
    exact xj_take 2 (kk F1 h1 (by rw [← show i = L.length by omega]; exact h2))
  | succ m ih =>
    intro i F1 hi h1 h2
    have hget : L[i]? = some L[i] := List.getElem?_eq_getElem (by omega)
    obtain ⟨c, hc, ec⟩ := bt_n (hb L[i] (List.getElem_mem _))
    rw [ec] at hget
    have hL1 : Rl I F1 k L := ⟨hL.1, hL.2.1, fun q b hq => by rw [h1 k (by omega)]; exact hL.2.2 q b hq⟩
    refine xj_iload_n (pc := 10) d_RD_makeInOrder_10 rfl rfl ?_
    refine xj_aload_n (pc := 11) d_RD_makeInOrder_11 rfl rfl ?_
    refine xj_callV (pc := 12) d_RD_makeInOrder_12 ml_RD_46 ok_RW_length (s_RW_length (by omega)) rfl rfl (xsh_row (by omega)) rfl rfl (Nat.le_of_ble_eq_true rfl) (by decide) ?_
    rintro rv I1 F1 ⟨rfl, rfl, rfl⟩
    dsimp only [Option.toList, List.cons_append, List.nil_append]
    refine xj_icmp_ge (pc := 15) (tgt := 49) d_RD_makeInOrder_15 (by decide) (fun h15 => absurd h15 (by rw [n_le, n_nI (by omega)]; omega)) (fun h15 => ?_)
    refine xj_aload_n (pc := 18) d_RD_makeInOrder_18 rfl rfl ?_
    refine xj_iload_n (pc := 19) d_RD_makeInOrder_19 rfl rfl ?_
    refine xj_iconst (pc := 20) (v := -1) d_RD_makeInOrder_20 (by decide) ?_
    refine xj_callV (pc := 21) d_RD_makeInOrder_21 ml_RD_64 ok_RW_byteOr (s_RW_byteOr (by omega) hL1) rfl rfl (xsh_row (by omega)) rfl rfl (Nat.le_of_ble_eq_true rfl) (by decide) ?_
    rintro rv I1 F1 ⟨rfl, rfl, rfl⟩
    dsimp only [Option.toList, List.cons_append, List.nil_append]
    rw [rg_n (by omega), hget, Option.getD_some]
    refine xj_istore_n (pc := 24) d_RD_makeInOrder_24 rfl (by decide) rfl ?_
    dsimp only [xset, xset2, xkill]
    refine xj_aload_n (pc := 25) d_RD_makeInOrder_25 rfl rfl ?_
    refine xj_getR (pc := 26) d_RD_makeInOrder_26 fl_RD_38 rfl rfl ?_
    refine xj_iload_n (pc := 29) d_RD_makeInOrder_29 rfl rfl ?_
    refine xj_aload_n (pc := 30) d_RD_makeInOrder_30 rfl rfl ?_
    refine xj_getR (pc := 31) d_RD_makeInOrder_31 fl_RD_38 rfl rfl ?_
    refine xj_iload_n (pc := 34) d_RD_makeInOrder_34 rfl rfl ?_
    refine xj_callV (pc := 35) d_RD_makeInOrder_35 ml_RD_136 ok_BT_noted (s_BT_noted hc h2) rfl rfl rfl rfl rfl (Nat.le_of_ble_eq_true rfl) (by decide) ?_
    rintro rv I1 F1 ⟨rfl, rfl, rfl⟩
    dsimp only [Option.toList, List.cons_append, List.nil_append]
    refine xj_iconst (pc := 38) (v := 1) d_RD_makeInOrder_38 (by decide) ?_
    refine xj_iadd (pc := 39) d_RD_makeInOrder_39 ?_
    refine xj_callV (pc := 40) d_RD_makeInOrder_40 ml_RD_133 ok_BT_note (s_BT_note hc h2) rfl rfl rfl rfl rfl (Nat.le_of_ble_eq_true rfl) (by decide) ?_
    rintro rv I2 F2 ⟨rfl, ⟨rfl, g1⟩, g2⟩
    dsimp only [Option.toList, List.cons_append, List.nil_append]
    refine xj_inc1 (pc := 43) d_RD_makeInOrder_43 rfl (by decide) rfl ?_
    dsimp only [xset, xset2, xkill]
    rw [n_up]
    refine xj_goto (pc := 46) (tgt := 10) d_RD_makeInOrder_46 (by decide) ?_
    refine xj_take 3 (ih (i + 1) F2 (by omega) (fun x hx => (g1 x hx).trans (h1 x hx)) (fun d hd => ?_))
    rw [g2 d hd, cn_up hget hc (by omega) d hd]
theorem s_RD_mIO_l2 (hf : Tb F (cn1 L L.length)) (hl : L.length ≤ 240) : ∀ (m c : Nat) (I1 : XI) (F1 : XF), c + m = 256 → Rs 10 ((srt L c).take (xcap 10)) I F I1 F1 →
    XJ none m_RD_makeInOrder 51 [some (.ref 24), some (.ref k), some (.int (nI c))] [] I1 F1 (fun rv I2 F2 => rv = none ∧ Rs 10 ((srt L 256).take (xcap 10)) I F I2 F2) := by
  intro m
  induction m with
  | zero =>
    intro c I1 F1 hc g1
    refine xj_iload_n (pc := 51) d_RD_makeInOrder_51 rfl rfl ?_
    refine xj_sipush (pc := 52) (v := 256) d_RD_makeInOrder_52 (by decide) ?_
    refine xj_icmp_ge (pc := 55) (tgt := 80) d_RD_makeInOrder_55 (by decide) (fun h55 => ?_) (fun h55 => absurd (by rw [n_le, n_256, n_nI (by omega)]; omega) h55)
    refine xj_vret (pc := 80) d_RD_makeInOrder_80 rfl ?_
    exact ⟨rfl, by rw [← show c = 256 by omega]; exact g1⟩
  | succ m ih =>
    intro c I1 F1 hc g1
    refine xj_iload_n (pc := 51) d_RD_makeInOrder_51 rfl rfl ?_
    refine xj_sipush (pc := 52) (v := 256) d_RD_makeInOrder_52 (by decide) ?_
    refine xj_icmp_ge (pc := 55) (tgt := 80) d_RD_makeInOrder_55 (by decide) (fun h55 => absurd h55 (by rw [n_le, n_256, n_nI (by omega)]; omega)) (fun h55 => ?_)
    refine xj_aload_n (pc := 58) d_RD_makeInOrder_58 rfl rfl ?_
    refine xj_getR (pc := 59) d_RD_makeInOrder_59 fl_RD_22 rfl rfl ?_
    refine xj_iload_n (pc := 62) d_RD_makeInOrder_62 rfl rfl ?_
    refine xj_aload_n (pc := 63) d_RD_makeInOrder_63 rfl rfl ?_
    refine xj_getR (pc := 64) d_RD_makeInOrder_64 fl_RD_38 rfl rfl ?_
    refine xj_iload_n (pc := 67) d_RD_makeInOrder_67 rfl rfl ?_
    refine xj_callV (pc := 68) d_RD_makeInOrder_68 ml_RD_136 ok_BT_noted (s_BT_noted (f := cn1 L L.length) (by omega) (g1.tb hf)) rfl rfl rfl rfl rfl (Nat.le_of_ble_eq_true rfl) (by decide) ?_
    rintro rv I1 F1 ⟨rfl, rfl, rfl⟩
    dsimp only [Option.toList, List.cons_append, List.nil_append]
    refine xj_callV (pc := 71) d_RD_makeInOrder_71 ml_RD_68 ok_RW_addTimes (s_RW_addTimes (by decide) g1.2.2) rfl rfl (xsh_row (by omega)) rfl rfl (Nat.le_of_ble_eq_true rfl) (by decide) ?_
    rintro rv I2 F2 ⟨rfl, g2⟩
    have hcl : (cn1 L L.length c).toNatClampNeg = L.count (nI c) := by (rw [cn1, List.take_length, nI_clamp (by have := List.count_le_length (a := nI c) (l := L); omega)])
    rw [hcl, tk_app, ← srt_succ] at g2
    replace g2 := g1.tr g2
    dsimp only [Option.toList, List.cons_append, List.nil_append]
    refine xj_inc1 (pc := 74) d_RD_makeInOrder_74 rfl (by decide) rfl ?_
    dsimp only [xset, xset2, xkill]
    rw [n_up]
    refine xj_goto (pc := 77) (tgt := 51) d_RD_makeInOrder_77 (by decide) ?_
    exact ih (c + 1) I2 F2 (by omega) g2
theorem s_RD_mIO (hb : ∀ b ∈ L, bt b) (hk : k < 10) (hL : Rl I F k L) (h200 : L.length ≤ 200) (hM : Rl I F 10 []) : XM m_RD_makeInOrder [.ref 24, .ref k] I F (fun rv I2 F2 => rv = none ∧ CX I F I2 F2 ∧ Rl I2 F2 10 (srt L 256)) := by
  refine XM.of (by decide) (Nat.le_of_ble_eq_true rfl) ?_
  dsimp only [xargs]
  have hend : ∀ (F2 : XF), (∀ x, x ≠ 18 → F2 x = F x) → Tb F2 (cn1 L L.length) → XJ none m_RD_makeInOrder 49 [some (.ref 24), some (.ref k)] [] I F2 (fun rv I2 F2 => rv = none ∧ CX I F I2 F2 ∧ Rl I2 F2 10 (srt L 256)) := by
    intro F2 g3 g4
    have gt : Tc I F I F2 := ⟨rfl, g3⟩
    refine xj_iconst (pc := 49) (v := 0) d_RD_makeInOrder_49 (by decide) ?_
    refine xj_istore_n (pc := 50) d_RD_makeInOrder_50 rfl (by decide) rfl ?_
    dsimp only [xset, xset2, xkill]
    refine xj_post (fun rv I3 F3 h => ?_) (s_RD_mIO_l2 g4 (by omega) 256 0 I F2 (by omega) (Rs.rf (gt.kp (by decide) hM)))
    rw [xcap10, List.take_of_length_le (by rw [srt_len hb]; exact h200)] at h
    exact ⟨h.1, gt.cx.tr h.2.cx, h.2.2.2⟩
  refine xj_aload_n (pc := 0) d_RD_makeInOrder_0 rfl rfl ?_
  refine xj_getR (pc := 1) d_RD_makeInOrder_1 fl_RD_38 rfl rfl ?_
  refine xj_iconst (pc := 4) (v := 0) d_RD_makeInOrder_4 (by decide) ?_
  refine xj_callV (pc := 5) d_RD_makeInOrder_5 ml_RD_130 ok_BT_setAll (s_BT_setAll) rfl rfl rfl rfl rfl (Nat.le_of_ble_eq_true rfl) (by decide) ?_
  rintro rv I1 F1 ⟨rfl, ⟨rfl, g1⟩, g2⟩
  dsimp only [Option.toList, List.cons_append, List.nil_append]
  refine xj_iconst (pc := 8) (v := 0) d_RD_makeInOrder_8 (by decide) ?_
  refine xj_istore_n (pc := 9) d_RD_makeInOrder_9 rfl (by decide) rfl ?_
  dsimp only [xset, xset2, xkill]
  exact s_RD_mIO_l1 (x3 := none) hb hk (Tc.kp ⟨rfl, g1⟩ (by omega) hL) (fun F2 g3 g4 => hend F2 (fun x hx => (g3 x hx).trans (g1 x hx)) g4) L.length 0 F1 (by omega) (fun _ _ => rfl) (fun d hd => by rw [g2 d hd]; simp [cn1]; rfl)
/-! each once -/
theorem once_len : ∀ (L seen : List Int32), (once seen L).length ≤ L.length
  | [], _ => Nat.le_refl _
  | b :: t, seen => by
    rw [once]; split
    · have := once_len t seen; simp only [List.length_cons]; omega
    · have := once_len t (b :: seen); simp only [List.length_cons]; omega
theorem eo_up {seen : List Int32} {f : Nat → Int32} {c : Nat} (gf : ∀ c, c < 256 → f c = if nI c ∈ seen then 1 else 0) (hc : c < 256) : ∀ d, d < 256 → upd f c 1 d = if nI d ∈ nI c :: seen then 1 else 0 := by
  intro d hd
  simp only [upd]
  by_cases e : d = c
  · subst e; simp
  · have : ¬ nI d = nI c := fun q => e (nI_inj (by omega) (by omega) q)
    rw [if_neg e, gf d hd]; simp [this]
theorem s_RD_mEO_l (hb : ∀ b ∈ L, bt b) (hk : k < 10) (hL : Rl I F k L) (h200 : L.length ≤ 200) : ∀ (m i : Nat) (seen D : List Int32) (f : Nat → Int32) (I1 : XI) (F1 : XF), i + m = L.length → CX I F I1 F1 → Rl I1 F1 10 D → D ++ once seen (L.drop i) = once [] L → Tb F1 f → (∀ c, c < 256 → f c = if nI c ∈ seen then 1 else 0) →
    XJ none m_RD_makeEachOnce 10 [some (.ref 24), some (.ref k), some (.int (nI i))] [] I1 F1 (fun rv I2 F2 => rv = none ∧ CX I F I2 F2 ∧ Rl I2 F2 10 (once [] L)) := by
  intro m
  induction m with
  | zero =>
    intro i seen D f I1 F1 hi gx gd ge gt gf
    have eL1 := (gx.kp (by omega) (by omega) hL).ti
    refine xj_iload_n (pc := 10) d_RD_makeEachOnce_10 rfl rfl ?_
    refine xj_aload_n (pc := 11) d_RD_makeEachOnce_11 rfl rfl ?_
    refine xj_callV (pc := 12) d_RD_makeEachOnce_12 ml_RD_46 ok_RW_length (s_RW_length (by omega)) rfl rfl (xsh_row (by omega)) rfl rfl (Nat.le_of_ble_eq_true rfl) (by decide) ?_
    rintro rv I1 F1 ⟨rfl, rfl, rfl⟩
    dsimp only [Option.toList, List.cons_append, List.nil_append]
    refine xj_icmp_ge (pc := 15) (tgt := 59) d_RD_makeEachOnce_15 (by decide) (fun h15 => ?_) (fun h15 => absurd (by rw [n_le, n_nI (by omega)]; omega) h15)
    refine xj_vret (pc := 59) d_RD_makeEachOnce_59 rfl ?_
    rw [List.drop_of_length_le (by omega), once, List.append_nil] at ge
    rw [← ge]
    exact ⟨rfl, gx, gd⟩
  | succ m ih =>
    intro i seen D f I1 F1 hi gx gd ge gt gf
    have hL1 := gx.kp (by omega) (by omega) hL
    have eL1 := hL1.ti
    have hget : L[i]? = some L[i] := List.getElem?_eq_getElem (by omega)
    obtain ⟨c, hc, ec⟩ := bt_n (hb L[i] (List.getElem_mem _))
    have hdr : L.drop i = nI c :: L.drop (i + 1) := by rw [← ec]; exact List.drop_eq_getElem_cons (by omega)
    rw [ec] at hget
    rw [hdr, once] at ge
    have hDl : D.length + 1 ≤ 200 ∨ nI c ∈ seen := by
      by_cases q : nI c ∈ seen
      · exact Or.inr q
      · rw [if_neg q] at ge
        have := congrArg List.length ge
        have := once_len L []
        simp only [List.length_append, List.length_cons] at *
        omega
    refine xj_iload_n (pc := 10) d_RD_makeEachOnce_10 rfl rfl ?_
    refine xj_aload_n (pc := 11) d_RD_makeEachOnce_11 rfl rfl ?_
    refine xj_callV (pc := 12) d_RD_makeEachOnce_12 ml_RD_46 ok_RW_length (s_RW_length (by omega)) rfl rfl (xsh_row (by omega)) rfl rfl (Nat.le_of_ble_eq_true rfl) (by decide) ?_
    rintro rv I1 F1 ⟨rfl, rfl, rfl⟩
    dsimp only [Option.toList, List.cons_append, List.nil_append]
    refine xj_icmp_ge (pc := 15) (tgt := 59) d_RD_makeEachOnce_15 (by decide) (fun h15 => absurd h15 (by rw [n_le, n_nI (by omega)]; omega)) (fun h15 => ?_)
    refine xj_aload_n (pc := 18) d_RD_makeEachOnce_18 rfl rfl ?_
    refine xj_iload_n (pc := 19) d_RD_makeEachOnce_19 rfl rfl ?_
    refine xj_iconst (pc := 20) (v := -1) d_RD_makeEachOnce_20 (by decide) ?_
    refine xj_callV (pc := 21) d_RD_makeEachOnce_21 ml_RD_64 ok_RW_byteOr (s_RW_byteOr (by omega) hL1) rfl rfl (xsh_row (by omega)) rfl rfl (Nat.le_of_ble_eq_true rfl) (by decide) ?_
    rintro rv I1 F1 ⟨rfl, rfl, rfl⟩
    dsimp only [Option.toList, List.cons_append, List.nil_append]
    rw [rg_n (by omega), hget, Option.getD_some]
    refine xj_istore_n (pc := 24) d_RD_makeEachOnce_24 rfl (by decide) rfl ?_
    dsimp only [xset, xset2, xkill]
    refine xj_aload_n (pc := 25) d_RD_makeEachOnce_25 rfl rfl ?_
    refine xj_getR (pc := 26) d_RD_makeEachOnce_26 fl_RD_38 rfl rfl ?_
    refine xj_iload_n (pc := 29) d_RD_makeEachOnce_29 rfl rfl ?_
    refine xj_callV (pc := 30) d_RD_makeEachOnce_30 ml_RD_136 ok_BT_noted (s_BT_noted hc gt) rfl rfl rfl rfl rfl (Nat.le_of_ble_eq_true rfl) (by decide) ?_
    rintro rv I1 F1 ⟨rfl, rfl, rfl⟩
    dsimp only [Option.toList, List.cons_append, List.nil_append]
    refine xj_if_ne (pc := 33) (tgt := 53) d_RD_makeEachOnce_33 (by decide) (fun h33 => ?_) (fun h33 => ?_)
    · refine xj_inc1 (pc := 53) d_RD_makeEachOnce_53 rfl (by decide) rfl ?_
      dsimp only [xset, xset2, xkill]
      rw [n_up]
      refine xj_goto (pc := 56) (tgt := 10) d_RD_makeEachOnce_56 (by decide) ?_
      first | (have hin : nI c ∈ seen := Decidable.byContradiction (fun q => h33 (by rw [gf c hc, if_neg q])); rw [if_pos hin] at ge; exact xj_take 3 (ih (i + 1) seen D f I1 F1 (by omega) gx gd ge gt gf); done) | exact xj_take 3 (ih (i + 1) (nI c :: seen) (D ++ [nI c]) (upd f c 1) I3 F3 (by omega) (gx.tr (g1.cx.tr g3.cx)) g3.2.2 (by rw [List.append_assoc]; exact ge) (g3.tb g2) (fun d hd => eo_up gf hc d hd))
    · have hns : ¬ nI c ∈ seen := fun q => by rw [gf c hc, if_pos q] at h33; exact absurd h33 (by decide)
      rw [if_neg hns] at ge
      refine xj_aload_n (pc := 36) d_RD_makeEachOnce_36 rfl rfl ?_
      refine xj_getR (pc := 37) d_RD_makeEachOnce_37 fl_RD_38 rfl rfl ?_
      refine xj_iload_n (pc := 40) d_RD_makeEachOnce_40 rfl rfl ?_
      refine xj_iconst (pc := 41) (v := 1) d_RD_makeEachOnce_41 (by decide) ?_
      refine xj_callV (pc := 42) d_RD_makeEachOnce_42 ml_RD_133 ok_BT_note (s_BT_note hc gt) rfl rfl rfl rfl rfl (Nat.le_of_ble_eq_true rfl) (by decide) ?_
      rintro rv I2 F2 ⟨rfl, g1, g2⟩
      dsimp only [Option.toList, List.cons_append, List.nil_append]
      refine xj_aload_n (pc := 45) d_RD_makeEachOnce_45 rfl rfl ?_
      refine xj_getR (pc := 46) d_RD_makeEachOnce_46 fl_RD_22 rfl rfl ?_
      refine xj_iload_n (pc := 49) d_RD_makeEachOnce_49 rfl rfl ?_
      refine xj_callV (pc := 50) d_RD_makeEachOnce_50 ml_RD_140 ok_RW_add (s_RW_add (by decide) (g1.kp (by decide) gd)) rfl rfl (xsh_row (by omega)) rfl rfl (Nat.le_of_ble_eq_true rfl) (by decide) ?_
      rintro rv I3 F3 ⟨rfl, g3⟩
      rw [xcap10, List.take_of_length_le (by simp only [List.length_append, List.length_cons, List.length_nil]; rcases hDl with q | q; omega; exact absurd q hns)] at g3
      dsimp only [Option.toList, List.cons_append, List.nil_append]
      refine xj_inc1 (pc := 53) d_RD_makeEachOnce_53 rfl (by decide) rfl ?_
      dsimp only [xset, xset2, xkill]
      rw [n_up]
      refine xj_goto (pc := 56) (tgt := 10) d_RD_makeEachOnce_56 (by decide) ?_
      first | (have hin : nI c ∈ seen := Decidable.byContradiction (fun q => h33 (by rw [gf c hc, if_neg q])); rw [if_pos hin] at ge; exact xj_take 3 (ih (i + 1) seen D f I1 F1 (by omega) gx gd ge gt gf); done) | exact xj_take 3 (ih (i + 1) (nI c :: seen) (D ++ [nI c]) (upd f c 1) I3 F3 (by omega) (gx.tr (g1.cx.tr g3.cx)) g3.2.2 (by rw [List.append_assoc]; exact ge) (g3.tb g2) (fun d hd => eo_up gf hc d hd))
theorem s_RD_mEO (hb : ∀ b ∈ L, bt b) (hk : k < 10) (hL : Rl I F k L) (h200 : L.length ≤ 200) (hM : Rl I F 10 []) : XM m_RD_makeEachOnce [.ref 24, .ref k] I F (fun rv I2 F2 => rv = none ∧ CX I F I2 F2 ∧ Rl I2 F2 10 (once [] L)) := by
  refine XM.of (by decide) (Nat.le_of_ble_eq_true rfl) ?_
  dsimp only [xargs]
  refine xj_aload_n (pc := 0) d_RD_makeEachOnce_0 rfl rfl ?_
  refine xj_getR (pc := 1) d_RD_makeEachOnce_1 fl_RD_38 rfl rfl ?_
  refine xj_iconst (pc := 4) (v := 0) d_RD_makeEachOnce_4 (by decide) ?_
  refine xj_callV (pc := 5) d_RD_makeEachOnce_5 ml_RD_130 ok_BT_setAll (s_BT_setAll) rfl rfl rfl rfl rfl (Nat.le_of_ble_eq_true rfl) (by decide) ?_
  rintro rv I1 F1 ⟨rfl, g1, g2⟩
  dsimp only [Option.toList, List.cons_append, List.nil_append]
  refine xj_iconst (pc := 8) (v := 0) d_RD_makeEachOnce_8 (by decide) ?_
  refine xj_istore_n (pc := 9) d_RD_makeEachOnce_9 rfl (by decide) rfl ?_
  dsimp only [xset, xset2, xkill]
  exact s_RD_mEO_l hb hk hL h200 L.length 0 [] [] _ I1 F1 (by omega) g1.cx (g1.kp (by decide) hM) rfl g2 (fun c hc => by simp)
/-! turn -/
theorem up1_eq (b : Int32) : up1 b = if 97 ≤ b ∧ b ≤ 97 + 25 then b + (-32) else b := by
  rw [up1, show (97 : Int32) + 25 = 122 by decide, Int32.sub_eq_add_neg]
theorem t_RD_turn_e {how a to : Int32} {kt ka : Nat} (hC : CI I F S) (hX : CX I F I1 F1) (hM : Rl I1 F1 10 X) (hk : kt < 10) (ht : to.toInt.toNat = kt) (hl : X.length ≤ 200) : XJ none m_RD_turn 126 [some (.ref 24), some (.int how), some (.int a), some (.int to), some (.ref ka), some (.ref kt)] [] I1 F1 (CQ (sMk S to X) I F) := by
  refine xj_aload_n (pc := 126) d_RD_turn_126 rfl rfl ?_
  refine xj_aload (pc := 127) d_RD_turn_127 rfl ?_
  refine xj_callV (pc := 129) d_RD_turn_129 ml_RD_79 ok_RD_keepMade (s_RD_keepMade hk hM) rfl rfl rfl rfl rfl (Nat.le_of_ble_eq_true rfl) (by decide) ?_
  rintro rv I2 F2 ⟨rfl, g2⟩
  dsimp only [Option.toList, List.cons_append, List.nil_append]
  refine xj_iret (pc := 132) d_RD_turn_132 rfl ?_
  exact ck_doneX hC hX hM g2 hk ht rfl hl
theorem t_RD_turn {how a to : Int32} (hS : OKS S) (hC : CI I F S) : XM m_RD_turn [.ref 24, .int how, .int a, .int to] I F (CQ (sp_turn S how a to) I F) := by
  refine XM.of (by decide) (Nat.le_of_ble_eq_true rfl) ?_
  dsimp only [xargs]
  obtain ⟨M0, hM0⟩ := hC.2.2.2
  have hsw : ∀ (ka kt : Nat) (I1 : XI) (F1 : XF), ka < 10 → kt < 10 → a.toInt.toNat = ka → to.toInt.toNat = kt → 0 ≤ how.toInt → how.toInt ≤ 4 → Rs 10 [] I F I1 F1 → XJ none m_RD_turn 43 [some (.ref 24), some (.int how), some (.int a), some (.int to), some (.ref ka), some (.ref kt)] [] I1 F1 (CQ (sMk S to (m_turn (sR S a) how)) I F) := by
    intro ka kt I1 F1 hka hkt ha ht h0 h4 g1
    have hL := g1.kp (by omega) (hC.at hka ha)
    have hLe := hS.le hka ha
    have hbb : ∀ b ∈ sR S a, bt b := by rw [sR, ha]; exact (hS.2.1 ka hka).2
    refine xj_iload_n (pc := 43) d_RD_turn_43 rfl rfl ?_
    rcases (show how.toInt = 0 ∨ how.toInt = 1 ∨ how.toInt = 2 ∨ how.toInt = 3 ∨ how.toInt = 4 by omega) with q | q | q | q | q
    · obtain rfl : how = 0 := n_eq.mpr q
      refine xj_tableIn (pc := 44) (tgt := 76) d_RD_turn_44 (by decide) (by decide) rfl (by decide) ?_
      refine xj_aload_n (pc := 76) d_RD_turn_76 rfl rfl ?_
      refine xj_aload (pc := 77) d_RD_turn_77 rfl ?_
      refine xj_callV (pc := 79) d_RD_turn_79 ml_RD_118 ok_RD_makeTurnedAbout (s_RD_mTA hka hL hLe g1.2.2) rfl rfl rfl rfl rfl (Nat.le_of_ble_eq_true rfl) (by decide) ?_
      rintro rv I2 F2 ⟨rfl, g2⟩
      dsimp only [Option.toList, List.cons_append, List.nil_append]
      refine xj_goto (pc := 82) (tgt := 126) d_RD_turn_82 (by decide) ?_
      exact t_RD_turn_e hC (g1.tr g2).cx g2.2.2 hkt ht (show (sR S a).reverse.length ≤ 200 by rw [List.length_reverse]; exact hLe)
    · obtain rfl : how = 1 := n_eq.mpr q
      refine xj_tableIn (pc := 44) (tgt := 85) d_RD_turn_44 (by decide) (by decide) rfl (by decide) ?_
      refine xj_aload_n (pc := 85) d_RD_turn_85 rfl rfl ?_
      refine xj_aload (pc := 86) d_RD_turn_86 rfl ?_
      refine xj_bipush (pc := 88) (v := 97) d_RD_turn_88 (by decide) ?_
      refine xj_bipush (pc := 90) (v := -32) d_RD_turn_90 (by decide) ?_
      refine xj_callV (pc := 92) d_RD_turn_92 ml_RD_121 ok_RD_makeWithLettersMoved (s_RD_mLM (g := up1) (fun b => up1_eq b) hka hL hLe g1.2.2) rfl rfl rfl rfl rfl (Nat.le_of_ble_eq_true rfl) (by decide) ?_
      rintro rv I2 F2 ⟨rfl, g2⟩
      dsimp only [Option.toList, List.cons_append, List.nil_append]
      refine xj_goto (pc := 95) (tgt := 126) d_RD_turn_95 (by decide) ?_
      exact t_RD_turn_e hC (g1.tr g2).cx g2.2.2 hkt ht (show ((sR S a).map up1).length ≤ 200 by rw [List.length_map]; exact hLe)
    · obtain rfl : how = 2 := n_eq.mpr q
      refine xj_tableIn (pc := 44) (tgt := 98) d_RD_turn_44 (by decide) (by decide) rfl (by decide) ?_
      refine xj_aload_n (pc := 98) d_RD_turn_98 rfl rfl ?_
      refine xj_aload (pc := 99) d_RD_turn_99 rfl ?_
      refine xj_bipush (pc := 101) (v := 65) d_RD_turn_101 (by decide) ?_
      refine xj_bipush (pc := 103) (v := 32) d_RD_turn_103 (by decide) ?_
      refine xj_callV (pc := 105) d_RD_turn_105 ml_RD_121 ok_RD_makeWithLettersMoved (s_RD_mLM (g := lo1) (fun b => rfl) hka hL hLe g1.2.2) rfl rfl rfl rfl rfl (Nat.le_of_ble_eq_true rfl) (by decide) ?_
      rintro rv I2 F2 ⟨rfl, g2⟩
      dsimp only [Option.toList, List.cons_append, List.nil_append]
      refine xj_goto (pc := 108) (tgt := 126) d_RD_turn_108 (by decide) ?_
      exact t_RD_turn_e hC (g1.tr g2).cx g2.2.2 hkt ht (show ((sR S a).map lo1).length ≤ 200 by rw [List.length_map]; exact hLe)
    · obtain rfl : how = 3 := n_eq.mpr q
      refine xj_tableIn (pc := 44) (tgt := 111) d_RD_turn_44 (by decide) (by decide) rfl (by decide) ?_
      refine xj_aload_n (pc := 111) d_RD_turn_111 rfl rfl ?_
      refine xj_aload (pc := 112) d_RD_turn_112 rfl ?_
      refine xj_callV (pc := 114) d_RD_turn_114 ml_RD_124 ok_RD_makeInOrder (s_RD_mIO hbb hka hL hLe g1.2.2) rfl rfl rfl rfl rfl (Nat.le_of_ble_eq_true rfl) (by decide) ?_
      rintro rv I2 F2 ⟨rfl, g2, g3⟩
      dsimp only [Option.toList, List.cons_append, List.nil_append]
      refine xj_goto (pc := 117) (tgt := 126) d_RD_turn_117 (by decide) ?_
      exact t_RD_turn_e hC (g1.cx.tr g2) g3 hkt ht (show (srt (sR S a) 256).length ≤ 200 by rw [srt_len hbb]; exact hLe)
    · obtain rfl : how = 4 := n_eq.mpr q
      refine xj_tableOut (pc := 44) (tgt := 120) d_RD_turn_44 (by decide) (by decide) ?_
      refine xj_aload_n (pc := 120) d_RD_turn_120 rfl rfl ?_
      refine xj_aload (pc := 121) d_RD_turn_121 rfl ?_
      refine xj_callV (pc := 123) d_RD_turn_123 ml_RD_127 ok_RD_makeEachOnce (s_RD_mEO hbb hka hL hLe g1.2.2) rfl rfl rfl rfl rfl (Nat.le_of_ble_eq_true rfl) (by decide) ?_
      rintro rv I2 F2 ⟨rfl, g2, g3⟩
      dsimp only [Option.toList, List.cons_append, List.nil_append]
      exact t_RD_turn_e hC (g1.cx.tr g2) g3 hkt ht (show (once [] (sR S a)).length ≤ 200 from Nat.le_trans (once_len _ _) hLe)
  refine xj_aload_n (pc := 0) d_RD_turn_0 rfl rfl ?_
  refine xj_iload_n (pc := 1) d_RD_turn_1 rfl rfl ?_
  rcases regc a with ⟨k_a, hk_a, e_a, i_a, t_a⟩ | i_a
  · refine xj_callV (pc := 2) d_RD_turn_2 ml_RD_56 ok_RD_register (s_RD_register_k hk_a e_a) rfl rfl rfl rfl rfl (Nat.le_of_ble_eq_true rfl) (by decide) ?_
    rintro rv I1 F1 ⟨rfl, rfl, rfl⟩
    dsimp only [Option.toList, List.cons_append, List.nil_append]
    refine xj_astore (pc := 5) d_RD_turn_5 (by decide) rfl ?_
    dsimp only [xset, xset2, xkill]
    refine xj_aload_n (pc := 7) d_RD_turn_7 rfl rfl ?_
    refine xj_iload_n (pc := 8) d_RD_turn_8 rfl rfl ?_
    rcases regc to with ⟨k_to, hk_to, e_to, i_to, t_to⟩ | i_to
    · refine xj_callV (pc := 9) d_RD_turn_9 ml_RD_56 ok_RD_register (s_RD_register_k hk_to e_to) rfl rfl rfl rfl rfl (Nat.le_of_ble_eq_true rfl) (by decide) ?_
      rintro rv I1 F1 ⟨rfl, rfl, rfl⟩
      dsimp only [Option.toList, List.cons_append, List.nil_append]
      refine xj_astore (pc := 12) d_RD_turn_12 (by decide) rfl ?_
      dsimp only [xset, xset2, xkill]
      refine xj_aload (pc := 14) d_RD_turn_14 rfl ?_
      refine xj_ifnull (pc := 16) d_RD_turn_16 ?_
      refine xj_aload (pc := 19) d_RD_turn_19 rfl ?_
      refine xj_ifnull (pc := 21) d_RD_turn_21 ?_
      refine xj_iload_n (pc := 24) d_RD_turn_24 rfl rfl ?_
      refine xj_if_lt (pc := 25) (tgt := 33) d_RD_turn_25 (by decide) (fun h25 => ?_) (fun h25 => ?_)
      · simp only [n_lt, n_le, c_gt, c_le, c_lt, c_ge, not_lt_i, not_le_i, n_0, n_1, n_2, n_3, n_4, n_m1, n_10, n_200, n_240, n_256] at h25
        refine xj_iconst (pc := 33) (v := -1) d_RD_turn_33 (by decide) ?_
        refine xj_iret (pc := 34) d_RD_turn_34 rfl ?_
        exact ck_none hC (if_neg (fun q => by simp only [Bool.and_eq_true, decide_eq_true_eq] at q; first | omega | simp_all))
      · simp only [n_lt, n_le, c_gt, c_le, c_lt, c_ge, not_lt_i, not_le_i, n_0, n_1, n_2, n_3, n_4, n_m1, n_10, n_200, n_240, n_256] at h25
        refine xj_iload_n (pc := 28) d_RD_turn_28 rfl rfl ?_
        refine xj_iconst (pc := 29) (v := 4) d_RD_turn_29 (by decide) ?_
        refine xj_icmp_le (pc := 30) (tgt := 35) d_RD_turn_30 (by decide) (fun h30 => ?_) (fun h30 => ?_)
        · simp only [n_lt, n_le, c_gt, c_le, c_lt, c_ge, not_lt_i, not_le_i, n_0, n_1, n_2, n_3, n_4, n_m1, n_10, n_200, n_240, n_256] at h30
          rw [sp_turn, if_pos (by simp only [i_a, i_to, Bool.true_and, decide_eq_true_eq]; omega)]
          refine xj_aload_n (pc := 35) d_RD_turn_35 rfl rfl ?_
          refine xj_getR (pc := 36) d_RD_turn_36 fl_RD_22 rfl rfl ?_
          refine xj_iconst (pc := 39) (v := 0) d_RD_turn_39 (by decide) ?_
          refine xj_callV (pc := 40) d_RD_turn_40 ml_RD_53 ok_RW_shortenTo (s_RW_clear (by decide) hM0) rfl rfl (xsh_row (by omega)) rfl rfl (Nat.le_of_ble_eq_true rfl) (by decide) ?_
          rintro rv I1 F1 ⟨rfl, g1⟩
          dsimp only [Option.toList, List.cons_append, List.nil_append]
          exact hsw k_a k_to I1 F1 hk_a hk_to t_a t_to (by omega) (by omega) g1
        · simp only [n_lt, n_le, c_gt, c_le, c_lt, c_ge, not_lt_i, not_le_i, n_0, n_1, n_2, n_3, n_4, n_m1, n_10, n_200, n_240, n_256] at h30
          refine xj_iconst (pc := 33) (v := -1) d_RD_turn_33 (by decide) ?_
          refine xj_iret (pc := 34) d_RD_turn_34 rfl ?_
          exact ck_none hC (if_neg (fun q => by simp only [Bool.and_eq_true, decide_eq_true_eq] at q; first | omega | simp_all))
    · refine xj_callV (pc := 9) d_RD_turn_9 ml_RD_56 ok_RD_register (s_RD_register_n i_to) rfl rfl rfl rfl rfl (Nat.le_of_ble_eq_true rfl) (by decide) ?_
      rintro rv I1 F1 ⟨rfl, rfl, rfl⟩
      dsimp only [Option.toList, List.cons_append, List.nil_append]
      refine xj_astoreN (pc := 12) d_RD_turn_12 (by decide) rfl ?_
      dsimp only [xset, xset2, xkill]
      refine xj_aload (pc := 14) d_RD_turn_14 rfl ?_
      refine xj_ifnull (pc := 16) d_RD_turn_16 ?_
      refine xj_aloadN (pc := 19) d_RD_turn_19 rfl ?_
      refine xj_ifnullN (pc := 21) (tgt := 33) d_RD_turn_21 (by decide) ?_
      refine xj_iconst (pc := 33) (v := -1) d_RD_turn_33 (by decide) ?_
      refine xj_iret (pc := 34) d_RD_turn_34 rfl ?_
      exact ck_none hC (if_neg (fun q => by simp only [Bool.and_eq_true, decide_eq_true_eq] at q; first | omega | simp_all))
  · refine xj_callV (pc := 2) d_RD_turn_2 ml_RD_56 ok_RD_register (s_RD_register_n i_a) rfl rfl rfl rfl rfl (Nat.le_of_ble_eq_true rfl) (by decide) ?_
    rintro rv I1 F1 ⟨rfl, rfl, rfl⟩
    dsimp only [Option.toList, List.cons_append, List.nil_append]
    refine xj_astoreN (pc := 5) d_RD_turn_5 (by decide) rfl ?_
    dsimp only [xset, xset2, xkill]
    refine xj_aload_n (pc := 7) d_RD_turn_7 rfl rfl ?_
    refine xj_iload_n (pc := 8) d_RD_turn_8 rfl rfl ?_
    rcases regc to with ⟨k_to, hk_to, e_to, i_to, t_to⟩ | i_to
    · refine xj_callV (pc := 9) d_RD_turn_9 ml_RD_56 ok_RD_register (s_RD_register_k hk_to e_to) rfl rfl rfl rfl rfl (Nat.le_of_ble_eq_true rfl) (by decide) ?_
      rintro rv I1 F1 ⟨rfl, rfl, rfl⟩
      dsimp only [Option.toList, List.cons_append, List.nil_append]
      refine xj_astore (pc := 12) d_RD_turn_12 (by decide) rfl ?_
      dsimp only [xset, xset2, xkill]
      refine xj_aloadN (pc := 14) d_RD_turn_14 rfl ?_
      refine xj_ifnullN (pc := 16) (tgt := 33) d_RD_turn_16 (by decide) ?_
      refine xj_iconst (pc := 33) (v := -1) d_RD_turn_33 (by decide) ?_
      refine xj_iret (pc := 34) d_RD_turn_34 rfl ?_
      exact ck_none hC (if_neg (fun q => by simp only [Bool.and_eq_true, decide_eq_true_eq] at q; first | omega | simp_all))
    · refine xj_callV (pc := 9) d_RD_turn_9 ml_RD_56 ok_RD_register (s_RD_register_n i_to) rfl rfl rfl rfl rfl (Nat.le_of_ble_eq_true rfl) (by decide) ?_
      rintro rv I1 F1 ⟨rfl, rfl, rfl⟩
      dsimp only [Option.toList, List.cons_append, List.nil_append]
      refine xj_astoreN (pc := 12) d_RD_turn_12 (by decide) rfl ?_
      dsimp only [xset, xset2, xkill]
      refine xj_aloadN (pc := 14) d_RD_turn_14 rfl ?_
      refine xj_ifnullN (pc := 16) (tgt := 33) d_RD_turn_16 (by decide) ?_
      refine xj_iconst (pc := 33) (v := -1) d_RD_turn_33 (by decide) ?_
      refine xj_iret (pc := 34) d_RD_turn_34 rfl ?_
      exact ck_none hC (if_neg (fun q => by simp only [Bool.and_eq_true, decide_eq_true_eq] at q; first | omega | simp_all))
end RDF
