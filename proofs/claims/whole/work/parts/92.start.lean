
theorem xin36 : (List.range 36).all (fun k => match xshp.getD k (.inl (0, 0)) with
  | .inl _ => true
  | .inr (.inl l) => l.all (fun c => decide (c < 36))
  | .inr (.inr q) => q.2.all (fun f => match f with
    | .inl c => decide (c < 36)
    | .inr _ => true)) = true := by decide +kernel
theorem xcz_cg {cI cR : ClassId} {u ad : Nat → Nat} {I : XI} {F : XF} (h : ∀ k, k < 36 → ad k = u k) {k : Nat} (hk : k < 36) : xcz cI cR ad I F (xshp.getD k (.inl (0, 0))) = xcz cI cR u I F (xshp.getD k (.inl (0, 0))) := by
  have h1 := List.all_eq_true.mp xin36 k (List.mem_range.mpr hk)
  generalize xshp.getD k (.inl (0, 0)) = d at h1
  match d, h1 with
  | .inl a, _ => rfl
  | .inr (.inl l), h1 =>
    simp only [xcz]
    congr 7
    funext j
    cases hj : l[j]? with
    | none => rfl
    | some x =>
      have := List.all_eq_true.mp h1 x (List.mem_of_getElem? hj)
      simp only [decide_eq_true_eq] at this
      simp only [Option.map_some, h x this]
  | .inr (.inr q), h1 =>
    simp only [xcz]
    congr 2
    apply List.map_congr_left
    intro f hf
    have := List.all_eq_true.mp h1 f hf
    cases f with
    | inl x =>
      simp only [decide_eq_true_eq] at this
      simp only [xfv, h x this]
    | inr x => rfl
def xad (u : Nat → Nat) (t : List Nat) : Nat → Nat := fun k => if k < 36 then u k else t.getD (k - 36) 0
theorem xad_lt {u : Nat → Nat} {t : List Nat} (k : Nat) (h : k < 36) : xad u t k = u k := if_pos h
theorem xw_start {cI cR : ClassId} {u : Nat → Nat} {b q q1 q2 q3 q4 q5 q6 q7 : Nat} : xwd cI cR u ++ [(q, .inr (4, [.ref q1, .ref q2, .ref q3, .ref q4, .ref q5, .int 0, .int 0, .int 32, .ref q6, .ref q7])), (q1, .inl (cI, 240, .inl (fun _ => 0))), (q2, .inl (cI, 2000, .inl (fun _ => 0))), (q3, .inl (cI, 10, .inl (fun _ => 0))), (q4, .inl (cI, 220, .inl (fun _ => 0))), (q5, .inl (cI, 256, .inl (fun _ => 0))), (q6, .inl (cI, 102, .inl (fun _ => 0))), (q7, .inl (cI, 102, .inl (fun _ => 0)))] = xw cI cR (xad u [q, q1, q2, q3, q4, q5, q6, q7, b]) xI0 xF0 := by
  have e : List.range 44 = List.range 36 ++ [36, 37, 38, 39, 40, 41, 42, 43] := by decide
  rw [xw, e, List.map_append, xwd]
  congr 1
  apply List.map_congr_left
  intro k hk
  have hk := List.mem_range.mp hk
  rw [xad_lt k hk, xcz_cg (fun k => xad_lt k) hk]
def xS0 : XSt := ([], fun _ => [], 32)
theorem xS0_oks : OKS xS0 := ⟨fun b hb => by simp [xS0] at hb, fun r _ => ⟨Nat.zero_le _, fun b hb => by simp [xS0] at hb⟩, by rw [bt]; decide⟩
theorem xS0_ci : CI xI0 xF0 xS0 := ⟨Rl.nil rfl, fun r hr => Rl.nil (by unfold xI0; rw [if_neg (by omega), if_neg (by omega)]), rfl, [], Rl.nil rfl⟩
theorem xS0_mi : MI xI0 xF0 xS0 := ⟨⟨rfl, Nat.zero_le _, fun i b hb => by simp [xS0] at hb⟩, fun r _ => ⟨rfl, Nat.zero_le _, fun i b hb => by simp [xS0] at hb⟩, rfl⟩
set_option maxHeartbeats 4000000 in
set_option maxRecDepth 100000 in
theorem whole_start {p : Program} {e : Env} {s : State} {m : MethodId} {below : List Frame} {meth : Method} {c : Code} (l : Launch) {b L : Nat} {xs : Nat → Int32} (hL : L ≤ 3072) (C0 : lw_At p s m meth c b L xs) : W p l e room_1 s m #[Value.ref b] below meth c s.heap [] 0 0 (lw_Z below #[Value.ref b] s) (entryFrame m ([Value.ref b] : List Value).toArray 4) := by
  obtain ⟨hx, hb, hr, hml, hown, hts0, hX, hbl, hlocks, hgv⟩ := id C0
  have hts : ∀ w ∈ xtc, w.before #[Value.ref b] s = true := fun w hw => hts0 w (List.mem_filter.mp hw).1
  have hb : c.code = xcode m_LA_law := hb
  have hown : s.vm.findClass "RowDeskLaw" = some m.cls := hown
  obtain ⟨e0, f0, g0⟩ := u_known (C := "RowDesk$ByteTable") (T := T_BT) (N := 1) (n := 1) hts (fun w hw => xtb_c (in_BT w hw)) (hts (.instantiable "RowDesk$ByteTable" 1) (xinc 79 (by decide +kernel) (by decide +kernel)))
  obtain ⟨e1, f1, g1⟩ := u_known (C := "RowDesk$Row") (T := T_RW) (N := 2) (n := 2) hts (fun w hw => xtb_c (in_RW w hw)) (hts (.instantiable "RowDesk$Row" 2) (xinc 39 (by decide +kernel) (by decide +kernel)))
  obtain ⟨e2, f2, g2⟩ := u_known (C := "RowDesk$WordList") (T := T_WL) (N := 5) (n := 5) hts (fun w hw => xtb_c (in_WL w hw)) (hts (.instantiable "RowDesk$WordList" 5) (xinc 57 (by decide +kernel) (by decide +kernel)))
  obtain ⟨e3, f3, g3⟩ := u_known (C := "RowDesk") (T := T_RD) (N := 7) (n := 7) hts (fun w hw => xtb_c (in_RD w hw)) (hts (.instantiable "RowDesk" 7) (xinc 31 (by decide +kernel) (by decide +kernel)))
  obtain ⟨e4, f4, g4⟩ := u_known (C := "RowDeskModel") (T := T_MO) (N := 10) (n := 10) hts (fun w hw => xtb_c (in_MO w hw)) (hts (.instantiable "RowDeskModel" 10) (xinc 391 (by decide +kernel) (by decide +kernel)))
  obtain ⟨D, hKc⟩ : ∃ D : va_G, ∀ (k : Nat) (q : vw_C), vwCl[k]? = some q → u_Kn s q.1 q.2.1 q.2.2 (D.1 k) (D.2 k) := by
    refine ⟨(fun k => if k = 0 then e0 else if k = 1 then e1 else if k = 2 then e2 else if k = 3 then e3 else e4, fun k => if k = 0 then f0 else if k = 1 then f1 else if k = 2 then f2 else if k = 3 then f3 else f4), ?_⟩
    intro k q hq
    match k, hq with
    | 0, hq => cases hq; exact g0
    | 1, hq => cases hq; exact g1
    | 2, hq => cases hq; exact g2
    | 3, hq => cases hq; exact g3
    | 4, hq => cases hq; exact g4
    | k + 5, hq => simp [vwCl] at hq
  obtain ⟨cI, kI, compI, a1, a2, a3⟩ := Cond.arrayClass_spec (hts (.arrayClass .int) (xinc 54 (by decide +kernel) (by decide +kernel)))
  have hover0 : (Cond.arrayOver (.object xRow)).before #[Value.ref b] s = true := hts0 _ (List.mem_of_getElem? (i := 55) (by decide +kernel))
  have hover : va_AO xRow s := va_AO.of hover0
  obtain ⟨compR, cR, kR, b1, b2, b3, b4, b5⟩ := Cond.arrayOver_spec hover0
  have hK : va_K D vwCl [(cI, .int), (cR, .object xRow)] s := by
    refine ⟨hKc, fun k q hq => ?_⟩
    match k, hq with
    | 0, hq => cases hq; exact ⟨fun N z => ⟨(fun k h => by cases h), kI, a2, compI, a3⟩, a1⟩
    | 1, hq => cases hq; exact ⟨fun N z => ⟨(fun k h => by cases h), kR, b3, compR, b4⟩, kR, compR, b3, b4, b1, b5⟩
    | k + 2, hq => simp at hq
  generalize hAe : (fun q : Nat => s.heap.size ≤ q) = A
  have hA : ∀ q : Nat, s.heap.size ≤ q → A q := fun q h => by rw [← hAe]; exact h
  have hbA : ¬ A b := by rw [← hAe]; exact Nat.not_le.mpr hbl
  have hS : va_S A s.heap s.heap [] := va_S.rf
  have hP : va_P D vwCl [] s.heap := fun k q h => by simp at h
  have hD : va_D A [] := ⟨fun i j p q h => by simp at h, fun k q h => by simp at h⟩
  have hl := lv_entry ([.ref b]) (n := 4) (Nat.le_of_ble_eq_true rfl)
  rw [lg_entry_eq]
  generalize (lg_sl ([.ref b]) ++ List.replicate (4 - (lg_sl ([.ref b])).length) Slot.unset).toArray = ls at hl ⊢
  have hl : lv_has ls 4 [(0, .ref b)] := hl
  refine va_new (ci := 3) (fs := [.null, .null, .null, .null, .null, .null, .int 0]) (C := "RowDesk") (T := T_RD) (N := 7) hx hb hts (fun w hw => xtb_c (in_RD w hw)) ty_RD ty_RD_ok hown (hts (.classLink "RowDeskLaw" 7 "RowDesk") (xinc 30 (by decide +kernel) (by decide +kernel))) (hts (.instantiable "RowDesk" 7) (xinc 31 (by decide +kernel) (by decide +kernel))) (hts (.initialized "RowDesk") (xinc 24 (by decide +kernel) (by decide +kernel))) hK hP hD hS hA rfl (fun j hj => by rcases (show j = 0 ∨ j = 1 ∨ j = 2 ∨ j = 3 ∨ j = 4 ∨ j = 5 ∨ j = 6 by omega) with rfl | rfl | rfl | rfl | rfl | rfl | rfl <;> rfl) (Nat.le_of_ble_eq_true rfl) (Nat.le_of_ble_eq_true rfl) d_LA_law_0 (fun q1 H hP hD hS => ?_)
  have hP : va_P D vwCl [(q1, .inr (3, [.null, .null, .null, .null, .null, .null, .int 0]))] H := hP
  have hD : va_D A [(q1, .inr (3, [.null, .null, .null, .null, .null, .null, .int 0]))] := hD
  refine W.widen (k := 1) (n := 7) (by omega) (by omega) ?_
  refine lv_dup hx hb d_LA_law_3 rfl ?_
  have hPc := hP.sub (ws' := [(q1, .inr (3, [.null, .null, .null, .null, .null, .null, .int 0]))]) [0] rfl
  have hDc := hD.sub (ws' := [(q1, .inr (3, [.null, .null, .null, .null, .null, .null, .int 0]))]) [0] (by decide) rfl
  have hFc := va_free (wc := [(q1, .inr (3, [.null, .null, .null, .null, .null, .null, .int 0]))]) hD hS hA [0] rfl
  refine va_callv (va_runI (As := []) (rest := [.ref q1]) ⟨hx, hb, hml, hown, hts⟩ (k_RD_init l D cI cR q1 H.size) (cwI 0 hts (yws_good (xinc 34 (by decide +kernel) (by decide +kernel))) rfl rfl rfl (hts (.initialized "RowDesk") (xinc 24 (by decide +kernel) (by decide +kernel))) (hts (.methodLink "RowDeskLaw" 9 (xy m_RD_init)) (xinc 32 (by decide +kernel) (by decide +kernel))) (hts (.instanceMethod (xy m_RD_init)) (xinc 33 (by decide +kernel) (by decide +kernel))) rfl (by decide +kernel) ⟨(Nat.le_of_ble_eq_true rfl), (Nat.le_of_ble_eq_true rfl)⟩) ⟨fun a U g mk q => by obtain ⟨q0, q1, qP, qK, qD, qO⟩ := q; exact ⟨q0, q1, qP, va_K.moved (u := U) (U := U.calling g mk a) (Vm.Alike.refl U.vm) qK, qD, va_AO.moved (u := U) (U := U.calling g mk a) (Vm.Alike.refl U.vm) qO⟩, fun U hU hW => ⟨rfl, by rw [hU], by rw [hU]; exact hPc, va_K.moved hW.alike hK, hDc.weaken (fun _ _ _ _ => trivial), va_AO.moved hW.alike hover⟩⟩ rfl rfl hl.1 rfl (lv_room (Nat.le_of_ble_eq_true rfl)) d_LA_law_4 ⟨(Nat.le_of_ble_eq_true rfl), (Nat.le_of_ble_eq_true rfl)⟩) hS (fun q _ h => hFc q h) hFc (fun u t H1 locs ht hvm hw hB hz1 hk1 hS => ?_)
  skip
  obtain ⟨hP1, hK1, hD1, h24⟩ := hB
  rw [ht] at hP1
  obtain ⟨hP, hD⟩ := va_join (wr := []) (w1 := (xwd cI cR u)) hP hD [0] [] rfl rfl (by decide) (by decide) hk1 hFc hP1 hD1
  generalize H1 = H at hP hS ⊢
  have hP : va_P D vwCl (xwd cI cR u) H := hP
  have hD : va_D A (xwd cI cR u) := hD
  refine W.widen (k := 36) (n := 3348) (by omega) (by omega) ?_
  refine lv_astore_n (lv' := [(1, .ref q1), (0, .ref b)]) hx hb d_LA_law_7 rfl hl (by decide) rfl (fun ls hl => ?_)
  refine va_new (ci := 4) (fs := [.null, .null, .null, .null, .null, .int 0, .int 0, .int 0, .null, .null]) (C := "RowDeskModel") (T := T_MO) (N := 10) hx hb hts (fun w hw => xtb_c (in_MO w hw)) ty_MO ty_MO_ok hown (hts (.classLink "RowDeskLaw" 10 "RowDeskModel") (xinc 390 (by decide +kernel) (by decide +kernel))) (hts (.instantiable "RowDeskModel" 10) (xinc 391 (by decide +kernel) (by decide +kernel))) (hts (.initialized "RowDeskModel") (xinc 29 (by decide +kernel) (by decide +kernel))) hK hP hD hS hA rfl (fun j hj => by rcases (show j = 0 ∨ j = 1 ∨ j = 2 ∨ j = 3 ∨ j = 4 ∨ j = 5 ∨ j = 6 ∨ j = 7 ∨ j = 8 ∨ j = 9 by omega) with rfl | rfl | rfl | rfl | rfl | rfl | rfl | rfl | rfl | rfl <;> rfl) (Nat.le_of_ble_eq_true rfl) (Nat.le_of_ble_eq_true rfl) d_LA_law_8 (fun q2 H hP hD hS => ?_)
  have hP : va_P D vwCl (xwd cI cR u ++ [(q2, .inr (4, [.null, .null, .null, .null, .null, .int 0, .int 0, .int 0, .null, .null]))]) H := hP
  have hD : va_D A (xwd cI cR u ++ [(q2, .inr (4, [.null, .null, .null, .null, .null, .int 0, .int 0, .int 0, .null, .null]))]) := hD
  refine W.widen (k := 37) (n := 3358) (by omega) (by omega) ?_
  refine lv_dup hx hb d_LA_law_11 rfl ?_
  have hPc := hP.sub (ws' := [(q2, .inr (4, [.null, .null, .null, .null, .null, .int 0, .int 0, .int 0, .null, .null]))]) [36] rfl
  have hDc := hD.sub (ws' := [(q2, .inr (4, [.null, .null, .null, .null, .null, .int 0, .int 0, .int 0, .null, .null]))]) [36] (by decide) rfl
  have hFc := va_free (wc := [(q2, .inr (4, [.null, .null, .null, .null, .null, .int 0, .int 0, .int 0, .null, .null]))]) hD hS hA [36] rfl
  refine va_callv (va_runI (As := []) (rest := [.ref q2]) ⟨hx, hb, hml, hown, hts⟩ (k_MO_init l D cI cR q2 H.size) (cwI 0 hts (yws_good (xinc 394 (by decide +kernel) (by decide +kernel))) rfl rfl rfl (hts (.initialized "RowDeskModel") (xinc 29 (by decide +kernel) (by decide +kernel))) (hts (.methodLink "RowDeskLaw" 12 (xy m_MO_init)) (xinc 392 (by decide +kernel) (by decide +kernel))) (hts (.instanceMethod (xy m_MO_init)) (xinc 393 (by decide +kernel) (by decide +kernel))) rfl (by decide +kernel) ⟨(Nat.le_of_ble_eq_true rfl), (Nat.le_of_ble_eq_true rfl)⟩) ⟨fun a U g mk q => by obtain ⟨q0, q1, qP, qK, qD⟩ := q; exact ⟨q0, q1, qP, va_K.moved (u := U) (U := U.calling g mk a) (Vm.Alike.refl U.vm) qK, qD⟩, fun U hU hW => ⟨rfl, by rw [hU], by rw [hU]; exact hPc, va_K.moved hW.alike hK, hDc.weaken (fun _ _ _ _ => trivial)⟩⟩ rfl rfl hl.1 rfl (lv_room (Nat.le_of_ble_eq_true rfl)) d_LA_law_12 ⟨(Nat.le_of_ble_eq_true rfl), (Nat.le_of_ble_eq_true rfl)⟩) hS (fun q _ h => hFc q h) hFc (fun u t H1 locs ht hvm hw hB hz1 hk1 hS => ?_)
  obtain ⟨w1, w2, w3, w4, w5, w6, w7⟩ := u
  obtain ⟨hP1, hK1, hD1⟩ := hB
  rw [ht] at hP1
  obtain ⟨hP, hD⟩ := va_join (wr := (xwd cI cR u)) (w1 := [(q2, .inr (4, [.ref w1, .ref w2, .ref w3, .ref w4, .ref w5, .int 0, .int 0, .int 32, .ref w6, .ref w7])), (w1, .inl (cI, 240, .inl (fun _ => 0))), (w2, .inl (cI, 2000, .inl (fun _ => 0))), (w3, .inl (cI, 10, .inl (fun _ => 0))), (w4, .inl (cI, 220, .inl (fun _ => 0))), (w5, .inl (cI, 256, .inl (fun _ => 0))), (w6, .inl (cI, 102, .inl (fun _ => 0))), (w7, .inl (cI, 102, .inl (fun _ => 0)))]) hP hD [36] (List.range 36) rfl rfl (by decide) (by decide) hk1 hFc hP1 hD1
  generalize H1 = H at hP hS ⊢
  have hP : va_P D vwCl (xwd cI cR u ++ [(q2, .inr (4, [.ref w1, .ref w2, .ref w3, .ref w4, .ref w5, .int 0, .int 0, .int 32, .ref w6, .ref w7])), (w1, .inl (cI, 240, .inl (fun _ => 0))), (w2, .inl (cI, 2000, .inl (fun _ => 0))), (w3, .inl (cI, 10, .inl (fun _ => 0))), (w4, .inl (cI, 220, .inl (fun _ => 0))), (w5, .inl (cI, 256, .inl (fun _ => 0))), (w6, .inl (cI, 102, .inl (fun _ => 0))), (w7, .inl (cI, 102, .inl (fun _ => 0)))]) H := hP
  have hD : va_D A (xwd cI cR u ++ [(q2, .inr (4, [.ref w1, .ref w2, .ref w3, .ref w4, .ref w5, .int 0, .int 0, .int 32, .ref w6, .ref w7])), (w1, .inl (cI, 240, .inl (fun _ => 0))), (w2, .inl (cI, 2000, .inl (fun _ => 0))), (w3, .inl (cI, 10, .inl (fun _ => 0))), (w4, .inl (cI, 220, .inl (fun _ => 0))), (w5, .inl (cI, 256, .inl (fun _ => 0))), (w6, .inl (cI, 102, .inl (fun _ => 0))), (w7, .inl (cI, 102, .inl (fun _ => 0)))]) := hD
  refine W.widen (k := 44) (n := 6288) (by omega) (by omega) ?_
  refine lv_astore_n (lv' := [(2, .ref q2), (1, .ref q1), (0, .ref b)]) hx hb d_LA_law_15 rfl hl (by decide) rfl (fun ls hl => ?_)
  refine lv_iconst (v := 0) hx hb d_LA_law_16 (by decide) ?_
  refine lv_istore_n (lv' := [(3, .int 0), (2, .ref q2), (1, .ref q1), (0, .ref b)]) hx hb d_LA_law_17 rfl hl (by decide) rfl (fun ls hl => ?_)
  rw [xw_start (b := b)] at hP hD
  refine law_loop (xs := xs) hL L 0 xS0 xI0 xF0 (by omega) (by omega) xS0_oks xS0_ci xS0_mi p l e room_1 s m #[Value.ref b] below meth c H locs _ _ _ D cI cR (xad u [q2, w1, w2, w3, w4, w5, w6, w7, b]) A ls ⟨hx, hb, hml, hown, fun w hw => hts w (xtb_c hw), (Nat.le_of_ble_eq_true rfl), (Nat.le_of_ble_eq_true rfl), (Nat.le_of_ble_eq_true rfl), (Nat.le_of_ble_eq_true rfl)⟩ ?_ ⟨hK, hP, hD⟩ hS ?_ ?_
  · intro L2 xs2 h
    cases h
    exact ⟨hX, hbl, hbA⟩
  · refine ⟨hl.1, hl.2.1, fun i v hv => ?_⟩
    match i, hv with
    | 0, hv => cases hv; exact hl.2.2 (0, .ref b) (by simp)
    | 1, hv => cases hv; show ls[1]? = some (.val (.ref (u 24))); rw [h24]; exact hl.2.2 (1, .ref q1) (by simp)
    | 2, hv => cases hv; exact hl.2.2 (2, .ref q2) (by simp)
    | 3, hv => cases hv; exact hl.2.2 (3, .int 0) (by simp)
    | i + 4, hv => simp at hv
  · intro H1 locs1 ls1 pc1 rv I1 F1 hp hret hW1 hS1
    subst hp
    refine va_forget (fun q hq => by have := hS1.2.2 q hq; rw [← hAe] at this; exact this) ?_
    exact W.widen (k := 600000) (n := 7302250) (Nat.le_of_ble_eq_true rfl) (Nat.le_of_ble_eq_true rfl) (lw_ret hx hb hr hlocks hret.1)
