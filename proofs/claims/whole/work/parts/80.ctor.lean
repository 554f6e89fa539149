
def xtc : List Cond := lw_tbl.filter goodWord
theorem xinc {w : Cond} (i : Nat) (h : lw_tbl[i]? = some w) (g : goodWord w = true) : w ∈ xtc := List.mem_filter.mpr ⟨List.mem_of_getElem? h, g⟩
theorem xtb_c {w : Cond} (h : w ∈ xtb) : w ∈ xtc := by
  have h1 := xtb_good h
  refine List.mem_filter.mpr ⟨xtb_sub h, ?_⟩
  cases w <;> first | exact h1 | rfl
theorem xtc_good {w : Cond} (h : w ∈ xtc) : (w.onTables && w.keeps) = true ∨ ∃ ty, w = .arrayClass ty := good_of_word (List.mem_filter.mp h).2
def yws (mi : XMi) : List Cond := Cond.code (xy mi) (xcode mi) (xmaxL mi) (xret mi) :: xtc
theorem yws_good {mi : XMi} (h : Cond.code (xy mi) (xcode mi) (xmaxL mi) (xret mi) ∈ xtc) : GoodIn xtc (yws mi) := by
  intro w hw
  have : w ∈ xtc := by
    rcases List.mem_cons.mp hw with rfl | q
    · exact h
    · exact q
  exact ⟨this, xtc_good this⟩
section XNEW
variable {p : Program} {l : Launch} {e : Env} {R : Room} {s : State} {m : MethodId} {args : Array Value} {below : List Frame} {meth : Method} {c : Code} {H : Heap} {locs : List Loc} {cells slots : Nat} {Q : State → Prop}
variable {cc : ByteArray} {pc : Nat} {ls : Array Slot} {rest : List Value} {D : va_G} {cl : List vw_C} {A : Nat → Prop} {ws : va_W} {H0 : Heap} {cI cR : ClassId}
theorem xn_newa (hexec : p.tables.exec = Jvm.exec) (hb : c.code = cc) (harr : (Cond.arrayClass .int).before args s = true) (hK : va_K D cl [(cI, .int), (cR, .object xRow)] s) (hP : va_P D cl ws H) (hD : va_D A ws) (hS : va_S A H0 H locs) (hA : ∀ q, H0.size ≤ q → A q)
    {n : Int32} {N : Nat} (hn : ¬ n < 0) (hN : n.toNatClampNeg = N) (hbytes : N * 4 ≤ 536870912) (hcells : cells + 1 ≤ R.cells) (hslots : slots + N ≤ R.slots) (hdg : decode cc pc = .ok (.newarray .int, 2))
    (kk : ∀ (q : Nat) (H1 : Heap), va_P D cl (ws ++ [(q, .inl (cI, N, .inl (fun _ => 0)))]) H1 → va_D A (ws ++ [(q, .inl (cI, N, .inl (fun _ => 0)))]) → va_S A H0 H1 locs → W p l e R s m args below meth c H1 locs (cells + 1) (slots + N) Q (F0 m (pc + 2) ls (.ref q :: rest))) : W p l e R s m args below meth c H locs cells slots Q (F0 m pc ls (.int n :: rest)) := by
  refine va_newa (atype := .int) (ty := .int) (a0 := (N, .inl (fun _ => 0))) hexec hb harr rfl hK hP hD hS hA (fun cA => rfl) hn hN hbytes hcells hslots hdg (fun q cA H1 hK1 hP1 hD1 hS1 => ?_)
  have e : cA = cI := by
    have h1 := (hK1.2 2 (cA, .int) rfl).2
    have h2 := (hK.2 0 (cI, .int) rfl).2
    exact Option.some.inj (h1.symm.trans h2)
  subst e
  exact kk q H1 hP1 hD1 hS1
theorem xn_newq (hexec : p.tables.exec = Jvm.exec) (hb : c.code = cc) {own : String} {index : Nat} (hown : s.vm.findClass own = some m.cls) (hclink : (Cond.classLink own index xRow).before args s = true) (hover : va_AO xRow s) (hK : va_K D cl [(cI, .int), (cR, .object xRow)] s) (hP : va_P D cl ws H) (hD : va_D A ws) (hS : va_S A H0 H locs) (hA : ∀ q, H0.size ≤ q → A q)
    {n : Int32} {N : Nat} (hn : ¬ n < 0) (hN : n.toNatClampNeg = N) (hbytes : N * 4 ≤ 536870912) (hcells : cells + 1 ≤ R.cells) (hslots : slots + N ≤ R.slots) (hdg : decode cc pc = .ok (.anewarray index, 3))
    (kk : ∀ (q : Nat) (H1 : Heap), va_P D cl (ws ++ [(q, .inl (cR, N, .inr (.inr (.inr (.inr (fun _ => none))))))]) H1 → va_D A (ws ++ [(q, .inl (cR, N, .inr (.inr (.inr (.inr (fun _ => none))))))]) → va_S A H0 H1 locs → W p l e R s m args below meth c H1 locs (cells + 1) (slots + N) Q (F0 m (pc + 3) ls (.ref q :: rest))) : W p l e R s m args below meth c H locs cells slots Q (F0 m pc ls (.int n :: rest)) := by
  refine va_newq hexec hb hown hclink hover hK hP hD hS hA hn hN hbytes hcells hslots hdg (fun q cA H1 hK1 hP1 hD1 hS1 => ?_)
  have e : cA = cR := by
    obtain ⟨_, _, _, _, _, h1⟩ := (hK1.2 2 (cA, .object xRow) rfl).2
    obtain ⟨_, _, _, _, _, h2⟩ := (hK.2 1 (cR, .object xRow) rfl).2
    exact Option.some.inj (h1.symm.trans h2)
  subst e
  exact kk q H1 hP1 hD1 hS1
end XNEW
set_option maxHeartbeats 4000000 in
set_option maxRecDepth 100000 in
theorem k_RW_init (l : Launch) (D : va_G) (cI cR : ClassId) (h0 sz : Nat) (n : Nat) (hn : n ≤ 2000) : Met l (xy m_RW_init) (yws m_RW_init) ({ frames := 1, cells := 1, slots := n, locals := 23 }) (va_Pc [.ref h0, .int (nI n)] (fun U => U.heap.size = sz ∧ va_P D vwCl [(h0, .inr (1, [.null, .int 0]))] U.heap ∧ va_K D vwCl [(cI, .int), (cR, .object xRow)] U ∧ va_D (fun _ => True) [(h0, .inr (1, [.null, .int 0]))])) (va_Qv (fun _ : Nat => True) (fun u t => va_P D vwCl [(h0, .inr (1, [.ref u, .int 0])), (u, .inl (cI, n, .inl (fun _ => 0)))] t.heap ∧ va_K D vwCl [(cI, .int), (cR, .object xRow)] t ∧ va_D (va_A [(h0, .inr (1, [.null, .int 0]))] sz) [(h0, .inr (1, [.ref u, .int 0])), (u, .inl (cI, n, .inl (fun _ => 0)))]) (va_A [(h0, .inr (1, [.null, .int 0]))] sz)) 1 n (va_A [(h0, .inr (1, [.null, .int 0]))] sz) := by
  refine Met.ofW (cc := xcode m_RW_init) (maxL := 2) (ret := none) (by decide) rfl ?_
  intro p e s m args below meth c s₁ B hml hv
  obtain ⟨rfl, hsz, hP, hK, hD0⟩ := hv
  have hx := B.exec
  have hb := B.bytes
  have hr := B.returns
  have hts0 := atoms_spec (ws := yws m_RW_init) B.pre
  have hts : ∀ w ∈ xtc, w.before _ s = true := fun w hw => hts0 w (List.mem_cons_of_mem _ hw)
  have harr : (Cond.arrayClass .int).before _ s = true := hts _ (xinc 54 (by decide +kernel) (by decide +kernel))
  have hown : s.vm.findClass "RowDesk$Row" = some m.cls := findClass_of_methodNamed B.named
  have hlocks := B.notSynchronized
  have hin : meth.name = "<init>" := (name_of_methodNamed B.named B.method).1
  subst hsz
  have hD := hD0.self (sz := s.heap.size)
  generalize hAe : va_A [(h0, .inr (1, [.null, .int 0]))] s.heap.size = A at hD ⊢
  have hA : ∀ q : Nat, s.heap.size ≤ q → A q := fun q h => by rw [← hAe]; exact Or.inr h
  have hS : va_S A s.heap s.heap [] := va_S.rf
  have hP : va_P D vwCl [(h0, .inr (1, [.null, .int 0]))] s.heap := hP
  have hl := lv_entry ([.ref h0, .int (nI n)]) (n := 2) (Nat.le_of_ble_eq_true rfl)
  rw [lg_entry_eq]
  generalize (lg_sl ([.ref h0, .int (nI n)]) ++ List.replicate (2 - (lg_sl ([.ref h0, .int (nI n)])).length) Slot.unset).toArray = ls at hl ⊢
  have hl : lv_has ls 2 [(0, .ref h0), (1, .int (nI n))] := hl
  refine lv_aload_n hx hb d_RW_init_0 rfl (lv_at hl 0 rfl) ?_
  refine W.objInit hx hb hown (hts (.methodLink "RowDesk$Row" 3 objectInit) (xinc 43 (by decide +kernel) (by decide +kernel))) (hts (.instanceMethod objectInit) (xinc 36 (by decide +kernel) (by decide +kernel))) (hts (.code objectInit ⟨#[0xb1]⟩ 1 none) (xinc 37 (by decide +kernel) (by decide +kernel))) rfl (by rw [hml]; exact hl.1) rfl d_RW_init_1 (Nat.le_of_ble_eq_true rfl) (Nat.le_of_ble_eq_true rfl) ?_
  refine W.eq (g2 := F0 m 4 ls []) rfl ?_
  refine lv_aload_n hx hb d_RW_init_4 rfl (lv_at hl 0 rfl) ?_
  refine lv_iload_n hx hb d_RW_init_5 rfl (lv_at hl 1 rfl) ?_
  refine lv_iconst (v := 0) hx hb d_RW_init_6 (by decide) ?_
  refine va_mmax hx hb (hml.trans hl.1.symm) hown (hts (.methodLink "RowDesk$Row" 9 Lib.Math.max.name) (xinc 44 (by decide +kernel) (by decide +kernel))) (hts (.static Lib.Math.max.name) (xinc 45 (by decide +kernel) (by decide +kernel))) (hts (.initialized "java/lang/Math") (xinc 26 (by decide +kernel) (by decide +kernel))) (hts (.code Lib.Math.max.name Lib.Math.max.code 2 (some .int)) (xinc 46 (by decide +kernel) (by decide +kernel))) (Nat.le_of_ble_eq_true rfl) (Nat.le_of_ble_eq_true rfl) (Nat.zero_le _) (Nat.zero_le _) d_RW_init_7 ?_
  rw [show (if nI n < 0 then 0 else nI n) = nI n from if_neg (nI_pos (by omega))]
  refine xn_newa (N := n) hx hb harr hK hP hD hS hA (nI_pos (by omega)) (nI_clamp (by omega)) (by omega) (Nat.le_refl 1) (by show 0 + n ≤ n; omega) d_RW_init_10 (fun q1 H hP hD hS => ?_)
  have hP : va_P D vwCl [(h0, .inr (1, [.null, .int 0])), (q1, .inl (cI, n, .inl (fun _ => 0)))] H := hP
  have hD : va_D A [(h0, .inr (1, [.null, .int 0])), (q1, .inl (cI, n, .inl (fun _ => 0)))] := hD
  refine W.widen (k := 1) (n := n) (by omega) (by omega) ?_
  refine va_putF (D := D) (ci := 1) (v := .ref q1) (ty := .array .int) (C := "RowDesk$Row") (T := T_RW) (N := 2) hx hb hts (fun w hw => xtb_c (in_RW w hw)) ty_RW ty_RW_ok nm_RW hown hK hP hD hS 0 rfl rfl 0 (by decide) (hts (.fieldLink "RowDesk$Row" 15 "RowDesk$Row" "bytes" "[I") (xinc 47 (by decide +kernel) (by decide +kernel))) (fun _ h9 => h9) rfl hin rfl (by decide +kernel) rfl rfl (Nat.le_of_ble_eq_true rfl) d_RW_init_12 (fun H locs hP hD hS => ?_)
  have hP : va_P D vwCl [(h0, .inr (1, [.ref q1, .int 0])), (q1, .inl (cI, n, .inl (fun _ => 0)))] H := hP
  have hD : va_D A [(h0, .inr (1, [.ref q1, .int 0])), (q1, .inl (cI, n, .inl (fun _ => 0)))] := hD
  refine lv_aload_n hx hb d_RW_init_15 rfl (lv_at hl 0 rfl) ?_
  refine lv_iconst (v := 0) hx hb d_RW_init_16 (by decide) ?_
  refine va_put (D := D) (ci := 1) (v := .int 0) (ty := .int) (C := "RowDesk$Row") (T := T_RW) (N := 2) hx hb hts (fun w hw => xtb_c (in_RW w hw)) ty_RW ty_RW_ok nm_RW hown hK hP hD hS 0 rfl rfl 1 (by decide) (hts (.fieldLink "RowDesk$Row" 21 "RowDesk$Row" "length" "I") (xinc 48 (by decide +kernel) (by decide +kernel))) (fun _ h9 => h9) rfl (by decide +kernel) rfl rfl (Nat.le_of_ble_eq_true rfl) d_RW_init_17 (fun H locs hP hD hS => ?_)
  have hP : va_P D vwCl [(h0, .inr (1, [.ref q1, .int 0])), (q1, .inl (cI, n, .inl (fun _ => 0)))] H := hP
  have hD : va_D A [(h0, .inr (1, [.ref q1, .int 0])), (q1, .inl (cI, n, .inl (fun _ => 0)))] := hD
  exact W.vret hx hb hr (fun t ht hW => ⟨⟨q1, rfl, trivial, by rw [ht]; exact hP, va_K.moved hW.alike hK, hD⟩, hS.F ht⟩) hS.2.2 d_RW_init_20
set_option maxHeartbeats 4000000 in
set_option maxRecDepth 100000 in
theorem k_WL_init (l : Launch) (D : va_G) (cI cR : ClassId) (h0 sz : Nat) : Met l (xy m_WL_init) (yws m_WL_init) ({ frames := 1, cells := 3, slots := 300, locals := 12 }) (va_Pc [.ref h0] (fun U => U.heap.size = sz ∧ va_P D vwCl [(h0, .inr (2, [.null, .null, .null, .int 0, .int 0]))] U.heap ∧ va_K D vwCl [(cI, .int), (cR, .object xRow)] U ∧ va_D (fun _ => True) [(h0, .inr (2, [.null, .null, .null, .int 0, .int 0]))])) (va_Qv (fun _ : Nat × Nat × Nat => True) (fun u t => va_P D vwCl [(h0, .inr (2, [.ref u.1, .ref u.2.1, .ref u.2.2, .int 0, .int 0])), (u.1, .inl (cI, 100, .inl (fun _ => 0))), (u.2.1, .inl (cI, 100, .inl (fun _ => 0))), (u.2.2, .inl (cI, 100, .inl (fun _ => 0)))] t.heap ∧ va_K D vwCl [(cI, .int), (cR, .object xRow)] t ∧ va_D (va_A [(h0, .inr (2, [.null, .null, .null, .int 0, .int 0]))] sz) [(h0, .inr (2, [.ref u.1, .ref u.2.1, .ref u.2.2, .int 0, .int 0])), (u.1, .inl (cI, 100, .inl (fun _ => 0))), (u.2.1, .inl (cI, 100, .inl (fun _ => 0))), (u.2.2, .inl (cI, 100, .inl (fun _ => 0)))]) (va_A [(h0, .inr (2, [.null, .null, .null, .int 0, .int 0]))] sz)) 3 300 (va_A [(h0, .inr (2, [.null, .null, .null, .int 0, .int 0]))] sz) := by
  refine Met.ofW (cc := xcode m_WL_init) (maxL := 1) (ret := none) (by decide) rfl ?_
  intro p e s m args below meth c s₁ B hml hv
  obtain ⟨rfl, hsz, hP, hK, hD0⟩ := hv
  have hx := B.exec
  have hb := B.bytes
  have hr := B.returns
  have hts0 := atoms_spec (ws := yws m_WL_init) B.pre
  have hts : ∀ w ∈ xtc, w.before _ s = true := fun w hw => hts0 w (List.mem_cons_of_mem _ hw)
  have harr : (Cond.arrayClass .int).before _ s = true := hts _ (xinc 54 (by decide +kernel) (by decide +kernel))
  have hown : s.vm.findClass "RowDesk$WordList" = some m.cls := findClass_of_methodNamed B.named
  have hlocks := B.notSynchronized
  have hin : meth.name = "<init>" := (name_of_methodNamed B.named B.method).1
  subst hsz
  have hD := hD0.self (sz := s.heap.size)
  generalize hAe : va_A [(h0, .inr (2, [.null, .null, .null, .int 0, .int 0]))] s.heap.size = A at hD ⊢
  have hA : ∀ q : Nat, s.heap.size ≤ q → A q := fun q h => by rw [← hAe]; exact Or.inr h
  have hS : va_S A s.heap s.heap [] := va_S.rf
  have hP : va_P D vwCl [(h0, .inr (2, [.null, .null, .null, .int 0, .int 0]))] s.heap := hP
  have hl := lv_entry ([.ref h0]) (n := 1) (Nat.le_of_ble_eq_true rfl)
  rw [lg_entry_eq]
  generalize (lg_sl ([.ref h0]) ++ List.replicate (1 - (lg_sl ([.ref h0])).length) Slot.unset).toArray = ls at hl ⊢
  have hl : lv_has ls 1 [(0, .ref h0)] := hl
  refine lv_aload_n hx hb d_WL_init_0 rfl (lv_at hl 0 rfl) ?_
  refine W.objInit hx hb hown (hts (.methodLink "RowDesk$WordList" 3 objectInit) (xinc 61 (by decide +kernel) (by decide +kernel))) (hts (.instanceMethod objectInit) (xinc 36 (by decide +kernel) (by decide +kernel))) (hts (.code objectInit ⟨#[0xb1]⟩ 1 none) (xinc 37 (by decide +kernel) (by decide +kernel))) rfl (by rw [hml]; exact hl.1) rfl d_WL_init_1 (Nat.le_of_ble_eq_true rfl) (Nat.le_of_ble_eq_true rfl) ?_
  refine W.eq (g2 := F0 m 4 ls []) rfl ?_
  refine lv_aload_n hx hb d_WL_init_4 rfl (lv_at hl 0 rfl) ?_
  refine lv_bipush (v := 100) hx hb d_WL_init_5 (by decide) ?_
  refine xn_newa (N := 100) hx hb harr hK hP hD hS hA (by decide) (by decide) (by decide) (Nat.le_of_ble_eq_true rfl) (Nat.le_of_ble_eq_true rfl) d_WL_init_7 (fun q1 H hP hD hS => ?_)
  have hP : va_P D vwCl [(h0, .inr (2, [.null, .null, .null, .int 0, .int 0])), (q1, .inl (cI, 100, .inl (fun _ => 0)))] H := hP
  have hD : va_D A [(h0, .inr (2, [.null, .null, .null, .int 0, .int 0])), (q1, .inl (cI, 100, .inl (fun _ => 0)))] := hD
  refine W.widen (k := 1) (n := 100) (by omega) (by omega) ?_
  refine va_putF (D := D) (ci := 2) (v := .ref q1) (ty := .array .int) (C := "RowDesk$WordList") (T := T_WL) (N := 5) hx hb hts (fun w hw => xtb_c (in_WL w hw)) ty_WL ty_WL_ok nm_WL hown hK hP hD hS 0 rfl rfl 0 (by decide) (hts (.fieldLink "RowDesk$WordList" 9 "RowDesk$WordList" "starts" "[I") (xinc 62 (by decide +kernel) (by decide +kernel))) (fun _ h9 => h9) rfl hin rfl (by decide +kernel) rfl rfl (Nat.le_of_ble_eq_true rfl) d_WL_init_9 (fun H locs hP hD hS => ?_)
  have hP : va_P D vwCl [(h0, .inr (2, [.ref q1, .null, .null, .int 0, .int 0])), (q1, .inl (cI, 100, .inl (fun _ => 0)))] H := hP
  have hD : va_D A [(h0, .inr (2, [.ref q1, .null, .null, .int 0, .int 0])), (q1, .inl (cI, 100, .inl (fun _ => 0)))] := hD
  refine lv_aload_n hx hb d_WL_init_12 rfl (lv_at hl 0 rfl) ?_
  refine lv_bipush (v := 100) hx hb d_WL_init_13 (by decide) ?_
  refine xn_newa (N := 100) hx hb harr hK hP hD hS hA (by decide) (by decide) (by decide) (Nat.le_of_ble_eq_true rfl) (Nat.le_of_ble_eq_true rfl) d_WL_init_15 (fun q2 H hP hD hS => ?_)
  have hP : va_P D vwCl [(h0, .inr (2, [.ref q1, .null, .null, .int 0, .int 0])), (q1, .inl (cI, 100, .inl (fun _ => 0))), (q2, .inl (cI, 100, .inl (fun _ => 0)))] H := hP
  have hD : va_D A [(h0, .inr (2, [.ref q1, .null, .null, .int 0, .int 0])), (q1, .inl (cI, 100, .inl (fun _ => 0))), (q2, .inl (cI, 100, .inl (fun _ => 0)))] := hD
  refine W.widen (k := 2) (n := 200) (by omega) (by omega) ?_
  refine va_putF (D := D) (ci := 2) (v := .ref q2) (ty := .array .int) (C := "RowDesk$WordList") (T := T_WL) (N := 5) hx hb hts (fun w hw => xtb_c (in_WL w hw)) ty_WL ty_WL_ok nm_WL hown hK hP hD hS 0 rfl rfl 1 (by decide) (hts (.fieldLink "RowDesk$WordList" 15 "RowDesk$WordList" "stops" "[I") (xinc 63 (by decide +kernel) (by decide +kernel))) (fun _ h9 => h9) rfl hin rfl (by decide +kernel) rfl rfl (Nat.le_of_ble_eq_true rfl) d_WL_init_17 (fun H locs hP hD hS => ?_)
  have hP : va_P D vwCl [(h0, .inr (2, [.ref q1, .ref q2, .null, .int 0, .int 0])), (q1, .inl (cI, 100, .inl (fun _ => 0))), (q2, .inl (cI, 100, .inl (fun _ => 0)))] H := hP
  have hD : va_D A [(h0, .inr (2, [.ref q1, .ref q2, .null, .int 0, .int 0])), (q1, .inl (cI, 100, .inl (fun _ => 0))), (q2, .inl (cI, 100, .inl (fun _ => 0)))] := hD
  refine lv_aload_n hx hb d_WL_init_20 rfl (lv_at hl 0 rfl) ?_
  refine lv_bipush (v := 100) hx hb d_WL_init_21 (by decide) ?_
  refine xn_newa (N := 100) hx hb harr hK hP hD hS hA (by decide) (by decide) (by decide) (Nat.le_of_ble_eq_true rfl) (Nat.le_of_ble_eq_true rfl) d_WL_init_23 (fun q3 H hP hD hS => ?_)
  have hP : va_P D vwCl [(h0, .inr (2, [.ref q1, .ref q2, .null, .int 0, .int 0])), (q1, .inl (cI, 100, .inl (fun _ => 0))), (q2, .inl (cI, 100, .inl (fun _ => 0))), (q3, .inl (cI, 100, .inl (fun _ => 0)))] H := hP
  have hD : va_D A [(h0, .inr (2, [.ref q1, .ref q2, .null, .int 0, .int 0])), (q1, .inl (cI, 100, .inl (fun _ => 0))), (q2, .inl (cI, 100, .inl (fun _ => 0))), (q3, .inl (cI, 100, .inl (fun _ => 0)))] := hD
  refine W.widen (k := 3) (n := 300) (by omega) (by omega) ?_
  refine va_putF (D := D) (ci := 2) (v := .ref q3) (ty := .array .int) (C := "RowDesk$WordList") (T := T_WL) (N := 5) hx hb hts (fun w hw => xtb_c (in_WL w hw)) ty_WL ty_WL_ok nm_WL hown hK hP hD hS 0 rfl rfl 2 (by decide) (hts (.fieldLink "RowDesk$WordList" 18 "RowDesk$WordList" "ranked" "[I") (xinc 64 (by decide +kernel) (by decide +kernel))) (fun _ h9 => h9) rfl hin rfl (by decide +kernel) rfl rfl (Nat.le_of_ble_eq_true rfl) d_WL_init_25 (fun H locs hP hD hS => ?_)
  have hP : va_P D vwCl [(h0, .inr (2, [.ref q1, .ref q2, .ref q3, .int 0, .int 0])), (q1, .inl (cI, 100, .inl (fun _ => 0))), (q2, .inl (cI, 100, .inl (fun _ => 0))), (q3, .inl (cI, 100, .inl (fun _ => 0)))] H := hP
  have hD : va_D A [(h0, .inr (2, [.ref q1, .ref q2, .ref q3, .int 0, .int 0])), (q1, .inl (cI, 100, .inl (fun _ => 0))), (q2, .inl (cI, 100, .inl (fun _ => 0))), (q3, .inl (cI, 100, .inl (fun _ => 0)))] := hD
  refine lv_aload_n hx hb d_WL_init_28 rfl (lv_at hl 0 rfl) ?_
  refine lv_iconst (v := 0) hx hb d_WL_init_29 (by decide) ?_
  refine va_put (D := D) (ci := 2) (v := .int 0) (ty := .int) (C := "RowDesk$WordList") (T := T_WL) (N := 5) hx hb hts (fun w hw => xtb_c (in_WL w hw)) ty_WL ty_WL_ok nm_WL hown hK hP hD hS 0 rfl rfl 3 (by decide) (hts (.fieldLink "RowDesk$WordList" 21 "RowDesk$WordList" "count" "I") (xinc 65 (by decide +kernel) (by decide +kernel))) (fun _ h9 => h9) rfl (by decide +kernel) rfl rfl (Nat.le_of_ble_eq_true rfl) d_WL_init_30 (fun H locs hP hD hS => ?_)
  have hP : va_P D vwCl [(h0, .inr (2, [.ref q1, .ref q2, .ref q3, .int 0, .int 0])), (q1, .inl (cI, 100, .inl (fun _ => 0))), (q2, .inl (cI, 100, .inl (fun _ => 0))), (q3, .inl (cI, 100, .inl (fun _ => 0)))] H := hP
  have hD : va_D A [(h0, .inr (2, [.ref q1, .ref q2, .ref q3, .int 0, .int 0])), (q1, .inl (cI, 100, .inl (fun _ => 0))), (q2, .inl (cI, 100, .inl (fun _ => 0))), (q3, .inl (cI, 100, .inl (fun _ => 0)))] := hD
  refine lv_aload_n hx hb d_WL_init_33 rfl (lv_at hl 0 rfl) ?_
  refine lv_iconst (v := 0) hx hb d_WL_init_34 (by decide) ?_
  refine va_put (D := D) (ci := 2) (v := .int 0) (ty := .int) (C := "RowDesk$WordList") (T := T_WL) (N := 5) hx hb hts (fun w hw => xtb_c (in_WL w hw)) ty_WL ty_WL_ok nm_WL hown hK hP hD hS 0 rfl rfl 4 (by decide) (hts (.fieldLink "RowDesk$WordList" 25 "RowDesk$WordList" "rowLength" "I") (xinc 66 (by decide +kernel) (by decide +kernel))) (fun _ h9 => h9) rfl (by decide +kernel) rfl rfl (Nat.le_of_ble_eq_true rfl) d_WL_init_35 (fun H locs hP hD hS => ?_)
  have hP : va_P D vwCl [(h0, .inr (2, [.ref q1, .ref q2, .ref q3, .int 0, .int 0])), (q1, .inl (cI, 100, .inl (fun _ => 0))), (q2, .inl (cI, 100, .inl (fun _ => 0))), (q3, .inl (cI, 100, .inl (fun _ => 0)))] H := hP
  have hD : va_D A [(h0, .inr (2, [.ref q1, .ref q2, .ref q3, .int 0, .int 0])), (q1, .inl (cI, 100, .inl (fun _ => 0))), (q2, .inl (cI, 100, .inl (fun _ => 0))), (q3, .inl (cI, 100, .inl (fun _ => 0)))] := hD
  exact W.vret hx hb hr (fun t ht hW => ⟨⟨(q1, q2, q3), rfl, trivial, by rw [ht]; exact hP, va_K.moved hW.alike hK, hD⟩, hS.F ht⟩) hS.2.2 d_WL_init_38
set_option maxHeartbeats 4000000 in
set_option maxRecDepth 100000 in
theorem k_BT_init (l : Launch) (D : va_G) (cI cR : ClassId) (h0 sz : Nat) : Met l (xy m_BT_init) (yws m_BT_init) ({ frames := 1, cells := 1, slots := 256, locals := 12 }) (va_Pc [.ref h0] (fun U => U.heap.size = sz ∧ va_P D vwCl [(h0, .inr (0, [.null]))] U.heap ∧ va_K D vwCl [(cI, .int), (cR, .object xRow)] U ∧ va_D (fun _ => True) [(h0, .inr (0, [.null]))])) (va_Qv (fun _ : Nat => True) (fun u t => va_P D vwCl [(h0, .inr (0, [.ref u])), (u, .inl (cI, 256, .inl (fun _ => 0)))] t.heap ∧ va_K D vwCl [(cI, .int), (cR, .object xRow)] t ∧ va_D (va_A [(h0, .inr (0, [.null]))] sz) [(h0, .inr (0, [.ref u])), (u, .inl (cI, 256, .inl (fun _ => 0)))]) (va_A [(h0, .inr (0, [.null]))] sz)) 1 256 (va_A [(h0, .inr (0, [.null]))] sz) := by
  refine Met.ofW (cc := xcode m_BT_init) (maxL := 1) (ret := none) (by decide) rfl ?_
  intro p e s m args below meth c s₁ B hml hv
  obtain ⟨rfl, hsz, hP, hK, hD0⟩ := hv
  have hx := B.exec
  have hb := B.bytes
  have hr := B.returns
  have hts0 := atoms_spec (ws := yws m_BT_init) B.pre
  have hts : ∀ w ∈ xtc, w.before _ s = true := fun w hw => hts0 w (List.mem_cons_of_mem _ hw)
  have harr : (Cond.arrayClass .int).before _ s = true := hts _ (xinc 54 (by decide +kernel) (by decide +kernel))
  have hown : s.vm.findClass "RowDesk$ByteTable" = some m.cls := findClass_of_methodNamed B.named
  have hlocks := B.notSynchronized
  have hin : meth.name = "<init>" := (name_of_methodNamed B.named B.method).1
  subst hsz
  have hD := hD0.self (sz := s.heap.size)
  generalize hAe : va_A [(h0, .inr (0, [.null]))] s.heap.size = A at hD ⊢
  have hA : ∀ q : Nat, s.heap.size ≤ q → A q := fun q h => by rw [← hAe]; exact Or.inr h
  have hS : va_S A s.heap s.heap [] := va_S.rf
  have hP : va_P D vwCl [(h0, .inr (0, [.null]))] s.heap := hP
  have hl := lv_entry ([.ref h0]) (n := 1) (Nat.le_of_ble_eq_true rfl)
  rw [lg_entry_eq]
  generalize (lg_sl ([.ref h0]) ++ List.replicate (1 - (lg_sl ([.ref h0])).length) Slot.unset).toArray = ls at hl ⊢
  have hl : lv_has ls 1 [(0, .ref h0)] := hl
  refine lv_aload_n hx hb d_BT_init_0 rfl (lv_at hl 0 rfl) ?_
  refine W.objInit hx hb hown (hts (.methodLink "RowDesk$ByteTable" 3 objectInit) (xinc 83 (by decide +kernel) (by decide +kernel))) (hts (.instanceMethod objectInit) (xinc 36 (by decide +kernel) (by decide +kernel))) (hts (.code objectInit ⟨#[0xb1]⟩ 1 none) (xinc 37 (by decide +kernel) (by decide +kernel))) rfl (by rw [hml]; exact hl.1) rfl d_BT_init_1 (Nat.le_of_ble_eq_true rfl) (Nat.le_of_ble_eq_true rfl) ?_
  refine W.eq (g2 := F0 m 4 ls []) rfl ?_
  refine lv_aload_n hx hb d_BT_init_4 rfl (lv_at hl 0 rfl) ?_
  refine lv_sipush (v := 256) hx hb d_BT_init_5 (by decide) ?_
  refine xn_newa (N := 256) hx hb harr hK hP hD hS hA (by decide) (by decide) (by decide) (Nat.le_of_ble_eq_true rfl) (Nat.le_of_ble_eq_true rfl) d_BT_init_8 (fun q1 H hP hD hS => ?_)
  have hP : va_P D vwCl [(h0, .inr (0, [.null])), (q1, .inl (cI, 256, .inl (fun _ => 0)))] H := hP
  have hD : va_D A [(h0, .inr (0, [.null])), (q1, .inl (cI, 256, .inl (fun _ => 0)))] := hD
  refine W.widen (k := 1) (n := 256) (by omega) (by omega) ?_
  refine va_putF (D := D) (ci := 0) (v := .ref q1) (ty := .array .int) (C := "RowDesk$ByteTable") (T := T_BT) (N := 1) hx hb hts (fun w hw => xtb_c (in_BT w hw)) ty_BT ty_BT_ok nm_BT hown hK hP hD hS 0 rfl rfl 0 (by decide) (hts (.fieldLink "RowDesk$ByteTable" 9 "RowDesk$ByteTable" "numbers" "[I") (xinc 84 (by decide +kernel) (by decide +kernel))) (fun _ h9 => h9) rfl hin rfl (by decide +kernel) rfl rfl (Nat.le_of_ble_eq_true rfl) d_BT_init_10 (fun H locs hP hD hS => ?_)
  have hP : va_P D vwCl [(h0, .inr (0, [.ref q1])), (q1, .inl (cI, 256, .inl (fun _ => 0)))] H := hP
  have hD : va_D A [(h0, .inr (0, [.ref q1])), (q1, .inl (cI, 256, .inl (fun _ => 0)))] := hD
  exact W.vret hx hb hr (fun t ht hW => ⟨⟨q1, rfl, trivial, by rw [ht]; exact hP, va_K.moved hW.alike hK, hD⟩, hS.F ht⟩) hS.2.2 d_BT_init_13
set_option maxHeartbeats 4000000 in
set_option maxRecDepth 100000 in
theorem k_MO_init (l : Launch) (D : va_G) (cI cR : ClassId) (h0 sz : Nat) : Met l (xy m_MO_init) (yws m_MO_init) ({ frames := 1, cells := 7, slots := 2930, locals := 12 }) (va_Pc [.ref h0] (fun U => U.heap.size = sz ∧ va_P D vwCl [(h0, .inr (4, [.null, .null, .null, .null, .null, .int 0, .int 0, .int 0, .null, .null]))] U.heap ∧ va_K D vwCl [(cI, .int), (cR, .object xRow)] U ∧ va_D (fun _ => True) [(h0, .inr (4, [.null, .null, .null, .null, .null, .int 0, .int 0, .int 0, .null, .null]))])) (va_Qv (fun _ : Nat × Nat × Nat × Nat × Nat × Nat × Nat => True) (fun u t => va_P D vwCl [(h0, .inr (4, [.ref u.1, .ref u.2.1, .ref u.2.2.1, .ref u.2.2.2.1, .ref u.2.2.2.2.1, .int 0, .int 0, .int 32, .ref u.2.2.2.2.2.1, .ref u.2.2.2.2.2.2])), (u.1, .inl (cI, 240, .inl (fun _ => 0))), (u.2.1, .inl (cI, 2000, .inl (fun _ => 0))), (u.2.2.1, .inl (cI, 10, .inl (fun _ => 0))), (u.2.2.2.1, .inl (cI, 220, .inl (fun _ => 0))), (u.2.2.2.2.1, .inl (cI, 256, .inl (fun _ => 0))), (u.2.2.2.2.2.1, .inl (cI, 102, .inl (fun _ => 0))), (u.2.2.2.2.2.2, .inl (cI, 102, .inl (fun _ => 0)))] t.heap ∧ va_K D vwCl [(cI, .int), (cR, .object xRow)] t ∧ va_D (va_A [(h0, .inr (4, [.null, .null, .null, .null, .null, .int 0, .int 0, .int 0, .null, .null]))] sz) [(h0, .inr (4, [.ref u.1, .ref u.2.1, .ref u.2.2.1, .ref u.2.2.2.1, .ref u.2.2.2.2.1, .int 0, .int 0, .int 32, .ref u.2.2.2.2.2.1, .ref u.2.2.2.2.2.2])), (u.1, .inl (cI, 240, .inl (fun _ => 0))), (u.2.1, .inl (cI, 2000, .inl (fun _ => 0))), (u.2.2.1, .inl (cI, 10, .inl (fun _ => 0))), (u.2.2.2.1, .inl (cI, 220, .inl (fun _ => 0))), (u.2.2.2.2.1, .inl (cI, 256, .inl (fun _ => 0))), (u.2.2.2.2.2.1, .inl (cI, 102, .inl (fun _ => 0))), (u.2.2.2.2.2.2, .inl (cI, 102, .inl (fun _ => 0)))]) (va_A [(h0, .inr (4, [.null, .null, .null, .null, .null, .int 0, .int 0, .int 0, .null, .null]))] sz)) 7 2930 (va_A [(h0, .inr (4, [.null, .null, .null, .null, .null, .int 0, .int 0, .int 0, .null, .null]))] sz) := by
  refine Met.ofW (cc := xcode m_MO_init) (maxL := 1) (ret := none) (by decide) rfl ?_
  intro p e s m args below meth c s₁ B hml hv
  obtain ⟨rfl, hsz, hP, hK, hD0⟩ := hv
  have hx := B.exec
  have hb := B.bytes
  have hr := B.returns
  have hts0 := atoms_spec (ws := yws m_MO_init) B.pre
  have hts : ∀ w ∈ xtc, w.before _ s = true := fun w hw => hts0 w (List.mem_cons_of_mem _ hw)
  have harr : (Cond.arrayClass .int).before _ s = true := hts _ (xinc 54 (by decide +kernel) (by decide +kernel))
  have hown : s.vm.findClass "RowDeskModel" = some m.cls := findClass_of_methodNamed B.named
  have hlocks := B.notSynchronized
  have hin : meth.name = "<init>" := (name_of_methodNamed B.named B.method).1
  subst hsz
  have hD := hD0.self (sz := s.heap.size)
  generalize hAe : va_A [(h0, .inr (4, [.null, .null, .null, .null, .null, .int 0, .int 0, .int 0, .null, .null]))] s.heap.size = A at hD ⊢
  have hA : ∀ q : Nat, s.heap.size ≤ q → A q := fun q h => by rw [← hAe]; exact Or.inr h
  have hS : va_S A s.heap s.heap [] := va_S.rf
  have hP : va_P D vwCl [(h0, .inr (4, [.null, .null, .null, .null, .null, .int 0, .int 0, .int 0, .null, .null]))] s.heap := hP
  have hl := lv_entry ([.ref h0]) (n := 1) (Nat.le_of_ble_eq_true rfl)
  rw [lg_entry_eq]
  generalize (lg_sl ([.ref h0]) ++ List.replicate (1 - (lg_sl ([.ref h0])).length) Slot.unset).toArray = ls at hl ⊢
  have hl : lv_has ls 1 [(0, .ref h0)] := hl
  refine lv_aload_n hx hb d_MO_init_0 rfl (lv_at hl 0 rfl) ?_
  refine W.objInit hx hb hown (hts (.methodLink "RowDeskModel" 1 objectInit) (xinc 395 (by decide +kernel) (by decide +kernel))) (hts (.instanceMethod objectInit) (xinc 36 (by decide +kernel) (by decide +kernel))) (hts (.code objectInit ⟨#[0xb1]⟩ 1 none) (xinc 37 (by decide +kernel) (by decide +kernel))) rfl (by rw [hml]; exact hl.1) rfl d_MO_init_1 (Nat.le_of_ble_eq_true rfl) (Nat.le_of_ble_eq_true rfl) ?_
  refine W.eq (g2 := F0 m 4 ls []) rfl ?_
  refine lv_aload_n hx hb d_MO_init_4 rfl (lv_at hl 0 rfl) ?_
  refine lv_sipush (v := 240) hx hb d_MO_init_5 (by decide) ?_
  refine xn_newa (N := 240) hx hb harr hK hP hD hS hA (by decide) (by decide) (by decide) (Nat.le_of_ble_eq_true rfl) (Nat.le_of_ble_eq_true rfl) d_MO_init_8 (fun q1 H hP hD hS => ?_)
  have hP : va_P D vwCl [(h0, .inr (4, [.null, .null, .null, .null, .null, .int 0, .int 0, .int 0, .null, .null])), (q1, .inl (cI, 240, .inl (fun _ => 0)))] H := hP
  have hD : va_D A [(h0, .inr (4, [.null, .null, .null, .null, .null, .int 0, .int 0, .int 0, .null, .null])), (q1, .inl (cI, 240, .inl (fun _ => 0)))] := hD
  refine W.widen (k := 1) (n := 240) (by omega) (by omega) ?_
  refine va_putF (D := D) (ci := 4) (v := .ref q1) (ty := .array .int) (C := "RowDeskModel") (T := T_MO) (N := 10) hx hb hts (fun w hw => xtb_c (in_MO w hw)) ty_MO ty_MO_ok nm_MO hown hK hP hD hS 0 rfl rfl 0 (by decide) (hts (.fieldLink "RowDeskModel" 7 "RowDeskModel" "tape" "[I") (xinc 396 (by decide +kernel) (by decide +kernel))) (fun _ h9 => h9) rfl hin rfl (by decide +kernel) rfl rfl (Nat.le_of_ble_eq_true rfl) d_MO_init_10 (fun H locs hP hD hS => ?_)
  have hP : va_P D vwCl [(h0, .inr (4, [.ref q1, .null, .null, .null, .null, .int 0, .int 0, .int 0, .null, .null])), (q1, .inl (cI, 240, .inl (fun _ => 0)))] H := hP
  have hD : va_D A [(h0, .inr (4, [.ref q1, .null, .null, .null, .null, .int 0, .int 0, .int 0, .null, .null])), (q1, .inl (cI, 240, .inl (fun _ => 0)))] := hD
  refine lv_aload_n hx hb d_MO_init_13 rfl (lv_at hl 0 rfl) ?_
  refine lv_sipush (v := 2000) hx hb d_MO_init_14 (by decide) ?_
  refine xn_newa (N := 2000) hx hb harr hK hP hD hS hA (by decide) (by decide) (by decide) (Nat.le_of_ble_eq_true rfl) (Nat.le_of_ble_eq_true rfl) d_MO_init_17 (fun q2 H hP hD hS => ?_)
  have hP : va_P D vwCl [(h0, .inr (4, [.ref q1, .null, .null, .null, .null, .int 0, .int 0, .int 0, .null, .null])), (q1, .inl (cI, 240, .inl (fun _ => 0))), (q2, .inl (cI, 2000, .inl (fun _ => 0)))] H := hP
  have hD : va_D A [(h0, .inr (4, [.ref q1, .null, .null, .null, .null, .int 0, .int 0, .int 0, .null, .null])), (q1, .inl (cI, 240, .inl (fun _ => 0))), (q2, .inl (cI, 2000, .inl (fun _ => 0)))] := hD
  refine W.widen (k := 2) (n := 2240) (by omega) (by omega) ?_
  refine va_putF (D := D) (ci := 4) (v := .ref q2) (ty := .array .int) (C := "RowDeskModel") (T := T_MO) (N := 10) hx hb hts (fun w hw => xtb_c (in_MO w hw)) ty_MO ty_MO_ok nm_MO hown hK hP hD hS 0 rfl rfl 1 (by decide) (hts (.fieldLink "RowDeskModel" 13 "RowDeskModel" "rows" "[I") (xinc 397 (by decide +kernel) (by decide +kernel))) (fun _ h9 => h9) rfl hin rfl (by decide +kernel) rfl rfl (Nat.le_of_ble_eq_true rfl) d_MO_init_19 (fun H locs hP hD hS => ?_)
  have hP : va_P D vwCl [(h0, .inr (4, [.ref q1, .ref q2, .null, .null, .null, .int 0, .int 0, .int 0, .null, .null])), (q1, .inl (cI, 240, .inl (fun _ => 0))), (q2, .inl (cI, 2000, .inl (fun _ => 0)))] H := hP
  have hD : va_D A [(h0, .inr (4, [.ref q1, .ref q2, .null, .null, .null, .int 0, .int 0, .int 0, .null, .null])), (q1, .inl (cI, 240, .inl (fun _ => 0))), (q2, .inl (cI, 2000, .inl (fun _ => 0)))] := hD
  refine lv_aload_n hx hb d_MO_init_22 rfl (lv_at hl 0 rfl) ?_
  refine lv_bipush (v := 10) hx hb d_MO_init_23 (by decide) ?_
  refine xn_newa (N := 10) hx hb harr hK hP hD hS hA (by decide) (by decide) (by decide) (Nat.le_of_ble_eq_true rfl) (Nat.le_of_ble_eq_true rfl) d_MO_init_25 (fun q3 H hP hD hS => ?_)
  have hP : va_P D vwCl [(h0, .inr (4, [.ref q1, .ref q2, .null, .null, .null, .int 0, .int 0, .int 0, .null, .null])), (q1, .inl (cI, 240, .inl (fun _ => 0))), (q2, .inl (cI, 2000, .inl (fun _ => 0))), (q3, .inl (cI, 10, .inl (fun _ => 0)))] H := hP
  have hD : va_D A [(h0, .inr (4, [.ref q1, .ref q2, .null, .null, .null, .int 0, .int 0, .int 0, .null, .null])), (q1, .inl (cI, 240, .inl (fun _ => 0))), (q2, .inl (cI, 2000, .inl (fun _ => 0))), (q3, .inl (cI, 10, .inl (fun _ => 0)))] := hD
  refine W.widen (k := 3) (n := 2250) (by omega) (by omega) ?_
  refine va_putF (D := D) (ci := 4) (v := .ref q3) (ty := .array .int) (C := "RowDeskModel") (T := T_MO) (N := 10) hx hb hts (fun w hw => xtb_c (in_MO w hw)) ty_MO ty_MO_ok nm_MO hown hK hP hD hS 0 rfl rfl 2 (by decide) (hts (.fieldLink "RowDeskModel" 16 "RowDeskModel" "sizes" "[I") (xinc 398 (by decide +kernel) (by decide +kernel))) (fun _ h9 => h9) rfl hin rfl (by decide +kernel) rfl rfl (Nat.le_of_ble_eq_true rfl) d_MO_init_27 (fun H locs hP hD hS => ?_)
  have hP : va_P D vwCl [(h0, .inr (4, [.ref q1, .ref q2, .ref q3, .null, .null, .int 0, .int 0, .int 0, .null, .null])), (q1, .inl (cI, 240, .inl (fun _ => 0))), (q2, .inl (cI, 2000, .inl (fun _ => 0))), (q3, .inl (cI, 10, .inl (fun _ => 0)))] H := hP
  have hD : va_D A [(h0, .inr (4, [.ref q1, .ref q2, .ref q3, .null, .null, .int 0, .int 0, .int 0, .null, .null])), (q1, .inl (cI, 240, .inl (fun _ => 0))), (q2, .inl (cI, 2000, .inl (fun _ => 0))), (q3, .inl (cI, 10, .inl (fun _ => 0)))] := hD
  refine lv_aload_n hx hb d_MO_init_30 rfl (lv_at hl 0 rfl) ?_
  refine lv_sipush (v := 220) hx hb d_MO_init_31 (by decide) ?_
  refine xn_newa (N := 220) hx hb harr hK hP hD hS hA (by decide) (by decide) (by decide) (Nat.le_of_ble_eq_true rfl) (Nat.le_of_ble_eq_true rfl) d_MO_init_34 (fun q4 H hP hD hS => ?_)
  have hP : va_P D vwCl [(h0, .inr (4, [.ref q1, .ref q2, .ref q3, .null, .null, .int 0, .int 0, .int 0, .null, .null])), (q1, .inl (cI, 240, .inl (fun _ => 0))), (q2, .inl (cI, 2000, .inl (fun _ => 0))), (q3, .inl (cI, 10, .inl (fun _ => 0))), (q4, .inl (cI, 220, .inl (fun _ => 0)))] H := hP
  have hD : va_D A [(h0, .inr (4, [.ref q1, .ref q2, .ref q3, .null, .null, .int 0, .int 0, .int 0, .null, .null])), (q1, .inl (cI, 240, .inl (fun _ => 0))), (q2, .inl (cI, 2000, .inl (fun _ => 0))), (q3, .inl (cI, 10, .inl (fun _ => 0))), (q4, .inl (cI, 220, .inl (fun _ => 0)))] := hD
  refine W.widen (k := 4) (n := 2470) (by omega) (by omega) ?_
  refine va_putF (D := D) (ci := 4) (v := .ref q4) (ty := .array .int) (C := "RowDeskModel") (T := T_MO) (N := 10) hx hb hts (fun w hw => xtb_c (in_MO w hw)) ty_MO ty_MO_ok nm_MO hown hK hP hD hS 0 rfl rfl 3 (by decide) (hts (.fieldLink "RowDeskModel" 19 "RowDeskModel" "made" "[I") (xinc 399 (by decide +kernel) (by decide +kernel))) (fun _ h9 => h9) rfl hin rfl (by decide +kernel) rfl rfl (Nat.le_of_ble_eq_true rfl) d_MO_init_36 (fun H locs hP hD hS => ?_)
  have hP : va_P D vwCl [(h0, .inr (4, [.ref q1, .ref q2, .ref q3, .ref q4, .null, .int 0, .int 0, .int 0, .null, .null])), (q1, .inl (cI, 240, .inl (fun _ => 0))), (q2, .inl (cI, 2000, .inl (fun _ => 0))), (q3, .inl (cI, 10, .inl (fun _ => 0))), (q4, .inl (cI, 220, .inl (fun _ => 0)))] H := hP
  have hD : va_D A [(h0, .inr (4, [.ref q1, .ref q2, .ref q3, .ref q4, .null, .int 0, .int 0, .int 0, .null, .null])), (q1, .inl (cI, 240, .inl (fun _ => 0))), (q2, .inl (cI, 2000, .inl (fun _ => 0))), (q3, .inl (cI, 10, .inl (fun _ => 0))), (q4, .inl (cI, 220, .inl (fun _ => 0)))] := hD
  refine lv_aload_n hx hb d_MO_init_39 rfl (lv_at hl 0 rfl) ?_
  refine lv_sipush (v := 256) hx hb d_MO_init_40 (by decide) ?_
  refine xn_newa (N := 256) hx hb harr hK hP hD hS hA (by decide) (by decide) (by decide) (Nat.le_of_ble_eq_true rfl) (Nat.le_of_ble_eq_true rfl) d_MO_init_43 (fun q5 H hP hD hS => ?_)
  have hP : va_P D vwCl [(h0, .inr (4, [.ref q1, .ref q2, .ref q3, .ref q4, .null, .int 0, .int 0, .int 0, .null, .null])), (q1, .inl (cI, 240, .inl (fun _ => 0))), (q2, .inl (cI, 2000, .inl (fun _ => 0))), (q3, .inl (cI, 10, .inl (fun _ => 0))), (q4, .inl (cI, 220, .inl (fun _ => 0))), (q5, .inl (cI, 256, .inl (fun _ => 0)))] H := hP
  have hD : va_D A [(h0, .inr (4, [.ref q1, .ref q2, .ref q3, .ref q4, .null, .int 0, .int 0, .int 0, .null, .null])), (q1, .inl (cI, 240, .inl (fun _ => 0))), (q2, .inl (cI, 2000, .inl (fun _ => 0))), (q3, .inl (cI, 10, .inl (fun _ => 0))), (q4, .inl (cI, 220, .inl (fun _ => 0))), (q5, .inl (cI, 256, .inl (fun _ => 0)))] := hD
  refine W.widen (k := 5) (n := 2726) (by omega) (by omega) ?_
  refine va_putF (D := D) (ci := 4) (v := .ref q5) (ty := .array .int) (C := "RowDeskModel") (T := T_MO) (N := 10) hx hb hts (fun w hw => xtb_c (in_MO w hw)) ty_MO ty_MO_ok nm_MO hown hK hP hD hS 0 rfl rfl 4 (by decide) (hts (.fieldLink "RowDeskModel" 22 "RowDeskModel" "used" "[I") (xinc 400 (by decide +kernel) (by decide +kernel))) (fun _ h9 => h9) rfl hin rfl (by decide +kernel) rfl rfl (Nat.le_of_ble_eq_true rfl) d_MO_init_45 (fun H locs hP hD hS => ?_)
  have hP : va_P D vwCl [(h0, .inr (4, [.ref q1, .ref q2, .ref q3, .ref q4, .ref q5, .int 0, .int 0, .int 0, .null, .null])), (q1, .inl (cI, 240, .inl (fun _ => 0))), (q2, .inl (cI, 2000, .inl (fun _ => 0))), (q3, .inl (cI, 10, .inl (fun _ => 0))), (q4, .inl (cI, 220, .inl (fun _ => 0))), (q5, .inl (cI, 256, .inl (fun _ => 0)))] H := hP
  have hD : va_D A [(h0, .inr (4, [.ref q1, .ref q2, .ref q3, .ref q4, .ref q5, .int 0, .int 0, .int 0, .null, .null])), (q1, .inl (cI, 240, .inl (fun _ => 0))), (q2, .inl (cI, 2000, .inl (fun _ => 0))), (q3, .inl (cI, 10, .inl (fun _ => 0))), (q4, .inl (cI, 220, .inl (fun _ => 0))), (q5, .inl (cI, 256, .inl (fun _ => 0)))] := hD
  refine lv_aload_n hx hb d_MO_init_48 rfl (lv_at hl 0 rfl) ?_
  refine lv_bipush (v := 32) hx hb d_MO_init_49 (by decide) ?_
  refine va_put (D := D) (ci := 4) (v := .int 32) (ty := .int) (C := "RowDeskModel") (T := T_MO) (N := 10) hx hb hts (fun w hw => xtb_c (in_MO w hw)) ty_MO ty_MO_ok nm_MO hown hK hP hD hS 0 rfl rfl 7 (by decide) (hts (.fieldLink "RowDeskModel" 25 "RowDeskModel" "pad" "I") (xinc 403 (by decide +kernel) (by decide +kernel))) (fun _ h9 => h9) rfl (by decide +kernel) rfl rfl (Nat.le_of_ble_eq_true rfl) d_MO_init_51 (fun H locs hP hD hS => ?_)
  have hP : va_P D vwCl [(h0, .inr (4, [.ref q1, .ref q2, .ref q3, .ref q4, .ref q5, .int 0, .int 0, .int 32, .null, .null])), (q1, .inl (cI, 240, .inl (fun _ => 0))), (q2, .inl (cI, 2000, .inl (fun _ => 0))), (q3, .inl (cI, 10, .inl (fun _ => 0))), (q4, .inl (cI, 220, .inl (fun _ => 0))), (q5, .inl (cI, 256, .inl (fun _ => 0)))] H := hP
  have hD : va_D A [(h0, .inr (4, [.ref q1, .ref q2, .ref q3, .ref q4, .ref q5, .int 0, .int 0, .int 32, .null, .null])), (q1, .inl (cI, 240, .inl (fun _ => 0))), (q2, .inl (cI, 2000, .inl (fun _ => 0))), (q3, .inl (cI, 10, .inl (fun _ => 0))), (q4, .inl (cI, 220, .inl (fun _ => 0))), (q5, .inl (cI, 256, .inl (fun _ => 0)))] := hD
  refine lv_aload_n hx hb d_MO_init_54 rfl (lv_at hl 0 rfl) ?_
  refine lv_bipush (v := 102) hx hb d_MO_init_55 (by decide) ?_
  refine xn_newa (N := 102) hx hb harr hK hP hD hS hA (by decide) (by decide) (by decide) (Nat.le_of_ble_eq_true rfl) (Nat.le_of_ble_eq_true rfl) d_MO_init_57 (fun q6 H hP hD hS => ?_)
  have hP : va_P D vwCl [(h0, .inr (4, [.ref q1, .ref q2, .ref q3, .ref q4, .ref q5, .int 0, .int 0, .int 32, .null, .null])), (q1, .inl (cI, 240, .inl (fun _ => 0))), (q2, .inl (cI, 2000, .inl (fun _ => 0))), (q3, .inl (cI, 10, .inl (fun _ => 0))), (q4, .inl (cI, 220, .inl (fun _ => 0))), (q5, .inl (cI, 256, .inl (fun _ => 0))), (q6, .inl (cI, 102, .inl (fun _ => 0)))] H := hP
  have hD : va_D A [(h0, .inr (4, [.ref q1, .ref q2, .ref q3, .ref q4, .ref q5, .int 0, .int 0, .int 32, .null, .null])), (q1, .inl (cI, 240, .inl (fun _ => 0))), (q2, .inl (cI, 2000, .inl (fun _ => 0))), (q3, .inl (cI, 10, .inl (fun _ => 0))), (q4, .inl (cI, 220, .inl (fun _ => 0))), (q5, .inl (cI, 256, .inl (fun _ => 0))), (q6, .inl (cI, 102, .inl (fun _ => 0)))] := hD
  refine W.widen (k := 6) (n := 2828) (by omega) (by omega) ?_
  refine va_putF (D := D) (ci := 4) (v := .ref q6) (ty := .array .int) (C := "RowDeskModel") (T := T_MO) (N := 10) hx hb hts (fun w hw => xtb_c (in_MO w hw)) ty_MO ty_MO_ok nm_MO hown hK hP hD hS 0 rfl rfl 8 (by decide) (hts (.fieldLink "RowDeskModel" 29 "RowDeskModel" "starts" "[I") (xinc 404 (by decide +kernel) (by decide +kernel))) (fun _ h9 => h9) rfl hin rfl (by decide +kernel) rfl rfl (Nat.le_of_ble_eq_true rfl) d_MO_init_59 (fun H locs hP hD hS => ?_)
  have hP : va_P D vwCl [(h0, .inr (4, [.ref q1, .ref q2, .ref q3, .ref q4, .ref q5, .int 0, .int 0, .int 32, .ref q6, .null])), (q1, .inl (cI, 240, .inl (fun _ => 0))), (q2, .inl (cI, 2000, .inl (fun _ => 0))), (q3, .inl (cI, 10, .inl (fun _ => 0))), (q4, .inl (cI, 220, .inl (fun _ => 0))), (q5, .inl (cI, 256, .inl (fun _ => 0))), (q6, .inl (cI, 102, .inl (fun _ => 0)))] H := hP
  have hD : va_D A [(h0, .inr (4, [.ref q1, .ref q2, .ref q3, .ref q4, .ref q5, .int 0, .int 0, .int 32, .ref q6, .null])), (q1, .inl (cI, 240, .inl (fun _ => 0))), (q2, .inl (cI, 2000, .inl (fun _ => 0))), (q3, .inl (cI, 10, .inl (fun _ => 0))), (q4, .inl (cI, 220, .inl (fun _ => 0))), (q5, .inl (cI, 256, .inl (fun _ => 0))), (q6, .inl (cI, 102, .inl (fun _ => 0)))] := hD
  refine lv_aload_n hx hb d_MO_init_62 rfl (lv_at hl 0 rfl) ?_
  refine lv_bipush (v := 102) hx hb d_MO_init_63 (by decide) ?_
  refine xn_newa (N := 102) hx hb harr hK hP hD hS hA (by decide) (by decide) (by decide) (Nat.le_of_ble_eq_true rfl) (Nat.le_of_ble_eq_true rfl) d_MO_init_65 (fun q7 H hP hD hS => ?_)
  have hP : va_P D vwCl [(h0, .inr (4, [.ref q1, .ref q2, .ref q3, .ref q4, .ref q5, .int 0, .int 0, .int 32, .ref q6, .null])), (q1, .inl (cI, 240, .inl (fun _ => 0))), (q2, .inl (cI, 2000, .inl (fun _ => 0))), (q3, .inl (cI, 10, .inl (fun _ => 0))), (q4, .inl (cI, 220, .inl (fun _ => 0))), (q5, .inl (cI, 256, .inl (fun _ => 0))), (q6, .inl (cI, 102, .inl (fun _ => 0))), (q7, .inl (cI, 102, .inl (fun _ => 0)))] H := hP
  have hD : va_D A [(h0, .inr (4, [.ref q1, .ref q2, .ref q3, .ref q4, .ref q5, .int 0, .int 0, .int 32, .ref q6, .null])), (q1, .inl (cI, 240, .inl (fun _ => 0))), (q2, .inl (cI, 2000, .inl (fun _ => 0))), (q3, .inl (cI, 10, .inl (fun _ => 0))), (q4, .inl (cI, 220, .inl (fun _ => 0))), (q5, .inl (cI, 256, .inl (fun _ => 0))), (q6, .inl (cI, 102, .inl (fun _ => 0))), (q7, .inl (cI, 102, .inl (fun _ => 0)))] := hD
  refine W.widen (k := 7) (n := 2930) (by omega) (by omega) ?_
  refine va_putF (D := D) (ci := 4) (v := .ref q7) (ty := .array .int) (C := "RowDeskModel") (T := T_MO) (N := 10) hx hb hts (fun w hw => xtb_c (in_MO w hw)) ty_MO ty_MO_ok nm_MO hown hK hP hD hS 0 rfl rfl 9 (by decide) (hts (.fieldLink "RowDeskModel" 32 "RowDeskModel" "stands" "[I") (xinc 405 (by decide +kernel) (by decide +kernel))) (fun _ h9 => h9) rfl hin rfl (by decide +kernel) rfl rfl (Nat.le_of_ble_eq_true rfl) d_MO_init_67 (fun H locs hP hD hS => ?_)
  have hP : va_P D vwCl [(h0, .inr (4, [.ref q1, .ref q2, .ref q3, .ref q4, .ref q5, .int 0, .int 0, .int 32, .ref q6, .ref q7])), (q1, .inl (cI, 240, .inl (fun _ => 0))), (q2, .inl (cI, 2000, .inl (fun _ => 0))), (q3, .inl (cI, 10, .inl (fun _ => 0))), (q4, .inl (cI, 220, .inl (fun _ => 0))), (q5, .inl (cI, 256, .inl (fun _ => 0))), (q6, .inl (cI, 102, .inl (fun _ => 0))), (q7, .inl (cI, 102, .inl (fun _ => 0)))] H := hP
  have hD : va_D A [(h0, .inr (4, [.ref q1, .ref q2, .ref q3, .ref q4, .ref q5, .int 0, .int 0, .int 32, .ref q6, .ref q7])), (q1, .inl (cI, 240, .inl (fun _ => 0))), (q2, .inl (cI, 2000, .inl (fun _ => 0))), (q3, .inl (cI, 10, .inl (fun _ => 0))), (q4, .inl (cI, 220, .inl (fun _ => 0))), (q5, .inl (cI, 256, .inl (fun _ => 0))), (q6, .inl (cI, 102, .inl (fun _ => 0))), (q7, .inl (cI, 102, .inl (fun _ => 0)))] := hD
  exact W.vret hx hb hr (fun t ht hW => ⟨⟨(q1, q2, q3, q4, q5, q6, q7), rfl, trivial, by rw [ht]; exact hP, va_K.moved hW.alike hK, hD⟩, hS.F ht⟩) hS.2.2 d_MO_init_70
