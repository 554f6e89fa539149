
/-! the abstract heap: ints of objects by number (I), contents of int arrays by number (F); the shape is fixed -/
abbrev XI : Type := Nat → Int32
abbrev XF : Type := Nat → Nat → Int32
abbrev XS : Type := (Nat × Nat) ⊕ (List Nat ⊕ (Nat × List (Nat ⊕ Nat)))
abbrev XP : Type := Option Value → XI → XF → Prop
def xtv (ad : Nat → Nat) : Value → Value
  | .ref k => .ref (ad k)
  | .null => .null
  | .int x => .int x
  | .long x => .long x
  | .float x => .float x
  | .double x => .double x
  | .retAddr x => .retAddr x
def xfv (ad : Nat → Nat) (I : XI) : Nat ⊕ Nat → Value
  | .inl c => .ref (ad c)
  | .inr x => .int (I x)
def xcz (cI cR : ClassId) (ad : Nat → Nat) (I : XI) (F : XF) : XS → va_E
  | .inl q => .inl (cI, q.1, .inl (F q.2))
  | .inr (.inl l) => .inl (cR, l.length, .inr (.inr (.inr (.inr (fun j => (l[j]?).map ad)))))
  | .inr (.inr q) => .inr (q.1, q.2.map (xfv ad I))
def xw (cI cR : ClassId) (ad : Nat → Nat) (I : XI) (F : XF) : va_W := (List.range 44).map (fun k => (ad k, xcz cI cR ad I F (xshp.getD k (.inl (0, 0)))))
theorem xshp_len : xshp.length = 44 := by decide
theorem xw_at {cI cR : ClassId} {ad : Nat → Nat} {I : XI} {F : XF} {k : Nat} {d : XS} (h : xshp[k]? = some d) : (xw cI cR ad I F)[k]? = some (ad k, xcz cI cR ad I F d) := by
  have hk : k < 44 := by rw [← xshp_len]; exact (List.getElem?_eq_some_iff.mp h).1
  have hd : xshp.getD k (.inl (0, 0)) = d := by rw [List.getD_eq_getElem?_getD, h]; rfl
  simp only [xw, List.getElem?_map, List.getElem?_range hk, Option.map_some, hd]
theorem xw_has {cI cR : ClassId} {ad : Nat → Nat} {I : XI} {F : XF} {k : Nat} {q : Nat × va_E} (h : (xw cI cR ad I F)[k]? = some q) : k < 44 ∧ ∃ d, xshp[k]? = some d ∧ q = (ad k, xcz cI cR ad I F d) := by
  have hk : k < 44 := by
    have := (List.getElem?_eq_some_iff.mp h).1
    simpa [xw] using this
  have hk2 : k < xshp.length := by rw [xshp_len]; exact hk
  have hd : xshp[k]? = some xshp[k] := List.getElem?_eq_getElem hk2
  refine ⟨hk, _, hd, ?_⟩
  rw [xw_at hd] at h
  exact (Option.some.inj h).symm
/-- which object and slot an int field is, which cell an array is -/
theorem xiown_ok : (List.range 44).all (fun k => match xshp[k]? with
  | some (.inr (.inr q)) => (List.range q.2.length).all (fun sl => match q.2[sl]? with
    | some (.inr x) => xiown x == (k, sl)
    | _ => true)
  | _ => true) = true := by decide +kernel
theorem xaown_ok : (List.range 44).all (fun k => match xshp[k]? with
  | some (.inl q) => xaown q.2 == k
  | _ => true) = true := by decide +kernel
theorem xi_uniq {k slot x : Nat} {q : Nat × List (Nat ⊕ Nat)} (h : xshp[k]? = some (.inr (.inr q))) (hf : q.2[slot]? = some (.inr x)) : xiown x = (k, slot) := by
  have hk : k < 44 := by rw [← xshp_len]; exact (List.getElem?_eq_some_iff.mp h).1
  have hs : slot < q.2.length := (List.getElem?_eq_some_iff.mp hf).1
  have h1 := List.all_eq_true.mp xiown_ok k (List.mem_range.mpr hk)
  rw [h] at h1
  have h2 := List.all_eq_true.mp h1 slot (List.mem_range.mpr hs)
  rw [hf] at h2
  exact eq_of_beq h2
theorem xa_uniq {k : Nat} {q : Nat × Nat} (h : xshp[k]? = some (.inl q)) : xaown q.2 = k := by
  have hk : k < 44 := by rw [← xshp_len]; exact (List.getElem?_eq_some_iff.mp h).1
  have h1 := List.all_eq_true.mp xaown_ok k (List.mem_range.mpr hk)
  rw [h] at h1
  exact eq_of_beq h1
theorem xw_setI {cI cR : ClassId} {ad : Nat → Nat} {I : XI} {F : XF} {k slot x : Nat} {v : Int32} {q : Nat × List (Nat ⊕ Nat)} (h : xshp[k]? = some (.inr (.inr q))) (hf : q.2[slot]? = some (.inr x)) :
    (xw cI cR ad I F).set k (ad k, .inr (q.1, (q.2.map (xfv ad I)).set slot (.int v))) = xw cI cR ad (upd I x v) F := by
  have hlen : k < (xw cI cR ad I F).length := (List.getElem?_eq_some_iff.mp (xw_at h)).1
  have hu := xi_uniq h hf
  apply List.ext_getElem?
  intro j
  by_cases hj : k = j
  · subst hj
    rw [List.getElem?_set_self hlen, xw_at h]
    have : (q.2.map (xfv ad I)).set slot (.int v) = q.2.map (xfv ad (upd I x v)) := by
      apply List.ext_getElem?
      intro i
      by_cases hi : slot = i
      · subst hi
        have hl : slot < (q.2.map (xfv ad I)).length := by rw [List.length_map]; exact (List.getElem?_eq_some_iff.mp hf).1
        rw [List.getElem?_set_self hl, List.getElem?_map, hf]
        simp [xfv, upd]
      · rw [List.getElem?_set_ne hi, List.getElem?_map, List.getElem?_map]
        cases hg : q.2[i]? with
        | none => rfl
        | some g =>
          cases g with
          | inl c => rfl
          | inr y =>
            have hy := xi_uniq h hg
            have hne : y ≠ x := fun e => hi (by rw [e, hu] at hy; exact (Prod.mk.inj hy).2)
            simp [xfv, upd, hne]
    simp only [xcz, this]
  · rw [List.getElem?_set_ne hj]
    cases hs : xshp[j]? with
    | none =>
      have hjl : 44 ≤ j := by rw [← xshp_len]; exact List.getElem?_eq_none_iff.mp hs
      rw [List.getElem?_eq_none (by simp [xw]; omega), List.getElem?_eq_none (by simp [xw]; omega)]
    | some d =>
      rw [xw_at hs, xw_at hs]
      congr 2
      match d, hs with
      | .inl a, hs => rfl
      | .inr (.inl a), hs => rfl
      | .inr (.inr a), hs =>
        simp only [xcz]
        congr 2
        apply List.ext_getElem?
        intro i
        rw [List.getElem?_map, List.getElem?_map]
        cases hg : a.2[i]? with
        | none => rfl
        | some g =>
          cases g with
          | inl c => rfl
          | inr y =>
            have hy := xi_uniq hs hg
            have hne : y ≠ x := fun e => hj (by rw [e, hu] at hy; exact (Prod.mk.inj hy).1)
            simp [xfv, upd, hne]
theorem xw_setF {cI cR : ClassId} {ad : Nat → Nat} {I : XI} {F : XF} {k : Nat} {f : Nat → Int32} {q : Nat × Nat} (h : xshp[k]? = some (.inl q)) :
    (xw cI cR ad I F).set k (ad k, .inl (cI, q.1, .inl f)) = xw cI cR ad I (va_up F q.2 f) := by
  have hlen : k < (xw cI cR ad I F).length := (List.getElem?_eq_some_iff.mp (xw_at h)).1
  have hu := xa_uniq h
  apply List.ext_getElem?
  intro j
  by_cases hj : k = j
  · subst hj
    rw [List.getElem?_set_self hlen, xw_at h]
    simp [xcz, va_up]
  · rw [List.getElem?_set_ne hj]
    cases hs : xshp[j]? with
    | none =>
      have hjl : 44 ≤ j := by rw [← xshp_len]; exact List.getElem?_eq_none_iff.mp hs
      rw [List.getElem?_eq_none (by simp [xw]; omega), List.getElem?_eq_none (by simp [xw]; omega)]
    | some d =>
      rw [xw_at hs, xw_at hs]
      congr 2
      match d, hs with
      | .inl a, hs =>
        have hne : a.2 ≠ q.2 := fun e => hj (by rw [← hu, ← e]; exact xa_uniq hs)
        simp [xcz, va_up, hne]
      | .inr (.inl a), hs => rfl
      | .inr (.inr a), hs => rfl
/-! locals by place -/
def xkill : Option Value → Option Value
  | some (.long _) => none
  | some (.double _) => none
  | a => a
def xset : List (Option Value) → Nat → Value → List (Option Value)
  | [], 0, v => [some v]
  | [], i + 1, v => none :: xset [] i v
  | _ :: t, 0, v => some v :: t
  | a :: t, 1, v => xkill a :: xset t 0 v
  | a :: t, i + 2, v => a :: xset t (i + 1) v
def xset2 : List (Option Value) → Nat → Value → List (Option Value)
  | [], 0, v => [some v, none]
  | [], i + 1, v => none :: xset2 [] i v
  | _ :: t, 0, v => some v :: none :: t.tail
  | a :: t, 1, v => xkill a :: xset2 t 0 v
  | a :: t, i + 2, v => a :: xset2 t (i + 1) v
theorem xkill_some {a : Option Value} {w : Value} (h : xkill a = some w) : a = some w ∧ ¬ w.category = 2 := by
  cases a with
  | none => simp [xkill] at h
  | some v => cases v <;> simp_all [xkill, Value.category] <;> (try (subst h; simp [Value.category]))
theorem xset_get : ∀ (lv : List (Option Value)) (i : Nat) (v : Value) (j : Nat) (w : Value), (xset lv i v)[j]? = some (some w) → (j = i ∧ w = v) ∨ (j ≠ i ∧ lv[j]? = some (some w) ∧ (j + 1 = i → ¬ w.category = 2))
  | [], 0, v, j, w, h => by
    cases j with
    | zero => simp [xset] at h; exact Or.inl ⟨rfl, h.symm⟩
    | succ j => simp [xset] at h
  | [], i + 1, v, j, w, h => by
    cases j with
    | zero => simp [xset] at h
    | succ j =>
      rw [xset, List.getElem?_cons_succ] at h
      rcases xset_get [] i v j w h with ⟨a, b⟩ | ⟨a, b, c⟩
      · exact Or.inl ⟨by omega, b⟩
      · simp at b
  | a :: t, 0, v, j, w, h => by
    cases j with
    | zero => simp [xset] at h; exact Or.inl ⟨rfl, h.symm⟩
    | succ j =>
      rw [xset, List.getElem?_cons_succ] at h
      exact Or.inr ⟨by omega, by rw [List.getElem?_cons_succ]; exact h, fun e => by omega⟩
  | a :: t, 1, v, j, w, h => by
    cases j with
    | zero =>
      rw [xset, List.getElem?_cons_zero] at h
      obtain ⟨h1, h2⟩ := xkill_some (Option.some.inj h)
      exact Or.inr ⟨by omega, by rw [h1]; rfl, fun _ => h2⟩
    | succ j =>
      rw [xset, List.getElem?_cons_succ] at h
      rcases xset_get t 0 v j w h with ⟨a, b⟩ | ⟨a, b, c⟩
      · exact Or.inl ⟨by omega, b⟩
      · exact Or.inr ⟨by omega, by rw [List.getElem?_cons_succ]; exact b, fun e => by omega⟩
  | a :: t, i + 2, v, j, w, h => by
    cases j with
    | zero =>
      rw [xset, List.getElem?_cons_zero] at h
      exact Or.inr ⟨by omega, by rw [List.getElem?_cons_zero]; exact h, fun e => by omega⟩
    | succ j =>
      rw [xset, List.getElem?_cons_succ] at h
      rcases xset_get t (i + 1) v j w h with ⟨a, b⟩ | ⟨a, b, c⟩
      · exact Or.inl ⟨by omega, b⟩
      · exact Or.inr ⟨by omega, by rw [List.getElem?_cons_succ]; exact b, fun e => c (by omega)⟩
theorem xset2_get : ∀ (lv : List (Option Value)) (i : Nat) (v : Value) (j : Nat) (w : Value), (xset2 lv i v)[j]? = some (some w) → (j = i ∧ w = v) ∨ (j ≠ i ∧ j ≠ i + 1 ∧ lv[j]? = some (some w) ∧ (j + 1 = i → ¬ w.category = 2))
  | [], 0, v, j, w, h => by
    match j, h with
    | 0, h => simp [xset2] at h; exact Or.inl ⟨rfl, h.symm⟩
    | 1, h => simp [xset2] at h
    | j + 2, h => simp [xset2] at h
  | [], i + 1, v, j, w, h => by
    cases j with
    | zero => simp [xset2] at h
    | succ j =>
      rw [xset2, List.getElem?_cons_succ] at h
      rcases xset2_get [] i v j w h with ⟨a, b⟩ | ⟨a, b, c, d⟩
      · exact Or.inl ⟨by omega, b⟩
      · simp at c
  | a :: t, 0, v, j, w, h => by
    match j, h with
    | 0, h => simp [xset2] at h; exact Or.inl ⟨rfl, h.symm⟩
    | 1, h => simp [xset2] at h
    | j + 2, h =>
      rw [xset2, List.getElem?_cons_succ, List.getElem?_cons_succ] at h
      refine Or.inr ⟨by omega, by omega, ?_, fun e => by omega⟩
      rw [List.getElem?_cons_succ]
      cases t with
      | nil => simp at h
      | cons b t => rw [List.getElem?_cons_succ]; exact h
  | a :: t, 1, v, j, w, h => by
    cases j with
    | zero =>
      rw [xset2, List.getElem?_cons_zero] at h
      obtain ⟨h1, h2⟩ := xkill_some (Option.some.inj h)
      exact Or.inr ⟨by omega, by omega, by rw [h1]; rfl, fun _ => h2⟩
    | succ j =>
      rw [xset2, List.getElem?_cons_succ] at h
      rcases xset2_get t 0 v j w h with ⟨a, b⟩ | ⟨a, b, c, d⟩
      · exact Or.inl ⟨by omega, b⟩
      · exact Or.inr ⟨by omega, by omega, by rw [List.getElem?_cons_succ]; exact c, fun e => by omega⟩
  | a :: t, i + 2, v, j, w, h => by
    cases j with
    | zero =>
      rw [xset2, List.getElem?_cons_zero] at h
      exact Or.inr ⟨by omega, by omega, by rw [List.getElem?_cons_zero]; exact h, fun e => by omega⟩
    | succ j =>
      rw [xset2, List.getElem?_cons_succ] at h
      rcases xset2_get t (i + 1) v j w h with ⟨a, b⟩ | ⟨a, b, c, d⟩
      · exact Or.inl ⟨by omega, b⟩
      · exact Or.inr ⟨by omega, by omega, by rw [List.getElem?_cons_succ]; exact c, fun e => d (by omega)⟩
def XL (ad : Nat → Nat) (ls : Array Slot) (nL : Nat) (lv : List (Option Value)) : Prop := ls.size = nL ∧ lv_wf ls ∧ ∀ (i : Nat) (v : Value), lv[i]? = some (some v) → ls[i]? = some (.val (xtv ad v))
def xll (ad : Nat → Nat) (lv : List (Option Value)) : List (Nat × Value) := (List.range lv.length).filterMap (fun i => (lv[i]?.join).map (fun v => (i, xtv ad v)))
theorem xll_mem {ad : Nat → Nat} {lv : List (Option Value)} {i : Nat} {v : Value} (h : lv[i]? = some (some v)) : (i, xtv ad v) ∈ xll ad lv := by
  refine List.mem_filterMap.mpr ⟨i, List.mem_range.mpr (List.getElem?_eq_some_iff.mp h).1, ?_⟩
  rw [h]; rfl
theorem XL.has {ad : Nat → Nat} {ls : Array Slot} {nL : Nat} {lv : List (Option Value)} (h : XL ad ls nL lv) : lv_has ls nL (xll ad lv) := by
  refine ⟨h.1, h.2.1, fun q hq => ?_⟩
  obtain ⟨i, -, hi⟩ := List.mem_filterMap.mp hq
  cases hv : lv[i]? with
  | none => rw [hv] at hi; cases hi
  | some o =>
    cases o with
    | none => rw [hv] at hi; cases hi
    | some v =>
      rw [hv] at hi
      have e : (i, xtv ad v) = q := Option.some.inj hi
      subst e
      exact h.2.2 i v hv
theorem xtv_cat (ad : Nat → Nat) (v : Value) : (xtv ad v).category = v.category := by cases v <;> rfl
theorem xl_set1 {ad : Nat → Nat} {ls' : Array Slot} {nL i : Nat} {lv : List (Option Value)} {v : Value} (h' : lv_has ls' nL ((i, xtv ad v) :: (xll ad lv).filter (fun q => !(q.1 == i) && !(q.1 + 1 == i && q.2.category == 2)))) : XL ad ls' nL (xset lv i v) := by
  refine ⟨h'.1, h'.2.1, fun j w hw => ?_⟩
  rcases xset_get lv i v j w hw with ⟨rfl, rfl⟩ | ⟨h1, h2, h3⟩
  · exact h'.2.2 (j, xtv ad w) List.mem_cons_self
  · refine h'.2.2 (j, xtv ad w) (List.mem_cons_of_mem _ (List.mem_filter.mpr ⟨xll_mem h2, ?_⟩))
    by_cases hj : j + 1 = i
    · have := h3 hj
      simp [h1, xtv_cat, this]
    · simp [h1, hj]
theorem xl_set2 {ad : Nat → Nat} {ls' : Array Slot} {nL i : Nat} {lv : List (Option Value)} {v : Value} (h' : lv_has ls' nL ((i, xtv ad v) :: (xll ad lv).filter (fun q => !(q.1 == i) && (!(q.1 == i + 1) && !(q.1 + 1 == i && q.2.category == 2))))) : XL ad ls' nL (xset2 lv i v) := by
  refine ⟨h'.1, h'.2.1, fun j w hw => ?_⟩
  rcases xset2_get lv i v j w hw with ⟨rfl, rfl⟩ | ⟨h1, h0, h2, h3⟩
  · exact h'.2.2 (j, xtv ad w) List.mem_cons_self
  · refine h'.2.2 (j, xtv ad w) (List.mem_cons_of_mem _ (List.mem_filter.mpr ⟨xll_mem h2, ?_⟩))
    by_cases hj : j + 1 = i
    · have := h3 hj
      simp [h1, h0, xtv_cat, this]
    · simp [h1, h0, hj]

/-! the judgement -/
def xA (ad : Nat → Nat) : Nat → Prop := fun q => ∃ k : Nat, k < 44 ∧ q = ad k
def XWd (D : va_G) (cI cR : ClassId) (ad : Nat → Nat) (A : Nat → Prop) (I : XI) (F : XF) (s : State) (H : Heap) : Prop :=
  va_K D vwCl [(cI, .int), (cR, .object xRow)] s ∧ va_P D vwCl (xw cI cR ad I F) H ∧ va_D A (xw cI cR ad I F)
def XCtx (mi : XMi) (p : Program) (R : Room) (s : State) (m : MethodId) (args : Array Value) (c : Code) (cells slots : Nat) : Prop :=
  p.tables.exec = Jvm.exec ∧ c.code = xcode mi ∧ c.maxLocals = xmaxL mi ∧ s.vm.findClass (xown mi) = some m.cls ∧ (∀ w ∈ xtb, w.before args s = true) ∧ xfr mi ≤ R.frames ∧ xloc mi ≤ R.locals ∧ cells ≤ R.cells ∧ slots ≤ R.slots
def XSc (sc : Option (Nat × (Nat → Int32))) (ad : Nat → Nat) (A : Nat → Prop) (s : State) : Prop :=
  ∀ (L : Nat) (xs : Nat → Int32), sc = some (L, xs) → va_X (ad 44) L xs s s.heap ∧ ad 44 < s.heap.size ∧ ¬ A (ad 44)
/-- a return instruction that fits the value -/
def XRet (mi : XMi) (pc : Nat) (rv : Option Value) : Prop := match rv with
  | none => decode (xcode mi) pc = .ok (.return_, 1) ∧ xret mi = none
  | some (.int v) => decode (xcode mi) pc = .ok (.ireturn, 1) ∧ ∃ ty, xret mi = some ty ∧ narrow ty (.int v) = .int v
  | some (.ref _) => decode (xcode mi) pc = .ok (.areturn, 1) ∧ ∃ n, xret mi = some (.object n)
  | some .null => decode (xcode mi) pc = .ok (.areturn, 1) ∧ ∃ n, xret mi = some (.object n)
  | _ => False
def XJ (sc : Option (Nat × (Nat → Int32))) (mi : XMi) (pc : Nat) (lv : List (Option Value)) (st : List Value) (I : XI) (F : XF) (P : XP) : Prop :=
  ∀ (p : Program) (l : Launch) (e : Env) (R : Room) (s : State) (m : MethodId) (args : Array Value) (below : List Frame) (meth : Method) (c : Code) (H : Heap) (locs : List Loc) (cells slots : Nat) (Q : State → Prop) (D : va_G) (cI cR : ClassId) (ad : Nat → Nat) (A : Nat → Prop) (ls : Array Slot),
    XCtx mi p R s m args c cells slots → XSc sc ad A s → XWd D cI cR ad A I F s H → va_S A s.heap H locs → XL ad ls (xmaxL mi) lv →
    (∀ (H1 : Heap) (locs1 : List Loc) (ls1 : Array Slot) (pc1 : Nat) (rv : Option Value) (I1 : XI) (F1 : XF), P rv I1 F1 → XRet mi pc1 rv → XWd D cI cR ad A I1 F1 s H1 → va_S A s.heap H1 locs1 →
      W p l e R s m args below meth c H1 locs1 cells slots Q (F0 m pc1 ls1 (rv.map (xtv ad)).toList)) →
    W p l e R s m args below meth c H locs cells slots Q (F0 m pc ls (st.map (xtv ad)))
section XROWS
variable {sc : Option (Nat × (Nat → Int32))} {mi : XMi} {pc : Nat} {lv lv1 : List (Option Value)} {st : List Value} {I : XI} {F : XF} {P : XP}
theorem xj_weak (h : ∀ (i : Nat) (v : Value), lv1[i]? = some (some v) → lv[i]? = some (some v)) (k : XJ sc mi pc lv1 st I F P) : XJ sc mi pc lv st I F P := by
  intro p l e R s m args below meth c H locs cells slots Q D cI cR ad A ls C hc hW hS hl hr
  exact k p l e R s m args below meth c H locs cells slots Q D cI cR ad A ls C hc hW hS ⟨hl.1, hl.2.1, fun i v hv => hl.2.2 i v (h i v hv)⟩ hr
theorem xj_take (n : Nat) (k : XJ sc mi pc (lv.take n) st I F P) : XJ sc mi pc lv st I F P := by
  refine xj_weak (fun i v h => ?_) k
  rw [List.getElem?_take] at h
  split at h
  · exact h
  · cases h
theorem xj_post {P1 : XP} (h : ∀ rv I1 F1, P1 rv I1 F1 → P rv I1 F1) (k : XJ sc mi pc lv st I F P1) : XJ sc mi pc lv st I F P := by
  intro p l e R s m args below meth c H locs cells slots Q D cI cR ad A ls C hc hW hS hl hr
  exact k p l e R s m args below meth c H locs cells slots Q D cI cR ad A ls C hc hW hS hl (fun H1 locs1 ls1 pc1 rv I1 F1 hp => hr H1 locs1 ls1 pc1 rv I1 F1 (h rv I1 F1 hp))
theorem xj_ret {rv : Option Value} (h : XRet mi pc rv) (hp : P rv I F) : XJ sc mi pc lv rv.toList I F P := by
  intro p l e R s m args below meth c H locs cells slots Q D cI cR ad A ls C hc hW hS hl hr
  have := hr H locs ls pc rv I F hp h hW hS
  cases rv <;> exact this
theorem xj_vret (hd : decode (xcode mi) pc = .ok (.return_, 1)) (hn : xret mi = none) (hp : P none I F) : XJ sc mi pc lv [] I F P := xj_ret (rv := none) ⟨hd, hn⟩ hp
theorem xj_iret {v : Int32} (hd : decode (xcode mi) pc = .ok (.ireturn, 1)) (hn : xret mi = some .int) (hp : P (some (.int v)) I F) : XJ sc mi pc lv [.int v] I F P := xj_ret (rv := some (.int v)) ⟨hd, _, hn, rfl⟩ hp
theorem xj_zret {v : Int32} (hd : decode (xcode mi) pc = .ok (.ireturn, 1)) (hn : xret mi = some .boolean) (hv : v = 0 ∨ v = 1) (hp : P (some (.int v)) I F) : XJ sc mi pc lv [.int v] I F P := xj_ret (rv := some (.int v)) ⟨hd, _, hn, by rcases hv with rfl | rfl <;> rfl⟩ hp
theorem xj_aret {k : Nat} {n : String} (hd : decode (xcode mi) pc = .ok (.areturn, 1)) (hn : xret mi = some (.object n)) (hp : P (some (.ref k)) I F) : XJ sc mi pc lv [.ref k] I F P := xj_ret (rv := some (.ref k)) ⟨hd, _, hn⟩ hp
theorem xj_nret {n : String} (hd : decode (xcode mi) pc = .ok (.areturn, 1)) (hn : xret mi = some (.object n)) (hp : P (some .null) I F) : XJ sc mi pc lv [.null] I F P := xj_ret (rv := some .null) ⟨hd, _, hn⟩ hp
theorem xj_iconst {n : Int} {v : Int32} (hd : decode (xcode mi) pc = .ok (.iconst n, 1)) (hv : Int32.ofInt n = v) (k : XJ sc mi (pc + 1) lv (.int v :: st) I F P) : XJ sc mi pc lv (st) I F P := by
  intro p l e R s m args below meth c H locs cells slots Q D cI cR ad A ls C hc hW hS hl hr
  exact lv_iconst C.1 C.2.1 hd hv (k p l e R s m args below meth c H locs cells slots Q D cI cR ad A ls C hc hW hS hl hr)
theorem xj_bipush {n : Int} {v : Int32} (hd : decode (xcode mi) pc = .ok (.bipush n, 2)) (hv : (Int8.ofInt n).toInt32 = v) (k : XJ sc mi (pc + 2) lv (.int v :: st) I F P) : XJ sc mi pc lv (st) I F P := by
  intro p l e R s m args below meth c H locs cells slots Q D cI cR ad A ls C hc hW hS hl hr
  exact lv_bipush C.1 C.2.1 hd hv (k p l e R s m args below meth c H locs cells slots Q D cI cR ad A ls C hc hW hS hl hr)
theorem xj_sipush {n : Int} {v : Int32} (hd : decode (xcode mi) pc = .ok (.sipush n, 3)) (hv : (Int16.ofInt n).toInt32 = v) (k : XJ sc mi (pc + 3) lv (.int v :: st) I F P) : XJ sc mi pc lv (st) I F P := by
  intro p l e R s m args below meth c H locs cells slots Q D cI cR ad A ls C hc hW hS hl hr
  exact lv_sipush C.1 C.2.1 hd hv (k p l e R s m args below meth c H locs cells slots Q D cI cR ad A ls C hc hW hS hl hr)
theorem xj_lconst {n : Fin 2} {v : Int64} (hd : decode (xcode mi) pc = .ok (.lconst n, 1)) (hv : Int64.ofNat (n : Nat) = v) (k : XJ sc mi (pc + 1) lv (.long v :: st) I F P) : XJ sc mi pc lv (st) I F P := by
  intro p l e R s m args below meth c H locs cells slots Q D cI cR ad A ls C hc hW hS hl hr
  exact lv_lconst C.1 C.2.1 hd hv (k p l e R s m args below meth c H locs cells slots Q D cI cR ad A ls C hc hW hS hl hr)
theorem xj_null  (hd : decode (xcode mi) pc = .ok (.aconst_null, 1)) (k : XJ sc mi (pc + 1) lv (.null :: st) I F P) : XJ sc mi pc lv (st) I F P := by
  intro p l e R s m args below meth c H locs cells slots Q D cI cR ad A ls C hc hW hS hl hr
  exact lv_null C.1 C.2.1 hd (k p l e R s m args below meth c H locs cells slots Q D cI cR ad A ls C hc hW hS hl hr)
theorem xj_ldc2 {idx : Nat} {v : Int64} (hd : decode (xcode mi) pc = .ok (.ldc2_w idx, 3)) (hw : Cond.constantLong (xown mi) idx v ∈ xtb) (k : XJ sc mi (pc + 3) lv (.long v :: st) I F P) : XJ sc mi pc lv (st) I F P := by
  intro p l e R s m args below meth c H locs cells slots Q D cI cR ad A ls C hc hW hS hl hr
  exact lv_ldc2 C.1 C.2.1 C.2.2.2.1 (C.2.2.2.2.1 _ hw) hd (k p l e R s m args below meth c H locs cells slots Q D cI cR ad A ls C hc hW hS hl hr)
theorem xj_iload_n {j : Fin 4} {i : Nat} {x : Int32} (hd : decode (xcode mi) pc = .ok (.iload_n j, 1)) (hi : (j : Nat) = i) (hx : lv[i]? = some (some (.int x))) (k : XJ sc mi (pc + 1) lv (.int x :: st) I F P) : XJ sc mi pc lv (st) I F P := by
  intro p l e R s m args below meth c H locs cells slots Q D cI cR ad A ls C hc hW hS hl hr
  exact lv_iload_n C.1 C.2.1 hd hi (hl.2.2 _ _ hx) (k p l e R s m args below meth c H locs cells slots Q D cI cR ad A ls C hc hW hS hl hr)
theorem xj_iload {i : Nat} {x : Int32} (hd : decode (xcode mi) pc = .ok (.iload i, 2)) (hx : lv[i]? = some (some (.int x))) (k : XJ sc mi (pc + 2) lv (.int x :: st) I F P) : XJ sc mi pc lv (st) I F P := by
  intro p l e R s m args below meth c H locs cells slots Q D cI cR ad A ls C hc hW hS hl hr
  exact lv_iload C.1 C.2.1 hd (hl.2.2 _ _ hx) (k p l e R s m args below meth c H locs cells slots Q D cI cR ad A ls C hc hW hS hl hr)
theorem xj_lload_n {j : Fin 4} {i : Nat} {x : Int64} (hd : decode (xcode mi) pc = .ok (.lload_n j, 1)) (hi : (j : Nat) = i) (hx : lv[i]? = some (some (.long x))) (k : XJ sc mi (pc + 1) lv (.long x :: st) I F P) : XJ sc mi pc lv (st) I F P := by
  intro p l e R s m args below meth c H locs cells slots Q D cI cR ad A ls C hc hW hS hl hr
  exact lv_lload_n C.1 C.2.1 hd hi (hl.2.2 _ _ hx) (k p l e R s m args below meth c H locs cells slots Q D cI cR ad A ls C hc hW hS hl hr)
theorem xj_lload {i : Nat} {x : Int64} (hd : decode (xcode mi) pc = .ok (.lload i, 2)) (hx : lv[i]? = some (some (.long x))) (k : XJ sc mi (pc + 2) lv (.long x :: st) I F P) : XJ sc mi pc lv (st) I F P := by
  intro p l e R s m args below meth c H locs cells slots Q D cI cR ad A ls C hc hW hS hl hr
  exact lv_lload C.1 C.2.1 hd (hl.2.2 _ _ hx) (k p l e R s m args below meth c H locs cells slots Q D cI cR ad A ls C hc hW hS hl hr)
theorem xj_aload_n {j : Fin 4} {i : Nat} {x : Nat} (hd : decode (xcode mi) pc = .ok (.aload_n j, 1)) (hi : (j : Nat) = i) (hx : lv[i]? = some (some (.ref x))) (k : XJ sc mi (pc + 1) lv (.ref x :: st) I F P) : XJ sc mi pc lv (st) I F P := by
  intro p l e R s m args below meth c H locs cells slots Q D cI cR ad A ls C hc hW hS hl hr
  exact lv_aload_n C.1 C.2.1 hd hi (hl.2.2 _ _ hx) (k p l e R s m args below meth c H locs cells slots Q D cI cR ad A ls C hc hW hS hl hr)
theorem xj_aload {i : Nat} {x : Nat} (hd : decode (xcode mi) pc = .ok (.aload i, 2)) (hx : lv[i]? = some (some (.ref x))) (k : XJ sc mi (pc + 2) lv (.ref x :: st) I F P) : XJ sc mi pc lv (st) I F P := by
  intro p l e R s m args below meth c H locs cells slots Q D cI cR ad A ls C hc hW hS hl hr
  exact lv_aload C.1 C.2.1 hd (hl.2.2 _ _ hx) (k p l e R s m args below meth c H locs cells slots Q D cI cR ad A ls C hc hW hS hl hr)
theorem xj_aload_nN {j : Fin 4} {i : Nat} (hd : decode (xcode mi) pc = .ok (.aload_n j, 1)) (hi : (j : Nat) = i) (hx : lv[i]? = some (some .null)) (k : XJ sc mi (pc + 1) lv (.null :: st) I F P) : XJ sc mi pc lv (st) I F P := by
  intro p l e R s m args below meth c H locs cells slots Q D cI cR ad A ls C hc hW hS hl hr
  exact lv_aload_nN C.1 C.2.1 hd hi (hl.2.2 _ _ hx) (k p l e R s m args below meth c H locs cells slots Q D cI cR ad A ls C hc hW hS hl hr)
theorem xj_aloadN {i : Nat} (hd : decode (xcode mi) pc = .ok (.aload i, 2)) (hx : lv[i]? = some (some .null)) (k : XJ sc mi (pc + 2) lv (.null :: st) I F P) : XJ sc mi pc lv (st) I F P := by
  intro p l e R s m args below meth c H locs cells slots Q D cI cR ad A ls C hc hW hS hl hr
  exact lv_aloadN C.1 C.2.1 hd (hl.2.2 _ _ hx) (k p l e R s m args below meth c H locs cells slots Q D cI cR ad A ls C hc hW hS hl hr)
theorem xj_istore_n {j : Fin 4} {i : Nat} {x : Int32} (hd : decode (xcode mi) pc = .ok (.istore_n j, 1)) (hi : (j : Nat) = i) (hn : i < xmaxL mi) (hv : xset lv i (.int x) = lv1) (k : XJ sc mi (pc + 1) lv1 st I F P) : XJ sc mi pc lv ((.int x) :: st) I F P := by
  subst hv
  intro p l e R s m args below meth c H locs cells slots Q D cI cR ad A ls C hc hW hS hl hr
  exact lv_istore_n C.1 C.2.1 hd hi hl.has hn rfl (fun ls1 h1 => k p l e R s m args below meth c H locs cells slots Q D cI cR ad A ls1 C hc hW hS (xl_set1 (v := .int x) h1) hr)
theorem xj_istore {i : Nat} {x : Int32} (hd : decode (xcode mi) pc = .ok (.istore i, 2)) (hn : i < xmaxL mi) (hv : xset lv i (.int x) = lv1) (k : XJ sc mi (pc + 2) lv1 st I F P) : XJ sc mi pc lv ((.int x) :: st) I F P := by
  subst hv
  intro p l e R s m args below meth c H locs cells slots Q D cI cR ad A ls C hc hW hS hl hr
  exact lv_istore C.1 C.2.1 hd hl.has hn rfl (fun ls1 h1 => k p l e R s m args below meth c H locs cells slots Q D cI cR ad A ls1 C hc hW hS (xl_set1 (v := .int x) h1) hr)
theorem xj_lstore_n {j : Fin 4} {i : Nat} {x : Int64} (hd : decode (xcode mi) pc = .ok (.lstore_n j, 1)) (hi : (j : Nat) = i) (hn : i + 1 < xmaxL mi) (hv : xset2 lv i (.long x) = lv1) (k : XJ sc mi (pc + 1) lv1 st I F P) : XJ sc mi pc lv ((.long x) :: st) I F P := by
  subst hv
  intro p l e R s m args below meth c H locs cells slots Q D cI cR ad A ls C hc hW hS hl hr
  exact lv_lstore_n C.1 C.2.1 hd hi hl.has hn rfl (fun ls1 h1 => k p l e R s m args below meth c H locs cells slots Q D cI cR ad A ls1 C hc hW hS (xl_set2 (v := .long x) h1) hr)
theorem xj_lstore {i : Nat} {x : Int64} (hd : decode (xcode mi) pc = .ok (.lstore i, 2)) (hn : i + 1 < xmaxL mi) (hv : xset2 lv i (.long x) = lv1) (k : XJ sc mi (pc + 2) lv1 st I F P) : XJ sc mi pc lv ((.long x) :: st) I F P := by
  subst hv
  intro p l e R s m args below meth c H locs cells slots Q D cI cR ad A ls C hc hW hS hl hr
  exact lv_lstore C.1 C.2.1 hd hl.has hn rfl (fun ls1 h1 => k p l e R s m args below meth c H locs cells slots Q D cI cR ad A ls1 C hc hW hS (xl_set2 (v := .long x) h1) hr)
theorem xj_astore_n {j : Fin 4} {i : Nat} {x : Nat} (hd : decode (xcode mi) pc = .ok (.astore_n j, 1)) (hi : (j : Nat) = i) (hn : i < xmaxL mi) (hv : xset lv i (.ref x) = lv1) (k : XJ sc mi (pc + 1) lv1 st I F P) : XJ sc mi pc lv ((.ref x) :: st) I F P := by
  subst hv
  intro p l e R s m args below meth c H locs cells slots Q D cI cR ad A ls C hc hW hS hl hr
  exact lv_astore_n C.1 C.2.1 hd hi hl.has hn rfl (fun ls1 h1 => k p l e R s m args below meth c H locs cells slots Q D cI cR ad A ls1 C hc hW hS (xl_set1 (v := .ref x) h1) hr)
theorem xj_astore {i : Nat} {x : Nat} (hd : decode (xcode mi) pc = .ok (.astore i, 2)) (hn : i < xmaxL mi) (hv : xset lv i (.ref x) = lv1) (k : XJ sc mi (pc + 2) lv1 st I F P) : XJ sc mi pc lv ((.ref x) :: st) I F P := by
  subst hv
  intro p l e R s m args below meth c H locs cells slots Q D cI cR ad A ls C hc hW hS hl hr
  exact lv_astore C.1 C.2.1 hd hl.has hn rfl (fun ls1 h1 => k p l e R s m args below meth c H locs cells slots Q D cI cR ad A ls1 C hc hW hS (xl_set1 (v := .ref x) h1) hr)
theorem xj_astore_nN {j : Fin 4} {i : Nat} (hd : decode (xcode mi) pc = .ok (.astore_n j, 1)) (hi : (j : Nat) = i) (hn : i < xmaxL mi) (hv : xset lv i (.null) = lv1) (k : XJ sc mi (pc + 1) lv1 st I F P) : XJ sc mi pc lv ((.null) :: st) I F P := by
  subst hv
  intro p l e R s m args below meth c H locs cells slots Q D cI cR ad A ls C hc hW hS hl hr
  exact lv_astore_nN C.1 C.2.1 hd hi hl.has hn rfl (fun ls1 h1 => k p l e R s m args below meth c H locs cells slots Q D cI cR ad A ls1 C hc hW hS (xl_set1 (v := .null) h1) hr)
theorem xj_astoreN {i : Nat} (hd : decode (xcode mi) pc = .ok (.astore i, 2)) (hn : i < xmaxL mi) (hv : xset lv i (.null) = lv1) (k : XJ sc mi (pc + 2) lv1 st I F P) : XJ sc mi pc lv ((.null) :: st) I F P := by
  subst hv
  intro p l e R s m args below meth c H locs cells slots Q D cI cR ad A ls C hc hW hS hl hr
  exact lv_astoreN C.1 C.2.1 hd hl.has hn rfl (fun ls1 h1 => k p l e R s m args below meth c H locs cells slots Q D cI cR ad A ls1 C hc hW hS (xl_set1 (v := .null) h1) hr)
theorem xj_iinc {i : Nat} {n : Int} {x v : Int32} (hd : decode (xcode mi) pc = .ok (.iinc i n, 3)) (hx : lv[i]? = some (some (.int x))) (hv : x + Int32.ofInt n = v) (hn : i < xmaxL mi) (hs : xset lv i (.int v) = lv1) (k : XJ sc mi (pc + 3) lv1 st I F P) : XJ sc mi pc lv st I F P := by
  subst hs
  intro p l e R s m args below meth c H locs cells slots Q D cI cR ad A ls C hc hW hS hl hr
  have hm : (i, xtv ad (.int x)) ∈ xll ad lv := xll_mem hx
  obtain ⟨q, hq⟩ := List.getElem?_of_mem hm
  exact lv_iinc C.1 C.2.1 hd hl.has hq hv hn rfl (fun ls1 h1 => k p l e R s m args below meth c H locs cells slots Q D cI cR ad A ls1 C hc hW hS (xl_set1 (v := .int v) h1) hr)
theorem xj_iadd {x y : Int32} (hd : decode (xcode mi) pc = .ok (.iadd, 1)) (k : XJ sc mi (pc + 1) lv (.int (x + y) :: st) I F P) : XJ sc mi pc lv (.int y :: .int x :: st) I F P := by
  intro p l e R s m args below meth c H locs cells slots Q D cI cR ad A ls C hc hW hS hl hr
  exact lv_iadd C.1 C.2.1 hd (k p l e R s m args below meth c H locs cells slots Q D cI cR ad A ls C hc hW hS hl hr)
theorem xj_isub {x y : Int32} (hd : decode (xcode mi) pc = .ok (.isub, 1)) (k : XJ sc mi (pc + 1) lv (.int (x - y) :: st) I F P) : XJ sc mi pc lv (.int y :: .int x :: st) I F P := by
  intro p l e R s m args below meth c H locs cells slots Q D cI cR ad A ls C hc hW hS hl hr
  exact lv_isub C.1 C.2.1 hd (k p l e R s m args below meth c H locs cells slots Q D cI cR ad A ls C hc hW hS hl hr)
theorem xj_imul {x y : Int32} (hd : decode (xcode mi) pc = .ok (.imul, 1)) (k : XJ sc mi (pc + 1) lv (.int (x * y) :: st) I F P) : XJ sc mi pc lv (.int y :: .int x :: st) I F P := by
  intro p l e R s m args below meth c H locs cells slots Q D cI cR ad A ls C hc hW hS hl hr
  exact lv_imul C.1 C.2.1 hd (k p l e R s m args below meth c H locs cells slots Q D cI cR ad A ls C hc hW hS hl hr)
theorem xj_iand {x y : Int32} (hd : decode (xcode mi) pc = .ok (.iand, 1)) (k : XJ sc mi (pc + 1) lv (.int (x &&& y) :: st) I F P) : XJ sc mi pc lv (.int y :: .int x :: st) I F P := by
  intro p l e R s m args below meth c H locs cells slots Q D cI cR ad A ls C hc hW hS hl hr
  exact lv_iand C.1 C.2.1 hd (k p l e R s m args below meth c H locs cells slots Q D cI cR ad A ls C hc hW hS hl hr)
theorem xj_ishr {x y : Int32} (hd : decode (xcode mi) pc = .ok (.ishr, 1)) (k : XJ sc mi (pc + 1) lv (.int (x >>> (y &&& 31)) :: st) I F P) : XJ sc mi pc lv (.int y :: .int x :: st) I F P := by
  intro p l e R s m args below meth c H locs cells slots Q D cI cR ad A ls C hc hW hS hl hr
  exact lv_ishr C.1 C.2.1 hd (k p l e R s m args below meth c H locs cells slots Q D cI cR ad A ls C hc hW hS hl hr)
theorem xj_idiv {x y : Int32} (hd : decode (xcode mi) pc = .ok (.idiv, 1)) (hne : ¬ y = 0) (k : XJ sc mi (pc + 1) lv (.int (x / y) :: st) I F P) : XJ sc mi pc lv (.int y :: .int x :: st) I F P := by
  intro p l e R s m args below meth c H locs cells slots Q D cI cR ad A ls C hc hW hS hl hr
  exact lv_idiv C.1 C.2.1 hd hne (k p l e R s m args below meth c H locs cells slots Q D cI cR ad A ls C hc hW hS hl hr)
theorem xj_ineg {x : Int32} (hd : decode (xcode mi) pc = .ok (.ineg, 1)) (k : XJ sc mi (pc + 1) lv (.int (-x) :: st) I F P) : XJ sc mi pc lv (.int x :: st) I F P := by
  intro p l e R s m args below meth c H locs cells slots Q D cI cR ad A ls C hc hW hS hl hr
  exact lv_ineg C.1 C.2.1 hd (k p l e R s m args below meth c H locs cells slots Q D cI cR ad A ls C hc hW hS hl hr)
theorem xj_ladd {x y : Int64} (hd : decode (xcode mi) pc = .ok (.ladd, 1)) (k : XJ sc mi (pc + 1) lv (.long (x + y) :: st) I F P) : XJ sc mi pc lv (.long y :: .long x :: st) I F P := by
  intro p l e R s m args below meth c H locs cells slots Q D cI cR ad A ls C hc hW hS hl hr
  exact lv_ladd C.1 C.2.1 hd (k p l e R s m args below meth c H locs cells slots Q D cI cR ad A ls C hc hW hS hl hr)
theorem xj_lsub {x y : Int64} (hd : decode (xcode mi) pc = .ok (.lsub, 1)) (k : XJ sc mi (pc + 1) lv (.long (x - y) :: st) I F P) : XJ sc mi pc lv (.long y :: .long x :: st) I F P := by
  intro p l e R s m args below meth c H locs cells slots Q D cI cR ad A ls C hc hW hS hl hr
  exact lv_lsub C.1 C.2.1 hd (k p l e R s m args below meth c H locs cells slots Q D cI cR ad A ls C hc hW hS hl hr)
theorem xj_lmul {x y : Int64} (hd : decode (xcode mi) pc = .ok (.lmul, 1)) (k : XJ sc mi (pc + 1) lv (.long (x * y) :: st) I F P) : XJ sc mi pc lv (.long y :: .long x :: st) I F P := by
  intro p l e R s m args below meth c H locs cells slots Q D cI cR ad A ls C hc hW hS hl hr
  exact lv_lmul C.1 C.2.1 hd (k p l e R s m args below meth c H locs cells slots Q D cI cR ad A ls C hc hW hS hl hr)
theorem xj_lcmp {x y : Int64} (hd : decode (xcode mi) pc = .ok (.lcmp, 1)) (k : XJ sc mi (pc + 1) lv (.int (lg_cmp x y) :: st) I F P) : XJ sc mi pc lv (.long y :: .long x :: st) I F P := by
  intro p l e R s m args below meth c H locs cells slots Q D cI cR ad A ls C hc hW hS hl hr
  exact W.lcmp C.1 C.2.1 hd (k p l e R s m args below meth c H locs cells slots Q D cI cR ad A ls C hc hW hS hl hr)
theorem xj_i2l {x : Int32} (hd : decode (xcode mi) pc = .ok (.i2l, 1)) (k : XJ sc mi (pc + 1) lv (.long x.toInt64 :: st) I F P) : XJ sc mi pc lv (.int x :: st) I F P := by
  intro p l e R s m args below meth c H locs cells slots Q D cI cR ad A ls C hc hW hS hl hr
  exact lv_i2l C.1 C.2.1 hd rfl (k p l e R s m args below meth c H locs cells slots Q D cI cR ad A ls C hc hW hS hl hr)
theorem xj_l2i {x : Int64} (hd : decode (xcode mi) pc = .ok (.l2i, 1)) (k : XJ sc mi (pc + 1) lv (.int x.toInt32 :: st) I F P) : XJ sc mi pc lv (.long x :: st) I F P := by
  intro p l e R s m args below meth c H locs cells slots Q D cI cR ad A ls C hc hW hS hl hr
  exact lv_l2i C.1 C.2.1 hd rfl (k p l e R s m args below meth c H locs cells slots Q D cI cR ad A ls C hc hW hS hl hr)
theorem xj_dup {v : Value} (hd : decode (xcode mi) pc = .ok (.dup, 1)) (hv : v.category = 1) (k : XJ sc mi (pc + 1) lv (v :: v :: st) I F P) : XJ sc mi pc lv (v :: st) I F P := by
  intro p l e R s m args below meth c H locs cells slots Q D cI cR ad A ls C hc hW hS hl hr
  exact lv_dup C.1 C.2.1 hd (by rw [xtv_cat]; exact hv) (k p l e R s m args below meth c H locs cells slots Q D cI cR ad A ls C hc hW hS hl hr)
theorem xj_dup2 {v w : Value} (hd : decode (xcode mi) pc = .ok (.dup2, 1)) (hv : v.category = 1) (hw : w.category = 1) (k : XJ sc mi (pc + 1) lv (v :: w :: v :: w :: st) I F P) : XJ sc mi pc lv (v :: w :: st) I F P := by
  intro p l e R s m args below meth c H locs cells slots Q D cI cR ad A ls C hc hW hS hl hr
  exact lv_dup2_11 C.1 C.2.1 hd (by rw [xtv_cat]; exact hv) (by rw [xtv_cat]; exact hw) (k p l e R s m args below meth c H locs cells slots Q D cI cR ad A ls C hc hW hS hl hr)
theorem xj_goto {off : Int} {tgt : Nat} (hd : decode (xcode mi) pc = .ok (.goto off, 3)) (ht : (pc : Int) + off = (tgt : Int)) (k : XJ sc mi tgt lv st I F P) : XJ sc mi pc lv st I F P := by
  intro p l e R s m args below meth c H locs cells slots Q D cI cR ad A ls C hc hW hS hl hr
  exact lv_goto C.1 C.2.1 hd ht (k p l e R s m args below meth c H locs cells slots Q D cI cR ad A ls C hc hW hS hl hr)
theorem xj_if_eq {x : Int32} {off : Int} {tgt : Nat} (hd : decode (xcode mi) pc = .ok (.ifCond .eq off, 3)) (ht : (pc : Int) + off = (tgt : Int)) (kt : x = 0 → XJ sc mi tgt lv st I F P) (kf : ¬ x = 0 → XJ sc mi (pc + 3) lv st I F P) : XJ sc mi pc lv (.int x :: st) I F P := by
  intro p l e R s m args below meth c H locs cells slots Q D cI cR ad A ls C hc hW hS hl hr
  exact lv_if_eq C.1 C.2.1 hd ht (fun hq => kt hq p l e R s m args below meth c H locs cells slots Q D cI cR ad A ls C hc hW hS hl hr) (fun hq => kf hq p l e R s m args below meth c H locs cells slots Q D cI cR ad A ls C hc hW hS hl hr)
theorem xj_icmp_eq {x y : Int32} {off : Int} {tgt : Nat} (hd : decode (xcode mi) pc = .ok (.if_icmp .eq off, 3)) (ht : (pc : Int) + off = (tgt : Int)) (kt : x = y → XJ sc mi tgt lv st I F P) (kf : ¬ x = y → XJ sc mi (pc + 3) lv st I F P) : XJ sc mi pc lv (.int y :: .int x :: st) I F P := by
  intro p l e R s m args below meth c H locs cells slots Q D cI cR ad A ls C hc hW hS hl hr
  exact lv_icmp_eq C.1 C.2.1 hd ht (fun hq => kt hq p l e R s m args below meth c H locs cells slots Q D cI cR ad A ls C hc hW hS hl hr) (fun hq => kf hq p l e R s m args below meth c H locs cells slots Q D cI cR ad A ls C hc hW hS hl hr)
theorem xj_if_ne {x : Int32} {off : Int} {tgt : Nat} (hd : decode (xcode mi) pc = .ok (.ifCond .ne off, 3)) (ht : (pc : Int) + off = (tgt : Int)) (kt : ¬ x = 0 → XJ sc mi tgt lv st I F P) (kf : x = 0 → XJ sc mi (pc + 3) lv st I F P) : XJ sc mi pc lv (.int x :: st) I F P := by
  intro p l e R s m args below meth c H locs cells slots Q D cI cR ad A ls C hc hW hS hl hr
  exact lv_if_ne C.1 C.2.1 hd ht (fun hq => kt hq p l e R s m args below meth c H locs cells slots Q D cI cR ad A ls C hc hW hS hl hr) (fun hq => kf hq p l e R s m args below meth c H locs cells slots Q D cI cR ad A ls C hc hW hS hl hr)
theorem xj_icmp_ne {x y : Int32} {off : Int} {tgt : Nat} (hd : decode (xcode mi) pc = .ok (.if_icmp .ne off, 3)) (ht : (pc : Int) + off = (tgt : Int)) (kt : ¬ x = y → XJ sc mi tgt lv st I F P) (kf : x = y → XJ sc mi (pc + 3) lv st I F P) : XJ sc mi pc lv (.int y :: .int x :: st) I F P := by
  intro p l e R s m args below meth c H locs cells slots Q D cI cR ad A ls C hc hW hS hl hr
  exact lv_icmp_ne C.1 C.2.1 hd ht (fun hq => kt hq p l e R s m args below meth c H locs cells slots Q D cI cR ad A ls C hc hW hS hl hr) (fun hq => kf hq p l e R s m args below meth c H locs cells slots Q D cI cR ad A ls C hc hW hS hl hr)
theorem xj_if_lt {x : Int32} {off : Int} {tgt : Nat} (hd : decode (xcode mi) pc = .ok (.ifCond .lt off, 3)) (ht : (pc : Int) + off = (tgt : Int)) (kt : x < 0 → XJ sc mi tgt lv st I F P) (kf : ¬ x < 0 → XJ sc mi (pc + 3) lv st I F P) : XJ sc mi pc lv (.int x :: st) I F P := by
  intro p l e R s m args below meth c H locs cells slots Q D cI cR ad A ls C hc hW hS hl hr
  exact lv_if_lt C.1 C.2.1 hd ht (fun hq => kt hq p l e R s m args below meth c H locs cells slots Q D cI cR ad A ls C hc hW hS hl hr) (fun hq => kf hq p l e R s m args below meth c H locs cells slots Q D cI cR ad A ls C hc hW hS hl hr)
theorem xj_icmp_lt {x y : Int32} {off : Int} {tgt : Nat} (hd : decode (xcode mi) pc = .ok (.if_icmp .lt off, 3)) (ht : (pc : Int) + off = (tgt : Int)) (kt : x < y → XJ sc mi tgt lv st I F P) (kf : ¬ x < y → XJ sc mi (pc + 3) lv st I F P) : XJ sc mi pc lv (.int y :: .int x :: st) I F P := by
  intro p l e R s m args below meth c H locs cells slots Q D cI cR ad A ls C hc hW hS hl hr
  exact lv_icmp_lt C.1 C.2.1 hd ht (fun hq => kt hq p l e R s m args below meth c H locs cells slots Q D cI cR ad A ls C hc hW hS hl hr) (fun hq => kf hq p l e R s m args below meth c H locs cells slots Q D cI cR ad A ls C hc hW hS hl hr)
theorem xj_if_ge {x : Int32} {off : Int} {tgt : Nat} (hd : decode (xcode mi) pc = .ok (.ifCond .ge off, 3)) (ht : (pc : Int) + off = (tgt : Int)) (kt : 0 ≤ x → XJ sc mi tgt lv st I F P) (kf : ¬ 0 ≤ x → XJ sc mi (pc + 3) lv st I F P) : XJ sc mi pc lv (.int x :: st) I F P := by
  intro p l e R s m args below meth c H locs cells slots Q D cI cR ad A ls C hc hW hS hl hr
  exact lv_if_ge C.1 C.2.1 hd ht (fun hq => kt hq p l e R s m args below meth c H locs cells slots Q D cI cR ad A ls C hc hW hS hl hr) (fun hq => kf hq p l e R s m args below meth c H locs cells slots Q D cI cR ad A ls C hc hW hS hl hr)
theorem xj_icmp_ge {x y : Int32} {off : Int} {tgt : Nat} (hd : decode (xcode mi) pc = .ok (.if_icmp .ge off, 3)) (ht : (pc : Int) + off = (tgt : Int)) (kt : y ≤ x → XJ sc mi tgt lv st I F P) (kf : ¬ y ≤ x → XJ sc mi (pc + 3) lv st I F P) : XJ sc mi pc lv (.int y :: .int x :: st) I F P := by
  intro p l e R s m args below meth c H locs cells slots Q D cI cR ad A ls C hc hW hS hl hr
  exact lv_icmp_ge C.1 C.2.1 hd ht (fun hq => kt hq p l e R s m args below meth c H locs cells slots Q D cI cR ad A ls C hc hW hS hl hr) (fun hq => kf hq p l e R s m args below meth c H locs cells slots Q D cI cR ad A ls C hc hW hS hl hr)
theorem xj_if_gt {x : Int32} {off : Int} {tgt : Nat} (hd : decode (xcode mi) pc = .ok (.ifCond .gt off, 3)) (ht : (pc : Int) + off = (tgt : Int)) (kt : 0 < x → XJ sc mi tgt lv st I F P) (kf : ¬ 0 < x → XJ sc mi (pc + 3) lv st I F P) : XJ sc mi pc lv (.int x :: st) I F P := by
  intro p l e R s m args below meth c H locs cells slots Q D cI cR ad A ls C hc hW hS hl hr
  exact lv_if_gt C.1 C.2.1 hd ht (fun hq => kt hq p l e R s m args below meth c H locs cells slots Q D cI cR ad A ls C hc hW hS hl hr) (fun hq => kf hq p l e R s m args below meth c H locs cells slots Q D cI cR ad A ls C hc hW hS hl hr)
theorem xj_icmp_gt {x y : Int32} {off : Int} {tgt : Nat} (hd : decode (xcode mi) pc = .ok (.if_icmp .gt off, 3)) (ht : (pc : Int) + off = (tgt : Int)) (kt : y < x → XJ sc mi tgt lv st I F P) (kf : ¬ y < x → XJ sc mi (pc + 3) lv st I F P) : XJ sc mi pc lv (.int y :: .int x :: st) I F P := by
  intro p l e R s m args below meth c H locs cells slots Q D cI cR ad A ls C hc hW hS hl hr
  exact lv_icmp_gt C.1 C.2.1 hd ht (fun hq => kt hq p l e R s m args below meth c H locs cells slots Q D cI cR ad A ls C hc hW hS hl hr) (fun hq => kf hq p l e R s m args below meth c H locs cells slots Q D cI cR ad A ls C hc hW hS hl hr)
theorem xj_if_le {x : Int32} {off : Int} {tgt : Nat} (hd : decode (xcode mi) pc = .ok (.ifCond .le off, 3)) (ht : (pc : Int) + off = (tgt : Int)) (kt : x ≤ 0 → XJ sc mi tgt lv st I F P) (kf : ¬ x ≤ 0 → XJ sc mi (pc + 3) lv st I F P) : XJ sc mi pc lv (.int x :: st) I F P := by
  intro p l e R s m args below meth c H locs cells slots Q D cI cR ad A ls C hc hW hS hl hr
  exact lv_if_le C.1 C.2.1 hd ht (fun hq => kt hq p l e R s m args below meth c H locs cells slots Q D cI cR ad A ls C hc hW hS hl hr) (fun hq => kf hq p l e R s m args below meth c H locs cells slots Q D cI cR ad A ls C hc hW hS hl hr)
theorem xj_icmp_le {x y : Int32} {off : Int} {tgt : Nat} (hd : decode (xcode mi) pc = .ok (.if_icmp .le off, 3)) (ht : (pc : Int) + off = (tgt : Int)) (kt : x ≤ y → XJ sc mi tgt lv st I F P) (kf : ¬ x ≤ y → XJ sc mi (pc + 3) lv st I F P) : XJ sc mi pc lv (.int y :: .int x :: st) I F P := by
  intro p l e R s m args below meth c H locs cells slots Q D cI cR ad A ls C hc hW hS hl hr
  exact lv_icmp_le C.1 C.2.1 hd ht (fun hq => kt hq p l e R s m args below meth c H locs cells slots Q D cI cR ad A ls C hc hW hS hl hr) (fun hq => kf hq p l e R s m args below meth c H locs cells slots Q D cI cR ad A ls C hc hW hS hl hr)
theorem xj_ifnull {x : Nat} {off : Int} (hd : decode (xcode mi) pc = .ok (.ifnull off, 3)) (k : XJ sc mi (pc + 3) lv st I F P) : XJ sc mi pc lv (.ref x :: st) I F P := by
  intro p l e R s m args below meth c H locs cells slots Q D cI cR ad A ls C hc hW hS hl hr
  exact lv_ifnull C.1 C.2.1 hd (k p l e R s m args below meth c H locs cells slots Q D cI cR ad A ls C hc hW hS hl hr)
theorem xj_ifnullN {off : Int} {tgt : Nat} (hd : decode (xcode mi) pc = .ok (.ifnull off, 3)) (ht : (pc : Int) + off = (tgt : Int)) (k : XJ sc mi tgt lv st I F P) : XJ sc mi pc lv (.null :: st) I F P := by
  intro p l e R s m args below meth c H locs cells slots Q D cI cR ad A ls C hc hW hS hl hr
  exact lv_ifnullN C.1 C.2.1 hd ht (k p l e R s m args below meth c H locs cells slots Q D cI cR ad A ls C hc hW hS hl hr)
theorem xj_ifnonnull {x : Nat} {off : Int} {tgt : Nat} (hd : decode (xcode mi) pc = .ok (.ifnonnull off, 3)) (ht : (pc : Int) + off = (tgt : Int)) (k : XJ sc mi tgt lv st I F P) : XJ sc mi pc lv (.ref x :: st) I F P := by
  intro p l e R s m args below meth c H locs cells slots Q D cI cR ad A ls C hc hW hS hl hr
  exact lv_ifnonnull C.1 C.2.1 hd ht (k p l e R s m args below meth c H locs cells slots Q D cI cR ad A ls C hc hW hS hl hr)
theorem xj_ifnonnullN {off : Int} (hd : decode (xcode mi) pc = .ok (.ifnonnull off, 3)) (k : XJ sc mi (pc + 3) lv st I F P) : XJ sc mi pc lv (.null :: st) I F P := by
  intro p l e R s m args below meth c H locs cells slots Q D cI cR ad A ls C hc hW hS hl hr
  exact lv_ifnonnullN C.1 C.2.1 hd (k p l e R s m args below meth c H locs cells slots Q D cI cR ad A ls C hc hW hS hl hr)
theorem xj_tableOut {dflt lo hi : Int} {offs : Array Int} {len : Nat} {x : Int32} {tgt : Nat} (hd : decode (xcode mi) pc = .ok (.tableswitch dflt lo hi offs, len)) (h : x.toInt < lo ∨ hi < x.toInt) (ht : (pc : Int) + dflt = (tgt : Int)) (k : XJ sc mi tgt lv st I F P) : XJ sc mi pc lv (.int x :: st) I F P := by
  intro p l e R s m args below meth c H locs cells slots Q D cI cR ad A ls C hc hW hS hl hr
  exact lv_tableOut C.1 C.2.1 hd h ht (k p l e R s m args below meth c H locs cells slots Q D cI cR ad A ls C hc hW hS hl hr)
theorem xj_tableIn {dflt lo hi : Int} {offs : Array Int} {len : Nat} {x : Int32} {off : Int} {tgt : Nat} (hd : decode (xcode mi) pc = .ok (.tableswitch dflt lo hi offs, len)) (h1 : ¬ x.toInt < lo) (h2 : ¬ hi < x.toInt) (ho : offs[(x.toInt - lo).toNat]? = some off) (ht : (pc : Int) + off = (tgt : Int)) (k : XJ sc mi tgt lv st I F P) : XJ sc mi pc lv (.int x :: st) I F P := by
  intro p l e R s m args below meth c H locs cells slots Q D cI cR ad A ls C hc hW hS hl hr
  exact lv_tableIn C.1 C.2.1 hd h1 h2 ho ht (k p l e R s m args below meth c H locs cells slots Q D cI cR ad A ls C hc hW hS hl hr)
/-- a field's link: class ci of vwCl, its slot -/
def XFl (own : String) (idx ci slot : Nat) : Prop := ∃ (C : String) (T : u_T) (N : Nat), vwCl[ci]? = some (C, T, N) ∧ slot < N ∧ Cond.fieldLink own idx (T slot).1 (T slot).2.1 (T slot).2.2.1 ∈ xtb
def XFp (ci slot : Nat) : Prop := ∃ (C : String) (T : u_T) (N : Nat), vwCl[ci]? = some (C, T, N) ∧ (T slot).2.2.2 = false ∧ parseFieldDescriptor (T slot).2.2.1 = some .int
theorem xj_getI {idx ci slot k0 x : Nat} {fl : List (Nat ⊕ Nat)} (hd : decode (xcode mi) pc = .ok (.getfield idx, 3)) (hk : XFl (xown mi) idx ci slot) (hs : xshp[k0]? = some (.inr (.inr (ci, fl)))) (hf : fl[slot]? = some (.inr x)) (k : XJ sc mi (pc + 3) lv (.int (I x) :: st) I F P) : XJ sc mi pc lv (.ref k0 :: st) I F P := by
  intro p l e R s m args below meth c H locs cells slots Q D cI cR ad A ls C hc hW hS hl hr
  obtain ⟨cn, T, N, h1, h2, h3⟩ := hk
  have he := xw_at (cI := cI) (cR := cR) (ad := ad) (I := I) (F := F) hs
  refine va_get (D := D) (v := .int (I x)) (C := cn) (T := T) (N := N) C.1 C.2.1 C.2.2.2.2.1 (xcls_in h1) C.2.2.2.1 hW.1 hW.2.1 k0 he h1 slot h2 (C.2.2.2.2.1 _ h3) (fun _ h9 => h9) ?_ hd (k p l e R s m args below meth c H locs cells slots Q D cI cR ad A ls C hc hW hS hl hr)
  show (fl.map (xfv ad I))[slot]? = _
  rw [List.getElem?_map, hf]
  rfl
theorem xj_getR {idx ci slot k0 x : Nat} {fl : List (Nat ⊕ Nat)} (hd : decode (xcode mi) pc = .ok (.getfield idx, 3)) (hk : XFl (xown mi) idx ci slot) (hs : xshp[k0]? = some (.inr (.inr (ci, fl)))) (hf : fl[slot]? = some (.inl x)) (k : XJ sc mi (pc + 3) lv (.ref x :: st) I F P) : XJ sc mi pc lv (.ref k0 :: st) I F P := by
  intro p l e R s m args below meth c H locs cells slots Q D cI cR ad A ls C hc hW hS hl hr
  obtain ⟨cn, T, N, h1, h2, h3⟩ := hk
  have he := xw_at (cI := cI) (cR := cR) (ad := ad) (I := I) (F := F) hs
  refine va_get (D := D) (v := .ref (ad x)) (C := cn) (T := T) (N := N) C.1 C.2.1 C.2.2.2.2.1 (xcls_in h1) C.2.2.2.1 hW.1 hW.2.1 k0 he h1 slot h2 (C.2.2.2.2.1 _ h3) (fun _ h9 => h9) ?_ hd (k p l e R s m args below meth c H locs cells slots Q D cI cR ad A ls C hc hW hS hl hr)
  show (fl.map (xfv ad I))[slot]? = _
  rw [List.getElem?_map, hf]
  rfl
theorem xj_putI {idx ci slot k0 x : Nat} {v : Int32} {fl : List (Nat ⊕ Nat)} (hd : decode (xcode mi) pc = .ok (.putfield idx, 3)) (hk : XFl (xown mi) idx ci slot) (hp : XFp ci slot) (hs : xshp[k0]? = some (.inr (.inr (ci, fl)))) (hf : fl[slot]? = some (.inr x)) (k : XJ sc mi (pc + 3) lv st (upd I x v) F P) : XJ sc mi pc lv (.int v :: .ref k0 :: st) I F P := by
  intro p l e R s m args below meth c H locs cells slots Q D cI cR ad A ls C hc hW hS hl hr
  obtain ⟨cn, T, N, h1, h2, h3⟩ := hk
  obtain ⟨cn', T', N', g1, g2, g3⟩ := hp
  rw [h1] at g1
  cases g1
  have he := xw_at (cI := cI) (cR := cR) (ad := ad) (I := I) (F := F) hs
  obtain ⟨ty0, t1, t2⟩ := xcls_ty h1
  have hl0 : slot < (fl.map (xfv ad I)).length := by rw [List.length_map]; exact (List.getElem?_eq_some_iff.mp hf).1
  refine va_put (D := D) (v := .int v) (ty := .int) (C := cn) (T := T) (N := N) C.1 C.2.1 C.2.2.2.2.1 (xcls_in h1) ty0 t1 t2 C.2.2.2.1 hW.1 hW.2.1 hW.2.2 hS k0 he h1 slot h2 (C.2.2.2.2.1 _ h3) (fun _ h9 => h9) g2 g3 rfl rfl hl0 hd (fun H1 locs1 hP1 hD1 hS1 => ?_)
  have e1 := xw_setI (cI := cI) (cR := cR) (ad := ad) (I := I) (F := F) (v := v) hs hf
  rw [show ((ci, fl) : Nat × List (Nat ⊕ Nat)).1 = ci from rfl, show ((ci, fl) : Nat × List (Nat ⊕ Nat)).2 = fl from rfl] at e1
  rw [e1] at hP1 hD1
  exact k p l e R s m args below meth c H1 locs1 cells slots Q D cI cR ad A ls C hc ⟨hW.1, hP1, hD1⟩ hS1 hl hr
theorem xj_iald {k0 n x j : Nat} {i : Int32} (hd : decode (xcode mi) pc = .ok (.iaload, 1)) (hs : xshp[k0]? = some (.inl (n, x))) (hi : i = nI j) (hj : j < n) (hn : n < 2147483648) (k : XJ sc mi (pc + 1) lv (.int (F x j) :: st) I F P) : XJ sc mi pc lv (.int i :: .ref k0 :: st) I F P := by
  intro p l e R s m args below meth c H locs cells slots Q D cI cR ad A ls C hc hW hS hl hr
  subst hi
  have hcl : (nI j).toNatClampNeg = j := nI_clamp (by omega)
  refine va_iald C.1 C.2.1 hW.1 hW.2.1 k0 0 (xw_at (cI := cI) (cR := cR) (ad := ad) (I := I) (F := F) hs) rfl (vp_in_nI hj (by omega)) hd ?_
  rw [hcl]
  exact k p l e R s m args below meth c H locs cells slots Q D cI cR ad A ls C hc hW hS hl hr
theorem xj_iast {k0 n x j : Nat} {i v : Int32} (hd : decode (xcode mi) pc = .ok (.iastore, 1)) (hs : xshp[k0]? = some (.inl (n, x))) (hi : i = nI j) (hj : j < n) (hn : n < 2147483648) (k : XJ sc mi (pc + 1) lv st I (va_up F x (upd (F x) j v)) P) : XJ sc mi pc lv (.int v :: .int i :: .ref k0 :: st) I F P := by
  intro p l e R s m args below meth c H locs cells slots Q D cI cR ad A ls C hc hW hS hl hr
  subst hi
  have hcl : (nI j).toNatClampNeg = j := nI_clamp (by omega)
  refine va_iast C.1 C.2.1 hW.1 hW.2.1 hW.2.2 hS k0 0 (xw_at (cI := cI) (cR := cR) (ad := ad) (I := I) (F := F) hs) rfl (vp_in_nI hj (by omega)) hd (fun H1 locs1 hP1 hD1 hS1 => ?_)
  rw [hcl] at hP1 hD1
  have e1 := xw_setF (cI := cI) (cR := cR) (ad := ad) (I := I) (F := F) (f := upd (F x) j v) hs
  rw [show ((n, x) : Nat × Nat).1 = n from rfl, show ((n, x) : Nat × Nat).2 = x from rfl] at e1
  rw [show (n, x).1 = n from rfl, show (n, x).2 = x from rfl, e1] at hP1 hD1
  exact k p l e R s m args below meth c H1 locs1 cells slots Q D cI cR ad A ls C hc ⟨hW.1, hP1, hD1⟩ hS1 hl hr
theorem xj_alen {k0 : Nat} {q : Nat × Nat} {v : Int32} (hd : decode (xcode mi) pc = .ok (.arraylength, 1)) (hs : xshp[k0]? = some (.inl q)) (hv : Int32.ofNat q.1 = v) (k : XJ sc mi (pc + 1) lv (.int v :: st) I F P) : XJ sc mi pc lv (.ref k0 :: st) I F P := by
  intro p l e R s m args below meth c H locs cells slots Q D cI cR ad A ls C hc hW hS hl hr
  exact va_alen C.1 C.2.1 hW.1 hW.2.1 k0 0 (xw_at (cI := cI) (cR := cR) (ad := ad) (I := I) (F := F) hs) rfl hv hd (k p l e R s m args below meth c H locs cells slots Q D cI cR ad A ls C hc hW hS hl hr)
theorem xj_aald {k0 j x : Nat} {l0 : List Nat} {i : Int32} (hd : decode (xcode mi) pc = .ok (.aaload, 1)) (hs : xshp[k0]? = some (.inr (.inl l0))) (hi : i = nI j) (hx : l0[j]? = some x) (hn : l0.length < 2147483648) (k : XJ sc mi (pc + 1) lv (.ref x :: st) I F P) : XJ sc mi pc lv (.int i :: .ref k0 :: st) I F P := by
  intro p l e R s m args below meth c H locs cells slots Q D cI cR ad A ls C hc hW hS hl hr
  subst hi
  have hj : j < l0.length := (List.getElem?_eq_some_iff.mp hx).1
  have hcl : (nI j).toNatClampNeg = j := nI_clamp (by omega)
  refine va_aldq C.1 C.2.1 hW.1 hW.2.1 k0 1 (xw_at (cI := cI) (cR := cR) (ad := ad) (I := I) (F := F) hs) rfl (vp_in_nI hj (by omega)) hd ?_
  rw [hcl, hx]
  exact k p l e R s m args below meth c H locs cells slots Q D cI cR ad A ls C hc hW hS hl hr
theorem xj_sld {L j : Nat} {xs : Nat → Int32} {i : Int32} (hd : decode (xcode mi) pc = .ok (.iaload, 1)) (hi : i = nI j) (hj : j < L) (hn : L < 2147483648) (k : XJ (some (L, xs)) mi (pc + 1) lv (.int (xs j) :: st) I F P) : XJ (some (L, xs)) mi pc lv (.int i :: .ref 44 :: st) I F P := by
  intro p l e R s m args below meth c H locs cells slots Q D cI cR ad A ls C hc hW hS hl hr
  subst hi
  have hcl : (nI j).toNatClampNeg = j := nI_clamp (by omega)
  obtain ⟨x1, x2, x3⟩ := hc L xs rfl
  refine va_sld C.1 C.2.1 x1 x2 x3 hS (vp_in_nI hj (by omega)) hd ?_
  rw [hcl]
  exact k p l e R s m args below meth c H locs cells slots Q D cI cR ad A ls C hc hW hS hl hr
theorem xj_slen {L : Nat} {xs : Nat → Int32} (hd : decode (xcode mi) pc = .ok (.arraylength, 1)) (k : XJ (some (L, xs)) mi (pc + 1) lv (.int (nI L) :: st) I F P) : XJ (some (L, xs)) mi pc lv (.ref 44 :: st) I F P := by
  intro p l e R s m args below meth c H locs cells slots Q D cI cR ad A ls C hc hW hS hl hr
  obtain ⟨x1, x2, x3⟩ := hc L xs rfl
  exact va_slen C.1 C.2.1 x1 x2 x3 hS hd (k p l e R s m args below meth c H locs cells slots Q D cI cR ad A ls C hc hW hS hl hr)
def XMt_mmax (own : String) (idx : Nat) : Prop := Cond.methodLink own idx Lib.Math.max.name ∈ xtb ∧ Cond.static Lib.Math.max.name ∈ xtb ∧ Cond.initialized "java/lang/Math" ∈ xtb ∧ Cond.code Lib.Math.max.name Lib.Math.max.code 2 (some .int) ∈ xtb
theorem xj_mmax {idx : Nat} {x y : Int32} (hd : decode (xcode mi) pc = .ok (.invokestatic idx, 3)) (hk : XMt_mmax (xown mi) idx) (hf : 1 ≤ xfr mi) (hlo : (st.map fun v => v.category).sum + 15 ≤ xloc mi) (k : XJ sc mi (pc + 3) lv (.int (if x < y then y else x) :: st) I F P) : XJ sc mi pc lv (.int y :: .int x :: st) I F P := by
  intro p l e R s m args below meth c H locs cells slots Q D cI cR ad A ls C hc hW hS hl hr
  obtain ⟨h1, h2, h3, h4⟩ := hk
  have hts := C.2.2.2.2.1
  have hsum : ((st.map (xtv ad)).map fun v => v.category).sum = (st.map fun v => v.category).sum := by rw [List.map_map]; congr 1; apply List.map_congr_left; intro v _; exact xtv_cat ad v
  exact va_mmax C.1 C.2.1 (C.2.2.1.trans hl.1.symm) C.2.2.2.1 (hts _ h1) (hts _ h2) (hts _ h3) (hts _ h4) (Nat.le_trans hf C.2.2.2.2.2.1) (by rw [hsum]; have := C.2.2.2.2.2.2.1; omega) C.2.2.2.2.2.2.2.1 C.2.2.2.2.2.2.2.2 hd (k p l e R s m args below meth c H locs cells slots Q D cI cR ad A ls C hc hW hS hl hr)
def XMt_mmin (own : String) (idx : Nat) : Prop := Cond.methodLink own idx Lib.Math.min.name ∈ xtb ∧ Cond.static Lib.Math.min.name ∈ xtb ∧ Cond.initialized "java/lang/Math" ∈ xtb ∧ Cond.code Lib.Math.min.name Lib.Math.min.code 2 (some .int) ∈ xtb
theorem xj_mmin {idx : Nat} {x y : Int32} (hd : decode (xcode mi) pc = .ok (.invokestatic idx, 3)) (hk : XMt_mmin (xown mi) idx) (hf : 1 ≤ xfr mi) (hlo : (st.map fun v => v.category).sum + 15 ≤ xloc mi) (k : XJ sc mi (pc + 3) lv (.int (if y < x then y else x) :: st) I F P) : XJ sc mi pc lv (.int y :: .int x :: st) I F P := by
  intro p l e R s m args below meth c H locs cells slots Q D cI cR ad A ls C hc hW hS hl hr
  obtain ⟨h1, h2, h3, h4⟩ := hk
  have hts := C.2.2.2.2.1
  have hsum : ((st.map (xtv ad)).map fun v => v.category).sum = (st.map fun v => v.category).sum := by rw [List.map_map]; congr 1; apply List.map_congr_left; intro v _; exact xtv_cat ad v
  exact va_mmin C.1 C.2.1 (C.2.2.1.trans hl.1.symm) C.2.2.2.1 (hts _ h1) (hts _ h2) (hts _ h3) (hts _ h4) (Nat.le_trans hf C.2.2.2.2.2.1) (by rw [hsum]; have := C.2.2.2.2.2.2.1; omega) C.2.2.2.2.2.2.2.1 C.2.2.2.2.2.2.2.2 hd (k p l e R s m args below meth c H locs cells slots Q D cI cR ad A ls C hc hW hS hl hr)
def XMt_lmax (own : String) (idx : Nat) : Prop := Cond.methodLink own idx Lib.MathLoose.max_long.x ∈ xtb ∧ Cond.static Lib.MathLoose.max_long.x ∈ xtb ∧ Cond.initialized "java/lang/Math" ∈ xtb ∧ Cond.code Lib.MathLoose.max_long.x Lib.MathLoose.max_long.code 4 (some .long) ∈ xtb
theorem xj_lmax {idx : Nat} {x y : Int64} (hd : decode (xcode mi) pc = .ok (.invokestatic idx, 3)) (hk : XMt_lmax (xown mi) idx) (hf : 1 ≤ xfr mi) (hlo : (st.map fun v => v.category).sum + 15 ≤ xloc mi) (k : XJ sc mi (pc + 3) lv (.long (if y < x then x else y) :: st) I F P) : XJ sc mi pc lv (.long y :: .long x :: st) I F P := by
  intro p l e R s m args below meth c H locs cells slots Q D cI cR ad A ls C hc hW hS hl hr
  obtain ⟨h1, h2, h3, h4⟩ := hk
  have hts := C.2.2.2.2.1
  have hsum : ((st.map (xtv ad)).map fun v => v.category).sum = (st.map fun v => v.category).sum := by rw [List.map_map]; congr 1; apply List.map_congr_left; intro v _; exact xtv_cat ad v
  exact va_mmax_long C.1 C.2.1 (C.2.2.1.trans hl.1.symm) C.2.2.2.1 (hts _ h1) (hts _ h2) (hts _ h3) (hts _ h4) (Nat.le_trans hf C.2.2.2.2.2.1) (by rw [hsum]; have := C.2.2.2.2.2.2.1; omega) C.2.2.2.2.2.2.2.1 C.2.2.2.2.2.2.2.2 hd (k p l e R s m args below meth c H locs cells slots Q D cI cR ad A ls C hc hW hS hl hr)
def XMt_lmin (own : String) (idx : Nat) : Prop := Cond.methodLink own idx Lib.MathLoose.min_long.x ∈ xtb ∧ Cond.static Lib.MathLoose.min_long.x ∈ xtb ∧ Cond.initialized "java/lang/Math" ∈ xtb ∧ Cond.code Lib.MathLoose.min_long.x Lib.MathLoose.min_long.code 4 (some .long) ∈ xtb
theorem xj_lmin {idx : Nat} {x y : Int64} (hd : decode (xcode mi) pc = .ok (.invokestatic idx, 3)) (hk : XMt_lmin (xown mi) idx) (hf : 1 ≤ xfr mi) (hlo : (st.map fun v => v.category).sum + 15 ≤ xloc mi) (k : XJ sc mi (pc + 3) lv (.long (if y < x then y else x) :: st) I F P) : XJ sc mi pc lv (.long y :: .long x :: st) I F P := by
  intro p l e R s m args below meth c H locs cells slots Q D cI cR ad A ls C hc hW hS hl hr
  obtain ⟨h1, h2, h3, h4⟩ := hk
  have hts := C.2.2.2.2.1
  have hsum : ((st.map (xtv ad)).map fun v => v.category).sum = (st.map fun v => v.category).sum := by rw [List.map_map]; congr 1; apply List.map_congr_left; intro v _; exact xtv_cat ad v
  exact va_mmin_long C.1 C.2.1 (C.2.2.1.trans hl.1.symm) C.2.2.2.1 (hts _ h1) (hts _ h2) (hts _ h3) (hts _ h4) (Nat.le_trans hf C.2.2.2.2.2.1) (by rw [hsum]; have := C.2.2.2.2.2.2.1; omega) C.2.2.2.2.2.2.2.1 C.2.2.2.2.2.2.2.2 hd (k p l e R s m args below meth c H locs cells slots Q D cI cR ad A ls C hc hW hS hl hr)

end XROWS
/-! contracts -/
def xws (mi : XMi) : List Cond := Cond.code (xy mi) (xcode mi) (xmaxL mi) (xret mi) :: xtb
def xrm (mi : XMi) : Room := { frames := xfr mi, cells := 0, slots := 0, locals := xloc mi }
def xQ (D : va_G) (cI cR : ClassId) (ad : Nat → Nat) (P : XP) : Array Value → State → Outcome → State → Prop := fun _ st oc t => (∃ (rv : Option Value) (I1 : XI) (F1 : XF), oc = .returned (rv.map (xtv ad)) ∧ P rv I1 F1 ∧ XWd D cI cR ad (xA ad) I1 F1 t t.heap) ∧ va_F (xA ad) st t
def XM (mi : XMi) (as : List Value) (I : XI) (F : XF) (P : XP) : Prop :=
  ∀ (l : Launch) (D : va_G) (cI cR : ClassId) (ad : Nat → Nat),
    Met l (xy mi) (xws mi) (xrm mi) (va_Pc (as.map (xtv ad)) (fun U => XWd D cI cR ad (fun _ => True) I F U U.heap)) (xQ D cI cR ad P) 0 0 (xA ad)
def xargs : List Value → List (Option Value)
  | [] => []
  | .long v :: vs => some (.long v) :: none :: xargs vs
  | .double v :: vs => some (.double v) :: none :: xargs vs
  | v :: vs => some v :: xargs vs
theorem xargs_in (ad : Nat → Nat) : ∀ (as : List Value) (o i : Nat) (v : Value), (xargs as)[i]? = some (some v) → (o + i, xtv ad v) ∈ lv_args o (as.map (xtv ad))
  | [], o, i, v, h => by simp [xargs] at h
  | a :: as, o, i, v, h => by
    have two : a.category = 2 → xargs (a :: as) = some a :: none :: xargs as := by cases a <;> simp [Value.category, xargs]
    have one : ¬ a.category = 2 → xargs (a :: as) = some a :: xargs as := by cases a <;> simp [Value.category, xargs]
    simp only [List.map_cons, lv_args, xtv_cat]
    by_cases hc : a.category = 2
    · rw [two hc] at h
      rw [if_pos hc]
      match i, h with
      | 0, h => simp at h; subst h; exact List.mem_cons_self
      | 1, h => simp at h
      | i + 2, h =>
        rw [List.getElem?_cons_succ, List.getElem?_cons_succ] at h
        have := xargs_in ad as (o + 2) i v h
        rw [show o + 2 + i = o + (i + 2) by omega] at this
        exact List.mem_cons_of_mem _ this
    · rw [one hc] at h
      rw [if_neg hc]
      match i, h with
      | 0, h => simp at h; subst h; exact List.mem_cons_self
      | i + 1, h =>
        rw [List.getElem?_cons_succ] at h
        have := xargs_in ad as (o + 1) i v h
        rw [show o + 1 + i = o + (i + 1) by omega] at this
        exact List.mem_cons_of_mem _ this
theorem xsl_len (ad : Nat → Nat) (as : List Value) : (lg_sl (as.map (xtv ad))).length = (lg_sl as).length := by
  induction as with
  | nil => rfl
  | cons a as ih =>
    simp only [lg_sl, List.map_cons, List.flatMap_cons, List.length_append, xtv_cat] at ih ⊢
    rw [ih]
    by_cases hc : a.category = 2 <;> simp [hc]
set_option maxRecDepth 100000 in
theorem XM.of {mi : XMi} {as : List Value} {I : XI} {F : XF} {P : XP} (hpl : plainName (xy mi).cls = true) (hk : (lg_sl as).length ≤ xmaxL mi) (h : XJ none mi 0 (xargs as) [] I F P) : XM mi as I F P := by
  intro l D cI cR ad
  refine Met.ofW (cc := xcode mi) (maxL := xmaxL mi) (ret := xret mi) hpl rfl ?_
  intro p e s m args below meth c s₁ B hml hv
  obtain ⟨rfl, hW⟩ := hv
  have hts := atoms_spec (ws := xws mi) B.pre
  have hr := B.returns
  have hlocks := B.notSynchronized
  have hl := lv_entry (as.map (xtv ad)) (n := xmaxL mi) (by rw [xsl_len]; exact hk)
  rw [lg_entry_eq]
  generalize (lg_sl (as.map (xtv ad)) ++ List.replicate (xmaxL mi - (lg_sl (as.map (xtv ad))).length) Slot.unset).toArray = ls at hl ⊢
  refine h p l e _ s m _ below meth c s.heap [] 0 0 _ D cI cR ad (xA ad) ls ⟨B.exec, B.bytes, hml, findClass_of_methodNamed B.named, fun w hw => hts w (List.mem_cons_of_mem _ hw), Nat.le_refl _, Nat.le_refl _, Nat.zero_le _, Nat.zero_le _⟩ (fun _ _ h => by cases h) ⟨hW.1, hW.2.1, hW.2.2.1, fun k q hq => ?_⟩ va_S.rf ⟨hl.1, hl.2.1, fun i v hv => ?_⟩ ?_
  · obtain ⟨h1, d, h2, h3⟩ := xw_has hq
    exact ⟨k, h1, by rw [h3]⟩
  · have := xargs_in ad as 0 i v hv
    rw [Nat.zero_add] at this
    exact hl.2.2 _ this
  · intro H1 locs1 ls1 pc1 rv I1 F1 hp hret hW1 hS1
    match rv, hp, hret with
    | none, hp, ⟨hd, hn⟩ =>
      exact W.vret B.exec B.bytes (hr.trans hn) (fun t ht hWm => ⟨⟨none, I1, F1, rfl, hp, va_K.moved hWm.alike hW1.1, by rw [ht]; exact hW1.2.1, hW1.2.2⟩, hS1.F ht⟩) hS1.2.2 hd
    | some (.int v), hp, ⟨hd, ty, hn, hv⟩ =>
      exact W.zret (v := v) (ty := ty) B.exec B.bytes (hr.trans hn) hv (fun t ht hWm => ⟨⟨some (.int v), I1, F1, rfl, hp, va_K.moved hWm.alike hW1.1, by rw [ht]; exact hW1.2.1, hW1.2.2⟩, hS1.F ht⟩) hS1.2.2 hd
    | some (.ref k), hp, ⟨hd, n, hn⟩ =>
      exact W.aret (v := .ref (ad k)) (rt := .object n) B.exec B.bytes (hr.trans hn) (Or.inl ⟨_, rfl⟩) (Or.inr ⟨_, rfl⟩) (fun t ht hWm => ⟨⟨some (.ref k), I1, F1, rfl, hp, va_K.moved hWm.alike hW1.1, by rw [ht]; exact hW1.2.1, hW1.2.2⟩, hS1.F ht⟩) hS1.2.2 hd
    | some .null, hp, ⟨hd, n, hn⟩ =>
      exact W.aret (v := .null) (rt := .object n) B.exec B.bytes (hr.trans hn) (Or.inl ⟨_, rfl⟩) (Or.inl rfl) (fun t ht hWm => ⟨⟨some .null, I1, F1, rfl, hp, va_K.moved hWm.alike hW1.1, by rw [ht]; exact hW1.2.1, hW1.2.2⟩, hS1.F ht⟩) hS1.2.2 hd
    | some (.long v), hp, h => exact h.elim
    | some (.float v), hp, h => exact h.elim
    | some (.double v), hp, h => exact h.elim
    | some (.retAddr v), hp, h => exact h.elim
theorem XM.post {mi : XMi} {as : List Value} {I : XI} {F : XF} {P P1 : XP} (h : XM mi as I F P1) (hp : ∀ rv I1 F1, P1 rv I1 F1 → P rv I1 F1) : XM mi as I F P := by
  intro l D cI cR ad
  refine (fun hM => ?_) (h l D cI cR ad)
  intro p e ha hc hk s m args below hf hap hP hK
  obtain ⟨t, o, h1, h2, h3, ⟨⟨⟨rv, I1, F1, h4, h5, h6⟩, h7⟩, h8⟩⟩ := hM p e ha hc hk s m args below hf hap hP hK
  exact ⟨t, o, h1, h2, h3, ⟨⟨⟨rv, I1, F1, h4, hp rv I1 F1 h5, h6⟩, h7⟩, h8⟩⟩
section XCALL
variable {p : Program} {l : Launch} {e : Env} {R : Room} {s : State} {m : MethodId} {args : Array Value} {below : List Frame} {meth : Method} {c : Code} {H : Heap} {locs : List Loc} {cells slots : Nat} {Q : State → Prop}
theorem x_goes {D : va_G} {cI cR : ClassId} {ad : Nat → Nat} {A : Nat → Prop} {P1 : XP} {a : Array Value} {pc : Nat} {ls : Array Slot} {rest st0 : List Value} (hr : va_Run p l e R s m args below meth c H locs cells slots 0 0 (F0 m pc ls st0) rest (xQ D cI cR ad P1 a) (xA ad)) (hS : va_S A s.heap H locs) (hA : ∀ q, xA ad q → A q)
    (kk : ∀ (rv : Option Value) (I1 : XI) (F1 : XF) (H1 : Heap) (locs1 : List Loc), P1 rv I1 F1 → XWd D cI cR ad A I1 F1 s H1 → va_S A s.heap H1 locs1 → W p l e R s m args below meth c H1 locs1 cells slots Q (F0 m (pc + 3) ls ((rv.map (xtv ad)).toList ++ rest))) : W p l e R s m args below meth c H locs cells slots Q (F0 m pc ls st0) := by
  intro T hT X
  obtain ⟨v, st₀, t, T', L, h0, X', hL, e1, e2, ⟨⟨rv, I1, F1, hv, hp, hw⟩, hz, hk⟩, st⟩ := hr T hT X
  have hv' : v = rv.map (xtv ad) := by injection hv
  subst hv'
  rw [h0] at hz hk
  have hal : s.vm.Alike t.vm := by rw [← e2]; exact X'.warmed.alike
  obtain ⟨t2, a1, b1⟩ := kk rv I1 F1 T'.heap (locs ++ L) hp ⟨va_K.moved hal.symm hw.1, by rw [e1]; exact hw.2.1, hw.2.2.weaken (fun _ q _ h => hA _ h)⟩
    ⟨Nat.le_trans hS.1 (by rw [e1]; exact hz), fun q h1 h2 => by rw [e1, hk q (Nat.lt_of_lt_of_le h1 hS.1) (fun z => h2 (hA q z))]; exact hS.2.1 q h1 h2, fun q hq => by
      rcases List.mem_append.mp hq with h | h
      · exact hS.2.2 q h
      · exact hA _ (hL q h)⟩ T' rfl X'
  exact ⟨t2, st t2 a1, b1⟩
end XCALL
/-- what the tables say of a method that is called -/
def XMo (mj : XMi) (n : Nat) : Prop := (xy mj).cls ≠ "java/lang/invoke/MethodHandle" ∧ (xy mj).cls ≠ "java/lang/invoke/VarHandle" ∧ (parseMethodDescriptor (xy mj).desc).map (fun d => d.parameters.length) = some n
def XMv (mj : XMi) (n : Nat) : Prop := XMo mj n ∧ Cond.code (xy mj) (xcode mj) (xmaxL mj) (xret mj) ∈ xtb ∧ Cond.initialized (xy mj).cls ∈ xtb ∧ Cond.instanceMethod (xy mj) ∈ xtb ∧ Cond.selects (xy mj).cls (xy mj) (xy mj) ∈ xtb
def XMs (mj : XMi) (n : Nat) : Prop := XMo mj n ∧ Cond.code (xy mj) (xcode mj) (xmaxL mj) (xret mj) ∈ xtb ∧ Cond.initialized (xy mj).cls ∈ xtb ∧ Cond.static (xy mj) ∈ xtb
theorem xtb_good {w : Cond} (h : w ∈ xtb) : (w.onTables && w.keeps) = true := (List.mem_filter.mp h).2
theorem xsum (ad : Nat → Nat) (st : List Value) : ((st.map (xtv ad)).map fun v => v.category).sum = (st.map fun v => v.category).sum := by
  rw [List.map_map]; congr 1; apply List.map_congr_left; intro v _; exact xtv_cat ad v
theorem xblind (D : va_G) (cI cR : ClassId) (ad : Nat → Nat) (I : XI) (F : XF) (av : List Value) : FrameBlind (va_Pc av (fun U => XWd D cI cR ad (fun _ => True) I F U U.heap)) :=
  fun a U g mk q => ⟨q.1, va_K.moved (u := U) (U := U.calling g mk a) (Vm.Alike.refl U.vm) q.2.1, q.2.2⟩
section XROWS2
variable {sc : Option (Nat × (Nat → Int32))} {mi : XMi} {pc : Nat} {lv lv1 : List (Option Value)} {st : List Value} {I : XI} {F : XF} {P : XP}
set_option maxRecDepth 100000 in
theorem xj_callV {mj : XMi} {idx b ci n : Nat} {fl : List (Nat ⊕ Nat)} {q : vw_C} {as rest : List Value} {P1 : XP} (hd : decode (xcode mi) pc = .ok (.invokevirtual idx, 3)) (hk : Cond.methodLink (xown mi) idx (xy mj) ∈ xtb) (ho : XMv mj n) (hM : XM mj (.ref b :: as) I F P1) (hst : st = as.reverse ++ .ref b :: rest) (hn : as.length = n) (hb : xshp[b]? = some (.inr (.inr (ci, fl)))) (hq : vwCl[ci]? = some q) (hq1 : q.1 = (xy mj).cls) (hw : (rest.map fun v => v.category).sum ≤ 8) (hr0 : xfr mj + 1 ≤ xfr mi ∧ 8 + (xmaxL mj + 11) + xloc mj ≤ xloc mi)
    (kk : ∀ (rv : Option Value) (I1 : XI) (F1 : XF), P1 rv I1 F1 → XJ sc mi (pc + 3) lv (rv.toList ++ rest) I1 F1 P) : XJ sc mi pc lv st I F P := by
  subst hst
  intro p l e R s m args below meth c H locs cells slots Q D cI cR ad A ls C hc hW hS hl hr
  obtain ⟨hx, hb0, hml, hown, hts, hfr, hlo, hce, hsl⟩ := id C
  obtain ⟨⟨o1, o2, o3⟩, o4, o5, o6, o7⟩ := ho
  have hgood : GoodIn xtb (wsV (xown mi) idx (xy mj).cls (xy mj) (xws mj)) := by
    intro w hw0
    have : w ∈ xtb := by
      simp only [wsV, xws, List.mem_append, List.mem_cons, List.not_mem_nil, or_false] at hw0
      rcases hw0 with (rfl | rfl | rfl | rfl) | (rfl | h)
      · exact hk
      · exact o6
      · exact o7
      · exact o5
      · exact o4
      · exact h
    exact ⟨this, Or.inl (xtb_good this)⟩
  have cw : CallW R s args (xown mi) (xy mj).cls idx (xy mj) (xcode mj) (xmaxL mj) (xret mj) (xws mj) (xrm mj) 0 0 n := cwV n hts hgood rfl rfl rfl ⟨rfl, o1, o2, o3⟩ ⟨Nat.le_trans hr0.1 hfr, Nat.le_trans hr0.2 hlo⟩
  have hrec := va_recv hW.1 hW.2.1 hq (xw_at (cI := cI) (cR := cR) (ad := ad) (I := I) (F := F) hb)
  rw [hq1] at hrec
  have hrun := va_runV (p := p) (l := l) (e := e) (below := below) (meth := meth) (locs := locs) (cells := cells) (slots := slots) (g := F0 m pc ls ((as.reverse ++ .ref b :: rest).map (xtv ad))) (b := ad b) (As := as.map (xtv ad)) (rest := rest.map (xtv ad)) ⟨hx, hb0, hml, hown, hts⟩ (hM l D cI cR ad) cw
    ⟨xblind D cI cR ad I F _, hrec, fun U hU hWm => ⟨rfl, va_K.moved hWm.alike hW.1, by rw [hU]; exact hW.2.1, hW.2.2.weaken (fun _ _ _ _ => trivial)⟩⟩ rfl (by rw [List.length_map]; exact hn) hl.1 (by simp [xtv]) (by show 2 * 0 + _ ≤ 8; rw [xsum]; omega) hd ⟨hce, hsl⟩
  refine x_goes hrun hS (fun q0 hq0 => ?_) (fun rv I1 F1 H1 locs1 hp hW1 hS1 => ?_)
  · obtain ⟨k, hk1, rfl⟩ := hq0
    have hk2 : k < xshp.length := by rw [xshp_len]; exact hk1
    exact hW.2.2.2 k _ (xw_at (List.getElem?_eq_getElem hk2))
  · have := kk rv I1 F1 hp p l e R s m args below meth c H1 locs1 cells slots Q D cI cR ad A ls C hc hW1 hS1 hl hr
    cases rv <;> exact this
set_option maxRecDepth 100000 in
theorem xj_callS {mj : XMi} {idx n : Nat} {as rest : List Value} {P1 : XP} (hd : decode (xcode mi) pc = .ok (.invokestatic idx, 3)) (hk : Cond.methodLink (xown mi) idx (xy mj) ∈ xtb) (ho : XMs mj n) (hM : XM mj as I F P1) (hst : st = as.reverse ++ rest) (hn : as.length = n) (hcl : (xy mj).cls = xown mi) (hw : (rest.map fun v => v.category).sum ≤ 8) (hr0 : xfr mj + 1 ≤ xfr mi ∧ 8 + (xmaxL mj + 11) + xloc mj ≤ xloc mi)
    (kk : ∀ (rv : Option Value) (I1 : XI) (F1 : XF), P1 rv I1 F1 → XJ sc mi (pc + 3) lv (rv.toList ++ rest) I1 F1 P) : XJ sc mi pc lv st I F P := by
  subst hst
  intro p l e R s m args below meth c H locs cells slots Q D cI cR ad A ls C hc hW hS hl hr
  obtain ⟨hx, hb0, hml, hown, hts, hfr, hlo, hce, hsl⟩ := id C
  obtain ⟨⟨o1, o2, o3⟩, o4, o5, o6⟩ := ho
  have hgood : GoodIn xtb (wsS (xown mi) idx (xy mj) (xws mj)) := by
    intro w hw0
    have : w ∈ xtb := by
      simp only [wsS, xws, List.mem_append, List.mem_cons, List.not_mem_nil, or_false] at hw0
      rcases hw0 with (rfl | rfl | rfl) | (rfl | h)
      · exact hk
      · exact o6
      · rw [← hcl]; exact o5
      · exact o4
      · exact h
    exact ⟨this, Or.inl (xtb_good this)⟩
  have cw := cwS (R := R) (own := xown mi) (index := idx) (y := xy mj) (bytes := xcode mj) (maxL := xmaxL mj) (ret := xret mj) (ws := xws mj) (rm := xrm mj) (mc := 0) (ms := 0) n hts hgood rfl rfl rfl ⟨hcl, o1, o2, o3⟩ ⟨Nat.le_trans hr0.1 hfr, Nat.le_trans hr0.2 hlo⟩
  have hrun := va_runS (p := p) (l := l) (e := e) (below := below) (meth := meth) (H := H) (locs := locs) (cells := cells) (slots := slots) (g := F0 m pc ls ((as.reverse ++ rest).map (xtv ad))) (As := as.map (xtv ad)) (rest := rest.map (xtv ad)) ⟨hx, hb0, hml, hown, hts⟩ (hM l D cI cR ad) cw
    ⟨xblind D cI cR ad I F _, fun U hU hWm => ⟨rfl, va_K.moved hWm.alike hW.1, by rw [hU]; exact hW.2.1, hW.2.2.weaken (fun _ _ _ _ => trivial)⟩⟩ rfl (by rw [List.length_map]; exact hn) hl.1 (by simp) (by show 2 * 0 + _ ≤ 8; rw [xsum]; omega) hd ⟨hce, hsl⟩
  refine x_goes hrun hS (fun q0 hq0 => ?_) (fun rv I1 F1 H1 locs1 hp hW1 hS1 => ?_)
  · obtain ⟨k, hk1, rfl⟩ := hq0
    have hk2 : k < xshp.length := by rw [xshp_len]; exact hk1
    exact hW.2.2.2 k _ (xw_at (List.getElem?_eq_getElem hk2))
  · have := kk rv I1 F1 hp p l e R s m args below meth c H1 locs1 cells slots Q D cI cR ad A ls C hc hW1 hS1 hl hr
    cases rv <;> exact this
end XROWS2

/-! rows for the class's own kinds -/
theorem xsh_row {j : Nat} (hj : j < 12) : xshp[j]? = some (.inr (.inr (1, [.inl (12 + j), .inr j]))) := by
  match j, hj with
  | 0, _ => rfl
  | 1, _ => rfl
  | 2, _ => rfl
  | 3, _ => rfl
  | 4, _ => rfl
  | 5, _ => rfl
  | 6, _ => rfl
  | 7, _ => rfl
  | 8, _ => rfl
  | 9, _ => rfl
  | 10, _ => rfl
  | 11, _ => rfl
  | k + 12, h => exact absurd h (by omega)
def xcap (j : Nat) : Nat := if j = 11 then 240 else 200
theorem xsh_rarr {j : Nat} (hj : j < 12) : xshp[12 + j]? = some (.inl (xcap j, j)) := by
  match j, hj with
  | 0, _ => rfl
  | 1, _ => rfl
  | 2, _ => rfl
  | 3, _ => rfl
  | 4, _ => rfl
  | 5, _ => rfl
  | 6, _ => rfl
  | 7, _ => rfl
  | 8, _ => rfl
  | 9, _ => rfl
  | 10, _ => rfl
  | 11, _ => rfl
  | k + 12, h => exact absurd h (by omega)
theorem xsh_wl {w : Nat} (hw : w < 2) : xshp[26 + 4 * w]? = some (.inr (.inr (2, [.inl (27 + 4 * w), .inl (28 + 4 * w), .inl (29 + 4 * w), .inr (13 + 2 * w), .inr (14 + 2 * w)]))) := by
  match w, hw with
  | 0, _ => rfl
  | 1, _ => rfl
  | k + 2, h => exact absurd h (by omega)
theorem xsh_wst {w : Nat} (hw : w < 2) : xshp[27 + 4 * w]? = some (.inl (100, 12 + 3 * w)) := by
  match w, hw with
  | 0, _ => rfl
  | 1, _ => rfl
  | k + 2, h => exact absurd h (by omega)
theorem xsh_wsp {w : Nat} (hw : w < 2) : xshp[28 + 4 * w]? = some (.inl (100, 13 + 3 * w)) := by
  match w, hw with
  | 0, _ => rfl
  | 1, _ => rfl
  | k + 2, h => exact absurd h (by omega)
theorem xsh_wrk {w : Nat} (hw : w < 2) : xshp[29 + 4 * w]? = some (.inl (100, 14 + 3 * w)) := by
  match w, hw with
  | 0, _ => rfl
  | 1, _ => rfl
  | k + 2, h => exact absurd h (by omega)
section XROWS3
variable {sc : Option (Nat × (Nat → Int32))} {mi : XMi} {pc : Nat} {lv lv1 : List (Option Value)} {st : List Value} {I : XI} {F : XF} {P : XP}
theorem xj_inc1 {i : Nat} {x : Int32} (hd : decode (xcode mi) pc = .ok (.iinc i 1, 3)) (hx : lv[i]? = some (some (.int x))) (hn : i < xmaxL mi) (hs : xset lv i (.int (x + 1)) = lv1) (k : XJ sc mi (pc + 3) lv1 st I F P) : XJ sc mi pc lv st I F P := xj_iinc (v := x + 1) hd hx rfl hn hs k
theorem xj_incm1 {i : Nat} {x : Int32} (hd : decode (xcode mi) pc = .ok (.iinc i (-1), 3)) (hx : lv[i]? = some (some (.int x))) (hn : i < xmaxL mi) (hs : xset lv i (.int (x + (-1))) = lv1) (k : XJ sc mi (pc + 3) lv1 st I F P) : XJ sc mi pc lv st I F P := xj_iinc (v := x + (-1)) hd hx rfl hn hs k
theorem xj_incm8 {i : Nat} {x : Int32} (hd : decode (xcode mi) pc = .ok (.iinc i (-8), 3)) (hx : lv[i]? = some (some (.int x))) (hn : i < xmaxL mi) (hs : xset lv i (.int (x + (-8))) = lv1) (k : XJ sc mi (pc + 3) lv1 st I F P) : XJ sc mi pc lv st I F P := xj_iinc (v := x + (-8)) hd hx rfl hn hs k
theorem xj_inc6 {i : Nat} {x : Int32} (hd : decode (xcode mi) pc = .ok (.iinc i 6, 3)) (hx : lv[i]? = some (some (.int x))) (hn : i < xmaxL mi) (hs : xset lv i (.int (x + 6)) = lv1) (k : XJ sc mi (pc + 3) lv1 st I F P) : XJ sc mi pc lv st I F P := xj_iinc (v := x + 6) hd hx rfl hn hs k
theorem xj_rlen {idx j : Nat} (hd : decode (xcode mi) pc = .ok (.getfield idx, 3)) (hk : XFl (xown mi) idx 1 1) (hj : j < 12) (k : XJ sc mi (pc + 3) lv (.int (I j) :: st) I F P) : XJ sc mi pc lv (.ref j :: st) I F P := xj_getI hd hk (xsh_row hj) rfl k
theorem xj_rbytes {idx j : Nat} (hd : decode (xcode mi) pc = .ok (.getfield idx, 3)) (hk : XFl (xown mi) idx 1 0) (hj : j < 12) (k : XJ sc mi (pc + 3) lv (.ref (12 + j) :: st) I F P) : XJ sc mi pc lv (.ref j :: st) I F P := xj_getR hd hk (xsh_row hj) rfl k
theorem xj_rput {idx j : Nat} {v : Int32} (hd : decode (xcode mi) pc = .ok (.putfield idx, 3)) (hk : XFl (xown mi) idx 1 1) (hj : j < 12) (k : XJ sc mi (pc + 3) lv st (upd I j v) F P) : XJ sc mi pc lv (.int v :: .ref j :: st) I F P := xj_putI hd hk ⟨_, _, _, rfl, rfl, by decide +kernel⟩ (xsh_row hj) rfl k
theorem xj_wst {idx w : Nat} (hd : decode (xcode mi) pc = .ok (.getfield idx, 3)) (hk : XFl (xown mi) idx 2 0) (hw : w < 2) (k : XJ sc mi (pc + 3) lv (.ref (27 + 4 * w) :: st) I F P) : XJ sc mi pc lv (.ref (26 + 4 * w) :: st) I F P := xj_getR hd hk (xsh_wl hw) rfl k
theorem xj_wsp {idx w : Nat} (hd : decode (xcode mi) pc = .ok (.getfield idx, 3)) (hk : XFl (xown mi) idx 2 1) (hw : w < 2) (k : XJ sc mi (pc + 3) lv (.ref (28 + 4 * w) :: st) I F P) : XJ sc mi pc lv (.ref (26 + 4 * w) :: st) I F P := xj_getR hd hk (xsh_wl hw) rfl k
theorem xj_wrk {idx w : Nat} (hd : decode (xcode mi) pc = .ok (.getfield idx, 3)) (hk : XFl (xown mi) idx 2 2) (hw : w < 2) (k : XJ sc mi (pc + 3) lv (.ref (29 + 4 * w) :: st) I F P) : XJ sc mi pc lv (.ref (26 + 4 * w) :: st) I F P := xj_getR hd hk (xsh_wl hw) rfl k
theorem xj_wcnt {idx w : Nat} (hd : decode (xcode mi) pc = .ok (.getfield idx, 3)) (hk : XFl (xown mi) idx 2 3) (hw : w < 2) (k : XJ sc mi (pc + 3) lv (.int (I (13 + 2 * w)) :: st) I F P) : XJ sc mi pc lv (.ref (26 + 4 * w) :: st) I F P := xj_getI hd hk (xsh_wl hw) rfl k
theorem xj_wrl {idx w : Nat} (hd : decode (xcode mi) pc = .ok (.getfield idx, 3)) (hk : XFl (xown mi) idx 2 4) (hw : w < 2) (k : XJ sc mi (pc + 3) lv (.int (I (14 + 2 * w)) :: st) I F P) : XJ sc mi pc lv (.ref (26 + 4 * w) :: st) I F P := xj_getI hd hk (xsh_wl hw) rfl k
theorem xj_wpc {idx w : Nat} {v : Int32} (hd : decode (xcode mi) pc = .ok (.putfield idx, 3)) (hk : XFl (xown mi) idx 2 3) (hw : w < 2) (k : XJ sc mi (pc + 3) lv st (upd I (13 + 2 * w) v) F P) : XJ sc mi pc lv (.int v :: .ref (26 + 4 * w) :: st) I F P := xj_putI hd hk ⟨_, _, _, rfl, rfl, by decide +kernel⟩ (xsh_wl hw) rfl k
theorem xj_wpr {idx w : Nat} {v : Int32} (hd : decode (xcode mi) pc = .ok (.putfield idx, 3)) (hk : XFl (xown mi) idx 2 4) (hw : w < 2) (k : XJ sc mi (pc + 3) lv st (upd I (14 + 2 * w) v) F P) : XJ sc mi pc lv (.int v :: .ref (26 + 4 * w) :: st) I F P := xj_putI hd hk ⟨_, _, _, rfl, rfl, by decide +kernel⟩ (xsh_wl hw) rfl k
end XROWS3
