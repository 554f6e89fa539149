section OKSS
variable {S : XSt} {M X Y L : List Int32} {I I1 I2 : XI} {F F1 F2 : XF}
def Bt (M : List Int32) : Prop := ∀ b ∈ M, bt b
theorem Bt.app (h : Bt X) (h2 : Bt Y) : Bt (X ++ Y) := fun b hb => (List.mem_append.mp hb).elim (h b) (h2 b)
theorem Bt.tk {n : Nat} (h : Bt X) : Bt (X.take n) := fun b hb => h b (List.mem_of_mem_take hb)
theorem Bt.dr {n : Nat} (h : Bt X) : Bt (X.drop n) := fun b hb => h b (List.mem_of_mem_drop hb)
theorem Bt.rep {n : Nat} {p : Int32} (h : bt p) : Bt (List.replicate n p) := fun b hb => by rw [(List.mem_replicate.mp hb).2]; exact h
theorem Bt.nil : Bt [] := fun b hb => by simp at hb
theorem bt_and (v : Int32) : bt (v &&& 255) := by
  obtain ⟨j, hj, e⟩ := pk_andE v (m := 255) 8 rfl
  rw [e, bt, n_nI (by omega)]; omega
theorem bt_fb (v : Int32) : Bt (fb v) := by
  intro b hb
  simp only [fb, List.mem_cons, List.not_mem_nil, or_false] at hb
  rcases hb with rfl | rfl | rfl | rfl <;> exact bt_and _
theorem OKS.r (h : OKS S) {a : Int32} (ha : isR a = true) : Bt (sR S a) := by
  obtain ⟨k, hk, -, tk⟩ := isR_k ha
  exact h.bb hk tk
theorem oks_mk {to : Int32} (h : OKS S) (ht : isR to = true) (hM : Bt M) : OKS (sMk S to M).2 := by
  rw [sMk]
  split
  · exact h
  · rename_i hl
    refine ⟨h.1, fun r hr => ?_, h.2.2⟩
    show (va_up S.2.1 to.toInt.toNat M r).length ≤ 200 ∧ ∀ b ∈ va_up S.2.1 to.toInt.toNat M r, bt b
    by_cases e : r = to.toInt.toNat
    · simp only [va_up, if_pos e]; exact ⟨by omega, hM⟩
    · simp only [va_up, if_neg e]; exact h.2.1 r hr
theorem oks_if {c : Bool} {q : Int32 × XSt} (h : OKS S) (hq : c = true → OKS q.2) : OKS (if c then q else (-1, S)).2 := by
  by_cases hc : c = true
  · rw [if_pos hc]; exact hq hc
  · rw [if_neg hc]; exact h
theorem oks_feed {a b c d e : Int32} (h : OKS S) : OKS (sp_feed S a b c d e).2 := by
  rw [sp_feed]
  split
  · exact h
  · exact ⟨(((((show Bt S.1 from h.1).app (bt_fb a)).app (bt_fb b)).app (bt_fb c)).app (bt_fb d)).app (bt_fb e), h.2⟩
theorem oks_end {n : Int32} (h : OKS S) : OKS (sp_end S n).2 := by
  rw [sp_end]
  split
  · exact h
  · exact ⟨Bt.tk h.1, h.2⟩
theorem oks_put {r : Int32} (h : OKS S) : OKS (sp_put S r).2 := by
  rw [sp_put]
  split
  · exact h
  · split
    · exact h
    · rename_i hl
      refine ⟨Bt.nil, fun q hq => ?_, h.2.2⟩
      show (va_up S.2.1 r.toInt.toNat S.1 q).length ≤ 200 ∧ ∀ b ∈ va_up S.2.1 r.toInt.toNat S.1 q, bt b
      by_cases e : q = r.toInt.toNat
      · simp only [va_up, if_pos e]; exact ⟨by omega, h.1⟩
      · simp only [va_up, if_neg e]; exact h.2.1 q hq
theorem oks_pad {p : Int32} (h : OKS S) : OKS (sp_pad S p).2 := by
  rw [sp_pad]
  split
  · rename_i q; exact ⟨h.1, h.2.1, q⟩
  · exact h
theorem oks_fill {way a n to : Int32} (h : OKS S) : OKS (sp_fill S way a n to).2 := oks_if h (fun q => by
  simp only [Bool.and_eq_true] at q
  exact oks_mk h q.1.2 (((Bt.rep h.2.2).app ((h.r q.1.1).dr.tk)).app (Bt.rep h.2.2)))
theorem oks_part {a k n to : Int32} (h : OKS S) : OKS (sp_part S a k n to).2 := oks_if h (fun q => by
  simp only [Bool.and_eq_true] at q
  refine oks_mk h q.1.2 ?_
  rw [m_part]
  split
  · exact (h.r q.1.1).dr
  · exact ((h.r q.1.1).dr.tk).app (Bt.rep h.2.2))
theorem oks_cut {a k n to : Int32} (h : OKS S) : OKS (sp_cut S a k n to).2 := oks_if h (fun q => by
  simp only [Bool.and_eq_true] at q
  refine oks_mk h q.1.2 ((h.r q.1.1).tk.app ?_)
  split
  · exact Bt.nil
  · exact (h.r q.1.1).dr)
theorem oks_join {a b w to : Int32} (h : OKS S) : OKS (sp_join S a b w to).2 := oks_if h (fun q => by
  simp only [Bool.and_eq_true] at q
  exact oks_mk h q.1.2 (((h.r q.1.1.1).app (Bt.rep h.2.2)).app (h.r q.1.1.2)))
theorem oks_copies {a n to : Int32} (h : OKS S) : OKS (sp_copies S a n to).2 := oks_if h (fun q => by
  simp only [Bool.and_eq_true] at q
  refine oks_mk h q.1.2 (fun b hb => ?_)
  obtain ⟨l, h1, h2⟩ := List.mem_flatten.mp hb
  rw [(List.mem_replicate.mp h1).2] at h2
  exact h.r q.1.1 b h2)
theorem oks_set {a b n over to : Int32} (h : OKS S) : OKS (sp_set S a b n over to).2 := oks_if h (fun q => by
  simp only [Bool.and_eq_true] at q
  exact oks_mk h q.1.2 ((((h.r q.1.1.2).tk.app (Bt.rep h.2.2)).app (h.r q.1.1.1)).app (h.r q.1.1.2).dr))
theorem bt_chg {A C : List Int32} (hC : Bt C) : ∀ (n : Nat) (X : List Int32), Bt X → Bt (chg A C n X)
  | 0, _, _ => Bt.nil
  | n + 1, [], _ => Bt.nil
  | n + 1, b :: t, h => by
    rw [chg]
    split
    · exact hC.app (bt_chg hC n _ h.dr)
    · have h2 := bt_chg (A := A) hC n t (fun x hx => h x (List.mem_cons_of_mem _ hx))
      intro x hx
      rcases List.mem_cons.mp hx with rfl | hx
      · exact h x List.mem_cons_self
      · exact h2 x hx
theorem oks_change {a b c to : Int32} (h : OKS S) : OKS (sp_change S a b c to).2 := oks_if h (fun q => by
  simp only [Bool.and_eq_true] at q
  exact oks_mk h q.2 (bt_chg (h.r q.1.2) _ _ (h.r q.1.1.2)))
theorem bt_dw {p : Int32 → Bool} (h : Bt X) : Bt (X.dropWhile p) := fun b hb => h b ((List.dropWhile_sublist p).subset hb)
theorem bt_tw {p : Int32 → Bool} (h : Bt X) : Bt (X.takeWhile p) := fun b hb => h b ((List.takeWhile_sublist p).subset hb)
theorem bt_rev (h : Bt X) : Bt X.reverse := fun b hb => h b (List.mem_reverse.mp hb)
theorem oks_strip {a ends to : Int32} (h : OKS S) : OKS (sp_strip S a ends to).2 := oks_if h (fun q => by
  simp only [Bool.and_eq_true] at q
  refine oks_mk h q.1.2 ?_
  have h1 : Bt (if ends = 2 then sR S a else (sR S a).dropWhile (fun b => b == S.2.2)) := by
    split
    · exact h.r q.1.1
    · exact bt_dw (h.r q.1.1)
  unfold m_strip
  dsimp only
  split
  · exact h1
  · exact bt_rev (bt_dw (bt_rev h1)))
theorem bt_up {b : Int32} (h : bt b) : bt (up1 b) := by
  rw [up1]
  split
  · rename_i q
    have q1 := n_le.mp q.1
    have q2 := n_le.mp q.2
    rw [show (97 : Int32).toInt = 97 from rfl] at q1
    rw [show (122 : Int32).toInt = 122 from rfl] at q2
    rw [bt, n_sub (by rw [show (32 : Int32).toInt = 32 from rfl]; omega) (by rw [show (32 : Int32).toInt = 32 from rfl]; omega), show (32 : Int32).toInt = 32 from rfl]; omega
  · exact h
theorem bt_lo {b : Int32} (h : bt b) : bt (lo1 b) := by
  rw [lo1]
  split
  · rename_i q
    have q1 := n_le.mp q.1
    have q2 := n_le.mp q.2
    rw [show (65 : Int32).toInt = 65 from rfl] at q1
    rw [show (90 : Int32).toInt = 90 from rfl] at q2
    rw [bt, n_add (by rw [show (32 : Int32).toInt = 32 from rfl]; omega) (by rw [show (32 : Int32).toInt = 32 from rfl]; omega), show (32 : Int32).toInt = 32 from rfl]; omega
  · exact h
theorem bt_map {f : Int32 → Int32} (hf : ∀ b, bt b → bt (f b)) (h : Bt X) : Bt (X.map f) := fun b hb => by
  obtain ⟨x, h1, rfl⟩ := List.mem_map.mp hb
  exact hf x (h x h1)
theorem bt_once : ∀ (X seen : List Int32), Bt X → Bt (once seen X)
  | [], _, _ => Bt.nil
  | b :: t, seen, h => by
    have ht : Bt t := fun x hx => h x (List.mem_cons_of_mem _ hx)
    rw [once]
    split
    · exact bt_once t seen ht
    · intro x hx
      rcases List.mem_cons.mp hx with rfl | hx
      · exact h x List.mem_cons_self
      · exact bt_once t _ ht x hx
theorem bt_srt (L : List Int32) : Bt (srt L 256) := fun b hb => by
  obtain ⟨c, h1, h2⟩ := List.mem_flatMap.mp hb
  have := List.mem_range.mp h1
  rw [(List.mem_replicate.mp h2).2, bt, n_nI (by omega)]; omega
theorem oks_turn {how a to : Int32} (h : OKS S) : OKS (sp_turn S how a to).2 := oks_if h (fun q => by
  simp only [Bool.and_eq_true] at q
  refine oks_mk h q.1.2 ?_
  have hr := h.r q.1.1
  rw [m_turn]
  split
  · exact bt_rev hr
  · split
    · exact bt_map (fun b => bt_up) hr
    · split
      · exact bt_map (fun b => bt_lo) hr
      · split
        · exact bt_srt _
        · exact bt_once _ _ hr)
theorem oks_translate {a b c to : Int32} (h : OKS S) : OKS (sp_translate S a b c to).2 := oks_if h (fun q => by
  simp only [Bool.and_eq_true] at q
  refine oks_mk h q.2 (bt_map (fun x hx => ?_) (h.r q.1.1.1))
  rw [tr1]
  split
  · exact hx
  · rename_i i _
    cases hg : (sR S b)[i]? with
    | none => exact h.2.2
    | some y => exact h.r q.1.1.2 y (List.mem_of_getElem? hg))
theorem oks_space {a n to : Int32} (h : OKS S) : OKS (sp_space S a n to).2 := oks_if h (fun q => by
  simp only [Bool.and_eq_true] at q
  refine oks_mk h q.1.2 (fun b hb => ?_)
  obtain ⟨k, h1, h2⟩ := List.mem_flatMap.mp hb
  rcases List.mem_append.mp h2 with h3 | h3
  · split at h3
    · simp at h3
    · exact Bt.rep h.2.2 b h3
  · exact bt_tw (h.r q.1.1).dr b h3)
theorem oks_some {a k n wo to : Int32} (h : OKS S) : OKS (sp_some S a k n wo to).2 := oks_if h (fun q => by
  simp only [Bool.and_eq_true] at q
  refine oks_mk h q.1.2 ?_
  have hr := h.r q.1.1
  unfold m_some
  dsimp only
  repeat' split
  all_goals first | exact hr.tk.dr | exact Bt.nil | exact hr.tk.app hr.dr)
theorem cm_mi (h : CM I F I1 F1) (hI : MI I F S) : MI I1 F1 S := ⟨⟨by rw [h.1 17 (by decide)]; exact hI.1.1, hI.1.2.1, fun i b hb => by rw [h.2 19 (by decide)]; exact hI.1.2.2 i b hb⟩, fun r hr => (hI.2.1 r hr).kp (h.2 20 (by decide)) (h.2 21 (by decide)), by rw [h.1 19 (by decide)]; exact hI.2.2⟩
theorem nm_rl {j : Nat} (h : NM I F I1 F1) (hj : j < 12) (hl : Rl I F j L) : Rl I1 F1 j L := ⟨by rw [h.1 j (by omega)]; exact hl.1, hl.2.1, fun i b hb => by rw [h.2 j (by omega)]; exact hl.2.2 i b hb⟩
theorem nm_ci (h : NM I F I1 F1) (hC : CI I F S) : CI I1 F1 S := ⟨nm_rl h (by decide) hC.1, fun r hr => nm_rl h (by omega) (hC.2.1 r hr), by rw [h.1 12 (by decide)]; exact hC.2.2.1, hC.2.2.2.elim fun M hM => ⟨M, nm_rl h (by decide) hM⟩⟩
end OKSS
