theorem oks_order {S : XSt} {a how to : Int32} (h : OKS S) : OKS (sp_order S a how to).2 := oks_if h (fun q => by
  simp only [Bool.and_eq_true] at q
  have hr := h.r q.1.1
  refine oks_mk h q.1.2 (Bt.app (fun b hb => ?_) hr.dr)
  obtain ⟨k, h1, h2⟩ := List.mem_flatMap.mp hb
  rcases List.mem_append.mp h2 with h3 | h3
  · exact hr.tk.dr b h3
  · exact bt_tw hr.dr b h3)
theorem lc_order {S : XSt} {I : XI} {F : XF} {P : XP} {L i : Nat} {xs : Nat → Int32} (hL : L ≤ 3072) (hi : i + 6 ≤ L) (hO : OKS S) (hC : CI I F S) (hI : MI I F S) (kk : ∀ (S2 : XSt) (I2 : XI) (F2 : XF), OKS S2 → CI I2 F2 S2 → MI I2 F2 S2 → XJ (some (L, xs)) m_LA_law 1344 [some (.ref 44), some (.ref 24), some (.ref 36), some (.int (nI i))] [] I2 F2 P) : XJ (some (L, xs)) m_LA_law 1258 [some (.ref 44), some (.ref 24), some (.ref 36), some (.int (nI i))] [] I F P := by
  refine xj_aload_n (pc := 1258) d_LA_law_1258 rfl rfl ?_
  refine xj_aload_n (pc := 1259) d_LA_law_1259 rfl rfl ?_
  refine xj_iload_n (pc := 1260) d_LA_law_1260 rfl rfl ?_
  refine xj_iconst (pc := 1261) (v := 1) d_LA_law_1261 (by decide) ?_
  refine xj_iadd (pc := 1262) d_LA_law_1262 ?_
  refine xj_sld (pc := 1263) (j := i + 1) d_LA_law_1263 (n_addN i 1) (by omega) (by omega) ?_
  refine xj_aload_n (pc := 1264) d_LA_law_1264 rfl rfl ?_
  refine xj_iload_n (pc := 1265) d_LA_law_1265 rfl rfl ?_
  refine xj_iconst (pc := 1266) (v := 2) d_LA_law_1266 (by decide) ?_
  refine xj_iadd (pc := 1267) d_LA_law_1267 ?_
  refine xj_sld (pc := 1268) (j := i + 2) d_LA_law_1268 (n_addN i 2) (by omega) (by omega) ?_
  refine xj_aload_n (pc := 1269) d_LA_law_1269 rfl rfl ?_
  refine xj_iload_n (pc := 1270) d_LA_law_1270 rfl rfl ?_
  refine xj_iconst (pc := 1271) (v := 3) d_LA_law_1271 (by decide) ?_
  refine xj_iadd (pc := 1272) d_LA_law_1272 ?_
  refine xj_sld (pc := 1273) (j := i + 3) d_LA_law_1273 (n_addN i 3) (by omega) (by omega) ?_
  refine xj_callV (pc := 1274) d_LA_law_1274 ml_LA_116 ok_RD_order (t_RD_order hO hC) rfl rfl rfl rfl rfl (Nat.le_of_ble_eq_true rfl) (by decide) ?_
  rintro rv I1 F1 ⟨rfl, gC, gM⟩
  have hI1 := cm_mi gM hI
  dsimp only [Option.toList, List.cons_append, List.nil_append]
  refine xj_aload_n (pc := 1277) d_LA_law_1277 rfl rfl ?_
  refine xj_aload_n (pc := 1278) d_LA_law_1278 rfl rfl ?_
  refine xj_iload_n (pc := 1279) d_LA_law_1279 rfl rfl ?_
  refine xj_iconst (pc := 1280) (v := 1) d_LA_law_1280 (by decide) ?_
  refine xj_iadd (pc := 1281) d_LA_law_1281 ?_
  refine xj_sld (pc := 1282) (j := i + 1) d_LA_law_1282 (n_addN i 1) (by omega) (by omega) ?_
  refine xj_aload_n (pc := 1283) d_LA_law_1283 rfl rfl ?_
  refine xj_iload_n (pc := 1284) d_LA_law_1284 rfl rfl ?_
  refine xj_iconst (pc := 1285) (v := 2) d_LA_law_1285 (by decide) ?_
  refine xj_iadd (pc := 1286) d_LA_law_1286 ?_
  refine xj_sld (pc := 1287) (j := i + 2) d_LA_law_1287 (n_addN i 2) (by omega) (by omega) ?_
  refine xj_aload_n (pc := 1288) d_LA_law_1288 rfl rfl ?_
  refine xj_iload_n (pc := 1289) d_LA_law_1289 rfl rfl ?_
  refine xj_iconst (pc := 1290) (v := 3) d_LA_law_1290 (by decide) ?_
  refine xj_iadd (pc := 1291) d_LA_law_1291 ?_
  refine xj_sld (pc := 1292) (j := i + 3) d_LA_law_1292 (n_addN i 3) (by omega) (by omega) ?_
  refine xj_callV (pc := 1293) d_LA_law_1293 ml_LA_119 ok_MO_order (t_MO_order hO hI1) rfl rfl rfl rfl rfl (Nat.le_of_ble_eq_true rfl) (by decide) ?_
  rintro rv I2 F2 ⟨rfl, gI, gN⟩
  dsimp only [Option.toList, List.cons_append, List.nil_append]
  refine xj_icmp_eq (pc := 1296) (tgt := 1344) d_LA_law_1296 (by decide) (fun h1296 => ?_) (fun h1296 => absurd (rfl) h1296)
  exact kk _ I2 F2 (oks_order hO) (nm_ci gN gC) gI

theorem law_sw {S : XSt} {I : XI} {F : XF} {P : XP} {L i : Nat} {xs : Nat → Int32} (hL : L ≤ 3072) (hi : i + 6 ≤ L) (hO : OKS S) (hC : CI I F S) (hI : MI I F S) (kk : ∀ (S2 : XSt) (I2 : XI) (F2 : XF), OKS S2 → CI I2 F2 S2 → MI I2 F2 S2 → XJ (some (L, xs)) m_LA_law 1344 [some (.ref 44), some (.ref 24), some (.ref 36), some (.int (nI i))] [] I2 F2 P) : ∀ (j : Nat), j < 32 → XJ (some (L, xs)) m_LA_law 33 [some (.ref 44), some (.ref 24), some (.ref 36), some (.int (nI i))] [.int (nI j)] I F P := by
  intro j hj
  rcases (show j = 0 ∨ j = 1 ∨ j = 2 ∨ j = 3 ∨ j = 4 ∨ j = 5 ∨ j = 6 ∨ j = 7 ∨ j = 8 ∨ j = 9 ∨ j = 10 ∨ j = 11 ∨ j = 12 ∨ j = 13 ∨ j = 14 ∨ j = 15 ∨ j = 16 ∨ j = 17 ∨ j = 18 ∨ j = 19 ∨ j = 20 ∨ j = 21 ∨ j = 22 ∨ j = 23 ∨ j = 24 ∨ j = 25 ∨ 26 ≤ j by omega) with rfl | rfl | rfl | rfl | rfl | rfl | rfl | rfl | rfl | rfl | rfl | rfl | rfl | rfl | rfl | rfl | rfl | rfl | rfl | rfl | rfl | rfl | rfl | rfl | rfl | rfl | q
  · exact xj_tableIn (pc := 33) (tgt := 152) d_LA_law_33 (by decide) (by decide) rfl (by decide) (lc_feed hL hi hO hC hI kk)
  · exact xj_tableIn (pc := 33) (tgt := 215) d_LA_law_33 (by decide) (by decide) rfl (by decide) (lc_end hL hi hO hC hI kk)
  · exact xj_tableIn (pc := 33) (tgt := 238) d_LA_law_33 (by decide) (by decide) rfl (by decide) (lc_put hL hi hO hC hI kk)
  · exact xj_tableIn (pc := 33) (tgt := 261) d_LA_law_33 (by decide) (by decide) rfl (by decide) (lc_at hL hi hO hC hI kk)
  · exact xj_tableIn (pc := 33) (tgt := 294) d_LA_law_33 (by decide) (by decide) rfl (by decide) (lc_size hL hi hO hC hI kk)
  · exact xj_tableIn (pc := 33) (tgt := 317) d_LA_law_33 (by decide) (by decide) rfl (by decide) (lc_pad hL hi hO hC hI kk)
  · exact xj_tableIn (pc := 33) (tgt := 340) d_LA_law_33 (by decide) (by decide) rfl (by decide) (lc_fill hL hi hO hC hI kk)
  · exact xj_tableIn (pc := 33) (tgt := 393) d_LA_law_33 (by decide) (by decide) rfl (by decide) (lc_part hL hi hO hC hI kk)
  · exact xj_tableIn (pc := 33) (tgt := 446) d_LA_law_33 (by decide) (by decide) rfl (by decide) (lc_cut hL hi hO hC hI kk)
  · exact xj_tableIn (pc := 33) (tgt := 499) d_LA_law_33 (by decide) (by decide) rfl (by decide) (lc_join hL hi hO hC hI kk)
  · exact xj_tableIn (pc := 33) (tgt := 552) d_LA_law_33 (by decide) (by decide) rfl (by decide) (lc_copies hL hi hO hC hI kk)
  · exact xj_tableIn (pc := 33) (tgt := 595) d_LA_law_33 (by decide) (by decide) rfl (by decide) (lc_set hL hi hO hC hI kk)
  · exact xj_tableIn (pc := 33) (tgt := 674) d_LA_law_33 (by decide) (by decide) rfl (by decide) (lc_find hL hi hO hC hI kk)
  · exact xj_tableIn (pc := 33) (tgt := 743) d_LA_law_33 (by decide) (by decide) rfl (by decide) (lc_change hL hi hO hC hI kk)
  · exact xj_tableIn (pc := 33) (tgt := 796) d_LA_law_33 (by decide) (by decide) rfl (by decide) (lc_often hL hi hO hC hI kk)
  · exact xj_tableIn (pc := 33) (tgt := 829) d_LA_law_33 (by decide) (by decide) rfl (by decide) (lc_unlike hL hi hO hC hI kk)
  · exact xj_tableIn (pc := 33) (tgt := 862) d_LA_law_33 (by decide) (by decide) rfl (by decide) (lc_strip hL hi hO hC hI kk)
  · exact xj_tableIn (pc := 33) (tgt := 905) d_LA_law_33 (by decide) (by decide) rfl (by decide) (lc_turn hL hi hO hC hI kk)
  · exact xj_tableIn (pc := 33) (tgt := 948) d_LA_law_33 (by decide) (by decide) rfl (by decide) (lc_translate hL hi hO hC hI kk)
  · exact xj_tableIn (pc := 33) (tgt := 1001) d_LA_law_33 (by decide) (by decide) rfl (by decide) (lc_verify hL hi hO hC hI kk)
  · exact xj_tableIn (pc := 33) (tgt := 1070) d_LA_law_33 (by decide) (by decide) rfl (by decide) (lc_space hL hi hO hC hI kk)
  · exact xj_tableIn (pc := 33) (tgt := 1113) d_LA_law_33 (by decide) (by decide) rfl (by decide) (lc_words hL hi hO hC hI kk)
  · exact xj_tableIn (pc := 33) (tgt := 1136) d_LA_law_33 (by decide) (by decide) rfl (by decide) (lc_word hL hi hO hC hI kk)
  · exact xj_tableIn (pc := 33) (tgt := 1179) d_LA_law_33 (by decide) (by decide) rfl (by decide) (lc_some hL hi hO hC hI kk)
  · exact xj_tableIn (pc := 33) (tgt := 1258) d_LA_law_33 (by decide) (by decide) rfl (by decide) (lc_order hL hi hO hC hI kk)
  · exact xj_tableIn (pc := 33) (tgt := 1301) d_LA_law_33 (by decide) (by decide) rfl (by decide) (lc_place hL hi hO hC hI kk)
  · exact xj_tableOut (pc := 33) (tgt := 1344) d_LA_law_33 (Or.inr (by rw [n_nI (by omega)]; omega)) (by decide) (kk S I F hO hC hI)
theorem law_loop {L : Nat} {xs : Nat → Int32} (hL : L ≤ 3072) : ∀ (m i : Nat) (S : XSt) (I : XI) (F : XF), L - i ≤ m → i ≤ L + 6 → OKS S → CI I F S → MI I F S →
    XJ (some (L, xs)) m_LA_law 18 [some (.ref 44), some (.ref 24), some (.ref 36), some (.int (nI i))] [] I F (fun rv _ _ => rv = some (.int 1)) := by
  have eL6 : (nI L - 6).toInt = (L : Int) - 6 := by
    rw [n_sub (by rw [n_nI (by omega), show (6 : Int32).toInt = 6 from rfl]; omega) (by rw [n_nI (by omega), show (6 : Int32).toInt = 6 from rfl]; omega), n_nI (by omega), show (6 : Int32).toInt = 6 from rfl]
  intro m
  induction m using Nat.strongRecOn with
  | ind m ih =>
    intro i S I F hm hi hO hC hI
    by_cases hlt : i + 6 ≤ L
    · have hnx : ∀ (S2 : XSt) (I2 : XI) (F2 : XF), OKS S2 → CI I2 F2 S2 → MI I2 F2 S2 → XJ (some (L, xs)) m_LA_law 1344 [some (.ref 44), some (.ref 24), some (.ref 36), some (.int (nI i))] [] I2 F2 (fun rv _ _ => rv = some (.int 1)) := by
        intro S2 I2 F2 g1 g2 g3
        refine xj_inc6 (pc := 1344) d_LA_law_1344 rfl (by decide) rfl ?_
        dsimp only [xset, xset2, xkill]
        rw [show nI i + 6 = nI (i + 6) from n_addN i 6]
        refine xj_goto (pc := 1347) (tgt := 18) d_LA_law_1347 (by decide) ?_
        exact ih (m - 6) (by omega) (i + 6) S2 I2 F2 (by omega) (by omega) g1 g2 g3
      obtain ⟨j, hj, ej⟩ := pk_andE (xs i) (m := 31) 5 rfl
      refine xj_iload_n (pc := 18) d_LA_law_18 rfl rfl ?_
      refine xj_aload_n (pc := 19) d_LA_law_19 rfl rfl ?_
      refine xj_slen (pc := 20) d_LA_law_20 ?_
      refine xj_bipush (pc := 21) (v := 6) d_LA_law_21 (by decide) ?_
      refine xj_isub (pc := 23) d_LA_law_23 ?_
      refine xj_icmp_gt (pc := 24) (tgt := 1350) d_LA_law_24 (by decide) (fun h24 => absurd h24 (by rw [n_lt, eL6, n_nI (by omega)]; omega)) (fun h24 => ?_)
      refine xj_aload_n (pc := 27) d_LA_law_27 rfl rfl ?_
      refine xj_iload_n (pc := 28) d_LA_law_28 rfl rfl ?_
      refine xj_sld (pc := 29) (j := i) d_LA_law_29 rfl (by omega) (by omega) ?_
      refine xj_bipush (pc := 30) (v := 31) d_LA_law_30 (by decide) ?_
      refine xj_iand (pc := 32) d_LA_law_32 ?_
      rw [ej]
      exact law_sw hL hlt hO hC hI hnx j hj
    · skip
      refine xj_iload_n (pc := 18) d_LA_law_18 rfl rfl ?_
      refine xj_aload_n (pc := 19) d_LA_law_19 rfl rfl ?_
      refine xj_slen (pc := 20) d_LA_law_20 ?_
      refine xj_bipush (pc := 21) (v := 6) d_LA_law_21 (by decide) ?_
      refine xj_isub (pc := 23) d_LA_law_23 ?_
      refine xj_icmp_gt (pc := 24) (tgt := 1350) d_LA_law_24 (by decide) (fun h24 => ?_) (fun h24 => absurd (by rw [n_lt, eL6, n_nI (by omega)]; omega) h24)
      refine xj_iconst (pc := 1350) (v := 1) d_LA_law_1350 (by decide) ?_
      refine xj_zret (pc := 1351) d_LA_law_1351 rfl (by first | exact Or.inl rfl | exact Or.inr rfl | assumption | omega) ?_
      rfl
