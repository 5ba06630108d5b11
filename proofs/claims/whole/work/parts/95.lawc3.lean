set_option maxHeartbeats 1000000 in
set_option maxRecDepth 8000 in
theorem lc_chance (G : Gx) {x : Cx} {nm : String} (Ox : Okx x G 4 cL_law wsL_law (⟨RL, nm, "([I)Z"⟩ : MethodName) room_1) {b Ln : Nat} {xs : Nat → Int32} (hScr : Scx x b Ln xs) (ad : Nat → Nat) {i n1 n2 : Nat} (hi6 : i + 6 ≤ Ln) (hLn : Ln ≤ 3072) (hr1 : n1 + 11 ≤ room_1.cells) (hr2 : n2 + 96 ≤ room_1.slots) (kk : ∀ ws : va_W, LoopI G ad ws → V x G 4 (n1 + 11) (n2 + 96) 1070 [(0, .ref b), (1, .ref (ad 0)), (2, .ref (ad 27)), (3, .int (nI i))] [] ws) (ws : va_W) (hI : LoopI G ad ws) : V x G 4 n1 n2 845 [(0, .ref b), (1, .ref (ad 0)), (2, .ref (ad 27)), (3, .int (nI i))] [] ws := by
  obtain ⟨L, Gr, O, S, T, K, SP, SL, B, fd, sg, fi, mn, PS, P, W, s, z1, z2, g, GU, RO, gM, gc, fI, kf, w1, w2, w3, w4, w5, w6, r0, r1, rfl, hC, hT9, h0, h1⟩ := hI
  obtain ⟨hL, hG, hO, hS, hT, hN, hK, hB, hsp, hsl, ⟨hfd0, hfd⟩, hsg⟩ := id hC
  obtain ⟨⟨hmn, hPS⟩, hws, hww⟩ := id hT9
  refine k_aload_n Ox dL_law_845 rfl 1 rfl ?_
  refine k_aload_n Ox dL_law_846 rfl 0 rfl ?_
  refine k_iload_n Ox dL_law_847 rfl 3 rfl ?_
  refine k_iconst Ox (v := nI 1) dL_law_848 rfl ?_
  refine k_iaddN Ox dL_law_849 ?_
  refine k_sld Ox hScr (by omega) hLn dL_law_850 ?_
  refine k_aload_n Ox dL_law_851 rfl 0 rfl ?_
  refine k_iload_n Ox dL_law_852 rfl 3 rfl ?_
  refine k_iconst Ox (v := nI 2) dL_law_853 rfl ?_
  refine k_iaddN Ox dL_law_854 ?_
  refine k_sld Ox hScr (by omega) hLn dL_law_855 ?_
  refine k_aload_n Ox dL_law_856 rfl 0 rfl ?_
  refine k_iload_n Ox dL_law_857 rfl 3 rfl ?_
  refine k_iconst Ox (v := nI 3) dL_law_858 rfl ?_
  refine k_iaddN Ox dL_law_859 ?_
  refine k_sld Ox hScr (by omega) hLn dL_law_860 ?_
  refine k_callV Ox [0, 1, 2, 3, 5, 19, 20, 21, 22] (c_X4_chance G (ad 0) (ad 1) (ad 12) (ad 13) (ad 19) (ad 23) (ad 25) (ad 26) (ad 2) (ad 3) (ad 4) (ad 5) (ad 6) (ad 7) (ad 8) (ad 9) (ad 10) (ad 20) (ad 21) (ad 22) L Gr S fd sg z1 z2 W s (xs (i + 1)) (xs (i + 2)) (xs (i + 3)) hL hG hws hww hS) 3 rfl rfl rfl ⟨rfl, rfl⟩ rfl rfl gL_law_X4_chance rfl 0 rfl ⟨rfl, (by decide +kernel), (by decide +kernel), (by decide +kernel)⟩ rfl dL_law_861 (Nat.le_of_ble_eq_true rfl) rfl ⟨Nat.le_trans (Nat.le_add_right n1 11) hr1, Nat.le_trans (Nat.le_add_right n2 96) hr2⟩ (fun r wa wb hp => ?_)
  obtain ⟨⟨rfl, W9X, s9X, z91X, z92X, hs9X, hw9X, rfl⟩, rfl⟩ := hp
  simp only [cW, mW, List.cons_append, List.nil_append, repl_cons, repl_nil, List.set_cons_zero, List.set_cons_succ, List.append_nil]
  show V x G 4 _ _ _ _ (.long _ :: _) (cW G ad L Gr O S T K SP SL B fd sg fi mn PS P W9X s9X z91X z92X g GU RO ++ (mW G ad L Gr O S T K SP SL B fd sg mn PS gM gc fI kf w1 w2 w3 w4 w5 w6 ++ (r0 ++ r1)))
  refine k_aload_n Ox dL_law_864 rfl 2 rfl ?_
  refine k_aload_n Ox dL_law_865 rfl 0 rfl ?_
  refine k_iload_n Ox dL_law_866 rfl 3 rfl ?_
  refine k_iconst Ox (v := nI 1) dL_law_867 rfl ?_
  refine k_iaddN Ox dL_law_868 ?_
  refine k_sld Ox hScr (by omega) hLn dL_law_869 ?_
  refine k_aload_n Ox dL_law_870 rfl 0 rfl ?_
  refine k_iload_n Ox dL_law_871 rfl 3 rfl ?_
  refine k_iconst Ox (v := nI 2) dL_law_872 rfl ?_
  refine k_iaddN Ox dL_law_873 ?_
  refine k_sld Ox hScr (by omega) hLn dL_law_874 ?_
  refine k_aload_n Ox dL_law_875 rfl 0 rfl ?_
  refine k_iload_n Ox dL_law_876 rfl 3 rfl ?_
  refine k_iconst Ox (v := nI 3) dL_law_877 rfl ?_
  refine k_iaddN Ox dL_law_878 ?_
  refine k_sld Ox hScr (by omega) hLn dL_law_879 ?_
  refine k_callV Ox [27, 28, 29, 34] (c_X5_chance G (ad 27) (ad 28) (ad 29) (ad 30) (ad 31) (ad 32) (ad 33) (ad 34) (ad 35) (ad 36) (ad 37) (ad 38) (ad 39) (ad 40) fd sg mn w1 w2 w3 w4 w5 w6 L Gr S (xs (i + 1)) (xs (i + 2)) (xs (i + 3)) hL hG hS) 3 rfl rfl rfl ⟨rfl, rfl⟩ rfl rfl gL_law_X5_chance rfl 27 rfl ⟨rfl, (by decide +kernel), (by decide +kernel), (by decide +kernel)⟩ rfl dL_law_880 (Nat.le_of_ble_eq_true rfl) rfl ⟨Nat.le_trans (Nat.le_add_right n1 11) hr1, Nat.le_trans (Nat.le_add_right n2 96) hr2⟩ (fun r wa wb hp => ?_)
  obtain ⟨⟨rfl, w93M, w94M, w96M, rfl⟩, rfl⟩ := hp
  simp only [cW, mW, List.cons_append, List.nil_append, repl_cons, repl_nil, List.set_cons_zero, List.set_cons_succ, List.append_nil]
  show V x G 4 _ _ _ _ (.long _ :: _) (cW G ad L Gr O S T K SP SL B fd sg fi mn PS P W9X s9X z91X z92X g GU RO ++ (mW G ad L Gr O S T K SP SL B fd sg mn PS gM gc fI kf w1 w2 w93M w94M w5 w96M ++ (r0 ++ r1)))
  refine k_lcmp Ox dL_law_883 ?_
  refine k_if_eq Ox 1070 dL_law_884 rfl (fun _ => ?_) (fun h => absurd ((lg_cmp_eq _ _).mpr ((ca_eq hS).symm)) h)
  refine k_widen (n1 + 11) (n2 + 96) (Nat.le_add_right _ _) (Nat.le_add_right _ _) ?_
  exact kk _ ⟨_, _, _, _, _, _, _, _, _, _, _, _, _, _, _, _, _, _, _, _, _, _, _, _, _, _, _, _, _, _, _, _, r0, r1, rfl, hC, ⟨⟨hmn, hPS⟩, hs9X, hw9X⟩, h0, h1⟩
set_option maxHeartbeats 1000000 in
set_option maxRecDepth 8000 in
theorem lc_seen (G : Gx) {x : Cx} {nm : String} (Ox : Okx x G 4 cL_law wsL_law (⟨RL, nm, "([I)Z"⟩ : MethodName) room_1) {b Ln : Nat} {xs : Nat → Int32} (hScr : Scx x b Ln xs) (ad : Nat → Nat) {i n1 n2 : Nat} (hi6 : i + 6 ≤ Ln) (hLn : Ln ≤ 3072) (hr1 : n1 + 11 ≤ room_1.cells) (hr2 : n2 + 96 ≤ room_1.slots) (kk : ∀ ws : va_W, LoopI G ad ws → V x G 4 (n1 + 11) (n2 + 96) 1070 [(0, .ref b), (1, .ref (ad 0)), (2, .ref (ad 27)), (3, .int (nI i))] [] ws) (ws : va_W) (hI : LoopI G ad ws) : V x G 4 n1 n2 889 [(0, .ref b), (1, .ref (ad 0)), (2, .ref (ad 27)), (3, .int (nI i))] [] ws := by
  obtain ⟨L, Gr, O, S, T, K, SP, SL, B, fd, sg, fi, mn, PS, P, W, s, z1, z2, g, GU, RO, gM, gc, fI, kf, w1, w2, w3, w4, w5, w6, r0, r1, rfl, hC, hT9, h0, h1⟩ := hI
  obtain ⟨hL, hG, hO, hS, hT, hN, hK, hB, hsp, hsl, ⟨hfd0, hfd⟩, hsg⟩ := id hC
  obtain ⟨⟨hmn, hPS⟩, hws, hww⟩ := id hT9
  refine k_aload_n Ox dL_law_889 rfl 1 rfl ?_
  refine k_aload_n Ox dL_law_890 rfl 0 rfl ?_
  refine k_iload_n Ox dL_law_891 rfl 3 rfl ?_
  refine k_iconst Ox (v := nI 1) dL_law_892 rfl ?_
  refine k_iaddN Ox dL_law_893 ?_
  refine k_sld Ox hScr (by omega) hLn dL_law_894 ?_
  refine k_aload_n Ox dL_law_895 rfl 0 rfl ?_
  refine k_iload_n Ox dL_law_896 rfl 3 rfl ?_
  refine k_iconst Ox (v := nI 2) dL_law_897 rfl ?_
  refine k_iaddN Ox dL_law_898 ?_
  refine k_sld Ox hScr (by omega) hLn dL_law_899 ?_
  refine k_callV Ox [0, 1, 8, 9] (c_X4_seen G (ad 0) (ad 1) (ad 12) (ad 13) (ad 19) (ad 23) (ad 25) (ad 26) (ad 2) (ad 3) (ad 4) (ad 5) (ad 6) (ad 7) (ad 8) (ad 9) (ad 10) SP SL fd sg (xs (i + 1)) (xs (i + 2)) hsg) 2 rfl rfl rfl ⟨rfl, rfl⟩ rfl rfl gL_law_X4_seen rfl 0 rfl ⟨rfl, (by decide +kernel), (by decide +kernel), (by decide +kernel)⟩ rfl dL_law_900 (Nat.le_of_ble_eq_true rfl) rfl ⟨Nat.le_trans (Nat.le_add_right n1 11) hr1, Nat.le_trans (Nat.le_add_right n2 96) hr2⟩ (fun r wa wb hp => ?_)
  obtain ⟨⟨rfl, rfl⟩, rfl⟩ := hp
  simp only [cW, mW, List.cons_append, List.nil_append, repl_cons, repl_nil, List.set_cons_zero, List.set_cons_succ, List.append_nil]
  show V x G 4 _ _ _ _ (.int _ :: _) (cW G ad L Gr O S T K (snP (xs (i + 1)) (xs (i + 2)) sg SP) (snL (xs (i + 1)) (xs (i + 2)) sg SL) B fd (snG (xs (i + 1)) (xs (i + 2)) sg) fi mn PS P W s z1 z2 g GU RO ++ (mW G ad L Gr O S T K SP SL B fd sg mn PS gM gc fI kf w1 w2 w3 w4 w5 w6 ++ (r0 ++ r1)))
  refine k_aload_n Ox dL_law_903 rfl 2 rfl ?_
  refine k_aload_n Ox dL_law_904 rfl 0 rfl ?_
  refine k_iload_n Ox dL_law_905 rfl 3 rfl ?_
  refine k_iconst Ox (v := nI 1) dL_law_906 rfl ?_
  refine k_iaddN Ox dL_law_907 ?_
  refine k_sld Ox hScr (by omega) hLn dL_law_908 ?_
  refine k_aload_n Ox dL_law_909 rfl 0 rfl ?_
  refine k_iload_n Ox dL_law_910 rfl 3 rfl ?_
  refine k_iconst Ox (v := nI 2) dL_law_911 rfl ?_
  refine k_iaddN Ox dL_law_912 ?_
  refine k_sld Ox hScr (by omega) hLn dL_law_913 ?_
  refine k_callV Ox [27, 35] (c_X5_seen G (ad 27) (ad 28) (ad 29) (ad 30) (ad 31) (ad 32) (ad 33) (ad 34) (ad 35) (ad 36) (ad 37) (ad 38) (ad 39) (ad 40) fd sg mn w1 w2 w3 w4 w5 w6 SP SL (xs (i + 1)) (xs (i + 2)) hsg) 2 rfl rfl rfl ⟨rfl, rfl⟩ rfl rfl gL_law_X5_seen rfl 27 rfl ⟨rfl, (by decide +kernel), (by decide +kernel), (by decide +kernel)⟩ rfl dL_law_914 (Nat.le_of_ble_eq_true rfl) rfl ⟨Nat.le_trans (Nat.le_add_right n1 11) hr1, Nat.le_trans (Nat.le_add_right n2 96) hr2⟩ (fun r wa wb hp => ?_)
  obtain ⟨⟨rfl, rfl⟩, rfl⟩ := hp
  simp only [cW, mW, List.cons_append, List.nil_append, repl_cons, repl_nil, List.set_cons_zero, List.set_cons_succ, List.append_nil]
  show V x G 4 _ _ _ _ (.int _ :: _) (cW G ad L Gr O S T K (snP (xs (i + 1)) (xs (i + 2)) sg SP) (snL (xs (i + 1)) (xs (i + 2)) sg SL) B fd (snG (xs (i + 1)) (xs (i + 2)) sg) fi mn PS P W s z1 z2 g GU RO ++ (mW G ad L Gr O S T K (snP (xs (i + 1)) (xs (i + 2)) sg SP) (snL (xs (i + 1)) (xs (i + 2)) sg SL) B fd (snG (xs (i + 1)) (xs (i + 2)) sg) mn PS gM gc fI kf w1 w2 w3 w4 w5 w6 ++ (r0 ++ r1)))
  refine k_icmp_eq Ox 1070 dL_law_917 rfl (fun _ => ?_) (fun h => absurd (rfl) h)
  refine k_widen (n1 + 11) (n2 + 96) (Nat.le_add_right _ _) (Nat.le_add_right _ _) ?_
  exact kk _ ⟨_, _, _, _, _, _, _, _, _, _, _, _, _, _, _, _, _, _, _, _, _, _, _, _, _, _, _, _, _, _, _, _, r0, r1, rfl, ⟨hL, hG, hO, hS, hT, hN, hK, hB, snP_ok hsp, snL_ok hsl, ⟨hfd0, hfd⟩, snG_ok hsg⟩, hT9, h0, h1⟩
set_option maxHeartbeats 1000000 in
set_option maxRecDepth 8000 in
theorem lc_forget (G : Gx) {x : Cx} {nm : String} (Ox : Okx x G 4 cL_law wsL_law (⟨RL, nm, "([I)Z"⟩ : MethodName) room_1) {b Ln : Nat} {xs : Nat → Int32} (hScr : Scx x b Ln xs) (ad : Nat → Nat) {i n1 n2 : Nat} (hi6 : i + 6 ≤ Ln) (hLn : Ln ≤ 3072) (hr1 : n1 + 11 ≤ room_1.cells) (hr2 : n2 + 96 ≤ room_1.slots) (kk : ∀ ws : va_W, LoopI G ad ws → V x G 4 (n1 + 11) (n2 + 96) 1070 [(0, .ref b), (1, .ref (ad 0)), (2, .ref (ad 27)), (3, .int (nI i))] [] ws) (ws : va_W) (hI : LoopI G ad ws) : V x G 4 n1 n2 922 [(0, .ref b), (1, .ref (ad 0)), (2, .ref (ad 27)), (3, .int (nI i))] [] ws := by
  obtain ⟨L, Gr, O, S, T, K, SP, SL, B, fd, sg, fi, mn, PS, P, W, s, z1, z2, g, GU, RO, gM, gc, fI, kf, w1, w2, w3, w4, w5, w6, r0, r1, rfl, hC, hT9, h0, h1⟩ := hI
  obtain ⟨hL, hG, hO, hS, hT, hN, hK, hB, hsp, hsl, ⟨hfd0, hfd⟩, hsg⟩ := id hC
  obtain ⟨⟨hmn, hPS⟩, hws, hww⟩ := id hT9
  refine k_aload_n Ox dL_law_922 rfl 1 rfl ?_
  refine k_callV Ox [0, 1] (c_X4_forget G (ad 0) (ad 1) (ad 12) (ad 13) (ad 19) (ad 23) (ad 25) (ad 26) (ad 2) (ad 3) (ad 4) (ad 5) (ad 6) (ad 7) (ad 8) (ad 9) (ad 10) fd sg) 0 rfl rfl rfl ⟨rfl, rfl⟩ rfl rfl gL_law_X4_forget rfl 0 rfl ⟨rfl, (by decide +kernel), (by decide +kernel), (by decide +kernel)⟩ rfl dL_law_923 (Nat.le_of_ble_eq_true rfl) rfl ⟨Nat.le_trans (Nat.le_add_right n1 11) hr1, Nat.le_trans (Nat.le_add_right n2 96) hr2⟩ (fun r wa wb hp => ?_)
  obtain ⟨⟨rfl, rfl⟩, rfl⟩ := hp
  simp only [cW, mW, List.cons_append, List.nil_append, repl_cons, repl_nil, List.set_cons_zero, List.set_cons_succ, List.append_nil]
  show V x G 4 _ _ _ _ (.int _ :: _) (cW G ad L Gr O S T K SP SL B fd 0 fi mn PS P W s z1 z2 g GU RO ++ (mW G ad L Gr O S T K SP SL B fd sg mn PS gM gc fI kf w1 w2 w3 w4 w5 w6 ++ (r0 ++ r1)))
  refine k_aload_n Ox dL_law_926 rfl 2 rfl ?_
  refine k_callV Ox [27] (c_X5_forget G (ad 27) (ad 28) (ad 29) (ad 30) (ad 31) (ad 32) (ad 33) (ad 34) (ad 35) (ad 36) (ad 37) (ad 38) (ad 39) (ad 40) fd sg mn w1 w2 w3 w4 w5 w6) 0 rfl rfl rfl ⟨rfl, rfl⟩ rfl rfl gL_law_X5_forget rfl 27 rfl ⟨rfl, (by decide +kernel), (by decide +kernel), (by decide +kernel)⟩ rfl dL_law_927 (Nat.le_of_ble_eq_true rfl) rfl ⟨Nat.le_trans (Nat.le_add_right n1 11) hr1, Nat.le_trans (Nat.le_add_right n2 96) hr2⟩ (fun r wa wb hp => ?_)
  obtain ⟨⟨rfl, rfl⟩, rfl⟩ := hp
  simp only [cW, mW, List.cons_append, List.nil_append, repl_cons, repl_nil, List.set_cons_zero, List.set_cons_succ, List.append_nil]
  show V x G 4 _ _ _ _ (.int _ :: _) (cW G ad L Gr O S T K SP SL B fd 0 fi mn PS P W s z1 z2 g GU RO ++ (mW G ad L Gr O S T K SP SL B fd 0 mn PS gM gc fI kf w1 w2 w3 w4 w5 w6 ++ (r0 ++ r1)))
  refine k_icmp_eq Ox 1070 dL_law_930 rfl (fun _ => ?_) (fun h => absurd (rfl) h)
  refine k_widen (n1 + 11) (n2 + 96) (Nat.le_add_right _ _) (Nat.le_add_right _ _) ?_
  exact kk _ ⟨_, _, _, _, _, _, _, _, _, _, _, _, _, _, _, _, _, _, _, _, _, _, _, _, _, _, _, _, _, _, _, _, r0, r1, rfl, ⟨hL, hG, hO, hS, hT, hN, hK, hB, hsp, hsl, ⟨hfd0, hfd⟩, Nat.zero_le _⟩, hT9, h0, h1⟩
set_option maxHeartbeats 1000000 in
set_option maxRecDepth 8000 in
theorem lc_filled (G : Gx) {x : Cx} {nm : String} (Ox : Okx x G 4 cL_law wsL_law (⟨RL, nm, "([I)Z"⟩ : MethodName) room_1) {b Ln : Nat} {xs : Nat → Int32} (hScr : Scx x b Ln xs) (ad : Nat → Nat) {i n1 n2 : Nat} (hi6 : i + 6 ≤ Ln) (hLn : Ln ≤ 3072) (hr1 : n1 + 11 ≤ room_1.cells) (hr2 : n2 + 96 ≤ room_1.slots) (kk : ∀ ws : va_W, LoopI G ad ws → V x G 4 (n1 + 11) (n2 + 96) 1070 [(0, .ref b), (1, .ref (ad 0)), (2, .ref (ad 27)), (3, .int (nI i))] [] ws) (ws : va_W) (hI : LoopI G ad ws) : V x G 4 n1 n2 935 [(0, .ref b), (1, .ref (ad 0)), (2, .ref (ad 27)), (3, .int (nI i))] [] ws := by
  obtain ⟨L, Gr, O, S, T, K, SP, SL, B, fd, sg, fi, mn, PS, P, W, s, z1, z2, g, GU, RO, gM, gc, fI, kf, w1, w2, w3, w4, w5, w6, r0, r1, rfl, hC, hT9, h0, h1⟩ := hI
  obtain ⟨hL, hG, hO, hS, hT, hN, hK, hB, hsp, hsl, ⟨hfd0, hfd⟩, hsg⟩ := id hC
  obtain ⟨⟨hmn, hPS⟩, hws, hww⟩ := id hT9
  refine k_aload_n Ox dL_law_935 rfl 1 rfl ?_
  refine k_aload_n Ox dL_law_936 rfl 0 rfl ?_
  refine k_iload_n Ox dL_law_937 rfl 3 rfl ?_
  refine k_iconst Ox (v := nI 1) dL_law_938 rfl ?_
  refine k_iaddN Ox dL_law_939 ?_
  refine k_sld Ox hScr (by omega) hLn dL_law_940 ?_
  refine k_callV Ox [0, 1, 4, 6, 7, 8, 9, 10, 11, 13, 14, 15, 16, 17, 18, 25, 23, 24] (c_X4_filled G (ad 0) (ad 1) (ad 12) (ad 13) (ad 19) (ad 23) (ad 25) (ad 26) (ad 2) (ad 3) (ad 4) (ad 5) (ad 6) (ad 7) (ad 8) (ad 9) (ad 10) (ad 11) (ad 14) (ad 15) (ad 16) (ad 17) (ad 18) (ad 24) O T K SP SL GU PS B P fd sg mn g (xs (i + 1)) hO hT hK hB hfd hmn hPS hsp hsl hsg) 1 rfl rfl rfl ⟨rfl, rfl⟩ rfl rfl gL_law_X4_filled rfl 0 rfl ⟨rfl, (by decide +kernel), (by decide +kernel), (by decide +kernel)⟩ rfl dL_law_941 (Nat.le_of_ble_eq_true rfl) rfl ⟨Nat.le_trans (Nat.le_add_right n1 11) hr1, Nat.le_trans (Nat.le_add_right n2 96) hr2⟩ (fun r wa wb hp => ?_)
  obtain ⟨⟨rfl, GU9X, g9X, rfl⟩, rfl⟩ := hp
  simp only [cW, mW, List.cons_append, List.nil_append, repl_cons, repl_nil, List.set_cons_zero, List.set_cons_succ, List.append_nil]
  show V x G 4 _ _ _ _ (.int _ :: _) (cW G ad L Gr O S T K SP SL B fd sg fi mn PS (rdp PS P mn) W s z1 z2 g9X GU9X RO ++ (mW G ad L Gr O S T K SP SL B fd sg mn PS gM gc fI kf w1 w2 w3 w4 w5 w6 ++ (r0 ++ r1)))
  refine k_aload_n Ox dL_law_944 rfl 2 rfl ?_
  refine k_aload_n Ox dL_law_945 rfl 0 rfl ?_
  refine k_iload_n Ox dL_law_946 rfl 3 rfl ?_
  refine k_iconst Ox (v := nI 1) dL_law_947 rfl ?_
  refine k_iaddN Ox dL_law_948 ?_
  refine k_sld Ox hScr (by omega) hLn dL_law_949 ?_
  refine k_callV Ox [27, 30, 31, 32, 33, 35, 37, 36] (c_X5_filled G (ad 27) (ad 28) (ad 29) (ad 30) (ad 31) (ad 32) (ad 33) (ad 34) (ad 35) (ad 36) (ad 37) (ad 38) (ad 39) (ad 40) fd sg mn w1 w2 w3 w4 w5 w6 O T K SP SL B gM PS P (xs (i + 1)) hO hT hK hN hB hfd hmn hPS hsp hsl hsg) 1 rfl rfl rfl ⟨rfl, rfl⟩ rfl rfl gL_law_X5_filled rfl 27 rfl ⟨rfl, (by decide +kernel), (by decide +kernel), (by decide +kernel)⟩ rfl dL_law_950 (Nat.le_of_ble_eq_true rfl) rfl ⟨Nat.le_trans (Nat.le_add_right n1 11) hr1, Nat.le_trans (Nat.le_add_right n2 96) hr2⟩ (fun r wa wb hp => ?_)
  obtain ⟨⟨rfl, g9M, w91M, w92M, rfl⟩, rfl⟩ := hp
  simp only [cW, mW, List.cons_append, List.nil_append, repl_cons, repl_nil, List.set_cons_zero, List.set_cons_succ, List.append_nil]
  show V x G 4 _ _ _ _ (.int _ :: _) (cW G ad L Gr O S T K SP SL B fd sg fi mn PS (rdp PS P mn) W s z1 z2 g9X GU9X RO ++ (mW G ad L Gr O S T K SP SL B fd sg mn PS g9M gc fI kf w91M w92M w3 w4 w5 w6 ++ (r0 ++ r1)))
  refine k_icmp_eq Ox 1070 dL_law_953 rfl (fun _ => ?_) (fun h => absurd (rfl) h)
  refine k_widen (n1 + 11) (n2 + 96) (Nat.le_add_right _ _) (Nat.le_add_right _ _) ?_
  exact kk _ ⟨_, _, _, _, _, _, _, _, _, _, _, _, _, _, _, _, _, _, _, _, _, _, _, _, _, _, _, _, _, _, _, _, r0, r1, rfl, hC, hT9, h0, h1⟩
set_option maxHeartbeats 1000000 in
set_option maxRecDepth 8000 in
theorem lc_year (G : Gx) {x : Cx} {nm : String} (Ox : Okx x G 4 cL_law wsL_law (⟨RL, nm, "([I)Z"⟩ : MethodName) room_1) {b Ln : Nat} {xs : Nat → Int32} (hScr : Scx x b Ln xs) (ad : Nat → Nat) {i n1 n2 : Nat} (hi6 : i + 6 ≤ Ln) (hLn : Ln ≤ 3072) (hr1 : n1 + 11 ≤ room_1.cells) (hr2 : n2 + 96 ≤ room_1.slots) (kk : ∀ ws : va_W, LoopI G ad ws → V x G 4 (n1 + 11) (n2 + 96) 1070 [(0, .ref b), (1, .ref (ad 0)), (2, .ref (ad 27)), (3, .int (nI i))] [] ws) (ws : va_W) (hI : LoopI G ad ws) : V x G 4 n1 n2 958 [(0, .ref b), (1, .ref (ad 0)), (2, .ref (ad 27)), (3, .int (nI i))] [] ws := by
  obtain ⟨L, Gr, O, S, T, K, SP, SL, B, fd, sg, fi, mn, PS, P, W, s, z1, z2, g, GU, RO, gM, gc, fI, kf, w1, w2, w3, w4, w5, w6, r0, r1, rfl, hC, hT9, h0, h1⟩ := hI
  obtain ⟨hL, hG, hO, hS, hT, hN, hK, hB, hsp, hsl, ⟨hfd0, hfd⟩, hsg⟩ := id hC
  obtain ⟨⟨hmn, hPS⟩, hws, hww⟩ := id hT9
  refine k_aload_n Ox dL_law_958 rfl 1 rfl ?_
  refine k_aload_n Ox dL_law_959 rfl 0 rfl ?_
  refine k_iload_n Ox dL_law_960 rfl 3 rfl ?_
  refine k_iconst Ox (v := nI 1) dL_law_961 rfl ?_
  refine k_iaddN Ox dL_law_962 ?_
  refine k_sld Ox hScr (by omega) hLn dL_law_963 ?_
  refine k_aload_n Ox dL_law_964 rfl 0 rfl ?_
  refine k_iload_n Ox dL_law_965 rfl 3 rfl ?_
  refine k_iconst Ox (v := nI 2) dL_law_966 rfl ?_
  refine k_iaddN Ox dL_law_967 ?_
  refine k_sld Ox hScr (by omega) hLn dL_law_968 ?_
  refine k_aload_n Ox dL_law_969 rfl 0 rfl ?_
  refine k_iload_n Ox dL_law_970 rfl 3 rfl ?_
  refine k_iconst Ox (v := nI 3) dL_law_971 rfl ?_
  refine k_iaddN Ox dL_law_972 ?_
  refine k_sld Ox hScr (by omega) hLn dL_law_973 ?_
  refine k_callV Ox [0, 1, 4, 6, 7, 10, 11, 23, 24] (c_X4_year G (ad 0) (ad 1) (ad 12) (ad 13) (ad 19) (ad 23) (ad 25) (ad 26) (ad 2) (ad 3) (ad 4) (ad 5) (ad 6) (ad 7) (ad 8) (ad 9) (ad 10) (ad 11) (ad 24) O T K B fd sg g (xs (i + 1)) (xs (i + 2)) (xs (i + 3)) hO hT hK hB hfd) 3 rfl rfl rfl ⟨rfl, rfl⟩ rfl rfl gL_law_X4_year rfl 0 rfl ⟨rfl, (by decide +kernel), (by decide +kernel), (by decide +kernel)⟩ rfl dL_law_974 (Nat.le_of_ble_eq_true rfl) rfl ⟨Nat.le_trans (Nat.le_add_right n1 11) hr1, Nat.le_trans (Nat.le_add_right n2 96) hr2⟩ (fun r wa wb hp => ?_)
  obtain ⟨⟨rfl, g9X, rfl⟩, rfl⟩ := hp
  simp only [cW, mW, List.cons_append, List.nil_append, repl_cons, repl_nil, List.set_cons_zero, List.set_cons_succ, List.append_nil]
  show V x G 4 _ _ _ _ (.int _ :: _) (cW G ad L Gr O S T K SP SL B fd sg fi mn PS P W s z1 z2 g9X GU RO ++ (mW G ad L Gr O S T K SP SL B fd sg mn PS gM gc fI kf w1 w2 w3 w4 w5 w6 ++ (r0 ++ r1)))
  refine k_aload_n Ox dL_law_977 rfl 2 rfl ?_
  refine k_aload_n Ox dL_law_978 rfl 0 rfl ?_
  refine k_iload_n Ox dL_law_979 rfl 3 rfl ?_
  refine k_iconst Ox (v := nI 1) dL_law_980 rfl ?_
  refine k_iaddN Ox dL_law_981 ?_
  refine k_sld Ox hScr (by omega) hLn dL_law_982 ?_
  refine k_aload_n Ox dL_law_983 rfl 0 rfl ?_
  refine k_iload_n Ox dL_law_984 rfl 3 rfl ?_
  refine k_iconst Ox (v := nI 2) dL_law_985 rfl ?_
  refine k_iaddN Ox dL_law_986 ?_
  refine k_sld Ox hScr (by omega) hLn dL_law_987 ?_
  refine k_aload_n Ox dL_law_988 rfl 0 rfl ?_
  refine k_iload_n Ox dL_law_989 rfl 3 rfl ?_
  refine k_iconst Ox (v := nI 3) dL_law_990 rfl ?_
  refine k_iaddN Ox dL_law_991 ?_
  refine k_sld Ox hScr (by omega) hLn dL_law_992 ?_
  refine k_callV Ox [27, 30, 31, 32, 33, 37] (c_X5_year G (ad 27) (ad 28) (ad 29) (ad 30) (ad 31) (ad 32) (ad 33) (ad 34) (ad 35) (ad 36) (ad 37) (ad 38) (ad 39) (ad 40) fd sg mn w1 w2 w3 w4 w5 w6 O T K B gM (xs (i + 1)) (xs (i + 2)) (xs (i + 3)) hO hT hK hN hB hfd) 3 rfl rfl rfl ⟨rfl, rfl⟩ rfl rfl gL_law_X5_year rfl 27 rfl ⟨rfl, (by decide +kernel), (by decide +kernel), (by decide +kernel)⟩ rfl dL_law_993 (Nat.le_of_ble_eq_true rfl) rfl ⟨Nat.le_trans (Nat.le_add_right n1 11) hr1, Nat.le_trans (Nat.le_add_right n2 96) hr2⟩ (fun r wa wb hp => ?_)
  obtain ⟨⟨rfl, g9M, rfl⟩, rfl⟩ := hp
  simp only [cW, mW, List.cons_append, List.nil_append, repl_cons, repl_nil, List.set_cons_zero, List.set_cons_succ, List.append_nil]
  show V x G 4 _ _ _ _ (.int _ :: _) (cW G ad L Gr O S T K SP SL B fd sg fi mn PS P W s z1 z2 g9X GU RO ++ (mW G ad L Gr O S T K SP SL B fd sg mn PS g9M gc fI kf w1 w2 w3 w4 w5 w6 ++ (r0 ++ r1)))
  refine k_icmp_eq Ox 1070 dL_law_996 rfl (fun _ => ?_) (fun h => absurd (rfl) h)
  refine k_widen (n1 + 11) (n2 + 96) (Nat.le_add_right _ _) (Nat.le_add_right _ _) ?_
  exact kk _ ⟨_, _, _, _, _, _, _, _, _, _, _, _, _, _, _, _, _, _, _, _, _, _, _, _, _, _, _, _, _, _, _, _, r0, r1, rfl, hC, hT9, h0, h1⟩
set_option maxHeartbeats 1000000 in
set_option maxRecDepth 8000 in
theorem lc_told (G : Gx) {x : Cx} {nm : String} (Ox : Okx x G 4 cL_law wsL_law (⟨RL, nm, "([I)Z"⟩ : MethodName) room_1) {b Ln : Nat} {xs : Nat → Int32} (hScr : Scx x b Ln xs) (ad : Nat → Nat) {i n1 n2 : Nat} (hi6 : i + 6 ≤ Ln) (hLn : Ln ≤ 3072) (hr1 : n1 + 11 ≤ room_1.cells) (hr2 : n2 + 96 ≤ room_1.slots) (kk : ∀ ws : va_W, LoopI G ad ws → V x G 4 (n1 + 11) (n2 + 96) 1070 [(0, .ref b), (1, .ref (ad 0)), (2, .ref (ad 27)), (3, .int (nI i))] [] ws) (ws : va_W) (hI : LoopI G ad ws) : V x G 4 n1 n2 1047 [(0, .ref b), (1, .ref (ad 0)), (2, .ref (ad 27)), (3, .int (nI i))] [] ws := by
  obtain ⟨L, Gr, O, S, T, K, SP, SL, B, fd, sg, fi, mn, PS, P, W, s, z1, z2, g, GU, RO, gM, gc, fI, kf, w1, w2, w3, w4, w5, w6, r0, r1, rfl, hC, hT9, h0, h1⟩ := hI
  obtain ⟨hL, hG, hO, hS, hT, hN, hK, hB, hsp, hsl, ⟨hfd0, hfd⟩, hsg⟩ := id hC
  obtain ⟨⟨hmn, hPS⟩, hws, hww⟩ := id hT9
  refine k_aload_n Ox dL_law_1047 rfl 1 rfl ?_
  refine k_aload_n Ox dL_law_1048 rfl 0 rfl ?_
  refine k_iload_n Ox dL_law_1049 rfl 3 rfl ?_
  refine k_iconst Ox (v := nI 1) dL_law_1050 rfl ?_
  refine k_iaddN Ox dL_law_1051 ?_
  refine k_sld Ox hScr (by omega) hLn dL_law_1052 ?_
  refine k_callV Ox [0, 1, 13, 6, 7, 4, 2, 3, 5] (c_X4_told G (ad 0) (ad 1) (ad 12) (ad 13) (ad 19) (ad 23) (ad 25) (ad 26) (ad 2) (ad 3) (ad 4) (ad 5) (ad 6) (ad 7) (ad 8) (ad 9) (ad 10) (ad 14) (ad 15) (ad 16) (ad 17) (ad 18) L Gr O S T K P fd sg mn (xs (i + 1)) hO hL hG) 1 rfl rfl rfl ⟨rfl, rfl⟩ rfl rfl gL_law_X4_told rfl 0 rfl ⟨rfl, (by decide +kernel), (by decide +kernel), (by decide +kernel)⟩ rfl dL_law_1053 (Nat.le_of_ble_eq_true rfl) rfl ⟨Nat.le_trans (Nat.le_add_right n1 11) hr1, Nat.le_trans (Nat.le_add_right n2 96) hr2⟩ (fun r wa wb hp => ?_)
  obtain ⟨⟨rfl, rfl⟩, rfl⟩ := hp
  simp only [cW, mW, List.cons_append, List.nil_append, repl_cons, repl_nil, List.set_cons_zero, List.set_cons_succ, List.append_nil]
  show V x G 4 _ _ _ _ (.int _ :: _) (cW G ad L Gr O S T K SP SL B fd sg fi mn PS P W s z1 z2 g GU RO ++ (mW G ad L Gr O S T K SP SL B fd sg mn PS gM gc fI kf w1 w2 w3 w4 w5 w6 ++ (r0 ++ r1)))
  refine k_aload_n Ox dL_law_1056 rfl 2 rfl ?_
  refine k_aload_n Ox dL_law_1057 rfl 0 rfl ?_
  refine k_iload_n Ox dL_law_1058 rfl 3 rfl ?_
  refine k_iconst Ox (v := nI 1) dL_law_1059 rfl ?_
  refine k_iaddN Ox dL_law_1060 ?_
  refine k_sld Ox hScr (by omega) hLn dL_law_1061 ?_
  refine k_callV Ox [27, 31, 32, 30, 28, 29, 34] (c_X5_told G (ad 27) (ad 28) (ad 29) (ad 30) (ad 31) (ad 32) (ad 33) (ad 34) (ad 35) (ad 36) (ad 37) (ad 38) (ad 39) (ad 40) fd sg mn w1 w2 w3 w4 w5 w6 T K O L Gr S (xs (i + 1)) hO hL hG) 1 rfl rfl rfl ⟨rfl, rfl⟩ rfl rfl gL_law_X5_told rfl 27 rfl ⟨rfl, (by decide +kernel), (by decide +kernel), (by decide +kernel)⟩ rfl dL_law_1062 (Nat.le_of_ble_eq_true rfl) rfl ⟨Nat.le_trans (Nat.le_add_right n1 11) hr1, Nat.le_trans (Nat.le_add_right n2 96) hr2⟩ (fun r wa wb hp => ?_)
  obtain ⟨⟨rfl, rfl⟩, rfl⟩ := hp
  simp only [cW, mW, List.cons_append, List.nil_append, repl_cons, repl_nil, List.set_cons_zero, List.set_cons_succ, List.append_nil]
  show V x G 4 _ _ _ _ (.int _ :: _) (cW G ad L Gr O S T K SP SL B fd sg fi mn PS P W s z1 z2 g GU RO ++ (mW G ad L Gr O S T K SP SL B fd sg mn PS gM gc fI kf w1 w2 w3 w4 w5 w6 ++ (r0 ++ r1)))
  refine k_icmp_eq Ox 1070 dL_law_1065 rfl (fun _ => ?_) (fun h => absurd (rfl) h)
  refine k_widen (n1 + 11) (n2 + 96) (Nat.le_add_right _ _) (Nat.le_add_right _ _) ?_
  exact kk _ ⟨_, _, _, _, _, _, _, _, _, _, _, _, _, _, _, _, _, _, _, _, _, _, _, _, _, _, _, _, _, _, _, _, r0, r1, rfl, hC, hT9, h0, h1⟩
