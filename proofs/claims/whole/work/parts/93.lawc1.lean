set_option maxHeartbeats 1000000 in
set_option maxRecDepth 8000 in
theorem lc_fault (G : Gx) {x : Cx} {nm : String} (Ox : Okx x G 4 cL_law wsL_law (⟨RL, nm, "([I)Z"⟩ : MethodName) room_1) {b Ln : Nat} {xs : Nat → Int32} (hScr : Scx x b Ln xs) (ad : Nat → Nat) {i n1 n2 : Nat} (hi6 : i + 6 ≤ Ln) (hLn : Ln ≤ 3072) (hr1 : n1 + 11 ≤ room_1.cells) (hr2 : n2 + 96 ≤ room_1.slots) (kk : ∀ ws : va_W, LoopI G ad ws → V x G 4 (n1 + 11) (n2 + 96) 1070 [(0, .ref b), (1, .ref (ad 0)), (2, .ref (ad 27)), (3, .int (nI i))] [] ws) (ws : va_W) (hI : LoopI G ad ws) : V x G 4 n1 n2 386 [(0, .ref b), (1, .ref (ad 0)), (2, .ref (ad 27)), (3, .int (nI i))] [] ws := by
  obtain ⟨L, Gr, O, S, T, K, SP, SL, B, fd, sg, fi, mn, PS, P, W, s, z1, z2, g, GU, RO, gM, gc, fI, kf, w1, w2, w3, w4, w5, w6, r0, r1, rfl, hC, hT9, h0, h1⟩ := hI
  obtain ⟨hL, hG, hO, hS, hT, hN, hK, hB, hsp, hsl, ⟨hfd0, hfd⟩, hsg⟩ := id hC
  obtain ⟨⟨hmn, hPS⟩, hws, hww⟩ := id hT9
  refine k_aload_n Ox dL_law_386 rfl 1 rfl ?_
  refine k_callV Ox [0, 13, 14, 15, 16, 17, 18] (c_X4_fault G (ad 0) (ad 1) (ad 12) (ad 13) (ad 19) (ad 23) (ad 25) (ad 26) (ad 14) (ad 15) (ad 16) (ad 17) (ad 18) PS P mn hmn hPS) 0 rfl rfl rfl ⟨rfl, rfl⟩ rfl rfl gL_law_X4_fault rfl 0 rfl ⟨rfl, (by decide +kernel), (by decide +kernel), (by decide +kernel)⟩ rfl dL_law_387 (Nat.le_of_ble_eq_true rfl) rfl ⟨Nat.le_trans (Nat.le_add_right n1 11) hr1, Nat.le_trans (Nat.le_add_right n2 96) hr2⟩ (fun r wa wb hp => ?_)
  obtain ⟨⟨rfl, rfl⟩, rfl⟩ := hp
  simp only [cW, mW, List.cons_append, List.nil_append, repl_cons, repl_nil, List.set_cons_zero, List.set_cons_succ, List.append_nil]
  show V x G 4 _ _ _ _ (.int _ :: _) (cW G ad L Gr O S T K SP SL B fd sg fi mn PS (rdp PS P mn) W s z1 z2 g GU RO ++ (mW G ad L Gr O S T K SP SL B fd sg mn PS gM gc fI kf w1 w2 w3 w4 w5 w6 ++ (r0 ++ r1)))
  refine k_aload_n Ox dL_law_390 rfl 2 rfl ?_
  refine k_callV Ox [27, 36] (c_X5_fault G (ad 27) (ad 28) (ad 29) (ad 30) (ad 31) (ad 32) (ad 33) (ad 34) (ad 35) (ad 36) (ad 37) (ad 38) (ad 39) (ad 40) fd sg mn w1 w2 w3 w4 w5 w6 PS hmn hPS) 0 rfl rfl rfl ⟨rfl, rfl⟩ rfl rfl gL_law_X5_fault rfl 27 rfl ⟨rfl, (by decide +kernel), (by decide +kernel), (by decide +kernel)⟩ rfl dL_law_391 (Nat.le_of_ble_eq_true rfl) rfl ⟨Nat.le_trans (Nat.le_add_right n1 11) hr1, Nat.le_trans (Nat.le_add_right n2 96) hr2⟩ (fun r wa wb hp => ?_)
  obtain ⟨⟨rfl, rfl⟩, rfl⟩ := hp
  simp only [cW, mW, List.cons_append, List.nil_append, repl_cons, repl_nil, List.set_cons_zero, List.set_cons_succ, List.append_nil]
  show V x G 4 _ _ _ _ (.int _ :: _) (cW G ad L Gr O S T K SP SL B fd sg fi mn PS (rdp PS P mn) W s z1 z2 g GU RO ++ (mW G ad L Gr O S T K SP SL B fd sg mn PS gM gc fI kf w1 w2 w3 w4 w5 w6 ++ (r0 ++ r1)))
  refine k_icmp_eq Ox 1070 dL_law_394 rfl (fun _ => ?_) (fun h => absurd (flt_eq P mn) h)
  refine k_widen (n1 + 11) (n2 + 96) (Nat.le_add_right _ _) (Nat.le_add_right _ _) ?_
  exact kk _ ⟨_, _, _, _, _, _, _, _, _, _, _, _, _, _, _, _, _, _, _, _, _, _, _, _, _, _, _, _, _, _, _, _, r0, r1, rfl, hC, hT9, h0, h1⟩
set_option maxHeartbeats 1000000 in
set_option maxRecDepth 8000 in
theorem lc_vain (G : Gx) {x : Cx} {nm : String} (Ox : Okx x G 4 cL_law wsL_law (⟨RL, nm, "([I)Z"⟩ : MethodName) room_1) {b Ln : Nat} {xs : Nat → Int32} (hScr : Scx x b Ln xs) (ad : Nat → Nat) {i n1 n2 : Nat} (hi6 : i + 6 ≤ Ln) (hLn : Ln ≤ 3072) (hr1 : n1 + 11 ≤ room_1.cells) (hr2 : n2 + 96 ≤ room_1.slots) (kk : ∀ ws : va_W, LoopI G ad ws → V x G 4 (n1 + 11) (n2 + 96) 1070 [(0, .ref b), (1, .ref (ad 0)), (2, .ref (ad 27)), (3, .int (nI i))] [] ws) (ws : va_W) (hI : LoopI G ad ws) : V x G 4 n1 n2 399 [(0, .ref b), (1, .ref (ad 0)), (2, .ref (ad 27)), (3, .int (nI i))] [] ws := by
  obtain ⟨L, Gr, O, S, T, K, SP, SL, B, fd, sg, fi, mn, PS, P, W, s, z1, z2, g, GU, RO, gM, gc, fI, kf, w1, w2, w3, w4, w5, w6, r0, r1, rfl, hC, hT9, h0, h1⟩ := hI
  obtain ⟨hL, hG, hO, hS, hT, hN, hK, hB, hsp, hsl, ⟨hfd0, hfd⟩, hsg⟩ := id hC
  obtain ⟨⟨hmn, hPS⟩, hws, hww⟩ := id hT9
  refine k_aload_n Ox dL_law_399 rfl 1 rfl ?_
  refine k_aload_n Ox dL_law_400 rfl 0 rfl ?_
  refine k_iload_n Ox dL_law_401 rfl 3 rfl ?_
  refine k_iconst Ox (v := nI 1) dL_law_402 rfl ?_
  refine k_iaddN Ox dL_law_403 ?_
  refine k_sld Ox hScr (by omega) hLn dL_law_404 ?_
  refine k_callV Ox [0, 1, 4, 6, 7, 10, 11, 13, 14, 15, 16, 17, 18, 25, 23, 24] (c_X4_vain G (ad 0) (ad 1) (ad 12) (ad 13) (ad 19) (ad 23) (ad 25) (ad 26) (ad 2) (ad 3) (ad 4) (ad 5) (ad 6) (ad 7) (ad 8) (ad 9) (ad 10) (ad 11) (ad 14) (ad 15) (ad 16) (ad 17) (ad 18) (ad 24) O T K GU PS B P fd sg mn g (xs (i + 1)) hO hT hK hB hfd hmn hPS) 1 rfl rfl rfl ⟨rfl, rfl⟩ rfl rfl gL_law_X4_vain rfl 0 rfl ⟨rfl, (by decide +kernel), (by decide +kernel), (by decide +kernel)⟩ rfl dL_law_405 (Nat.le_of_ble_eq_true rfl) rfl ⟨Nat.le_trans (Nat.le_add_right n1 11) hr1, Nat.le_trans (Nat.le_add_right n2 96) hr2⟩ (fun r wa wb hp => ?_)
  obtain ⟨⟨rfl, g9X, rfl⟩, rfl⟩ := hp
  simp only [cW, mW, List.cons_append, List.nil_append, repl_cons, repl_nil, List.set_cons_zero, List.set_cons_succ, List.append_nil]
  show V x G 4 _ _ _ _ (.int _ :: _) (cW G ad L Gr O S T K SP SL B fd sg fi mn PS (rdp PS P mn) W s z1 z2 g9X GU RO ++ (mW G ad L Gr O S T K SP SL B fd sg mn PS gM gc fI kf w1 w2 w3 w4 w5 w6 ++ (r0 ++ r1)))
  refine k_aload_n Ox dL_law_408 rfl 2 rfl ?_
  refine k_aload_n Ox dL_law_409 rfl 0 rfl ?_
  refine k_iload_n Ox dL_law_410 rfl 3 rfl ?_
  refine k_iconst Ox (v := nI 1) dL_law_411 rfl ?_
  refine k_iaddN Ox dL_law_412 ?_
  refine k_sld Ox hScr (by omega) hLn dL_law_413 ?_
  refine k_callV Ox [27, 30, 31, 32, 33, 37, 36] (c_X5_vain G (ad 27) (ad 28) (ad 29) (ad 30) (ad 31) (ad 32) (ad 33) (ad 34) (ad 35) (ad 36) (ad 37) (ad 38) (ad 39) (ad 40) fd sg mn w1 w2 w3 w4 w5 w6 O T K GU B gM PS P (xs (i + 1)) hO hT hK hN hB hfd hmn hPS) 1 rfl rfl rfl ⟨rfl, rfl⟩ rfl rfl gL_law_X5_vain rfl 27 rfl ⟨rfl, (by decide +kernel), (by decide +kernel), (by decide +kernel)⟩ rfl dL_law_414 (Nat.le_of_ble_eq_true rfl) rfl ⟨Nat.le_trans (Nat.le_add_right n1 11) hr1, Nat.le_trans (Nat.le_add_right n2 96) hr2⟩ (fun r wa wb hp => ?_)
  obtain ⟨⟨rfl, g9M, w91M, w92M, rfl⟩, rfl⟩ := hp
  simp only [cW, mW, List.cons_append, List.nil_append, repl_cons, repl_nil, List.set_cons_zero, List.set_cons_succ, List.append_nil]
  show V x G 4 _ _ _ _ (.int _ :: _) (cW G ad L Gr O S T K SP SL B fd sg fi mn PS (rdp PS P mn) W s z1 z2 g9X GU RO ++ (mW G ad L Gr O S T K SP SL B fd sg mn PS g9M gc fI kf w91M w92M w3 w4 w5 w6 ++ (r0 ++ r1)))
  refine k_icmp_eq Ox 1070 dL_law_417 rfl (fun _ => ?_) (fun h => absurd (rfl) h)
  refine k_widen (n1 + 11) (n2 + 96) (Nat.le_add_right _ _) (Nat.le_add_right _ _) ?_
  exact kk _ ⟨_, _, _, _, _, _, _, _, _, _, _, _, _, _, _, _, _, _, _, _, _, _, _, _, _, _, _, _, _, _, _, _, r0, r1, rfl, hC, hT9, h0, h1⟩
set_option maxHeartbeats 1000000 in
set_option maxRecDepth 8000 in
theorem lc_done (G : Gx) {x : Cx} {nm : String} (Ox : Okx x G 4 cL_law wsL_law (⟨RL, nm, "([I)Z"⟩ : MethodName) room_1) {b Ln : Nat} {xs : Nat → Int32} (hScr : Scx x b Ln xs) (ad : Nat → Nat) {i n1 n2 : Nat} (hi6 : i + 6 ≤ Ln) (hLn : Ln ≤ 3072) (hr1 : n1 + 11 ≤ room_1.cells) (hr2 : n2 + 96 ≤ room_1.slots) (kk : ∀ ws : va_W, LoopI G ad ws → V x G 4 (n1 + 11) (n2 + 96) 1070 [(0, .ref b), (1, .ref (ad 0)), (2, .ref (ad 27)), (3, .int (nI i))] [] ws) (ws : va_W) (hI : LoopI G ad ws) : V x G 4 n1 n2 422 [(0, .ref b), (1, .ref (ad 0)), (2, .ref (ad 27)), (3, .int (nI i))] [] ws := by
  obtain ⟨L, Gr, O, S, T, K, SP, SL, B, fd, sg, fi, mn, PS, P, W, s, z1, z2, g, GU, RO, gM, gc, fI, kf, w1, w2, w3, w4, w5, w6, r0, r1, rfl, hC, hT9, h0, h1⟩ := hI
  obtain ⟨hL, hG, hO, hS, hT, hN, hK, hB, hsp, hsl, ⟨hfd0, hfd⟩, hsg⟩ := id hC
  obtain ⟨⟨hmn, hPS⟩, hws, hww⟩ := id hT9
  refine k_aload_n Ox dL_law_422 rfl 1 rfl ?_
  refine k_callV Ox [0, 1, 4, 6, 7, 10, 11, 13, 14, 15, 16, 17, 18, 25] (c_X4_done G (ad 0) (ad 1) (ad 12) (ad 13) (ad 19) (ad 23) (ad 25) (ad 26) (ad 2) (ad 3) (ad 4) (ad 5) (ad 6) (ad 7) (ad 8) (ad 9) (ad 10) (ad 11) (ad 14) (ad 15) (ad 16) (ad 17) (ad 18) O T K GU PS B P fd sg mn hO hT hK hB hfd hmn hPS) 0 rfl rfl rfl ⟨rfl, rfl⟩ rfl rfl gL_law_X4_done rfl 0 rfl ⟨rfl, (by decide +kernel), (by decide +kernel), (by decide +kernel)⟩ rfl dL_law_423 (Nat.le_of_ble_eq_true rfl) rfl ⟨Nat.le_trans (Nat.le_add_right n1 11) hr1, Nat.le_trans (Nat.le_add_right n2 96) hr2⟩ (fun r wa wb hp => ?_)
  obtain ⟨⟨rfl, rfl⟩, rfl⟩ := hp
  simp only [cW, mW, List.cons_append, List.nil_append, repl_cons, repl_nil, List.set_cons_zero, List.set_cons_succ, List.append_nil]
  show V x G 4 _ _ _ _ (.int _ :: _) (cW G ad L Gr O S T K SP SL (dnB O T K fd GU PS P mn B) fd sg fi (if rfR PS P mn = 0 then 0 else mn) PS (rdp PS P mn) W s z1 z2 g GU RO ++ (mW G ad L Gr O S T K SP SL B fd sg mn PS gM gc fI kf w1 w2 w3 w4 w5 w6 ++ (r0 ++ r1)))
  refine k_aload_n Ox dL_law_426 rfl 2 rfl ?_
  refine k_callV Ox [27, 30, 31, 32, 33, 37, 36] (c_X5_done G (ad 27) (ad 28) (ad 29) (ad 30) (ad 31) (ad 32) (ad 33) (ad 34) (ad 35) (ad 36) (ad 37) (ad 38) (ad 39) (ad 40) fd sg mn w1 w2 w3 w4 w5 w6 O T K GU B gM PS P hO hT hK hN hB hfd hmn hPS) 0 rfl rfl rfl ⟨rfl, rfl⟩ rfl rfl gL_law_X5_done rfl 27 rfl ⟨rfl, (by decide +kernel), (by decide +kernel), (by decide +kernel)⟩ rfl dL_law_427 (Nat.le_of_ble_eq_true rfl) rfl ⟨Nat.le_trans (Nat.le_add_right n1 11) hr1, Nat.le_trans (Nat.le_add_right n2 96) hr2⟩ (fun r wa wb hp => ?_)
  obtain ⟨⟨rfl, g9M, w91M, w92M, rfl⟩, rfl⟩ := hp
  simp only [cW, mW, List.cons_append, List.nil_append, repl_cons, repl_nil, List.set_cons_zero, List.set_cons_succ, List.append_nil]
  show V x G 4 _ _ _ _ (.int _ :: _) (cW G ad L Gr O S T K SP SL (dnB O T K fd GU PS P mn B) fd sg fi (if rfR PS P mn = 0 then 0 else mn) PS (rdp PS P mn) W s z1 z2 g GU RO ++ (mW G ad L Gr O S T K SP SL (dnB O T K fd GU PS P mn B) fd sg (if rfR PS P mn = 0 then 0 else mn) PS g9M gc fI kf w91M w92M w3 w4 w5 w6 ++ (r0 ++ r1)))
  refine k_icmp_eq Ox 1070 dL_law_430 rfl (fun _ => ?_) (fun h => absurd (rfl) h)
  refine k_widen (n1 + 11) (n2 + 96) (Nat.le_add_right _ _) (Nat.le_add_right _ _) ?_
  exact kk _ ⟨_, _, _, _, _, _, _, _, _, _, _, _, _, _, _, _, _, _, _, _, _, _, _, _, _, _, _, _, _, _, _, _, r0, r1, rfl, ⟨hL, hG, hO, hS, hT, hN, hK, dnB_ok hB hfd, hsp, hsl, ⟨hfd0, hfd⟩, hsg⟩, ⟨dnM_ok hmn hPS, hws, hww⟩, h0, h1⟩
set_option maxHeartbeats 1000000 in
set_option maxRecDepth 8000 in
theorem lc_bears (G : Gx) {x : Cx} {nm : String} (Ox : Okx x G 4 cL_law wsL_law (⟨RL, nm, "([I)Z"⟩ : MethodName) room_1) {b Ln : Nat} {xs : Nat → Int32} (hScr : Scx x b Ln xs) (ad : Nat → Nat) {i n1 n2 : Nat} (hi6 : i + 6 ≤ Ln) (hLn : Ln ≤ 3072) (hr1 : n1 + 11 ≤ room_1.cells) (hr2 : n2 + 96 ≤ room_1.slots) (kk : ∀ ws : va_W, LoopI G ad ws → V x G 4 (n1 + 11) (n2 + 96) 1070 [(0, .ref b), (1, .ref (ad 0)), (2, .ref (ad 27)), (3, .int (nI i))] [] ws) (ws : va_W) (hI : LoopI G ad ws) : V x G 4 n1 n2 435 [(0, .ref b), (1, .ref (ad 0)), (2, .ref (ad 27)), (3, .int (nI i))] [] ws := by
  obtain ⟨L, Gr, O, S, T, K, SP, SL, B, fd, sg, fi, mn, PS, P, W, s, z1, z2, g, GU, RO, gM, gc, fI, kf, w1, w2, w3, w4, w5, w6, r0, r1, rfl, hC, hT9, h0, h1⟩ := hI
  obtain ⟨hL, hG, hO, hS, hT, hN, hK, hB, hsp, hsl, ⟨hfd0, hfd⟩, hsg⟩ := id hC
  obtain ⟨⟨hmn, hPS⟩, hws, hww⟩ := id hT9
  refine k_aload_n Ox dL_law_435 rfl 1 rfl ?_
  refine k_aload_n Ox dL_law_436 rfl 0 rfl ?_
  refine k_iload_n Ox dL_law_437 rfl 3 rfl ?_
  refine k_iconst Ox (v := nI 1) dL_law_438 rfl ?_
  refine k_iaddN Ox dL_law_439 ?_
  refine k_sld Ox hScr (by omega) hLn dL_law_440 ?_
  refine k_aload_n Ox dL_law_441 rfl 0 rfl ?_
  refine k_iload_n Ox dL_law_442 rfl 3 rfl ?_
  refine k_iconst Ox (v := nI 2) dL_law_443 rfl ?_
  refine k_iaddN Ox dL_law_444 ?_
  refine k_sld Ox hScr (by omega) hLn dL_law_445 ?_
  refine k_callV Ox [0, 1, 10, 11] (c_X4_bears G (ad 0) (ad 1) (ad 12) (ad 13) (ad 19) (ad 23) (ad 25) (ad 26) (ad 2) (ad 3) (ad 4) (ad 5) (ad 6) (ad 7) (ad 8) (ad 9) (ad 10) (ad 11) B fd sg (xs (i + 1)) (xs (i + 2)) hB) 2 rfl rfl rfl ⟨rfl, rfl⟩ rfl rfl gL_law_X4_bears rfl 0 rfl ⟨rfl, (by decide +kernel), (by decide +kernel), (by decide +kernel)⟩ rfl dL_law_446 (Nat.le_of_ble_eq_true rfl) rfl ⟨Nat.le_trans (Nat.le_add_right n1 11) hr1, Nat.le_trans (Nat.le_add_right n2 96) hr2⟩ (fun r wa wb hp => ?_)
  obtain ⟨⟨rfl, rfl⟩, rfl⟩ := hp
  simp only [cW, mW, List.cons_append, List.nil_append, repl_cons, repl_nil, List.set_cons_zero, List.set_cons_succ, List.append_nil]
  show V x G 4 _ _ _ _ (.int _ :: _) (cW G ad L Gr O S T K SP SL B fd sg fi mn PS P W s z1 z2 g GU RO ++ (mW G ad L Gr O S T K SP SL B fd sg mn PS gM gc fI kf w1 w2 w3 w4 w5 w6 ++ (r0 ++ r1)))
  refine k_aload_n Ox dL_law_449 rfl 2 rfl ?_
  refine k_aload_n Ox dL_law_450 rfl 0 rfl ?_
  refine k_iload_n Ox dL_law_451 rfl 3 rfl ?_
  refine k_iconst Ox (v := nI 1) dL_law_452 rfl ?_
  refine k_iaddN Ox dL_law_453 ?_
  refine k_sld Ox hScr (by omega) hLn dL_law_454 ?_
  refine k_aload_n Ox dL_law_455 rfl 0 rfl ?_
  refine k_iload_n Ox dL_law_456 rfl 3 rfl ?_
  refine k_iconst Ox (v := nI 2) dL_law_457 rfl ?_
  refine k_iaddN Ox dL_law_458 ?_
  refine k_sld Ox hScr (by omega) hLn dL_law_459 ?_
  refine k_callV Ox [27, 33, 37] (c_X5_bears G (ad 27) (ad 28) (ad 29) (ad 30) (ad 31) (ad 32) (ad 33) (ad 34) (ad 35) (ad 36) (ad 37) (ad 38) (ad 39) (ad 40) fd sg mn w1 w2 w3 w4 w5 w6 B gM (xs (i + 1)) (xs (i + 2)) hB) 2 rfl rfl rfl ⟨rfl, rfl⟩ rfl rfl gL_law_X5_bears rfl 27 rfl ⟨rfl, (by decide +kernel), (by decide +kernel), (by decide +kernel)⟩ rfl dL_law_460 (Nat.le_of_ble_eq_true rfl) rfl ⟨Nat.le_trans (Nat.le_add_right n1 11) hr1, Nat.le_trans (Nat.le_add_right n2 96) hr2⟩ (fun r wa wb hp => ?_)
  obtain ⟨⟨rfl, g9M, rfl⟩, rfl⟩ := hp
  simp only [cW, mW, List.cons_append, List.nil_append, repl_cons, repl_nil, List.set_cons_zero, List.set_cons_succ, List.append_nil]
  show V x G 4 _ _ _ _ (.int _ :: _) (cW G ad L Gr O S T K SP SL B fd sg fi mn PS P W s z1 z2 g GU RO ++ (mW G ad L Gr O S T K SP SL B fd sg mn PS g9M gc fI kf w1 w2 w3 w4 w5 w6 ++ (r0 ++ r1)))
  refine k_icmp_eq Ox 1070 dL_law_463 rfl (fun _ => ?_) (fun h => absurd (rfl) h)
  refine k_widen (n1 + 11) (n2 + 96) (Nat.le_add_right _ _) (Nat.le_add_right _ _) ?_
  exact kk _ ⟨_, _, _, _, _, _, _, _, _, _, _, _, _, _, _, _, _, _, _, _, _, _, _, _, _, _, _, _, _, _, _, _, r0, r1, rfl, hC, hT9, h0, h1⟩
set_option maxHeartbeats 1000000 in
set_option maxRecDepth 8000 in
theorem lc_behind (G : Gx) {x : Cx} {nm : String} (Ox : Okx x G 4 cL_law wsL_law (⟨RL, nm, "([I)Z"⟩ : MethodName) room_1) {b Ln : Nat} {xs : Nat → Int32} (hScr : Scx x b Ln xs) (ad : Nat → Nat) {i n1 n2 : Nat} (hi6 : i + 6 ≤ Ln) (hLn : Ln ≤ 3072) (hr1 : n1 + 11 ≤ room_1.cells) (hr2 : n2 + 96 ≤ room_1.slots) (kk : ∀ ws : va_W, LoopI G ad ws → V x G 4 (n1 + 11) (n2 + 96) 1070 [(0, .ref b), (1, .ref (ad 0)), (2, .ref (ad 27)), (3, .int (nI i))] [] ws) (ws : va_W) (hI : LoopI G ad ws) : V x G 4 n1 n2 468 [(0, .ref b), (1, .ref (ad 0)), (2, .ref (ad 27)), (3, .int (nI i))] [] ws := by
  obtain ⟨L, Gr, O, S, T, K, SP, SL, B, fd, sg, fi, mn, PS, P, W, s, z1, z2, g, GU, RO, gM, gc, fI, kf, w1, w2, w3, w4, w5, w6, r0, r1, rfl, hC, hT9, h0, h1⟩ := hI
  obtain ⟨hL, hG, hO, hS, hT, hN, hK, hB, hsp, hsl, ⟨hfd0, hfd⟩, hsg⟩ := id hC
  obtain ⟨⟨hmn, hPS⟩, hws, hww⟩ := id hT9
  refine k_aload_n Ox dL_law_468 rfl 1 rfl ?_
  refine k_aload_n Ox dL_law_469 rfl 0 rfl ?_
  refine k_iload_n Ox dL_law_470 rfl 3 rfl ?_
  refine k_iconst Ox (v := nI 1) dL_law_471 rfl ?_
  refine k_iaddN Ox dL_law_472 ?_
  refine k_sld Ox hScr (by omega) hLn dL_law_473 ?_
  refine k_aload_n Ox dL_law_474 rfl 0 rfl ?_
  refine k_iload_n Ox dL_law_475 rfl 3 rfl ?_
  refine k_iconst Ox (v := nI 2) dL_law_476 rfl ?_
  refine k_iaddN Ox dL_law_477 ?_
  refine k_sld Ox hScr (by omega) hLn dL_law_478 ?_
  refine k_callV Ox [0, 1, 4, 6, 7, 10, 11, 13, 14, 15, 16, 17, 18, 25, 23, 24] (c_X4_behind G (ad 0) (ad 1) (ad 12) (ad 13) (ad 19) (ad 23) (ad 25) (ad 26) (ad 2) (ad 3) (ad 4) (ad 5) (ad 6) (ad 7) (ad 8) (ad 9) (ad 10) (ad 11) (ad 14) (ad 15) (ad 16) (ad 17) (ad 18) (ad 24) O T K GU PS B P fd sg mn g (xs (i + 1)) (xs (i + 2)) hO hT hK hB hfd hmn hPS) 2 rfl rfl rfl ⟨rfl, rfl⟩ rfl rfl gL_law_X4_behind rfl 0 rfl ⟨rfl, (by decide +kernel), (by decide +kernel), (by decide +kernel)⟩ rfl dL_law_479 (Nat.le_of_ble_eq_true rfl) rfl ⟨Nat.le_trans (Nat.le_add_right n1 11) hr1, Nat.le_trans (Nat.le_add_right n2 96) hr2⟩ (fun r wa wb hp => ?_)
  obtain ⟨⟨rfl, P9X, g9X, rfl⟩, rfl⟩ := hp
  simp only [cW, mW, List.cons_append, List.nil_append, repl_cons, repl_nil, List.set_cons_zero, List.set_cons_succ, List.append_nil]
  show V x G 4 _ _ _ _ (.int _ :: _) (cW G ad L Gr O S T K SP SL B fd sg fi mn PS P9X W s z1 z2 g9X GU RO ++ (mW G ad L Gr O S T K SP SL B fd sg mn PS gM gc fI kf w1 w2 w3 w4 w5 w6 ++ (r0 ++ r1)))
  refine k_aload_n Ox dL_law_482 rfl 2 rfl ?_
  refine k_aload_n Ox dL_law_483 rfl 0 rfl ?_
  refine k_iload_n Ox dL_law_484 rfl 3 rfl ?_
  refine k_iconst Ox (v := nI 1) dL_law_485 rfl ?_
  refine k_iaddN Ox dL_law_486 ?_
  refine k_sld Ox hScr (by omega) hLn dL_law_487 ?_
  refine k_aload_n Ox dL_law_488 rfl 0 rfl ?_
  refine k_iload_n Ox dL_law_489 rfl 3 rfl ?_
  refine k_iconst Ox (v := nI 2) dL_law_490 rfl ?_
  refine k_iaddN Ox dL_law_491 ?_
  refine k_sld Ox hScr (by omega) hLn dL_law_492 ?_
  refine k_callV Ox [27, 30, 31, 32, 33, 37, 36] (c_X5_behind G (ad 27) (ad 28) (ad 29) (ad 30) (ad 31) (ad 32) (ad 33) (ad 34) (ad 35) (ad 36) (ad 37) (ad 38) (ad 39) (ad 40) fd sg mn w1 w2 w3 w4 w5 w6 O T K GU B gM PS P (xs (i + 1)) (xs (i + 2)) hO hT hK hN hB hfd hmn hPS) 2 rfl rfl rfl ⟨rfl, rfl⟩ rfl rfl gL_law_X5_behind rfl 27 rfl ⟨rfl, (by decide +kernel), (by decide +kernel), (by decide +kernel)⟩ rfl dL_law_493 (Nat.le_of_ble_eq_true rfl) rfl ⟨Nat.le_trans (Nat.le_add_right n1 11) hr1, Nat.le_trans (Nat.le_add_right n2 96) hr2⟩ (fun r wa wb hp => ?_)
  obtain ⟨⟨rfl, g9M, w91M, w92M, rfl⟩, rfl⟩ := hp
  simp only [cW, mW, List.cons_append, List.nil_append, repl_cons, repl_nil, List.set_cons_zero, List.set_cons_succ, List.append_nil]
  show V x G 4 _ _ _ _ (.int _ :: _) (cW G ad L Gr O S T K SP SL B fd sg fi mn PS P9X W s z1 z2 g9X GU RO ++ (mW G ad L Gr O S T K SP SL B fd sg mn PS g9M gc fI kf w91M w92M w3 w4 w5 w6 ++ (r0 ++ r1)))
  refine k_icmp_eq Ox 1070 dL_law_496 rfl (fun _ => ?_) (fun h => absurd (rfl) h)
  refine k_widen (n1 + 11) (n2 + 96) (Nat.le_add_right _ _) (Nat.le_add_right _ _) ?_
  exact kk _ ⟨_, _, _, _, _, _, _, _, _, _, _, _, _, _, _, _, _, _, _, _, _, _, _, _, _, _, _, _, _, _, _, _, r0, r1, rfl, hC, hT9, h0, h1⟩
set_option maxHeartbeats 1000000 in
set_option maxRecDepth 8000 in
theorem lc_falls (G : Gx) {x : Cx} {nm : String} (Ox : Okx x G 4 cL_law wsL_law (⟨RL, nm, "([I)Z"⟩ : MethodName) room_1) {b Ln : Nat} {xs : Nat → Int32} (hScr : Scx x b Ln xs) (ad : Nat → Nat) {i n1 n2 : Nat} (hi6 : i + 6 ≤ Ln) (hLn : Ln ≤ 3072) (hr1 : n1 + 11 ≤ room_1.cells) (hr2 : n2 + 96 ≤ room_1.slots) (kk : ∀ ws : va_W, LoopI G ad ws → V x G 4 (n1 + 11) (n2 + 96) 1070 [(0, .ref b), (1, .ref (ad 0)), (2, .ref (ad 27)), (3, .int (nI i))] [] ws) (ws : va_W) (hI : LoopI G ad ws) : V x G 4 n1 n2 501 [(0, .ref b), (1, .ref (ad 0)), (2, .ref (ad 27)), (3, .int (nI i))] [] ws := by
  obtain ⟨L, Gr, O, S, T, K, SP, SL, B, fd, sg, fi, mn, PS, P, W, s, z1, z2, g, GU, RO, gM, gc, fI, kf, w1, w2, w3, w4, w5, w6, r0, r1, rfl, hC, hT9, h0, h1⟩ := hI
  obtain ⟨hL, hG, hO, hS, hT, hN, hK, hB, hsp, hsl, ⟨hfd0, hfd⟩, hsg⟩ := id hC
  obtain ⟨⟨hmn, hPS⟩, hws, hww⟩ := id hT9
  refine k_aload_n Ox dL_law_501 rfl 1 rfl ?_
  refine k_aload_n Ox dL_law_502 rfl 0 rfl ?_
  refine k_iload_n Ox dL_law_503 rfl 3 rfl ?_
  refine k_iconst Ox (v := nI 1) dL_law_504 rfl ?_
  refine k_iaddN Ox dL_law_505 ?_
  refine k_sld Ox hScr (by omega) hLn dL_law_506 ?_
  refine k_aload_n Ox dL_law_507 rfl 0 rfl ?_
  refine k_iload_n Ox dL_law_508 rfl 3 rfl ?_
  refine k_iconst Ox (v := nI 2) dL_law_509 rfl ?_
  refine k_iaddN Ox dL_law_510 ?_
  refine k_sld Ox hScr (by omega) hLn dL_law_511 ?_
  refine k_aload_n Ox dL_law_512 rfl 0 rfl ?_
  refine k_iload_n Ox dL_law_513 rfl 3 rfl ?_
  refine k_iconst Ox (v := nI 3) dL_law_514 rfl ?_
  refine k_iaddN Ox dL_law_515 ?_
  refine k_sld Ox hScr (by omega) hLn dL_law_516 ?_
  refine k_aload_n Ox dL_law_517 rfl 0 rfl ?_
  refine k_iload_n Ox dL_law_518 rfl 3 rfl ?_
  refine k_iconst Ox (v := nI 4) dL_law_519 rfl ?_
  refine k_iaddN Ox dL_law_520 ?_
  refine k_sld Ox hScr (by omega) hLn dL_law_521 ?_
  refine k_aload_n Ox dL_law_522 rfl 0 rfl ?_
  refine k_iload_n Ox dL_law_523 rfl 3 rfl ?_
  refine k_iconst Ox (v := nI 5) dL_law_524 rfl ?_
  refine k_iaddN Ox dL_law_525 ?_
  refine k_sld Ox hScr (by omega) hLn dL_law_526 ?_
  refine k_callV Ox [0, 1, 2, 3, 10, 11, 26] (c_X4_falls G (ad 0) (ad 1) (ad 12) (ad 13) (ad 19) (ad 23) (ad 25) (ad 26) (ad 2) (ad 3) (ad 4) (ad 5) (ad 6) (ad 7) (ad 8) (ad 9) (ad 10) (ad 11) L Gr RO B fd sg (xs (i + 1)) (xs (i + 2)) (xs (i + 3)) (xs (i + 4)) (xs (i + 5)) hL hG hB) 5 rfl rfl rfl ⟨rfl, rfl⟩ rfl rfl gL_law_X4_falls rfl 0 rfl ⟨rfl, (by decide +kernel), (by decide +kernel), (by decide +kernel)⟩ rfl dL_law_527 (Nat.le_of_ble_eq_true rfl) rfl ⟨Nat.le_trans (Nat.le_add_right n1 11) hr1, Nat.le_trans (Nat.le_add_right n2 96) hr2⟩ (fun r wa wb hp => ?_)
  obtain ⟨⟨rfl, RO9X, rfl⟩, rfl⟩ := hp
  simp only [cW, mW, List.cons_append, List.nil_append, repl_cons, repl_nil, List.set_cons_zero, List.set_cons_succ, List.append_nil]
  show V x G 4 _ _ _ _ (.int _ :: _) (cW G ad L Gr O S T K SP SL B fd sg fi mn PS P W s z1 z2 g GU RO9X ++ (mW G ad L Gr O S T K SP SL B fd sg mn PS gM gc fI kf w1 w2 w3 w4 w5 w6 ++ (r0 ++ r1)))
  refine k_aload_n Ox dL_law_530 rfl 2 rfl ?_
  refine k_aload_n Ox dL_law_531 rfl 0 rfl ?_
  refine k_iload_n Ox dL_law_532 rfl 3 rfl ?_
  refine k_iconst Ox (v := nI 1) dL_law_533 rfl ?_
  refine k_iaddN Ox dL_law_534 ?_
  refine k_sld Ox hScr (by omega) hLn dL_law_535 ?_
  refine k_aload_n Ox dL_law_536 rfl 0 rfl ?_
  refine k_iload_n Ox dL_law_537 rfl 3 rfl ?_
  refine k_iconst Ox (v := nI 2) dL_law_538 rfl ?_
  refine k_iaddN Ox dL_law_539 ?_
  refine k_sld Ox hScr (by omega) hLn dL_law_540 ?_
  refine k_aload_n Ox dL_law_541 rfl 0 rfl ?_
  refine k_iload_n Ox dL_law_542 rfl 3 rfl ?_
  refine k_iconst Ox (v := nI 3) dL_law_543 rfl ?_
  refine k_iaddN Ox dL_law_544 ?_
  refine k_sld Ox hScr (by omega) hLn dL_law_545 ?_
  refine k_aload_n Ox dL_law_546 rfl 0 rfl ?_
  refine k_iload_n Ox dL_law_547 rfl 3 rfl ?_
  refine k_iconst Ox (v := nI 4) dL_law_548 rfl ?_
  refine k_iaddN Ox dL_law_549 ?_
  refine k_sld Ox hScr (by omega) hLn dL_law_550 ?_
  refine k_aload_n Ox dL_law_551 rfl 0 rfl ?_
  refine k_iload_n Ox dL_law_552 rfl 3 rfl ?_
  refine k_iconst Ox (v := nI 5) dL_law_553 rfl ?_
  refine k_iaddN Ox dL_law_554 ?_
  refine k_sld Ox hScr (by omega) hLn dL_law_555 ?_
  refine k_callV Ox [27, 28, 29, 33, 37] (c_X5_falls G (ad 27) (ad 28) (ad 29) (ad 30) (ad 31) (ad 32) (ad 33) (ad 34) (ad 35) (ad 36) (ad 37) (ad 38) (ad 39) (ad 40) fd sg mn w1 w2 w3 w4 w5 w6 L Gr B gM (xs (i + 1)) (xs (i + 2)) (xs (i + 3)) (xs (i + 4)) (xs (i + 5)) hL hG hB) 5 rfl rfl rfl ⟨rfl, rfl⟩ rfl rfl gL_law_X5_falls rfl 27 rfl ⟨rfl, (by decide +kernel), (by decide +kernel), (by decide +kernel)⟩ rfl dL_law_556 (Nat.le_of_ble_eq_true rfl) rfl ⟨Nat.le_trans (Nat.le_add_right n1 11) hr1, Nat.le_trans (Nat.le_add_right n2 96) hr2⟩ (fun r wa wb hp => ?_)
  obtain ⟨⟨rfl, g9M, rfl⟩, rfl⟩ := hp
  simp only [cW, mW, List.cons_append, List.nil_append, repl_cons, repl_nil, List.set_cons_zero, List.set_cons_succ, List.append_nil]
  show V x G 4 _ _ _ _ (.int _ :: _) (cW G ad L Gr O S T K SP SL B fd sg fi mn PS P W s z1 z2 g GU RO9X ++ (mW G ad L Gr O S T K SP SL B fd sg mn PS g9M gc fI kf w1 w2 w3 w4 w5 w6 ++ (r0 ++ r1)))
  refine k_icmp_eq Ox 1070 dL_law_559 rfl (fun _ => ?_) (fun h => absurd (rfl) h)
  refine k_widen (n1 + 11) (n2 + 96) (Nat.le_add_right _ _) (Nat.le_add_right _ _) ?_
  exact kk _ ⟨_, _, _, _, _, _, _, _, _, _, _, _, _, _, _, _, _, _, _, _, _, _, _, _, _, _, _, _, _, _, _, _, r0, r1, rfl, hC, hT9, h0, h1⟩
