set_option maxHeartbeats 1000000 in
set_option maxRecDepth 8000 in
theorem lc_tellings (G : Gx) {x : Cx} {nm : String} (Ox : Okx x G 4 cL_law wsL_law (⟨RL, nm, "([I)Z"⟩ : MethodName) room_1) {b Ln : Nat} {xs : Nat → Int32} (hScr : Scx x b Ln xs) (ad : Nat → Nat) {i n1 n2 : Nat} (hi6 : i + 6 ≤ Ln) (hLn : Ln ≤ 3072) (hr1 : n1 + 11 ≤ room_1.cells) (hr2 : n2 + 96 ≤ room_1.slots) (kk : ∀ ws : va_W, LoopI G ad ws → V x G 4 (n1 + 11) (n2 + 96) 1070 [(0, .ref b), (1, .ref (ad 0)), (2, .ref (ad 27)), (3, .int (nI i))] [] ws) (ws : va_W) (hI : LoopI G ad ws) : V x G 4 n1 n2 564 [(0, .ref b), (1, .ref (ad 0)), (2, .ref (ad 27)), (3, .int (nI i))] [] ws := by
  obtain ⟨L, Gr, O, S, T, K, SP, SL, B, fd, sg, fi, mn, PS, P, W, s, z1, z2, g, GU, RO, gM, gc, fI, kf, w1, w2, w3, w4, w5, w6, r0, r1, rfl, hC, hT9, h0, h1⟩ := hI
  obtain ⟨hL, hG, hO, hS, hT, hN, hK, hB, hsp, hsl, ⟨hfd0, hfd⟩, hsg⟩ := id hC
  obtain ⟨⟨hmn, hPS⟩, hws, hww⟩ := id hT9
  refine k_aload_n Ox dL_law_564 rfl 1 rfl ?_
  refine k_aload_n Ox dL_law_565 rfl 0 rfl ?_
  refine k_iload_n Ox dL_law_566 rfl 3 rfl ?_
  refine k_iconst Ox (v := nI 1) dL_law_567 rfl ?_
  refine k_iaddN Ox dL_law_568 ?_
  refine k_sld Ox hScr (by omega) hLn dL_law_569 ?_
  refine k_aload_n Ox dL_law_570 rfl 0 rfl ?_
  refine k_iload_n Ox dL_law_571 rfl 3 rfl ?_
  refine k_iconst Ox (v := nI 2) dL_law_572 rfl ?_
  refine k_iaddN Ox dL_law_573 ?_
  refine k_sld Ox hScr (by omega) hLn dL_law_574 ?_
  refine k_aload_n Ox dL_law_575 rfl 0 rfl ?_
  refine k_iload_n Ox dL_law_576 rfl 3 rfl ?_
  refine k_iconst Ox (v := nI 3) dL_law_577 rfl ?_
  refine k_iaddN Ox dL_law_578 ?_
  refine k_sld Ox hScr (by omega) hLn dL_law_579 ?_
  refine k_aload_n Ox dL_law_580 rfl 0 rfl ?_
  refine k_iload_n Ox dL_law_581 rfl 3 rfl ?_
  refine k_iconst Ox (v := nI 4) dL_law_582 rfl ?_
  refine k_iaddN Ox dL_law_583 ?_
  refine k_sld Ox hScr (by omega) hLn dL_law_584 ?_
  refine k_callV Ox [0, 1, 2, 3, 4, 6, 7, 10, 11, 23, 24, 19, 20, 21, 22] (c_X4_tellings G (ad 0) (ad 1) (ad 12) (ad 13) (ad 19) (ad 23) (ad 25) (ad 26) (ad 2) (ad 3) (ad 4) (ad 5) (ad 6) (ad 7) (ad 8) (ad 9) (ad 10) (ad 11) (ad 20) (ad 21) (ad 22) (ad 24) L Gr O T K B fd sg z1 z2 g W s (xs (i + 1)) (xs (i + 2)) (xs (i + 3)) (xs (i + 4)) hO hT hK hB hfd hL hG hws hww) 4 rfl rfl rfl ⟨rfl, rfl⟩ rfl rfl gL_law_X4_tellings rfl 0 rfl ⟨rfl, (by decide +kernel), (by decide +kernel), (by decide +kernel)⟩ rfl dL_law_585 (Nat.le_of_ble_eq_true rfl) rfl ⟨Nat.le_trans (Nat.le_add_right n1 11) hr1, Nat.le_trans (Nat.le_add_right n2 96) hr2⟩ (fun r wa wb hp => ?_)
  obtain ⟨⟨rfl, g9X, W9X, s9X, z91X, z92X, hs9X, hw9X, rfl⟩, rfl⟩ := hp
  simp only [cW, mW, List.cons_append, List.nil_append, repl_cons, repl_nil, List.set_cons_zero, List.set_cons_succ, List.append_nil]
  show V x G 4 _ _ _ _ (.int _ :: _) (cW G ad L Gr O S T K SP SL B fd sg fi mn PS P W9X s9X z91X z92X g9X GU RO ++ (mW G ad L Gr O S T K SP SL B fd sg mn PS gM gc fI kf w1 w2 w3 w4 w5 w6 ++ (r0 ++ r1)))
  refine k_aload_n Ox dL_law_588 rfl 2 rfl ?_
  refine k_aload_n Ox dL_law_589 rfl 0 rfl ?_
  refine k_iload_n Ox dL_law_590 rfl 3 rfl ?_
  refine k_iconst Ox (v := nI 1) dL_law_591 rfl ?_
  refine k_iaddN Ox dL_law_592 ?_
  refine k_sld Ox hScr (by omega) hLn dL_law_593 ?_
  refine k_aload_n Ox dL_law_594 rfl 0 rfl ?_
  refine k_iload_n Ox dL_law_595 rfl 3 rfl ?_
  refine k_iconst Ox (v := nI 2) dL_law_596 rfl ?_
  refine k_iaddN Ox dL_law_597 ?_
  refine k_sld Ox hScr (by omega) hLn dL_law_598 ?_
  refine k_aload_n Ox dL_law_599 rfl 0 rfl ?_
  refine k_iload_n Ox dL_law_600 rfl 3 rfl ?_
  refine k_iconst Ox (v := nI 3) dL_law_601 rfl ?_
  refine k_iaddN Ox dL_law_602 ?_
  refine k_sld Ox hScr (by omega) hLn dL_law_603 ?_
  refine k_aload_n Ox dL_law_604 rfl 0 rfl ?_
  refine k_iload_n Ox dL_law_605 rfl 3 rfl ?_
  refine k_iconst Ox (v := nI 4) dL_law_606 rfl ?_
  refine k_iaddN Ox dL_law_607 ?_
  refine k_sld Ox hScr (by omega) hLn dL_law_608 ?_
  refine k_callV Ox [27, 28, 29, 30, 31, 32, 33, 37, 38] (c_X5_tellings G (ad 27) (ad 28) (ad 29) (ad 30) (ad 31) (ad 32) (ad 33) (ad 34) (ad 35) (ad 36) (ad 37) (ad 38) (ad 39) (ad 40) fd sg mn w1 w2 w3 w4 w5 w6 L Gr O T K B gM gc (xs (i + 1)) (xs (i + 2)) (xs (i + 3)) (xs (i + 4)) hL hG hO hT hK hB) 4 rfl rfl rfl ⟨rfl, rfl⟩ rfl rfl gL_law_X5_tellings rfl 27 rfl ⟨rfl, (by decide +kernel), (by decide +kernel), (by decide +kernel)⟩ rfl dL_law_609 (Nat.le_of_ble_eq_true rfl) rfl ⟨Nat.le_trans (Nat.le_add_right n1 11) hr1, Nat.le_trans (Nat.le_add_right n2 96) hr2⟩ (fun r wa wb hp => ?_)
  obtain ⟨⟨rfl, g9M, g8M, w93M, w94M, w95M, rfl⟩, rfl⟩ := hp
  simp only [cW, mW, List.cons_append, List.nil_append, repl_cons, repl_nil, List.set_cons_zero, List.set_cons_succ, List.append_nil]
  show V x G 4 _ _ _ _ (.int _ :: _) (cW G ad L Gr O S T K SP SL B fd sg fi mn PS P W9X s9X z91X z92X g9X GU RO ++ (mW G ad L Gr O S T K SP SL B fd sg mn PS g9M g8M fI kf w1 w2 w93M w94M w95M w6 ++ (r0 ++ r1)))
  refine k_icmp_eq Ox 1070 dL_law_612 rfl (fun _ => ?_) (fun h => absurd ((tl_eq hO hT hfd0).symm) h)
  refine k_widen (n1 + 11) (n2 + 96) (Nat.le_add_right _ _) (Nat.le_add_right _ _) ?_
  exact kk _ ⟨_, _, _, _, _, _, _, _, _, _, _, _, _, _, _, _, _, _, _, _, _, _, _, _, _, _, _, _, _, _, _, _, r0, r1, rfl, hC, ⟨⟨hmn, hPS⟩, hs9X, hw9X⟩, h0, h1⟩
set_option maxHeartbeats 1000000 in
set_option maxRecDepth 8000 in
theorem lc_stands (G : Gx) {x : Cx} {nm : String} (Ox : Okx x G 4 cL_law wsL_law (⟨RL, nm, "([I)Z"⟩ : MethodName) room_1) {b Ln : Nat} {xs : Nat → Int32} (hScr : Scx x b Ln xs) (ad : Nat → Nat) {i n1 n2 : Nat} (hi6 : i + 6 ≤ Ln) (hLn : Ln ≤ 3072) (hr1 : n1 + 11 ≤ room_1.cells) (hr2 : n2 + 96 ≤ room_1.slots) (kk : ∀ ws : va_W, LoopI G ad ws → V x G 4 (n1 + 11) (n2 + 96) 1070 [(0, .ref b), (1, .ref (ad 0)), (2, .ref (ad 27)), (3, .int (nI i))] [] ws) (ws : va_W) (hI : LoopI G ad ws) : V x G 4 n1 n2 617 [(0, .ref b), (1, .ref (ad 0)), (2, .ref (ad 27)), (3, .int (nI i))] [] ws := by
  obtain ⟨L, Gr, O, S, T, K, SP, SL, B, fd, sg, fi, mn, PS, P, W, s, z1, z2, g, GU, RO, gM, gc, fI, kf, w1, w2, w3, w4, w5, w6, r0, r1, rfl, hC, hT9, h0, h1⟩ := hI
  obtain ⟨hL, hG, hO, hS, hT, hN, hK, hB, hsp, hsl, ⟨hfd0, hfd⟩, hsg⟩ := id hC
  obtain ⟨⟨hmn, hPS⟩, hws, hww⟩ := id hT9
  refine k_aload_n Ox dL_law_617 rfl 1 rfl ?_
  refine k_aload_n Ox dL_law_618 rfl 0 rfl ?_
  refine k_iload_n Ox dL_law_619 rfl 3 rfl ?_
  refine k_iconst Ox (v := nI 1) dL_law_620 rfl ?_
  refine k_iaddN Ox dL_law_621 ?_
  refine k_sld Ox hScr (by omega) hLn dL_law_622 ?_
  refine k_aload_n Ox dL_law_623 rfl 0 rfl ?_
  refine k_iload_n Ox dL_law_624 rfl 3 rfl ?_
  refine k_iconst Ox (v := nI 2) dL_law_625 rfl ?_
  refine k_iaddN Ox dL_law_626 ?_
  refine k_sld Ox hScr (by omega) hLn dL_law_627 ?_
  refine k_aload_n Ox dL_law_628 rfl 0 rfl ?_
  refine k_iload_n Ox dL_law_629 rfl 3 rfl ?_
  refine k_iconst Ox (v := nI 3) dL_law_630 rfl ?_
  refine k_iaddN Ox dL_law_631 ?_
  refine k_sld Ox hScr (by omega) hLn dL_law_632 ?_
  refine k_callV Ox [0, 1, 2, 3, 10, 11, 19, 20, 21, 22] (c_X4_stands G (ad 0) (ad 1) (ad 12) (ad 13) (ad 19) (ad 23) (ad 25) (ad 26) (ad 2) (ad 3) (ad 4) (ad 5) (ad 6) (ad 7) (ad 8) (ad 9) (ad 10) (ad 11) (ad 20) (ad 21) (ad 22) L Gr B fd sg z1 z2 W s (xs (i + 1)) (xs (i + 2)) (xs (i + 3)) hL hG hws hww hB) 3 rfl rfl rfl ⟨rfl, rfl⟩ rfl rfl gL_law_X4_stands rfl 0 rfl ⟨rfl, (by decide +kernel), (by decide +kernel), (by decide +kernel)⟩ rfl dL_law_633 (Nat.le_of_ble_eq_true rfl) rfl ⟨Nat.le_trans (Nat.le_add_right n1 11) hr1, Nat.le_trans (Nat.le_add_right n2 96) hr2⟩ (fun r wa wb hp => ?_)
  obtain ⟨⟨rfl, W9X, s9X, z91X, z92X, hs9X, hw9X, rfl⟩, rfl⟩ := hp
  simp only [cW, mW, List.cons_append, List.nil_append, repl_cons, repl_nil, List.set_cons_zero, List.set_cons_succ, List.append_nil]
  show V x G 4 _ _ _ _ (.int _ :: _) (cW G ad L Gr O S T K SP SL B fd sg fi mn PS P W9X s9X z91X z92X g GU RO ++ (mW G ad L Gr O S T K SP SL B fd sg mn PS gM gc fI kf w1 w2 w3 w4 w5 w6 ++ (r0 ++ r1)))
  refine k_aload_n Ox dL_law_636 rfl 2 rfl ?_
  refine k_aload_n Ox dL_law_637 rfl 0 rfl ?_
  refine k_iload_n Ox dL_law_638 rfl 3 rfl ?_
  refine k_iconst Ox (v := nI 1) dL_law_639 rfl ?_
  refine k_iaddN Ox dL_law_640 ?_
  refine k_sld Ox hScr (by omega) hLn dL_law_641 ?_
  refine k_aload_n Ox dL_law_642 rfl 0 rfl ?_
  refine k_iload_n Ox dL_law_643 rfl 3 rfl ?_
  refine k_iconst Ox (v := nI 2) dL_law_644 rfl ?_
  refine k_iaddN Ox dL_law_645 ?_
  refine k_sld Ox hScr (by omega) hLn dL_law_646 ?_
  refine k_aload_n Ox dL_law_647 rfl 0 rfl ?_
  refine k_iload_n Ox dL_law_648 rfl 3 rfl ?_
  refine k_iconst Ox (v := nI 3) dL_law_649 rfl ?_
  refine k_iaddN Ox dL_law_650 ?_
  refine k_sld Ox hScr (by omega) hLn dL_law_651 ?_
  refine k_callV Ox [27, 28, 29, 33, 37, 38] (c_X5_stands G (ad 27) (ad 28) (ad 29) (ad 30) (ad 31) (ad 32) (ad 33) (ad 34) (ad 35) (ad 36) (ad 37) (ad 38) (ad 39) (ad 40) fd sg mn w1 w2 w3 w4 w5 w6 L Gr B gM gc (xs (i + 1)) (xs (i + 2)) (xs (i + 3)) hL hG hB) 3 rfl rfl rfl ⟨rfl, rfl⟩ rfl rfl gL_law_X5_stands rfl 27 rfl ⟨rfl, (by decide +kernel), (by decide +kernel), (by decide +kernel)⟩ rfl dL_law_652 (Nat.le_of_ble_eq_true rfl) rfl ⟨Nat.le_trans (Nat.le_add_right n1 11) hr1, Nat.le_trans (Nat.le_add_right n2 96) hr2⟩ (fun r wa wb hp => ?_)
  obtain ⟨⟨rfl, g9M, g8M, w93M, w94M, w95M, rfl⟩, rfl⟩ := hp
  simp only [cW, mW, List.cons_append, List.nil_append, repl_cons, repl_nil, List.set_cons_zero, List.set_cons_succ, List.append_nil]
  show V x G 4 _ _ _ _ (.int _ :: _) (cW G ad L Gr O S T K SP SL B fd sg fi mn PS P W9X s9X z91X z92X g GU RO ++ (mW G ad L Gr O S T K SP SL B fd sg mn PS g9M g8M fI kf w1 w2 w93M w94M w95M w6 ++ (r0 ++ r1)))
  refine k_icmp_eq Ox 1070 dL_law_655 rfl (fun _ => ?_) (fun h => absurd ((sd_eq hB).symm) h)
  refine k_widen (n1 + 11) (n2 + 96) (Nat.le_add_right _ _) (Nat.le_add_right _ _) ?_
  exact kk _ ⟨_, _, _, _, _, _, _, _, _, _, _, _, _, _, _, _, _, _, _, _, _, _, _, _, _, _, _, _, _, _, _, _, r0, r1, rfl, hC, ⟨⟨hmn, hPS⟩, hs9X, hw9X⟩, h0, h1⟩
set_option maxHeartbeats 1000000 in
set_option maxRecDepth 8000 in
theorem lc_word (G : Gx) {x : Cx} {nm : String} (Ox : Okx x G 4 cL_law wsL_law (⟨RL, nm, "([I)Z"⟩ : MethodName) room_1) {b Ln : Nat} {xs : Nat → Int32} (hScr : Scx x b Ln xs) (ad : Nat → Nat) {i n1 n2 : Nat} (hi6 : i + 6 ≤ Ln) (hLn : Ln ≤ 3072) (hr1 : n1 + 11 ≤ room_1.cells) (hr2 : n2 + 96 ≤ room_1.slots) (kk : ∀ ws : va_W, LoopI G ad ws → V x G 4 (n1 + 11) (n2 + 96) 1070 [(0, .ref b), (1, .ref (ad 0)), (2, .ref (ad 27)), (3, .int (nI i))] [] ws) (ws : va_W) (hI : LoopI G ad ws) : V x G 4 n1 n2 660 [(0, .ref b), (1, .ref (ad 0)), (2, .ref (ad 27)), (3, .int (nI i))] [] ws := by
  obtain ⟨L, Gr, O, S, T, K, SP, SL, B, fd, sg, fi, mn, PS, P, W, s, z1, z2, g, GU, RO, gM, gc, fI, kf, w1, w2, w3, w4, w5, w6, r0, r1, rfl, hC, hT9, h0, h1⟩ := hI
  obtain ⟨hL, hG, hO, hS, hT, hN, hK, hB, hsp, hsl, ⟨hfd0, hfd⟩, hsg⟩ := id hC
  obtain ⟨⟨hmn, hPS⟩, hws, hww⟩ := id hT9
  refine k_aload_n Ox dL_law_660 rfl 1 rfl ?_
  refine k_aload_n Ox dL_law_661 rfl 0 rfl ?_
  refine k_iload_n Ox dL_law_662 rfl 3 rfl ?_
  refine k_iconst Ox (v := nI 1) dL_law_663 rfl ?_
  refine k_iaddN Ox dL_law_664 ?_
  refine k_sld Ox hScr (by omega) hLn dL_law_665 ?_
  refine k_callV Ox [0, 1, 6, 10, 11, 23, 24] (c_X4_word G (ad 0) (ad 1) (ad 12) (ad 13) (ad 19) (ad 23) (ad 25) (ad 26) (ad 2) (ad 3) (ad 4) (ad 5) (ad 6) (ad 7) (ad 8) (ad 9) (ad 10) (ad 11) (ad 24) T B fd sg g (xs (i + 1)) hT hB) 1 rfl rfl rfl ⟨rfl, rfl⟩ rfl rfl gL_law_X4_word rfl 0 rfl ⟨rfl, (by decide +kernel), (by decide +kernel), (by decide +kernel)⟩ rfl dL_law_666 (Nat.le_of_ble_eq_true rfl) rfl ⟨Nat.le_trans (Nat.le_add_right n1 11) hr1, Nat.le_trans (Nat.le_add_right n2 96) hr2⟩ (fun r wa wb hp => ?_)
  obtain ⟨⟨rfl, g9X, rfl⟩, rfl⟩ := hp
  simp only [cW, mW, List.cons_append, List.nil_append, repl_cons, repl_nil, List.set_cons_zero, List.set_cons_succ, List.append_nil]
  show V x G 4 _ _ _ _ (.int _ :: _) (cW G ad L Gr O S T K SP SL B fd sg fi mn PS P W s z1 z2 g9X GU RO ++ (mW G ad L Gr O S T K SP SL B fd sg mn PS gM gc fI kf w1 w2 w3 w4 w5 w6 ++ (r0 ++ r1)))
  refine k_aload_n Ox dL_law_669 rfl 2 rfl ?_
  refine k_aload_n Ox dL_law_670 rfl 0 rfl ?_
  refine k_iload_n Ox dL_law_671 rfl 3 rfl ?_
  refine k_iconst Ox (v := nI 1) dL_law_672 rfl ?_
  refine k_iaddN Ox dL_law_673 ?_
  refine k_sld Ox hScr (by omega) hLn dL_law_674 ?_
  refine k_callV Ox [27, 31, 33, 37] (c_X5_word G (ad 27) (ad 28) (ad 29) (ad 30) (ad 31) (ad 32) (ad 33) (ad 34) (ad 35) (ad 36) (ad 37) (ad 38) (ad 39) (ad 40) fd sg mn w1 w2 w3 w4 w5 w6 T B gM (xs (i + 1)) hT hN hB) 1 rfl rfl rfl ⟨rfl, rfl⟩ rfl rfl gL_law_X5_word rfl 27 rfl ⟨rfl, (by decide +kernel), (by decide +kernel), (by decide +kernel)⟩ rfl dL_law_675 (Nat.le_of_ble_eq_true rfl) rfl ⟨Nat.le_trans (Nat.le_add_right n1 11) hr1, Nat.le_trans (Nat.le_add_right n2 96) hr2⟩ (fun r wa wb hp => ?_)
  obtain ⟨⟨rfl, g9M, rfl⟩, rfl⟩ := hp
  simp only [cW, mW, List.cons_append, List.nil_append, repl_cons, repl_nil, List.set_cons_zero, List.set_cons_succ, List.append_nil]
  show V x G 4 _ _ _ _ (.int _ :: _) (cW G ad L Gr O S T K SP SL B fd sg fi mn PS P W s z1 z2 g9X GU RO ++ (mW G ad L Gr O S T K SP SL B fd sg mn PS g9M gc fI kf w1 w2 w3 w4 w5 w6 ++ (r0 ++ r1)))
  refine k_icmp_eq Ox 1070 dL_law_678 rfl (fun _ => ?_) (fun h => absurd (rfl) h)
  refine k_widen (n1 + 11) (n2 + 96) (Nat.le_add_right _ _) (Nat.le_add_right _ _) ?_
  exact kk _ ⟨_, _, _, _, _, _, _, _, _, _, _, _, _, _, _, _, _, _, _, _, _, _, _, _, _, _, _, _, _, _, _, _, r0, r1, rfl, hC, hT9, h0, h1⟩
set_option maxHeartbeats 1000000 in
set_option maxRecDepth 8000 in
theorem lc_rumour (G : Gx) {x : Cx} {nm : String} (Ox : Okx x G 4 cL_law wsL_law (⟨RL, nm, "([I)Z"⟩ : MethodName) room_1) {b Ln : Nat} {xs : Nat → Int32} (hScr : Scx x b Ln xs) (ad : Nat → Nat) {i n1 n2 : Nat} (hi6 : i + 6 ≤ Ln) (hLn : Ln ≤ 3072) (hr1 : n1 + 11 ≤ room_1.cells) (hr2 : n2 + 96 ≤ room_1.slots) (kk : ∀ ws : va_W, LoopI G ad ws → V x G 4 (n1 + 11) (n2 + 96) 1070 [(0, .ref b), (1, .ref (ad 0)), (2, .ref (ad 27)), (3, .int (nI i))] [] ws) (ws : va_W) (hI : LoopI G ad ws) : V x G 4 n1 n2 683 [(0, .ref b), (1, .ref (ad 0)), (2, .ref (ad 27)), (3, .int (nI i))] [] ws := by
  obtain ⟨L, Gr, O, S, T, K, SP, SL, B, fd, sg, fi, mn, PS, P, W, s, z1, z2, g, GU, RO, gM, gc, fI, kf, w1, w2, w3, w4, w5, w6, r0, r1, rfl, hC, hT9, h0, h1⟩ := hI
  obtain ⟨hL, hG, hO, hS, hT, hN, hK, hB, hsp, hsl, ⟨hfd0, hfd⟩, hsg⟩ := id hC
  obtain ⟨⟨hmn, hPS⟩, hws, hww⟩ := id hT9
  refine k_aload_n Ox dL_law_683 rfl 1 rfl ?_
  refine k_aload_n Ox dL_law_684 rfl 0 rfl ?_
  refine k_iload_n Ox dL_law_685 rfl 3 rfl ?_
  refine k_iconst Ox (v := nI 1) dL_law_686 rfl ?_
  refine k_iaddN Ox dL_law_687 ?_
  refine k_sld Ox hScr (by omega) hLn dL_law_688 ?_
  refine k_aload_n Ox dL_law_689 rfl 0 rfl ?_
  refine k_iload_n Ox dL_law_690 rfl 3 rfl ?_
  refine k_iconst Ox (v := nI 2) dL_law_691 rfl ?_
  refine k_iaddN Ox dL_law_692 ?_
  refine k_sld Ox hScr (by omega) hLn dL_law_693 ?_
  refine k_callV Ox [0, 1, 4, 6, 7, 10, 11, 23, 24] (c_X4_rumour G (ad 0) (ad 1) (ad 12) (ad 13) (ad 19) (ad 23) (ad 25) (ad 26) (ad 2) (ad 3) (ad 4) (ad 5) (ad 6) (ad 7) (ad 8) (ad 9) (ad 10) (ad 11) (ad 24) O T K B fd sg g (xs (i + 1)) (xs (i + 2)) hO hT hK hB hfd) 2 rfl rfl rfl ⟨rfl, rfl⟩ rfl rfl gL_law_X4_rumour rfl 0 rfl ⟨rfl, (by decide +kernel), (by decide +kernel), (by decide +kernel)⟩ rfl dL_law_694 (Nat.le_of_ble_eq_true rfl) rfl ⟨Nat.le_trans (Nat.le_add_right n1 11) hr1, Nat.le_trans (Nat.le_add_right n2 96) hr2⟩ (fun r wa wb hp => ?_)
  obtain ⟨⟨rfl, g9X, rfl⟩, rfl⟩ := hp
  simp only [cW, mW, List.cons_append, List.nil_append, repl_cons, repl_nil, List.set_cons_zero, List.set_cons_succ, List.append_nil]
  show V x G 4 _ _ _ _ (.int _ :: _) (cW G ad L Gr O S T K SP SL B fd sg fi mn PS P W s z1 z2 g9X GU RO ++ (mW G ad L Gr O S T K SP SL B fd sg mn PS gM gc fI kf w1 w2 w3 w4 w5 w6 ++ (r0 ++ r1)))
  refine k_aload_n Ox dL_law_697 rfl 2 rfl ?_
  refine k_aload_n Ox dL_law_698 rfl 0 rfl ?_
  refine k_iload_n Ox dL_law_699 rfl 3 rfl ?_
  refine k_iconst Ox (v := nI 1) dL_law_700 rfl ?_
  refine k_iaddN Ox dL_law_701 ?_
  refine k_sld Ox hScr (by omega) hLn dL_law_702 ?_
  refine k_aload_n Ox dL_law_703 rfl 0 rfl ?_
  refine k_iload_n Ox dL_law_704 rfl 3 rfl ?_
  refine k_iconst Ox (v := nI 2) dL_law_705 rfl ?_
  refine k_iaddN Ox dL_law_706 ?_
  refine k_sld Ox hScr (by omega) hLn dL_law_707 ?_
  refine k_callV Ox [27, 30, 31, 32, 33, 37] (c_X5_rumour G (ad 27) (ad 28) (ad 29) (ad 30) (ad 31) (ad 32) (ad 33) (ad 34) (ad 35) (ad 36) (ad 37) (ad 38) (ad 39) (ad 40) fd sg mn w1 w2 w3 w4 w5 w6 O T K B gM (xs (i + 1)) (xs (i + 2)) hO hT hK hN hB hfd) 2 rfl rfl rfl ⟨rfl, rfl⟩ rfl rfl gL_law_X5_rumour rfl 27 rfl ⟨rfl, (by decide +kernel), (by decide +kernel), (by decide +kernel)⟩ rfl dL_law_708 (Nat.le_of_ble_eq_true rfl) rfl ⟨Nat.le_trans (Nat.le_add_right n1 11) hr1, Nat.le_trans (Nat.le_add_right n2 96) hr2⟩ (fun r wa wb hp => ?_)
  obtain ⟨⟨rfl, g9M, w9M, rfl⟩, rfl⟩ := hp
  simp only [cW, mW, List.cons_append, List.nil_append, repl_cons, repl_nil, List.set_cons_zero, List.set_cons_succ, List.append_nil]
  show V x G 4 _ _ _ _ (.int _ :: _) (cW G ad L Gr O S T K SP SL B fd sg fi mn PS P W s z1 z2 g9X GU RO ++ (mW G ad L Gr O S T K SP SL B fd sg mn PS g9M gc fI kf w9M w2 w3 w4 w5 w6 ++ (r0 ++ r1)))
  refine k_icmp_eq Ox 1070 dL_law_711 rfl (fun _ => ?_) (fun h => absurd (rfl) h)
  refine k_widen (n1 + 11) (n2 + 96) (Nat.le_add_right _ _) (Nat.le_add_right _ _) ?_
  exact kk _ ⟨_, _, _, _, _, _, _, _, _, _, _, _, _, _, _, _, _, _, _, _, _, _, _, _, _, _, _, _, _, _, _, _, r0, r1, rfl, hC, hT9, h0, h1⟩
set_option maxHeartbeats 1000000 in
set_option maxRecDepth 8000 in
theorem lc_odds (G : Gx) {x : Cx} {nm : String} (Ox : Okx x G 4 cL_law wsL_law (⟨RL, nm, "([I)Z"⟩ : MethodName) room_1) {b Ln : Nat} {xs : Nat → Int32} (hScr : Scx x b Ln xs) (ad : Nat → Nat) {i n1 n2 : Nat} (hi6 : i + 6 ≤ Ln) (hLn : Ln ≤ 3072) (hr1 : n1 + 11 ≤ room_1.cells) (hr2 : n2 + 96 ≤ room_1.slots) (kk : ∀ ws : va_W, LoopI G ad ws → V x G 4 (n1 + 11) (n2 + 96) 1070 [(0, .ref b), (1, .ref (ad 0)), (2, .ref (ad 27)), (3, .int (nI i))] [] ws) (ws : va_W) (hI : LoopI G ad ws) : V x G 4 n1 n2 716 [(0, .ref b), (1, .ref (ad 0)), (2, .ref (ad 27)), (3, .int (nI i))] [] ws := by
  obtain ⟨L, Gr, O, S, T, K, SP, SL, B, fd, sg, fi, mn, PS, P, W, s, z1, z2, g, GU, RO, gM, gc, fI, kf, w1, w2, w3, w4, w5, w6, r0, r1, rfl, hC, hT9, h0, h1⟩ := hI
  obtain ⟨hL, hG, hO, hS, hT, hN, hK, hB, hsp, hsl, ⟨hfd0, hfd⟩, hsg⟩ := id hC
  obtain ⟨⟨hmn, hPS⟩, hws, hww⟩ := id hT9
  refine k_aload_n Ox dL_law_716 rfl 1 rfl ?_
  refine k_aload_n Ox dL_law_717 rfl 0 rfl ?_
  refine k_iload_n Ox dL_law_718 rfl 3 rfl ?_
  refine k_iconst Ox (v := nI 1) dL_law_719 rfl ?_
  refine k_iaddN Ox dL_law_720 ?_
  refine k_sld Ox hScr (by omega) hLn dL_law_721 ?_
  refine k_aload_n Ox dL_law_722 rfl 0 rfl ?_
  refine k_iload_n Ox dL_law_723 rfl 3 rfl ?_
  refine k_iconst Ox (v := nI 2) dL_law_724 rfl ?_
  refine k_iaddN Ox dL_law_725 ?_
  refine k_sld Ox hScr (by omega) hLn dL_law_726 ?_
  refine k_aload_n Ox dL_law_727 rfl 0 rfl ?_
  refine k_iload_n Ox dL_law_728 rfl 3 rfl ?_
  refine k_iconst Ox (v := nI 3) dL_law_729 rfl ?_
  refine k_iaddN Ox dL_law_730 ?_
  refine k_sld Ox hScr (by omega) hLn dL_law_731 ?_
  refine k_aload_n Ox dL_law_732 rfl 0 rfl ?_
  refine k_iload_n Ox dL_law_733 rfl 3 rfl ?_
  refine k_iconst Ox (v := nI 4) dL_law_734 rfl ?_
  refine k_iaddN Ox dL_law_735 ?_
  refine k_sld Ox hScr (by omega) hLn dL_law_736 ?_
  refine k_callV Ox [0, 1, 4, 6, 7, 10, 11, 23, 24] (c_X4_odds G (ad 0) (ad 1) (ad 12) (ad 13) (ad 19) (ad 23) (ad 25) (ad 26) (ad 2) (ad 3) (ad 4) (ad 5) (ad 6) (ad 7) (ad 8) (ad 9) (ad 10) (ad 11) (ad 24) O T K B fd sg g (xs (i + 1)) (xs (i + 2)) (xs (i + 3)) (xs (i + 4)) hO hT hK hB hfd) 4 rfl rfl rfl ⟨rfl, rfl⟩ rfl rfl gL_law_X4_odds rfl 0 rfl ⟨rfl, (by decide +kernel), (by decide +kernel), (by decide +kernel)⟩ rfl dL_law_737 (Nat.le_of_ble_eq_true rfl) rfl ⟨Nat.le_trans (Nat.le_add_right n1 11) hr1, Nat.le_trans (Nat.le_add_right n2 96) hr2⟩ (fun r wa wb hp => ?_)
  obtain ⟨⟨rfl, g9X, rfl⟩, rfl⟩ := hp
  simp only [cW, mW, List.cons_append, List.nil_append, repl_cons, repl_nil, List.set_cons_zero, List.set_cons_succ, List.append_nil]
  show V x G 4 _ _ _ _ (.int _ :: _) (cW G ad L Gr O S T K SP SL B fd sg fi mn PS P W s z1 z2 g9X GU RO ++ (mW G ad L Gr O S T K SP SL B fd sg mn PS gM gc fI kf w1 w2 w3 w4 w5 w6 ++ (r0 ++ r1)))
  refine k_aload_n Ox dL_law_740 rfl 2 rfl ?_
  refine k_aload_n Ox dL_law_741 rfl 0 rfl ?_
  refine k_iload_n Ox dL_law_742 rfl 3 rfl ?_
  refine k_iconst Ox (v := nI 1) dL_law_743 rfl ?_
  refine k_iaddN Ox dL_law_744 ?_
  refine k_sld Ox hScr (by omega) hLn dL_law_745 ?_
  refine k_aload_n Ox dL_law_746 rfl 0 rfl ?_
  refine k_iload_n Ox dL_law_747 rfl 3 rfl ?_
  refine k_iconst Ox (v := nI 2) dL_law_748 rfl ?_
  refine k_iaddN Ox dL_law_749 ?_
  refine k_sld Ox hScr (by omega) hLn dL_law_750 ?_
  refine k_aload_n Ox dL_law_751 rfl 0 rfl ?_
  refine k_iload_n Ox dL_law_752 rfl 3 rfl ?_
  refine k_iconst Ox (v := nI 3) dL_law_753 rfl ?_
  refine k_iaddN Ox dL_law_754 ?_
  refine k_sld Ox hScr (by omega) hLn dL_law_755 ?_
  refine k_aload_n Ox dL_law_756 rfl 0 rfl ?_
  refine k_iload_n Ox dL_law_757 rfl 3 rfl ?_
  refine k_iconst Ox (v := nI 4) dL_law_758 rfl ?_
  refine k_iaddN Ox dL_law_759 ?_
  refine k_sld Ox hScr (by omega) hLn dL_law_760 ?_
  refine k_callV Ox [27, 30, 31, 32, 33, 37] (c_X5_odds G (ad 27) (ad 28) (ad 29) (ad 30) (ad 31) (ad 32) (ad 33) (ad 34) (ad 35) (ad 36) (ad 37) (ad 38) (ad 39) (ad 40) fd sg mn w1 w2 w3 w4 w5 w6 O T K B gM (xs (i + 1)) (xs (i + 2)) (xs (i + 3)) (xs (i + 4)) hO hT hK hN hB hfd) 4 rfl rfl rfl ⟨rfl, rfl⟩ rfl rfl gL_law_X5_odds rfl 27 rfl ⟨rfl, (by decide +kernel), (by decide +kernel), (by decide +kernel)⟩ rfl dL_law_761 (Nat.le_of_ble_eq_true rfl) rfl ⟨Nat.le_trans (Nat.le_add_right n1 11) hr1, Nat.le_trans (Nat.le_add_right n2 96) hr2⟩ (fun r wa wb hp => ?_)
  obtain ⟨⟨rfl, g9M, w9M, rfl⟩, rfl⟩ := hp
  simp only [cW, mW, List.cons_append, List.nil_append, repl_cons, repl_nil, List.set_cons_zero, List.set_cons_succ, List.append_nil]
  show V x G 4 _ _ _ _ (.int _ :: _) (cW G ad L Gr O S T K SP SL B fd sg fi mn PS P W s z1 z2 g9X GU RO ++ (mW G ad L Gr O S T K SP SL B fd sg mn PS g9M gc fI kf w9M w2 w3 w4 w5 w6 ++ (r0 ++ r1)))
  refine k_icmp_eq Ox 1070 dL_law_764 rfl (fun _ => ?_) (fun h => absurd (rfl) h)
  refine k_widen (n1 + 11) (n2 + 96) (Nat.le_add_right _ _) (Nat.le_add_right _ _) ?_
  exact kk _ ⟨_, _, _, _, _, _, _, _, _, _, _, _, _, _, _, _, _, _, _, _, _, _, _, _, _, _, _, _, _, _, _, _, r0, r1, rfl, hC, hT9, h0, h1⟩
set_option maxHeartbeats 1000000 in
set_option maxRecDepth 8000 in
theorem lc_tenths (G : Gx) {x : Cx} {nm : String} (Ox : Okx x G 4 cL_law wsL_law (⟨RL, nm, "([I)Z"⟩ : MethodName) room_1) {b Ln : Nat} {xs : Nat → Int32} (hScr : Scx x b Ln xs) (ad : Nat → Nat) {i n1 n2 : Nat} (hi6 : i + 6 ≤ Ln) (hLn : Ln ≤ 3072) (hr1 : n1 + 11 ≤ room_1.cells) (hr2 : n2 + 96 ≤ room_1.slots) (kk : ∀ ws : va_W, LoopI G ad ws → V x G 4 (n1 + 11) (n2 + 96) 1070 [(0, .ref b), (1, .ref (ad 0)), (2, .ref (ad 27)), (3, .int (nI i))] [] ws) (ws : va_W) (hI : LoopI G ad ws) : V x G 4 n1 n2 769 [(0, .ref b), (1, .ref (ad 0)), (2, .ref (ad 27)), (3, .int (nI i))] [] ws := by
  obtain ⟨L, Gr, O, S, T, K, SP, SL, B, fd, sg, fi, mn, PS, P, W, s, z1, z2, g, GU, RO, gM, gc, fI, kf, w1, w2, w3, w4, w5, w6, r0, r1, rfl, hC, hT9, h0, h1⟩ := hI
  obtain ⟨hL, hG, hO, hS, hT, hN, hK, hB, hsp, hsl, ⟨hfd0, hfd⟩, hsg⟩ := id hC
  obtain ⟨⟨hmn, hPS⟩, hws, hww⟩ := id hT9
  refine k_aload_n Ox dL_law_769 rfl 1 rfl ?_
  refine k_aload_n Ox dL_law_770 rfl 0 rfl ?_
  refine k_iload_n Ox dL_law_771 rfl 3 rfl ?_
  refine k_iconst Ox (v := nI 1) dL_law_772 rfl ?_
  refine k_iaddN Ox dL_law_773 ?_
  refine k_sld Ox hScr (by omega) hLn dL_law_774 ?_
  refine k_aload_n Ox dL_law_775 rfl 0 rfl ?_
  refine k_iload_n Ox dL_law_776 rfl 3 rfl ?_
  refine k_iconst Ox (v := nI 2) dL_law_777 rfl ?_
  refine k_iaddN Ox dL_law_778 ?_
  refine k_sld Ox hScr (by omega) hLn dL_law_779 ?_
  refine k_callV Ox [0, 1, 5] (c_X4_tenths G (ad 0) (ad 1) (ad 12) (ad 13) (ad 19) (ad 23) (ad 25) (ad 26) (ad 2) (ad 3) (ad 4) (ad 5) (ad 6) (ad 7) (ad 8) (ad 9) (ad 10) S fd sg (xs (i + 1)) (xs (i + 2))) 2 rfl rfl rfl ⟨rfl, rfl⟩ rfl rfl gL_law_X4_tenths rfl 0 rfl ⟨rfl, (by decide +kernel), (by decide +kernel), (by decide +kernel)⟩ rfl dL_law_780 (Nat.le_of_ble_eq_true rfl) rfl ⟨Nat.le_trans (Nat.le_add_right n1 11) hr1, Nat.le_trans (Nat.le_add_right n2 96) hr2⟩ (fun r wa wb hp => ?_)
  obtain ⟨⟨rfl, rfl⟩, rfl⟩ := hp
  simp only [cW, mW, List.cons_append, List.nil_append, repl_cons, repl_nil, List.set_cons_zero, List.set_cons_succ, List.append_nil]
  show V x G 4 _ _ _ _ (.int _ :: _) (cW G ad L Gr O (tnS (xs (i + 1)) (xs (i + 2)) S) T K SP SL B fd sg fi mn PS P W s z1 z2 g GU RO ++ (mW G ad L Gr O S T K SP SL B fd sg mn PS gM gc fI kf w1 w2 w3 w4 w5 w6 ++ (r0 ++ r1)))
  refine k_aload_n Ox dL_law_783 rfl 2 rfl ?_
  refine k_aload_n Ox dL_law_784 rfl 0 rfl ?_
  refine k_iload_n Ox dL_law_785 rfl 3 rfl ?_
  refine k_iconst Ox (v := nI 1) dL_law_786 rfl ?_
  refine k_iaddN Ox dL_law_787 ?_
  refine k_sld Ox hScr (by omega) hLn dL_law_788 ?_
  refine k_aload_n Ox dL_law_789 rfl 0 rfl ?_
  refine k_iload_n Ox dL_law_790 rfl 3 rfl ?_
  refine k_iconst Ox (v := nI 2) dL_law_791 rfl ?_
  refine k_iaddN Ox dL_law_792 ?_
  refine k_sld Ox hScr (by omega) hLn dL_law_793 ?_
  refine k_callV Ox [27, 34] (c_X5_tenths G (ad 27) (ad 28) (ad 29) (ad 30) (ad 31) (ad 32) (ad 33) (ad 34) (ad 35) (ad 36) (ad 37) (ad 38) (ad 39) (ad 40) fd sg mn w1 w2 w3 w4 w5 w6 S (xs (i + 1)) (xs (i + 2))) 2 rfl rfl rfl ⟨rfl, rfl⟩ rfl rfl gL_law_X5_tenths rfl 27 rfl ⟨rfl, (by decide +kernel), (by decide +kernel), (by decide +kernel)⟩ rfl dL_law_794 (Nat.le_of_ble_eq_true rfl) rfl ⟨Nat.le_trans (Nat.le_add_right n1 11) hr1, Nat.le_trans (Nat.le_add_right n2 96) hr2⟩ (fun r wa wb hp => ?_)
  obtain ⟨⟨rfl, rfl⟩, rfl⟩ := hp
  simp only [cW, mW, List.cons_append, List.nil_append, repl_cons, repl_nil, List.set_cons_zero, List.set_cons_succ, List.append_nil]
  show V x G 4 _ _ _ _ (.int _ :: _) (cW G ad L Gr O (tnS (xs (i + 1)) (xs (i + 2)) S) T K SP SL B fd sg fi mn PS P W s z1 z2 g GU RO ++ (mW G ad L Gr O (tnS (xs (i + 1)) (xs (i + 2)) S) T K SP SL B fd sg mn PS gM gc fI kf w1 w2 w3 w4 w5 w6 ++ (r0 ++ r1)))
  refine k_icmp_eq Ox 1070 dL_law_797 rfl (fun _ => ?_) (fun h => absurd (rfl) h)
  refine k_widen (n1 + 11) (n2 + 96) (Nat.le_add_right _ _) (Nat.le_add_right _ _) ?_
  exact kk _ ⟨_, _, _, _, _, _, _, _, _, _, _, _, _, _, _, _, _, _, _, _, _, _, _, _, _, _, _, _, _, _, _, _, r0, r1, rfl, ⟨hL, hG, hO, tnS_ok hS, hT, hN, hK, hB, hsp, hsl, ⟨hfd0, hfd⟩, hsg⟩, hT9, h0, h1⟩
set_option maxHeartbeats 1000000 in
set_option maxRecDepth 8000 in
theorem lc_safe (G : Gx) {x : Cx} {nm : String} (Ox : Okx x G 4 cL_law wsL_law (⟨RL, nm, "([I)Z"⟩ : MethodName) room_1) {b Ln : Nat} {xs : Nat → Int32} (hScr : Scx x b Ln xs) (ad : Nat → Nat) {i n1 n2 : Nat} (hi6 : i + 6 ≤ Ln) (hLn : Ln ≤ 3072) (hr1 : n1 + 11 ≤ room_1.cells) (hr2 : n2 + 96 ≤ room_1.slots) (kk : ∀ ws : va_W, LoopI G ad ws → V x G 4 (n1 + 11) (n2 + 96) 1070 [(0, .ref b), (1, .ref (ad 0)), (2, .ref (ad 27)), (3, .int (nI i))] [] ws) (ws : va_W) (hI : LoopI G ad ws) : V x G 4 n1 n2 802 [(0, .ref b), (1, .ref (ad 0)), (2, .ref (ad 27)), (3, .int (nI i))] [] ws := by
  obtain ⟨L, Gr, O, S, T, K, SP, SL, B, fd, sg, fi, mn, PS, P, W, s, z1, z2, g, GU, RO, gM, gc, fI, kf, w1, w2, w3, w4, w5, w6, r0, r1, rfl, hC, hT9, h0, h1⟩ := hI
  obtain ⟨hL, hG, hO, hS, hT, hN, hK, hB, hsp, hsl, ⟨hfd0, hfd⟩, hsg⟩ := id hC
  obtain ⟨⟨hmn, hPS⟩, hws, hww⟩ := id hT9
  refine k_aload_n Ox dL_law_802 rfl 1 rfl ?_
  refine k_aload_n Ox dL_law_803 rfl 0 rfl ?_
  refine k_iload_n Ox dL_law_804 rfl 3 rfl ?_
  refine k_iconst Ox (v := nI 1) dL_law_805 rfl ?_
  refine k_iaddN Ox dL_law_806 ?_
  refine k_sld Ox hScr (by omega) hLn dL_law_807 ?_
  refine k_aload_n Ox dL_law_808 rfl 0 rfl ?_
  refine k_iload_n Ox dL_law_809 rfl 3 rfl ?_
  refine k_iconst Ox (v := nI 2) dL_law_810 rfl ?_
  refine k_iaddN Ox dL_law_811 ?_
  refine k_sld Ox hScr (by omega) hLn dL_law_812 ?_
  refine k_aload_n Ox dL_law_813 rfl 0 rfl ?_
  refine k_iload_n Ox dL_law_814 rfl 3 rfl ?_
  refine k_iconst Ox (v := nI 3) dL_law_815 rfl ?_
  refine k_iaddN Ox dL_law_816 ?_
  refine k_sld Ox hScr (by omega) hLn dL_law_817 ?_
  refine k_callV Ox [0, 1, 2, 3, 5, 19, 20, 21, 22] (c_X4_safe G (ad 0) (ad 1) (ad 12) (ad 13) (ad 19) (ad 23) (ad 25) (ad 26) (ad 2) (ad 3) (ad 4) (ad 5) (ad 6) (ad 7) (ad 8) (ad 9) (ad 10) (ad 20) (ad 21) (ad 22) L Gr S fd sg z1 z2 W s (xs (i + 1)) (xs (i + 2)) (xs (i + 3)) hL hG hws hww hS) 3 rfl rfl rfl ⟨rfl, rfl⟩ rfl rfl gL_law_X4_safe rfl 0 rfl ⟨rfl, (by decide +kernel), (by decide +kernel), (by decide +kernel)⟩ rfl dL_law_818 (Nat.le_of_ble_eq_true rfl) rfl ⟨Nat.le_trans (Nat.le_add_right n1 11) hr1, Nat.le_trans (Nat.le_add_right n2 96) hr2⟩ (fun r wa wb hp => ?_)
  obtain ⟨⟨rfl, W9X, s9X, z91X, z92X, hs9X, hw9X, rfl⟩, rfl⟩ := hp
  simp only [cW, mW, List.cons_append, List.nil_append, repl_cons, repl_nil, List.set_cons_zero, List.set_cons_succ, List.append_nil]
  show V x G 4 _ _ _ _ (.int _ :: _) (cW G ad L Gr O S T K SP SL B fd sg fi mn PS P W9X s9X z91X z92X g GU RO ++ (mW G ad L Gr O S T K SP SL B fd sg mn PS gM gc fI kf w1 w2 w3 w4 w5 w6 ++ (r0 ++ r1)))
  refine k_aload_n Ox dL_law_821 rfl 2 rfl ?_
  refine k_aload_n Ox dL_law_822 rfl 0 rfl ?_
  refine k_iload_n Ox dL_law_823 rfl 3 rfl ?_
  refine k_iconst Ox (v := nI 1) dL_law_824 rfl ?_
  refine k_iaddN Ox dL_law_825 ?_
  refine k_sld Ox hScr (by omega) hLn dL_law_826 ?_
  refine k_aload_n Ox dL_law_827 rfl 0 rfl ?_
  refine k_iload_n Ox dL_law_828 rfl 3 rfl ?_
  refine k_iconst Ox (v := nI 2) dL_law_829 rfl ?_
  refine k_iaddN Ox dL_law_830 ?_
  refine k_sld Ox hScr (by omega) hLn dL_law_831 ?_
  refine k_aload_n Ox dL_law_832 rfl 0 rfl ?_
  refine k_iload_n Ox dL_law_833 rfl 3 rfl ?_
  refine k_iconst Ox (v := nI 3) dL_law_834 rfl ?_
  refine k_iaddN Ox dL_law_835 ?_
  refine k_sld Ox hScr (by omega) hLn dL_law_836 ?_
  refine k_callV Ox [27, 28, 29, 34] (c_X5_safe G (ad 27) (ad 28) (ad 29) (ad 30) (ad 31) (ad 32) (ad 33) (ad 34) (ad 35) (ad 36) (ad 37) (ad 38) (ad 39) (ad 40) fd sg mn w1 w2 w3 w4 w5 w6 L Gr S (xs (i + 1)) (xs (i + 2)) (xs (i + 3)) hL hG hS) 3 rfl rfl rfl ⟨rfl, rfl⟩ rfl rfl gL_law_X5_safe rfl 27 rfl ⟨rfl, (by decide +kernel), (by decide +kernel), (by decide +kernel)⟩ rfl dL_law_837 (Nat.le_of_ble_eq_true rfl) rfl ⟨Nat.le_trans (Nat.le_add_right n1 11) hr1, Nat.le_trans (Nat.le_add_right n2 96) hr2⟩ (fun r wa wb hp => ?_)
  obtain ⟨⟨rfl, w93M, w94M, w96M, rfl⟩, rfl⟩ := hp
  simp only [cW, mW, List.cons_append, List.nil_append, repl_cons, repl_nil, List.set_cons_zero, List.set_cons_succ, List.append_nil]
  show V x G 4 _ _ _ _ (.int _ :: _) (cW G ad L Gr O S T K SP SL B fd sg fi mn PS P W9X s9X z91X z92X g GU RO ++ (mW G ad L Gr O S T K SP SL B fd sg mn PS gM gc fI kf w1 w2 w93M w94M w5 w96M ++ (r0 ++ r1)))
  refine k_icmp_eq Ox 1070 dL_law_840 rfl (fun _ => ?_) (fun h => absurd ((sf_eq hS).symm) h)
  refine k_widen (n1 + 11) (n2 + 96) (Nat.le_add_right _ _) (Nat.le_add_right _ _) ?_
  exact kk _ ⟨_, _, _, _, _, _, _, _, _, _, _, _, _, _, _, _, _, _, _, _, _, _, _, _, _, _, _, _, _, _, _, _, r0, r1, rfl, hC, ⟨⟨hmn, hPS⟩, hs9X, hw9X⟩, h0, h1⟩
