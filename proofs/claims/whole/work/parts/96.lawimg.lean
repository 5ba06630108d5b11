/-! The law: images. -/
theorem va_D_nd {A : Nat → Prop} {ws : va_W} : va_D A ws ↔ (ws.map (fun q => q.1)).Nodup ∧ ∀ q ∈ ws, A q.1 := by
  constructor
  · intro h
    refine ⟨List.pairwise_iff_getElem.mpr (fun i j hi hj hij e => ?_), fun q hq => ?_⟩
    · rw [List.length_map] at hi hj
      rw [List.getElem_map, List.getElem_map] at e
      have := h.1 i j _ _ (List.getElem?_eq_getElem hi) (List.getElem?_eq_getElem hj) e
      omega
    · obtain ⟨k, hk⟩ := List.getElem?_of_mem hq
      exact h.2 k q hk
  · rintro ⟨h1, h2⟩
    refine ⟨fun i j p q hi hj e => ?_, fun k q hk => h2 q (List.mem_of_getElem? hk)⟩
    have hp := List.pairwise_iff_getElem.mp h1
    obtain ⟨hil, hi⟩ := List.getElem?_eq_some_iff.mp hi
    obtain ⟨hjl, hj⟩ := List.getElem?_eq_some_iff.mp hj
    rcases Nat.lt_trichotomy i j with z | z | z
    · exfalso
      refine hp i j (by rw [List.length_map]; exact hil) (by rw [List.length_map]; exact hjl) z ?_
      rw [List.getElem_map, List.getElem_map, hi, hj, e]
    · exact z
    · exfalso
      refine hp j i (by rw [List.length_map]; exact hjl) (by rw [List.length_map]; exact hil) z ?_
      rw [List.getElem_map, List.getElem_map, hi, hj, e]
theorem k_perm {x : Cx} {G : Gx} {nL n1 n2 pc : Nat} {lv : List (Nat × Value)} {st : List Value} {ws ws' : va_W} (h : ws.Perm ws') (g : V x G nL n1 n2 pc lv st ws') : V x G nL n1 n2 pc lv st ws := by
  obtain ⟨p, l, e, R, s, m, args, below, meth, c, Q, A⟩ := x
  intro H locs ls hP hD hS hl
  refine g H locs ls (fun k q hk => ?_) (va_D_nd.mpr ?_) hS hl
  · obtain ⟨k', hk'⟩ := List.getElem?_of_mem (h.mem_iff.mpr (List.mem_of_getElem? hk))
    exact hP k' q hk'
  · obtain ⟨h1, h2⟩ := va_D_nd.mp hD
    exact ⟨(h.map (fun q => q.1)).nodup_iff.mp h1, fun q hq => h2 q (h.mem_iff.mpr hq)⟩
theorem perm3 (a b c d : va_W) : (a ++ (b ++ (c ++ d))).Perm (a ++ (b ++ (d ++ c))) := List.Perm.append_left a (List.Perm.append_left b List.perm_append_comm)
theorem Im1_oth {G : Gx} {fi fi' : Nat → Option Nat} {kf : Nat → Bool} {fI : Nat → Int32} {n k : Nat} {pk : Nat → Nat} {w : va_W} (h : Im1 G fi kf fI k w) (hkn : ¬ k = n) (hf : fi' k = fi k) : Im1 G fi' (va_up kf n true) (imP fI (100 * n) pk) k w := by
  rcases h with ⟨h1, h2, h3⟩ | ⟨ia, L, Gr, O, S, T, K, SP, SL, B, fd, sg, h1, h2, h3, h4, h5⟩
  · exact Or.inl ⟨by rw [hf, h1], by rw [va_up_ne kf true hkn, h2], h3⟩
  · exact Or.inr ⟨ia, L, Gr, O, S, T, K, SP, SL, B, fd, sg, by rw [hf, h1], by rw [va_up_ne kf true hkn, h2], h3, im_oth h4 (by omega), h5⟩
def iaF (d ls gs ly hs tr kn sp sl be bd : Nat) : Nat → Nat := fun k => ([d, ls, gs, ly, hs, tr, kn, sp, sl, be, bd] : List Nat).getD k 0
theorem in01 {v : Int32} (h : inR 0 1 v = true) : v = nI 0 ∨ v = nI 1 := ch01s h
set_option maxHeartbeats 2000000 in
set_option maxRecDepth 8000 in
theorem lc_imgN (G : Gx) {x : Cx} {nm : String} (Ox : Okx x G 4 cL_law wsL_law (⟨RL, nm, "([I)Z"⟩ : MethodName) room_1) {b Ln : Nat} {xs : Nat → Int32} (hScr : Scx x b Ln xs) (ad : Nat → Nat) {i n1 n2 : Nat} (hi6 : i + 6 ≤ Ln) (hLn : Ln ≤ 3072) (hr1 : n1 + 11 ≤ room_1.cells) (hr2 : n2 + 96 ≤ room_1.slots) (L : Nat → Nat) (Gr : Nat → Nat) (O : Nat → Nat) (S : Nat → Nat) (T : Nat → Nat) (K : Nat → Nat) (SP : Nat → Nat) (SL : Nat → Nat) (B : Nat → Nat → Nat) (fd : Nat) (sg : Nat) (fi : Nat → Option Nat) (mn : Nat) (PS : Nat → Nat) (P : Ps) (W : Nat → Option Nat) (s : Ws) (z1 : Int32) (z2 : Int32) (g : Nat → Int32) (GU : Nat → Nat) (RO : Nat → Nat) (gM : Nat → Int32) (gc : Nat → Int32) (fI : Nat → Int32) (kf : Nat → Bool) (w1 : Int32) (w2 : Int32) (w3 : Int32) (w4 : Int32) (w5 : Int32) (w6 : Int32) (n : Nat) (hn : n < 2) (hxe : xs (i + 1) = nI n) (rn ro : va_W) (hC : InvC L Gr O S T K SP SL B fd sg) (hI : Im1 G fi kf fI n rn) (kk : ∀ (rn2 : va_W) (fi2 : Nat → Option Nat), (∀ k, ¬ k = n → fi2 k = fi k) → Im1 G fi2 (va_up kf n true) (imP fI (100 * n) (pk0 L Gr O T K S B SP SL fd sg)) n rn2 → V x G 4 (n1 + 11) (n2 + 96) 1070 [(0, .ref b), (1, .ref (ad 0)), (2, .ref (ad 27)), (3, .int (nI i))] [] (cW G ad L Gr O S T K SP SL B fd sg fi2 mn PS P W s z1 z2 g GU RO ++ (mW G ad L Gr O S T K SP SL B fd sg mn PS gM gc (imP fI (100 * n) (pk0 L Gr O T K S B SP SL fd sg)) (va_up kf n true) w1 w2 w3 w4 w5 w6 ++ (rn2 ++ ro)))) : V x G 4 n1 n2 1001 [(0, .ref b), (1, .ref (ad 0)), (2, .ref (ad 27)), (3, .int (nI i))] [] (cW G ad L Gr O S T K SP SL B fd sg fi mn PS P W s z1 z2 g GU RO ++ (mW G ad L Gr O S T K SP SL B fd sg mn PS gM gc fI kf w1 w2 w3 w4 w5 w6 ++ (rn ++ ro))) := by
  obtain ⟨hL, hG, hO, hS, hT, hN, hK, hB, hsp, hsl, ⟨hfd0, hfd⟩, hsg⟩ := id hC
  rcases hI with ⟨hf, hk, rfl⟩ | ⟨ia, L2, G2, O2, S2, T2, K2, SP2, SL2, B2, fd2, sg2, hf, hk, hC2, him, rfl⟩
  · refine k_aload_n Ox dL_law_1001 rfl 1 rfl ?_
    refine k_aload_n Ox dL_law_1002 rfl 0 rfl ?_
    refine k_iload_n Ox dL_law_1003 rfl 3 rfl ?_
    refine k_iconst Ox (v := nI 1) dL_law_1004 rfl ?_
    refine k_iaddN Ox dL_law_1005 ?_
    refine k_sld Ox hScr (by omega) hLn dL_law_1006 ?_
    refine k_top (nI n) hxe ?_
    refine k_callV Ox [0, 1, 2, 3, 4, 5, 6, 7, 8, 9, 10, 11, 12] (c_X4_image_n G (ad 0) (ad 1) (ad 12) (ad 13) (ad 19) (ad 23) (ad 25) (ad 26) (ad 2) (ad 3) (ad 4) (ad 5) (ad 6) (ad 7) (ad 8) (ad 9) (ad 10) (ad 11) L Gr O S T K SP SL B fd sg fi n hn hf) 1 rfl rfl rfl ⟨rfl, rfl⟩ rfl rfl gL_law_X4_image rfl 0 rfl ⟨rfl, (by decide +kernel), (by decide +kernel), (by decide +kernel)⟩ rfl dL_law_1007 (Nat.le_of_ble_eq_true rfl) rfl ⟨hr1, hr2⟩ (fun r wa wb hp => ?_)
    obtain ⟨rfl, d2X, ls2X, gs2X, ly2X, hs2X, tr2X, kn2X, sp2X, sl2X, be2X, bd2X, rfl, rfl⟩ := hp
    simp only [cW, mW, iW, List.cons_append, List.nil_append, repl_cons, repl_nil, List.set_cons_zero, List.set_cons_succ, List.append_nil]
    show V x G 4 _ _ _ _ (.int _ :: _) (cW G ad L Gr O S T K SP SL B fd sg (va_up fi n (some d2X)) mn PS P W s z1 z2 g GU RO ++ (mW G ad L Gr O S T K SP SL B fd sg mn PS gM gc fI kf w1 w2 w3 w4 w5 w6 ++ (ro ++ iW G (iaF d2X ls2X gs2X ly2X hs2X tr2X kn2X sp2X sl2X be2X bd2X) L Gr O S T K SP SL B fd sg)))
    refine k_perm (perm3 _ _ _ _) ?_
    refine k_aload_n Ox dL_law_1010 rfl 2 rfl ?_
    refine k_aload_n Ox dL_law_1011 rfl 0 rfl ?_
    refine k_iload_n Ox dL_law_1012 rfl 3 rfl ?_
    refine k_iconst Ox (v := nI 1) dL_law_1013 rfl ?_
    refine k_iaddN Ox dL_law_1014 ?_
    refine k_sld Ox hScr (by omega) hLn dL_law_1015 ?_
    refine k_top (nI n) hxe ?_
    refine k_callV Ox [27, 33, 28, 29, 30, 31, 32, 34, 35, 39, 40] (c_X5_image_k G (ad 27) (ad 28) (ad 29) (ad 30) (ad 31) (ad 32) (ad 33) (ad 34) (ad 35) (ad 36) (ad 37) (ad 38) (ad 39) (ad 40) fd sg mn w1 w2 w3 w4 w5 w6 L Gr O T K S B SP SL fI kf n hn hL hG hO hT hK hS hB) 1 rfl rfl rfl ⟨rfl, rfl⟩ rfl rfl gL_law_X5_image rfl 27 rfl ⟨rfl, (by decide +kernel), (by decide +kernel), (by decide +kernel)⟩ rfl dL_law_1016 (Nat.le_of_ble_eq_true rfl) rfl ⟨hr1, hr2⟩ (fun r wa wb hp => ?_)
    obtain ⟨⟨rfl, rfl⟩, rfl⟩ := hp
    simp only [cW, mW, iW, List.cons_append, List.nil_append, repl_cons, repl_nil, List.set_cons_zero, List.set_cons_succ, List.append_nil]
    show V x G 4 _ _ _ _ (.int _ :: _) (cW G ad L Gr O S T K SP SL B fd sg (va_up fi n (some d2X)) mn PS P W s z1 z2 g GU RO ++ (mW G ad L Gr O S T K SP SL B fd sg mn PS gM gc (imP fI (100 * n) (pk0 L Gr O T K S B SP SL fd sg)) (va_up kf n true) w1 w2 w3 w4 w5 w6 ++ (iW G (iaF d2X ls2X gs2X ly2X hs2X tr2X kn2X sp2X sl2X be2X bd2X) L Gr O S T K SP SL B fd sg ++ ro)))
    refine k_icmp_eq Ox 1070 dL_law_1019 rfl (fun _ => ?_) (fun h => absurd rfl h)
    refine k_widen (n1 + 11) (n2 + 96) (by omega) (by omega) ?_
    exact kk (iW G (iaF d2X ls2X gs2X ly2X hs2X tr2X kn2X sp2X sl2X be2X bd2X) L Gr O S T K SP SL B fd sg) (va_up fi n (some d2X)) (fun k hk => va_up_ne fi _ hk) (Or.inr ⟨(iaF d2X ls2X gs2X ly2X hs2X tr2X kn2X sp2X sl2X be2X bd2X), L, Gr, O, S, T, K, SP, SL, B, fd, sg, va_up_self fi n _, va_up_self kf n true, hC, im_put _ _ _, rfl⟩)
  · refine k_aload_n Ox dL_law_1001 rfl 1 rfl ?_
    refine k_aload_n Ox dL_law_1002 rfl 0 rfl ?_
    refine k_iload_n Ox dL_law_1003 rfl 3 rfl ?_
    refine k_iconst Ox (v := nI 1) dL_law_1004 rfl ?_
    refine k_iaddN Ox dL_law_1005 ?_
    refine k_sld Ox hScr (by omega) hLn dL_law_1006 ?_
    refine k_top (nI n) hxe ?_
    refine k_callV Ox [0, 1, 2, 3, 4, 5, 6, 7, 8, 9, 10, 11, 12, 41, 42, 43, 44, 45, 46, 47, 48, 49, 50, 51] (c_X4_image_k G (ad 0) (ad 1) (ad 12) (ad 13) (ad 19) (ad 23) (ad 25) (ad 26) (ad 2) (ad 3) (ad 4) (ad 5) (ad 6) (ad 7) (ad 8) (ad 9) (ad 10) (ad 11) L Gr O S T K SP SL B fd sg fi ((ia 0)) ((ia 1)) ((ia 2)) ((ia 3)) ((ia 4)) ((ia 5)) ((ia 6)) ((ia 7)) ((ia 8)) ((ia 9)) ((ia 10)) L2 G2 O2 T2 K2 S2 B2 SP2 SL2 fd2 sg2 n hn hf) 1 rfl rfl rfl ⟨rfl, rfl⟩ rfl rfl gL_law_X4_image rfl 0 rfl ⟨rfl, (by decide +kernel), (by decide +kernel), (by decide +kernel)⟩ rfl dL_law_1007 (Nat.le_of_ble_eq_true rfl) rfl ⟨Nat.le_trans (Nat.le_add_right n1 11) hr1, Nat.le_trans (Nat.le_add_right n2 96) hr2⟩ (fun r wa wb hp => ?_)
    obtain ⟨⟨rfl, rfl⟩, rfl⟩ := hp
    simp only [cW, mW, iW, List.cons_append, List.nil_append, repl_cons, repl_nil, List.set_cons_zero, List.set_cons_succ, List.append_nil]
    show V x G 4 _ _ _ _ (.int _ :: _) (cW G ad L Gr O S T K SP SL B fd sg fi mn PS P W s z1 z2 g GU RO ++ (mW G ad L Gr O S T K SP SL B fd sg mn PS gM gc fI kf w1 w2 w3 w4 w5 w6 ++ (iW G ia L Gr O S T K SP SL B fd sg ++ ro)))
    refine k_aload_n Ox dL_law_1010 rfl 2 rfl ?_
    refine k_aload_n Ox dL_law_1011 rfl 0 rfl ?_
    refine k_iload_n Ox dL_law_1012 rfl 3 rfl ?_
    refine k_iconst Ox (v := nI 1) dL_law_1013 rfl ?_
    refine k_iaddN Ox dL_law_1014 ?_
    refine k_sld Ox hScr (by omega) hLn dL_law_1015 ?_
    refine k_top (nI n) hxe ?_
    refine k_callV Ox [27, 33, 28, 29, 30, 31, 32, 34, 35, 39, 40] (c_X5_image_k G (ad 27) (ad 28) (ad 29) (ad 30) (ad 31) (ad 32) (ad 33) (ad 34) (ad 35) (ad 36) (ad 37) (ad 38) (ad 39) (ad 40) fd sg mn w1 w2 w3 w4 w5 w6 L Gr O T K S B SP SL fI kf n hn hL hG hO hT hK hS hB) 1 rfl rfl rfl ⟨rfl, rfl⟩ rfl rfl gL_law_X5_image rfl 27 rfl ⟨rfl, (by decide +kernel), (by decide +kernel), (by decide +kernel)⟩ rfl dL_law_1016 (Nat.le_of_ble_eq_true rfl) rfl ⟨Nat.le_trans (Nat.le_add_right n1 11) hr1, Nat.le_trans (Nat.le_add_right n2 96) hr2⟩ (fun r wa wb hp => ?_)
    obtain ⟨⟨rfl, rfl⟩, rfl⟩ := hp
    simp only [cW, mW, iW, List.cons_append, List.nil_append, repl_cons, repl_nil, List.set_cons_zero, List.set_cons_succ, List.append_nil]
    show V x G 4 _ _ _ _ (.int _ :: _) (cW G ad L Gr O S T K SP SL B fd sg fi mn PS P W s z1 z2 g GU RO ++ (mW G ad L Gr O S T K SP SL B fd sg mn PS gM gc (imP fI (100 * n) (pk0 L Gr O T K S B SP SL fd sg)) (va_up kf n true) w1 w2 w3 w4 w5 w6 ++ (iW G ia L Gr O S T K SP SL B fd sg ++ ro)))
    refine k_icmp_eq Ox 1070 dL_law_1019 rfl (fun _ => ?_) (fun h => absurd rfl h)
    refine k_widen (n1 + 11) (n2 + 96) (by omega) (by omega) ?_
    exact kk (iW G ia L Gr O S T K SP SL B fd sg) fi (fun k _ => rfl) (Or.inr ⟨ia, L, Gr, O, S, T, K, SP, SL, B, fd, sg, hf, va_up_self kf n true, hC, im_put _ _ _, rfl⟩)
set_option maxHeartbeats 2000000 in
set_option maxRecDepth 8000 in
theorem lc_resN (G : Gx) {x : Cx} {nm : String} (Ox : Okx x G 4 cL_law wsL_law (⟨RL, nm, "([I)Z"⟩ : MethodName) room_1) {b Ln : Nat} {xs : Nat → Int32} (hScr : Scx x b Ln xs) (ad : Nat → Nat) {i n1 n2 : Nat} (hi6 : i + 6 ≤ Ln) (hLn : Ln ≤ 3072) (hr1 : n1 + 11 ≤ room_1.cells) (hr2 : n2 + 96 ≤ room_1.slots) (L : Nat → Nat) (Gr : Nat → Nat) (O : Nat → Nat) (S : Nat → Nat) (T : Nat → Nat) (K : Nat → Nat) (SP : Nat → Nat) (SL : Nat → Nat) (B : Nat → Nat → Nat) (fd : Nat) (sg : Nat) (fi : Nat → Option Nat) (mn : Nat) (PS : Nat → Nat) (P : Ps) (W : Nat → Option Nat) (s : Ws) (z1 : Int32) (z2 : Int32) (g : Nat → Int32) (GU : Nat → Nat) (RO : Nat → Nat) (gM : Nat → Int32) (gc : Nat → Int32) (fI : Nat → Int32) (kf : Nat → Bool) (w1 : Int32) (w2 : Int32) (w3 : Int32) (w4 : Int32) (w5 : Int32) (w6 : Int32) (n : Nat) (hn : n < 2) (hxe : xs (i + 1) = nI n) (rn ro : va_W) (hC : InvC L Gr O S T K SP SL B fd sg) (hI : Im1 G fi kf fI n rn) (kk : ∀ (L2 : Nat → Nat) (G2 : Nat → Nat) (O2 : Nat → Nat) (S2 : Nat → Nat) (T2 : Nat → Nat) (K2 : Nat → Nat) (SP2 : Nat → Nat) (SL2 : Nat → Nat) (B2 : Nat → Nat → Nat) (fd2 : Nat) (sg2 : Nat), InvC L2 G2 O2 S2 T2 K2 SP2 SL2 B2 fd2 sg2 → V x G 4 (n1 + 11) (n2 + 96) 1070 [(0, .ref b), (1, .ref (ad 0)), (2, .ref (ad 27)), (3, .int (nI i))] [] (cW G ad L2 G2 O2 S2 T2 K2 SP2 SL2 B2 fd2 sg2 fi mn PS P W s z1 z2 g GU RO ++ (mW G ad L2 G2 O2 S2 T2 K2 SP2 SL2 B2 fd2 sg2 mn PS gM gc fI kf w1 w2 w3 w4 w5 w6 ++ (rn ++ ro)))) : V x G 4 n1 n2 1024 [(0, .ref b), (1, .ref (ad 0)), (2, .ref (ad 27)), (3, .int (nI i))] [] (cW G ad L Gr O S T K SP SL B fd sg fi mn PS P W s z1 z2 g GU RO ++ (mW G ad L Gr O S T K SP SL B fd sg mn PS gM gc fI kf w1 w2 w3 w4 w5 w6 ++ (rn ++ ro))) := by
  obtain ⟨hL, hG, hO, hS, hT, hN, hK, hB, hsp, hsl, ⟨hfd0, hfd⟩, hsg⟩ := id hC
  rcases id hI with ⟨hf, hk, e⟩ | ⟨ia, L2, G2, O2, S2, T2, K2, SP2, SL2, B2, fd2, sg2, hf, hk, hC2, him, e⟩
  · refine k_aload_n Ox dL_law_1024 rfl 1 rfl ?_
    refine k_aload_n Ox dL_law_1025 rfl 0 rfl ?_
    refine k_iload_n Ox dL_law_1026 rfl 3 rfl ?_
    refine k_iconst Ox (v := nI 1) dL_law_1027 rfl ?_
    refine k_iaddN Ox dL_law_1028 ?_
    refine k_sld Ox hScr (by omega) hLn dL_law_1029 ?_
    refine k_top (nI n) hxe ?_
    refine k_callV Ox [0, 12] (c_X4_restore_s G (ad 0) (ad 1) (ad 12) (ad 13) (ad 19) (ad 23) (ad 25) (ad 26) fi n hn hf) 1 rfl rfl rfl ⟨rfl, rfl⟩ rfl rfl gL_law_X4_restore rfl 0 rfl ⟨rfl, (by decide +kernel), (by decide +kernel), (by decide +kernel)⟩ rfl dL_law_1030 (Nat.le_of_ble_eq_true rfl) rfl ⟨Nat.le_trans (Nat.le_add_right n1 11) hr1, Nat.le_trans (Nat.le_add_right n2 96) hr2⟩ (fun r wa wb hp => ?_)
    obtain ⟨⟨rfl, rfl⟩, rfl⟩ := hp
    simp only [cW, mW, iW, List.cons_append, List.nil_append, repl_cons, repl_nil, List.set_cons_zero, List.set_cons_succ, List.append_nil]
    show V x G 4 _ _ _ _ (.int _ :: _) (cW G ad L Gr O S T K SP SL B fd sg fi mn PS P W s z1 z2 g GU RO ++ (mW G ad L Gr O S T K SP SL B fd sg mn PS gM gc fI kf w1 w2 w3 w4 w5 w6 ++ (rn ++ ro)))
    refine k_aload_n Ox dL_law_1033 rfl 2 rfl ?_
    refine k_aload_n Ox dL_law_1034 rfl 0 rfl ?_
    refine k_iload_n Ox dL_law_1035 rfl 3 rfl ?_
    refine k_iconst Ox (v := nI 1) dL_law_1036 rfl ?_
    refine k_iaddN Ox dL_law_1037 ?_
    refine k_sld Ox hScr (by omega) hLn dL_law_1038 ?_
    refine k_top (nI n) hxe ?_
    refine k_callV Ox [27, 40] (c_X5_restore_s G (ad 27) (ad 28) (ad 29) (ad 30) (ad 31) (ad 32) (ad 33) (ad 34) (ad 35) (ad 36) (ad 37) (ad 38) (ad 39) (ad 40) fd sg mn w1 w2 w3 w4 w5 w6 kf n hn hk) 1 rfl rfl rfl ⟨rfl, rfl⟩ rfl rfl gL_law_X5_restore rfl 27 rfl ⟨rfl, (by decide +kernel), (by decide +kernel), (by decide +kernel)⟩ rfl dL_law_1039 (Nat.le_of_ble_eq_true rfl) rfl ⟨Nat.le_trans (Nat.le_add_right n1 11) hr1, Nat.le_trans (Nat.le_add_right n2 96) hr2⟩ (fun r wa wb hp => ?_)
    obtain ⟨⟨rfl, rfl⟩, rfl⟩ := hp
    simp only [cW, mW, iW, List.cons_append, List.nil_append, repl_cons, repl_nil, List.set_cons_zero, List.set_cons_succ, List.append_nil]
    show V x G 4 _ _ _ _ (.int _ :: _) (cW G ad L Gr O S T K SP SL B fd sg fi mn PS P W s z1 z2 g GU RO ++ (mW G ad L Gr O S T K SP SL B fd sg mn PS gM gc fI kf w1 w2 w3 w4 w5 w6 ++ (rn ++ ro)))
    refine k_icmp_eq Ox 1070 dL_law_1042 rfl (fun _ => ?_) (fun h => absurd rfl h)
    refine k_widen (n1 + 11) (n2 + 96) (by omega) (by omega) ?_
    exact kk L Gr O S T K SP SL B fd sg hC
  · subst e
    refine k_aload_n Ox dL_law_1024 rfl 1 rfl ?_
    refine k_aload_n Ox dL_law_1025 rfl 0 rfl ?_
    refine k_iload_n Ox dL_law_1026 rfl 3 rfl ?_
    refine k_iconst Ox (v := nI 1) dL_law_1027 rfl ?_
    refine k_iaddN Ox dL_law_1028 ?_
    refine k_sld Ox hScr (by omega) hLn dL_law_1029 ?_
    refine k_top (nI n) hxe ?_
    refine k_callV Ox [0, 1, 2, 3, 4, 5, 6, 7, 8, 9, 10, 11, 12, 41, 42, 43, 44, 45, 46, 47, 48, 49, 50, 51] (c_X4_restore_k G (ad 0) (ad 1) (ad 12) (ad 13) (ad 19) (ad 23) (ad 25) (ad 26) (ad 2) (ad 3) (ad 4) (ad 5) (ad 6) (ad 7) (ad 8) (ad 9) (ad 10) (ad 11) L Gr O S T K SP SL B fd sg fi ((ia 0)) ((ia 1)) ((ia 2)) ((ia 3)) ((ia 4)) ((ia 5)) ((ia 6)) ((ia 7)) ((ia 8)) ((ia 9)) ((ia 10)) L2 G2 O2 T2 K2 S2 B2 SP2 SL2 fd2 sg2 n hn hf) 1 rfl rfl rfl ⟨rfl, rfl⟩ rfl rfl gL_law_X4_restore rfl 0 rfl ⟨rfl, (by decide +kernel), (by decide +kernel), (by decide +kernel)⟩ rfl dL_law_1030 (Nat.le_of_ble_eq_true rfl) rfl ⟨Nat.le_trans (Nat.le_add_right n1 11) hr1, Nat.le_trans (Nat.le_add_right n2 96) hr2⟩ (fun r wa wb hp => ?_)
    obtain ⟨⟨rfl, rfl⟩, rfl⟩ := hp
    simp only [cW, mW, iW, List.cons_append, List.nil_append, repl_cons, repl_nil, List.set_cons_zero, List.set_cons_succ, List.append_nil]
    show V x G 4 _ _ _ _ (.int _ :: _) (cW G ad L2 G2 O2 S2 T2 K2 SP2 SL2 B2 fd2 sg2 fi mn PS P W s z1 z2 g GU RO ++ (mW G ad L Gr O S T K SP SL B fd sg mn PS gM gc fI kf w1 w2 w3 w4 w5 w6 ++ (iW G ia L2 G2 O2 S2 T2 K2 SP2 SL2 B2 fd2 sg2 ++ ro)))
    refine k_aload_n Ox dL_law_1033 rfl 2 rfl ?_
    refine k_aload_n Ox dL_law_1034 rfl 0 rfl ?_
    refine k_iload_n Ox dL_law_1035 rfl 3 rfl ?_
    refine k_iconst Ox (v := nI 1) dL_law_1036 rfl ?_
    refine k_iaddN Ox dL_law_1037 ?_
    refine k_sld Ox hScr (by omega) hLn dL_law_1038 ?_
    refine k_top (nI n) hxe ?_
    refine k_callV Ox [27, 33, 28, 29, 30, 31, 32, 34, 35, 39, 40] (c_X5_restore_k G (ad 27) (ad 28) (ad 29) (ad 30) (ad 31) (ad 32) (ad 33) (ad 34) (ad 35) (ad 36) (ad 37) (ad 38) (ad 39) (ad 40) fd sg mn w1 w2 w3 w4 w5 w6 ((rN (flM B))) ((rN L)) ((rN Gr)) ((rN O)) ((rN T)) ((rN K)) ((rN S)) ((rN (flS SP SL))) fI kf L2 G2 O2 T2 K2 S2 B2 SP2 SL2 fd2 sg2 n hn hk him) 1 rfl rfl rfl ⟨rfl, rfl⟩ rfl rfl gL_law_X5_restore rfl 27 rfl ⟨rfl, (by decide +kernel), (by decide +kernel), (by decide +kernel)⟩ rfl dL_law_1039 (Nat.le_of_ble_eq_true rfl) rfl ⟨Nat.le_trans (Nat.le_add_right n1 11) hr1, Nat.le_trans (Nat.le_add_right n2 96) hr2⟩ (fun r wa wb hp => ?_)
    obtain ⟨⟨rfl, rfl⟩, rfl⟩ := hp
    simp only [cW, mW, iW, List.cons_append, List.nil_append, repl_cons, repl_nil, List.set_cons_zero, List.set_cons_succ, List.append_nil]
    show V x G 4 _ _ _ _ (.int _ :: _) (cW G ad L2 G2 O2 S2 T2 K2 SP2 SL2 B2 fd2 sg2 fi mn PS P W s z1 z2 g GU RO ++ (mW G ad L2 G2 O2 S2 T2 K2 SP2 SL2 B2 fd2 sg2 mn PS gM gc fI kf w1 w2 w3 w4 w5 w6 ++ (iW G ia L2 G2 O2 S2 T2 K2 SP2 SL2 B2 fd2 sg2 ++ ro)))
    refine k_icmp_eq Ox 1070 dL_law_1042 rfl (fun _ => ?_) (fun h => absurd rfl h)
    refine k_widen (n1 + 11) (n2 + 96) (by omega) (by omega) ?_
    exact kk L2 G2 O2 S2 T2 K2 SP2 SL2 B2 fd2 sg2 hC2
set_option maxHeartbeats 2000000 in
set_option maxRecDepth 8000 in
theorem lc_image (G : Gx) {x : Cx} {nm : String} (Ox : Okx x G 4 cL_law wsL_law (⟨RL, nm, "([I)Z"⟩ : MethodName) room_1) {b Ln : Nat} {xs : Nat → Int32} (hScr : Scx x b Ln xs) (ad : Nat → Nat) {i n1 n2 : Nat} (hi6 : i + 6 ≤ Ln) (hLn : Ln ≤ 3072) (hr1 : n1 + 11 ≤ room_1.cells) (hr2 : n2 + 96 ≤ room_1.slots) (kk : ∀ ws : va_W, LoopI G ad ws → V x G 4 (n1 + 11) (n2 + 96) 1070 [(0, .ref b), (1, .ref (ad 0)), (2, .ref (ad 27)), (3, .int (nI i))] [] ws) (ws : va_W) (hI : LoopI G ad ws) : V x G 4 n1 n2 1001 [(0, .ref b), (1, .ref (ad 0)), (2, .ref (ad 27)), (3, .int (nI i))] [] ws := by
  obtain ⟨L, Gr, O, S, T, K, SP, SL, B, fd, sg, fi, mn, PS, P, W, s, z1, z2, g, GU, RO, gM, gc, fI, kf, w1, w2, w3, w4, w5, w6, r0, r1, rfl, hC, hT9, h0, h1⟩ := hI
  obtain ⟨hL, hG, hO, hS, hT, hN, hK, hB, hsp, hsl, ⟨hfd0, hfd⟩, hsg⟩ := id hC
  obtain ⟨⟨hmn, hPS⟩, hws, hww⟩ := id hT9
  by_cases ho : inR 0 1 (xs (i + 1)) = false
  · refine k_aload_n Ox dL_law_1001 rfl 1 rfl ?_
    refine k_aload_n Ox dL_law_1002 rfl 0 rfl ?_
    refine k_iload_n Ox dL_law_1003 rfl 3 rfl ?_
    refine k_iconst Ox (v := nI 1) dL_law_1004 rfl ?_
    refine k_iaddN Ox dL_law_1005 ?_
    refine k_sld Ox hScr (by omega) hLn dL_law_1006 ?_
    refine k_callV Ox [0, 12] (c_X4_image_x G (ad 0) (ad 1) (ad 12) (ad 13) (ad 19) (ad 23) (ad 25) (ad 26) fi (xs (i + 1)) ho) 1 rfl rfl rfl ⟨rfl, rfl⟩ rfl rfl gL_law_X4_image rfl 0 rfl ⟨rfl, (by decide +kernel), (by decide +kernel), (by decide +kernel)⟩ rfl dL_law_1007 (Nat.le_of_ble_eq_true rfl) rfl ⟨Nat.le_trans (Nat.le_add_right n1 11) hr1, Nat.le_trans (Nat.le_add_right n2 96) hr2⟩ (fun r wa wb hp => ?_)
    obtain ⟨⟨rfl, rfl⟩, rfl⟩ := hp
    simp only [cW, mW, iW, List.cons_append, List.nil_append, repl_cons, repl_nil, List.set_cons_zero, List.set_cons_succ, List.append_nil]
    show V x G 4 _ _ _ _ (.int _ :: _) (cW G ad L Gr O S T K SP SL B fd sg fi mn PS P W s z1 z2 g GU RO ++ (mW G ad L Gr O S T K SP SL B fd sg mn PS gM gc fI kf w1 w2 w3 w4 w5 w6 ++ (r0 ++ r1)))
    refine k_aload_n Ox dL_law_1010 rfl 2 rfl ?_
    refine k_aload_n Ox dL_law_1011 rfl 0 rfl ?_
    refine k_iload_n Ox dL_law_1012 rfl 3 rfl ?_
    refine k_iconst Ox (v := nI 1) dL_law_1013 rfl ?_
    refine k_iaddN Ox dL_law_1014 ?_
    refine k_sld Ox hScr (by omega) hLn dL_law_1015 ?_
    refine k_callV Ox [27] (c_X5_image_x G (ad 27) (ad 28) (ad 29) (ad 30) (ad 31) (ad 32) (ad 33) (ad 34) (ad 35) (ad 36) (ad 37) (ad 38) (ad 39) (ad 40) fd sg mn w1 w2 w3 w4 w5 w6 (xs (i + 1)) ho) 1 rfl rfl rfl ⟨rfl, rfl⟩ rfl rfl gL_law_X5_image rfl 27 rfl ⟨rfl, (by decide +kernel), (by decide +kernel), (by decide +kernel)⟩ rfl dL_law_1016 (Nat.le_of_ble_eq_true rfl) rfl ⟨Nat.le_trans (Nat.le_add_right n1 11) hr1, Nat.le_trans (Nat.le_add_right n2 96) hr2⟩ (fun r wa wb hp => ?_)
    obtain ⟨⟨rfl, rfl⟩, rfl⟩ := hp
    simp only [cW, mW, iW, List.cons_append, List.nil_append, repl_cons, repl_nil, List.set_cons_zero, List.set_cons_succ, List.append_nil]
    show V x G 4 _ _ _ _ (.int _ :: _) (cW G ad L Gr O S T K SP SL B fd sg fi mn PS P W s z1 z2 g GU RO ++ (mW G ad L Gr O S T K SP SL B fd sg mn PS gM gc fI kf w1 w2 w3 w4 w5 w6 ++ (r0 ++ r1)))
    refine k_icmp_eq Ox 1070 dL_law_1019 rfl (fun _ => ?_) (fun h => absurd rfl h)
    refine k_widen (n1 + 11) (n2 + 96) (by omega) (by omega) ?_
    exact kk _ ⟨_, _, _, _, _, _, _, _, _, _, _, _, _, _, _, _, _, _, _, _, _, _, _, _, _, _, _, _, _, _, _, _, r0, r1, rfl, hC, hT9, h0, h1⟩
  · rcases in01 (by simpa using ho) with hxe | hxe
    · refine lc_imgN G Ox hScr ad hi6 hLn hr1 hr2 L Gr O S T K SP SL B fd sg fi mn PS P W s z1 z2 g GU RO gM gc fI kf w1 w2 w3 w4 w5 w6 0 (by decide) hxe r0 r1 hC h0 (fun rn2 fi2 hf2 hI2 => ?_)
      exact kk _ ⟨_, _, _, _, _, _, _, _, _, _, _, _, _, _, _, _, _, _, _, _, _, _, _, _, _, _, _, _, _, _, _, _, rn2, r1, rfl, hC, hT9, hI2, Im1_oth h1 (by decide) (hf2 1 (by decide))⟩
    · refine k_perm (perm3 _ _ _ _) ?_
      refine lc_imgN G Ox hScr ad hi6 hLn hr1 hr2 L Gr O S T K SP SL B fd sg fi mn PS P W s z1 z2 g GU RO gM gc fI kf w1 w2 w3 w4 w5 w6 1 (by decide) hxe r1 r0 hC h1 (fun rn2 fi2 hf2 hI2 => ?_)
      refine k_perm (perm3 _ _ _ _) ?_
      exact kk _ ⟨_, _, _, _, _, _, _, _, _, _, _, _, _, _, _, _, _, _, _, _, _, _, _, _, _, _, _, _, _, _, _, _, r0, rn2, rfl, hC, hT9, Im1_oth h0 (by decide) (hf2 0 (by decide)), hI2⟩
set_option maxHeartbeats 2000000 in
set_option maxRecDepth 8000 in
theorem lc_restore (G : Gx) {x : Cx} {nm : String} (Ox : Okx x G 4 cL_law wsL_law (⟨RL, nm, "([I)Z"⟩ : MethodName) room_1) {b Ln : Nat} {xs : Nat → Int32} (hScr : Scx x b Ln xs) (ad : Nat → Nat) {i n1 n2 : Nat} (hi6 : i + 6 ≤ Ln) (hLn : Ln ≤ 3072) (hr1 : n1 + 11 ≤ room_1.cells) (hr2 : n2 + 96 ≤ room_1.slots) (kk : ∀ ws : va_W, LoopI G ad ws → V x G 4 (n1 + 11) (n2 + 96) 1070 [(0, .ref b), (1, .ref (ad 0)), (2, .ref (ad 27)), (3, .int (nI i))] [] ws) (ws : va_W) (hI : LoopI G ad ws) : V x G 4 n1 n2 1024 [(0, .ref b), (1, .ref (ad 0)), (2, .ref (ad 27)), (3, .int (nI i))] [] ws := by
  obtain ⟨L, Gr, O, S, T, K, SP, SL, B, fd, sg, fi, mn, PS, P, W, s, z1, z2, g, GU, RO, gM, gc, fI, kf, w1, w2, w3, w4, w5, w6, r0, r1, rfl, hC, hT9, h0, h1⟩ := hI
  obtain ⟨hL, hG, hO, hS, hT, hN, hK, hB, hsp, hsl, ⟨hfd0, hfd⟩, hsg⟩ := id hC
  obtain ⟨⟨hmn, hPS⟩, hws, hww⟩ := id hT9
  by_cases ho : inR 0 1 (xs (i + 1)) = false
  · refine k_aload_n Ox dL_law_1024 rfl 1 rfl ?_
    refine k_aload_n Ox dL_law_1025 rfl 0 rfl ?_
    refine k_iload_n Ox dL_law_1026 rfl 3 rfl ?_
    refine k_iconst Ox (v := nI 1) dL_law_1027 rfl ?_
    refine k_iaddN Ox dL_law_1028 ?_
    refine k_sld Ox hScr (by omega) hLn dL_law_1029 ?_
    refine k_callV Ox [0, 12] (c_X4_restore_x G (ad 0) (ad 1) (ad 12) (ad 13) (ad 19) (ad 23) (ad 25) (ad 26) fi (xs (i + 1)) ho) 1 rfl rfl rfl ⟨rfl, rfl⟩ rfl rfl gL_law_X4_restore rfl 0 rfl ⟨rfl, (by decide +kernel), (by decide +kernel), (by decide +kernel)⟩ rfl dL_law_1030 (Nat.le_of_ble_eq_true rfl) rfl ⟨Nat.le_trans (Nat.le_add_right n1 11) hr1, Nat.le_trans (Nat.le_add_right n2 96) hr2⟩ (fun r wa wb hp => ?_)
    obtain ⟨⟨rfl, rfl⟩, rfl⟩ := hp
    simp only [cW, mW, iW, List.cons_append, List.nil_append, repl_cons, repl_nil, List.set_cons_zero, List.set_cons_succ, List.append_nil]
    show V x G 4 _ _ _ _ (.int _ :: _) (cW G ad L Gr O S T K SP SL B fd sg fi mn PS P W s z1 z2 g GU RO ++ (mW G ad L Gr O S T K SP SL B fd sg mn PS gM gc fI kf w1 w2 w3 w4 w5 w6 ++ (r0 ++ r1)))
    refine k_aload_n Ox dL_law_1033 rfl 2 rfl ?_
    refine k_aload_n Ox dL_law_1034 rfl 0 rfl ?_
    refine k_iload_n Ox dL_law_1035 rfl 3 rfl ?_
    refine k_iconst Ox (v := nI 1) dL_law_1036 rfl ?_
    refine k_iaddN Ox dL_law_1037 ?_
    refine k_sld Ox hScr (by omega) hLn dL_law_1038 ?_
    refine k_callV Ox [27] (c_X5_restore_x G (ad 27) (ad 28) (ad 29) (ad 30) (ad 31) (ad 32) (ad 33) (ad 34) (ad 35) (ad 36) (ad 37) (ad 38) (ad 39) (ad 40) fd sg mn w1 w2 w3 w4 w5 w6 (xs (i + 1)) ho) 1 rfl rfl rfl ⟨rfl, rfl⟩ rfl rfl gL_law_X5_restore rfl 27 rfl ⟨rfl, (by decide +kernel), (by decide +kernel), (by decide +kernel)⟩ rfl dL_law_1039 (Nat.le_of_ble_eq_true rfl) rfl ⟨Nat.le_trans (Nat.le_add_right n1 11) hr1, Nat.le_trans (Nat.le_add_right n2 96) hr2⟩ (fun r wa wb hp => ?_)
    obtain ⟨⟨rfl, rfl⟩, rfl⟩ := hp
    simp only [cW, mW, iW, List.cons_append, List.nil_append, repl_cons, repl_nil, List.set_cons_zero, List.set_cons_succ, List.append_nil]
    show V x G 4 _ _ _ _ (.int _ :: _) (cW G ad L Gr O S T K SP SL B fd sg fi mn PS P W s z1 z2 g GU RO ++ (mW G ad L Gr O S T K SP SL B fd sg mn PS gM gc fI kf w1 w2 w3 w4 w5 w6 ++ (r0 ++ r1)))
    refine k_icmp_eq Ox 1070 dL_law_1042 rfl (fun _ => ?_) (fun h => absurd rfl h)
    refine k_widen (n1 + 11) (n2 + 96) (by omega) (by omega) ?_
    exact kk _ ⟨_, _, _, _, _, _, _, _, _, _, _, _, _, _, _, _, _, _, _, _, _, _, _, _, _, _, _, _, _, _, _, _, r0, r1, rfl, hC, hT9, h0, h1⟩
  · rcases in01 (by simpa using ho) with hxe | hxe
    · refine lc_resN G Ox hScr ad hi6 hLn hr1 hr2 L Gr O S T K SP SL B fd sg fi mn PS P W s z1 z2 g GU RO gM gc fI kf w1 w2 w3 w4 w5 w6 0 (by decide) hxe r0 r1 hC h0 (fun L2 G2 O2 S2 T2 K2 SP2 SL2 B2 fd2 sg2 hC2 => ?_)
      exact kk _ ⟨_, _, _, _, _, _, _, _, _, _, _, _, _, _, _, _, _, _, _, _, _, _, _, _, _, _, _, _, _, _, _, _, r0, r1, rfl, hC2, hT9, h0, h1⟩
    · refine k_perm (perm3 _ _ _ _) ?_
      refine lc_resN G Ox hScr ad hi6 hLn hr1 hr2 L Gr O S T K SP SL B fd sg fi mn PS P W s z1 z2 g GU RO gM gc fI kf w1 w2 w3 w4 w5 w6 1 (by decide) hxe r1 r0 hC h1 (fun L2 G2 O2 S2 T2 K2 SP2 SL2 B2 fd2 sg2 hC2 => ?_)
      refine k_perm (perm3 _ _ _ _) ?_
      exact kk _ ⟨_, _, _, _, _, _, _, _, _, _, _, _, _, _, _, _, _, _, _, _, _, _, _, _, _, _, _, _, _, _, _, _, r0, r1, rfl, hC2, hT9, h0, h1⟩
