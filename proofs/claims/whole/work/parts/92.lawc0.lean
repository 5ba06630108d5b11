set_option maxHeartbeats 1000000 in
set_option maxRecDepth 8000 in
theorem lc_plank (G : Gx) {x : Cx} {nm : String} (Ox : Okx x G 4 cL_law wsL_law (⟨RL, nm, "([I)Z"⟩ : MethodName) room_1) {b Ln : Nat} {xs : Nat → Int32} (hScr : Scx x b Ln xs) (ad : Nat → Nat) {i n1 n2 : Nat} (hi6 : i + 6 ≤ Ln) (hLn : Ln ≤ 3072) (hr1 : n1 + 11 ≤ room_1.cells) (hr2 : n2 + 96 ≤ room_1.slots) (kk : ∀ ws : va_W, LoopI G ad ws → V x G 4 (n1 + 11) (n2 + 96) 1070 [(0, .ref b), (1, .ref (ad 0)), (2, .ref (ad 27)), (3, .int (nI i))] [] ws) (ws : va_W) (hI : LoopI G ad ws) : V x G 4 n1 n2 156 [(0, .ref b), (1, .ref (ad 0)), (2, .ref (ad 27)), (3, .int (nI i))] [] ws := by
  obtain ⟨L, Gr, O, S, T, K, SP, SL, B, fd, sg, fi, mn, PS, P, W, s, z1, z2, g, GU, RO, gM, gc, fI, kf, w1, w2, w3, w4, w5, w6, r0, r1, rfl, hC, hT9, h0, h1⟩ := hI
  obtain ⟨hL, hG, hO, hS, hT, hN, hK, hB, hsp, hsl, ⟨hfd0, hfd⟩, hsg⟩ := id hC
  obtain ⟨⟨hmn, hPS⟩, hws, hww⟩ := id hT9
  refine k_aload_n Ox dL_law_156 rfl 1 rfl ?_
  refine k_aload_n Ox dL_law_157 rfl 0 rfl ?_
  refine k_iload_n Ox dL_law_158 rfl 3 rfl ?_
  refine k_iconst Ox (v := nI 1) dL_law_159 rfl ?_
  refine k_iaddN Ox dL_law_160 ?_
  refine k_sld Ox hScr (by omega) hLn dL_law_161 ?_
  refine k_aload_n Ox dL_law_162 rfl 0 rfl ?_
  refine k_iload_n Ox dL_law_163 rfl 3 rfl ?_
  refine k_iconst Ox (v := nI 2) dL_law_164 rfl ?_
  refine k_iaddN Ox dL_law_165 ?_
  refine k_sld Ox hScr (by omega) hLn dL_law_166 ?_
  refine k_aload_n Ox dL_law_167 rfl 0 rfl ?_
  refine k_iload_n Ox dL_law_168 rfl 3 rfl ?_
  refine k_iconst Ox (v := nI 3) dL_law_169 rfl ?_
  refine k_iaddN Ox dL_law_170 ?_
  refine k_sld Ox hScr (by omega) hLn dL_law_171 ?_
  refine k_aload_n Ox dL_law_172 rfl 0 rfl ?_
  refine k_iload_n Ox dL_law_173 rfl 3 rfl ?_
  refine k_iconst Ox (v := nI 4) dL_law_174 rfl ?_
  refine k_iaddN Ox dL_law_175 ?_
  refine k_sld Ox hScr (by omega) hLn dL_law_176 ?_
  refine k_callV Ox [0, 1, 2, 3, 4, 7, 10, 11] (c_X4_plank G (ad 0) (ad 1) (ad 12) (ad 13) (ad 19) (ad 23) (ad 25) (ad 26) (ad 2) (ad 3) (ad 4) (ad 5) (ad 6) (ad 7) (ad 8) (ad 9) (ad 10) (ad 11) L Gr O K B fd sg (xs (i + 1)) (xs (i + 2)) (xs (i + 3)) (xs (i + 4)) hK) 4 rfl rfl rfl ⟨rfl, rfl⟩ rfl rfl gL_law_X4_plank rfl 0 rfl ⟨rfl, (by decide +kernel), (by decide +kernel), (by decide +kernel)⟩ rfl dL_law_177 (Nat.le_of_ble_eq_true rfl) rfl ⟨Nat.le_trans (Nat.le_add_right n1 11) hr1, Nat.le_trans (Nat.le_add_right n2 96) hr2⟩ (fun r wa wb hp => ?_)
  obtain ⟨⟨rfl, rfl⟩, rfl⟩ := hp
  simp only [cW, mW, List.cons_append, List.nil_append, repl_cons, repl_nil, List.set_cons_zero, List.set_cons_succ, List.append_nil]
  show V x G 4 _ _ _ _ (.int _ :: _) (cW G ad (plL (xs (i + 1)) (xs (i + 2)) (xs (i + 3)) (xs (i + 4)) L) (plG (xs (i + 1)) (xs (i + 2)) (xs (i + 3)) (xs (i + 4)) Gr) (plO (xs (i + 1)) (xs (i + 2)) (xs (i + 3)) (xs (i + 4)) O) S T (plK (xs (i + 1)) (xs (i + 2)) (xs (i + 3)) (xs (i + 4)) K) SP SL (plB (xs (i + 1)) (xs (i + 2)) (xs (i + 3)) (xs (i + 4)) B) fd sg fi mn PS P W s z1 z2 g GU RO ++ (mW G ad L Gr O S T K SP SL B fd sg mn PS gM gc fI kf w1 w2 w3 w4 w5 w6 ++ (r0 ++ r1)))
  refine k_aload_n Ox dL_law_180 rfl 2 rfl ?_
  refine k_aload_n Ox dL_law_181 rfl 0 rfl ?_
  refine k_iload_n Ox dL_law_182 rfl 3 rfl ?_
  refine k_iconst Ox (v := nI 1) dL_law_183 rfl ?_
  refine k_iaddN Ox dL_law_184 ?_
  refine k_sld Ox hScr (by omega) hLn dL_law_185 ?_
  refine k_aload_n Ox dL_law_186 rfl 0 rfl ?_
  refine k_iload_n Ox dL_law_187 rfl 3 rfl ?_
  refine k_iconst Ox (v := nI 2) dL_law_188 rfl ?_
  refine k_iaddN Ox dL_law_189 ?_
  refine k_sld Ox hScr (by omega) hLn dL_law_190 ?_
  refine k_aload_n Ox dL_law_191 rfl 0 rfl ?_
  refine k_iload_n Ox dL_law_192 rfl 3 rfl ?_
  refine k_iconst Ox (v := nI 3) dL_law_193 rfl ?_
  refine k_iaddN Ox dL_law_194 ?_
  refine k_sld Ox hScr (by omega) hLn dL_law_195 ?_
  refine k_aload_n Ox dL_law_196 rfl 0 rfl ?_
  refine k_iload_n Ox dL_law_197 rfl 3 rfl ?_
  refine k_iconst Ox (v := nI 4) dL_law_198 rfl ?_
  refine k_iaddN Ox dL_law_199 ?_
  refine k_sld Ox hScr (by omega) hLn dL_law_200 ?_
  refine k_callV Ox [27, 28, 29, 30, 32, 33] (c_X5_plank G (ad 27) (ad 28) (ad 29) (ad 30) (ad 31) (ad 32) (ad 33) (ad 34) (ad 35) (ad 36) (ad 37) (ad 38) (ad 39) (ad 40) fd sg mn w1 w2 w3 w4 w5 w6 L Gr O K B (xs (i + 1)) (xs (i + 2)) (xs (i + 3)) (xs (i + 4)) hK) 4 rfl rfl rfl ⟨rfl, rfl⟩ rfl rfl gL_law_X5_plank rfl 27 rfl ⟨rfl, (by decide +kernel), (by decide +kernel), (by decide +kernel)⟩ rfl dL_law_201 (Nat.le_of_ble_eq_true rfl) rfl ⟨Nat.le_trans (Nat.le_add_right n1 11) hr1, Nat.le_trans (Nat.le_add_right n2 96) hr2⟩ (fun r wa wb hp => ?_)
  obtain ⟨⟨rfl, rfl⟩, rfl⟩ := hp
  simp only [cW, mW, List.cons_append, List.nil_append, repl_cons, repl_nil, List.set_cons_zero, List.set_cons_succ, List.append_nil]
  show V x G 4 _ _ _ _ (.int _ :: _) (cW G ad (plL (xs (i + 1)) (xs (i + 2)) (xs (i + 3)) (xs (i + 4)) L) (plG (xs (i + 1)) (xs (i + 2)) (xs (i + 3)) (xs (i + 4)) Gr) (plO (xs (i + 1)) (xs (i + 2)) (xs (i + 3)) (xs (i + 4)) O) S T (plK (xs (i + 1)) (xs (i + 2)) (xs (i + 3)) (xs (i + 4)) K) SP SL (plB (xs (i + 1)) (xs (i + 2)) (xs (i + 3)) (xs (i + 4)) B) fd sg fi mn PS P W s z1 z2 g GU RO ++ (mW G ad (plL (xs (i + 1)) (xs (i + 2)) (xs (i + 3)) (xs (i + 4)) L) (plG (xs (i + 1)) (xs (i + 2)) (xs (i + 3)) (xs (i + 4)) Gr) (plO (xs (i + 1)) (xs (i + 2)) (xs (i + 3)) (xs (i + 4)) O) S T (plK (xs (i + 1)) (xs (i + 2)) (xs (i + 3)) (xs (i + 4)) K) SP SL (plB (xs (i + 1)) (xs (i + 2)) (xs (i + 3)) (xs (i + 4)) B) fd sg mn PS gM gc fI kf w1 w2 w3 w4 w5 w6 ++ (r0 ++ r1)))
  refine k_icmp_eq Ox 1070 dL_law_204 rfl (fun _ => ?_) (fun h => absurd (rfl) h)
  refine k_widen (n1 + 11) (n2 + 96) (Nat.le_add_right _ _) (Nat.le_add_right _ _) ?_
  exact kk _ ⟨_, _, _, _, _, _, _, _, _, _, _, _, _, _, _, _, _, _, _, _, _, _, _, _, _, _, _, _, _, _, _, _, r0, r1, rfl, ⟨plL_ok hL, plG_ok hG, plO_ok hO, hS, hT, hN, plK_ok hK, plB_ok hB, hsp, hsl, ⟨hfd0, hfd⟩, hsg⟩, hT9, h0, h1⟩
set_option maxHeartbeats 1000000 in
set_option maxRecDepth 8000 in
theorem lc_trust (G : Gx) {x : Cx} {nm : String} (Ox : Okx x G 4 cL_law wsL_law (⟨RL, nm, "([I)Z"⟩ : MethodName) room_1) {b Ln : Nat} {xs : Nat → Int32} (hScr : Scx x b Ln xs) (ad : Nat → Nat) {i n1 n2 : Nat} (hi6 : i + 6 ≤ Ln) (hLn : Ln ≤ 3072) (hr1 : n1 + 11 ≤ room_1.cells) (hr2 : n2 + 96 ≤ room_1.slots) (kk : ∀ ws : va_W, LoopI G ad ws → V x G 4 (n1 + 11) (n2 + 96) 1070 [(0, .ref b), (1, .ref (ad 0)), (2, .ref (ad 27)), (3, .int (nI i))] [] ws) (ws : va_W) (hI : LoopI G ad ws) : V x G 4 n1 n2 209 [(0, .ref b), (1, .ref (ad 0)), (2, .ref (ad 27)), (3, .int (nI i))] [] ws := by
  obtain ⟨L, Gr, O, S, T, K, SP, SL, B, fd, sg, fi, mn, PS, P, W, s, z1, z2, g, GU, RO, gM, gc, fI, kf, w1, w2, w3, w4, w5, w6, r0, r1, rfl, hC, hT9, h0, h1⟩ := hI
  obtain ⟨hL, hG, hO, hS, hT, hN, hK, hB, hsp, hsl, ⟨hfd0, hfd⟩, hsg⟩ := id hC
  obtain ⟨⟨hmn, hPS⟩, hws, hww⟩ := id hT9
  by_cases hz : xs (i + 3) = 0
  · refine k_aload_n Ox dL_law_209 rfl 1 rfl ?_
    refine k_aload_n Ox dL_law_210 rfl 0 rfl ?_
    refine k_iload_n Ox dL_law_211 rfl 3 rfl ?_
    refine k_iconst Ox (v := nI 1) dL_law_212 rfl ?_
    refine k_iaddN Ox dL_law_213 ?_
    refine k_sld Ox hScr (by omega) hLn dL_law_214 ?_
    refine k_aload_n Ox dL_law_215 rfl 0 rfl ?_
    refine k_iload_n Ox dL_law_216 rfl 3 rfl ?_
    refine k_iconst Ox (v := nI 2) dL_law_217 rfl ?_
    refine k_iaddN Ox dL_law_218 ?_
    refine k_sld Ox hScr (by omega) hLn dL_law_219 ?_
    refine k_aload_n Ox dL_law_220 rfl 0 rfl ?_
    refine k_iload_n Ox dL_law_221 rfl 3 rfl ?_
    refine k_iconst Ox (v := nI 3) dL_law_222 rfl ?_
    refine k_iaddN Ox dL_law_223 ?_
    refine k_sld Ox hScr (by omega) hLn dL_law_224 ?_
    refine k_if_eq Ox 232 dL_law_225 rfl (fun _ => ?_) (fun h => absurd hz h)
    refine k_iconst Ox (v := nI 0) dL_law_232 rfl ?_
    refine k_callV Ox [0, 1, 6] (c_X4_trust G (ad 0) (ad 1) (ad 12) (ad 13) (ad 19) (ad 23) (ad 25) (ad 26) (ad 2) (ad 3) (ad 4) (ad 5) (ad 6) (ad 7) (ad 8) (ad 9) (ad 10) T fd sg (xs (i + 1)) (xs (i + 2)) false hT) 3 rfl rfl rfl ⟨rfl, rfl⟩ rfl rfl gL_law_X4_trust rfl 0 rfl ⟨rfl, (by decide +kernel), (by decide +kernel), (by decide +kernel)⟩ rfl dL_law_233 (Nat.le_of_ble_eq_true rfl) rfl ⟨Nat.le_trans (Nat.le_add_right n1 11) hr1, Nat.le_trans (Nat.le_add_right n2 96) hr2⟩ (fun r wa wb hp => ?_)
    obtain ⟨⟨rfl, rfl⟩, rfl⟩ := hp
    simp only [cW, mW, List.cons_append, List.nil_append, repl_cons, repl_nil, List.set_cons_zero, List.set_cons_succ, List.append_nil]
    show V x G 4 _ _ _ _ (.int _ :: _) (cW G ad L Gr O S (trT (xs (i + 1)) (xs (i + 2)) false T) K SP SL B fd sg fi mn PS P W s z1 z2 g GU RO ++ (mW G ad L Gr O S T K SP SL B fd sg mn PS gM gc fI kf w1 w2 w3 w4 w5 w6 ++ (r0 ++ r1)))
    refine k_aload_n Ox dL_law_236 rfl 2 rfl ?_
    refine k_aload_n Ox dL_law_237 rfl 0 rfl ?_
    refine k_iload_n Ox dL_law_238 rfl 3 rfl ?_
    refine k_iconst Ox (v := nI 1) dL_law_239 rfl ?_
    refine k_iaddN Ox dL_law_240 ?_
    refine k_sld Ox hScr (by omega) hLn dL_law_241 ?_
    refine k_aload_n Ox dL_law_242 rfl 0 rfl ?_
    refine k_iload_n Ox dL_law_243 rfl 3 rfl ?_
    refine k_iconst Ox (v := nI 2) dL_law_244 rfl ?_
    refine k_iaddN Ox dL_law_245 ?_
    refine k_sld Ox hScr (by omega) hLn dL_law_246 ?_
    refine k_aload_n Ox dL_law_247 rfl 0 rfl ?_
    refine k_iload_n Ox dL_law_248 rfl 3 rfl ?_
    refine k_iconst Ox (v := nI 3) dL_law_249 rfl ?_
    refine k_iaddN Ox dL_law_250 ?_
    refine k_sld Ox hScr (by omega) hLn dL_law_251 ?_
    refine k_if_eq Ox 259 dL_law_252 rfl (fun _ => ?_) (fun h => absurd hz h)
    refine k_iconst Ox (v := nI 0) dL_law_259 rfl ?_
    refine k_callV Ox [27, 31] (c_X5_trust G (ad 27) (ad 28) (ad 29) (ad 30) (ad 31) (ad 32) (ad 33) (ad 34) (ad 35) (ad 36) (ad 37) (ad 38) (ad 39) (ad 40) fd sg mn w1 w2 w3 w4 w5 w6 T (xs (i + 1)) (xs (i + 2)) false hT) 3 rfl rfl rfl ⟨rfl, rfl⟩ rfl rfl gL_law_X5_trust rfl 27 rfl ⟨rfl, (by decide +kernel), (by decide +kernel), (by decide +kernel)⟩ rfl dL_law_260 (Nat.le_of_ble_eq_true rfl) rfl ⟨Nat.le_trans (Nat.le_add_right n1 11) hr1, Nat.le_trans (Nat.le_add_right n2 96) hr2⟩ (fun r wa wb hp => ?_)
    obtain ⟨⟨rfl, rfl⟩, rfl⟩ := hp
    simp only [cW, mW, List.cons_append, List.nil_append, repl_cons, repl_nil, List.set_cons_zero, List.set_cons_succ, List.append_nil]
    show V x G 4 _ _ _ _ (.int _ :: _) (cW G ad L Gr O S (trT (xs (i + 1)) (xs (i + 2)) false T) K SP SL B fd sg fi mn PS P W s z1 z2 g GU RO ++ (mW G ad L Gr O S (trT (xs (i + 1)) (xs (i + 2)) false T) K SP SL B fd sg mn PS gM gc fI kf w1 w2 w3 w4 w5 w6 ++ (r0 ++ r1)))
    refine k_icmp_eq Ox 1070 dL_law_263 rfl (fun _ => ?_) (fun h => absurd (rfl) h)
    refine k_widen (n1 + 11) (n2 + 96) (Nat.le_add_right _ _) (Nat.le_add_right _ _) ?_
    exact kk _ ⟨_, _, _, _, _, _, _, _, _, _, _, _, _, _, _, _, _, _, _, _, _, _, _, _, _, _, _, _, _, _, _, _, r0, r1, rfl, ⟨hL, hG, hO, hS, trT_ok hT, trT_ns hT hN, hK, hB, hsp, hsl, ⟨hfd0, hfd⟩, hsg⟩, hT9, h0, h1⟩
  · refine k_aload_n Ox dL_law_209 rfl 1 rfl ?_
    refine k_aload_n Ox dL_law_210 rfl 0 rfl ?_
    refine k_iload_n Ox dL_law_211 rfl 3 rfl ?_
    refine k_iconst Ox (v := nI 1) dL_law_212 rfl ?_
    refine k_iaddN Ox dL_law_213 ?_
    refine k_sld Ox hScr (by omega) hLn dL_law_214 ?_
    refine k_aload_n Ox dL_law_215 rfl 0 rfl ?_
    refine k_iload_n Ox dL_law_216 rfl 3 rfl ?_
    refine k_iconst Ox (v := nI 2) dL_law_217 rfl ?_
    refine k_iaddN Ox dL_law_218 ?_
    refine k_sld Ox hScr (by omega) hLn dL_law_219 ?_
    refine k_aload_n Ox dL_law_220 rfl 0 rfl ?_
    refine k_iload_n Ox dL_law_221 rfl 3 rfl ?_
    refine k_iconst Ox (v := nI 3) dL_law_222 rfl ?_
    refine k_iaddN Ox dL_law_223 ?_
    refine k_sld Ox hScr (by omega) hLn dL_law_224 ?_
    refine k_if_eq Ox 232 dL_law_225 rfl (fun h => absurd h hz) (fun _ => ?_)
    refine k_iconst Ox (v := nI 1) dL_law_228 rfl ?_
    refine k_goto Ox 233 dL_law_229 rfl ?_
    refine k_callV Ox [0, 1, 6] (c_X4_trust G (ad 0) (ad 1) (ad 12) (ad 13) (ad 19) (ad 23) (ad 25) (ad 26) (ad 2) (ad 3) (ad 4) (ad 5) (ad 6) (ad 7) (ad 8) (ad 9) (ad 10) T fd sg (xs (i + 1)) (xs (i + 2)) true hT) 3 rfl rfl rfl ⟨rfl, rfl⟩ rfl rfl gL_law_X4_trust rfl 0 rfl ⟨rfl, (by decide +kernel), (by decide +kernel), (by decide +kernel)⟩ rfl dL_law_233 (Nat.le_of_ble_eq_true rfl) rfl ⟨Nat.le_trans (Nat.le_add_right n1 11) hr1, Nat.le_trans (Nat.le_add_right n2 96) hr2⟩ (fun r wa wb hp => ?_)
    obtain ⟨⟨rfl, rfl⟩, rfl⟩ := hp
    simp only [cW, mW, List.cons_append, List.nil_append, repl_cons, repl_nil, List.set_cons_zero, List.set_cons_succ, List.append_nil]
    show V x G 4 _ _ _ _ (.int _ :: _) (cW G ad L Gr O S (trT (xs (i + 1)) (xs (i + 2)) true T) K SP SL B fd sg fi mn PS P W s z1 z2 g GU RO ++ (mW G ad L Gr O S T K SP SL B fd sg mn PS gM gc fI kf w1 w2 w3 w4 w5 w6 ++ (r0 ++ r1)))
    refine k_aload_n Ox dL_law_236 rfl 2 rfl ?_
    refine k_aload_n Ox dL_law_237 rfl 0 rfl ?_
    refine k_iload_n Ox dL_law_238 rfl 3 rfl ?_
    refine k_iconst Ox (v := nI 1) dL_law_239 rfl ?_
    refine k_iaddN Ox dL_law_240 ?_
    refine k_sld Ox hScr (by omega) hLn dL_law_241 ?_
    refine k_aload_n Ox dL_law_242 rfl 0 rfl ?_
    refine k_iload_n Ox dL_law_243 rfl 3 rfl ?_
    refine k_iconst Ox (v := nI 2) dL_law_244 rfl ?_
    refine k_iaddN Ox dL_law_245 ?_
    refine k_sld Ox hScr (by omega) hLn dL_law_246 ?_
    refine k_aload_n Ox dL_law_247 rfl 0 rfl ?_
    refine k_iload_n Ox dL_law_248 rfl 3 rfl ?_
    refine k_iconst Ox (v := nI 3) dL_law_249 rfl ?_
    refine k_iaddN Ox dL_law_250 ?_
    refine k_sld Ox hScr (by omega) hLn dL_law_251 ?_
    refine k_if_eq Ox 259 dL_law_252 rfl (fun h => absurd h hz) (fun _ => ?_)
    refine k_iconst Ox (v := nI 1) dL_law_255 rfl ?_
    refine k_goto Ox 260 dL_law_256 rfl ?_
    refine k_callV Ox [27, 31] (c_X5_trust G (ad 27) (ad 28) (ad 29) (ad 30) (ad 31) (ad 32) (ad 33) (ad 34) (ad 35) (ad 36) (ad 37) (ad 38) (ad 39) (ad 40) fd sg mn w1 w2 w3 w4 w5 w6 T (xs (i + 1)) (xs (i + 2)) true hT) 3 rfl rfl rfl ⟨rfl, rfl⟩ rfl rfl gL_law_X5_trust rfl 27 rfl ⟨rfl, (by decide +kernel), (by decide +kernel), (by decide +kernel)⟩ rfl dL_law_260 (Nat.le_of_ble_eq_true rfl) rfl ⟨Nat.le_trans (Nat.le_add_right n1 11) hr1, Nat.le_trans (Nat.le_add_right n2 96) hr2⟩ (fun r wa wb hp => ?_)
    obtain ⟨⟨rfl, rfl⟩, rfl⟩ := hp
    simp only [cW, mW, List.cons_append, List.nil_append, repl_cons, repl_nil, List.set_cons_zero, List.set_cons_succ, List.append_nil]
    show V x G 4 _ _ _ _ (.int _ :: _) (cW G ad L Gr O S (trT (xs (i + 1)) (xs (i + 2)) true T) K SP SL B fd sg fi mn PS P W s z1 z2 g GU RO ++ (mW G ad L Gr O S (trT (xs (i + 1)) (xs (i + 2)) true T) K SP SL B fd sg mn PS gM gc fI kf w1 w2 w3 w4 w5 w6 ++ (r0 ++ r1)))
    refine k_icmp_eq Ox 1070 dL_law_263 rfl (fun _ => ?_) (fun h => absurd (rfl) h)
    refine k_widen (n1 + 11) (n2 + 96) (Nat.le_add_right _ _) (Nat.le_add_right _ _) ?_
    exact kk _ ⟨_, _, _, _, _, _, _, _, _, _, _, _, _, _, _, _, _, _, _, _, _, _, _, _, _, _, _, _, _, _, _, _, r0, r1, rfl, ⟨hL, hG, hO, hS, trT_ok hT, trT_ns hT hN, hK, hB, hsp, hsl, ⟨hfd0, hfd⟩, hsg⟩, hT9, h0, h1⟩
set_option maxHeartbeats 1000000 in
set_option maxRecDepth 8000 in
theorem lc_know (G : Gx) {x : Cx} {nm : String} (Ox : Okx x G 4 cL_law wsL_law (⟨RL, nm, "([I)Z"⟩ : MethodName) room_1) {b Ln : Nat} {xs : Nat → Int32} (hScr : Scx x b Ln xs) (ad : Nat → Nat) {i n1 n2 : Nat} (hi6 : i + 6 ≤ Ln) (hLn : Ln ≤ 3072) (hr1 : n1 + 11 ≤ room_1.cells) (hr2 : n2 + 96 ≤ room_1.slots) (kk : ∀ ws : va_W, LoopI G ad ws → V x G 4 (n1 + 11) (n2 + 96) 1070 [(0, .ref b), (1, .ref (ad 0)), (2, .ref (ad 27)), (3, .int (nI i))] [] ws) (ws : va_W) (hI : LoopI G ad ws) : V x G 4 n1 n2 268 [(0, .ref b), (1, .ref (ad 0)), (2, .ref (ad 27)), (3, .int (nI i))] [] ws := by
  obtain ⟨L, Gr, O, S, T, K, SP, SL, B, fd, sg, fi, mn, PS, P, W, s, z1, z2, g, GU, RO, gM, gc, fI, kf, w1, w2, w3, w4, w5, w6, r0, r1, rfl, hC, hT9, h0, h1⟩ := hI
  obtain ⟨hL, hG, hO, hS, hT, hN, hK, hB, hsp, hsl, ⟨hfd0, hfd⟩, hsg⟩ := id hC
  obtain ⟨⟨hmn, hPS⟩, hws, hww⟩ := id hT9
  by_cases hz : xs (i + 3) = 0
  · refine k_aload_n Ox dL_law_268 rfl 1 rfl ?_
    refine k_aload_n Ox dL_law_269 rfl 0 rfl ?_
    refine k_iload_n Ox dL_law_270 rfl 3 rfl ?_
    refine k_iconst Ox (v := nI 1) dL_law_271 rfl ?_
    refine k_iaddN Ox dL_law_272 ?_
    refine k_sld Ox hScr (by omega) hLn dL_law_273 ?_
    refine k_aload_n Ox dL_law_274 rfl 0 rfl ?_
    refine k_iload_n Ox dL_law_275 rfl 3 rfl ?_
    refine k_iconst Ox (v := nI 2) dL_law_276 rfl ?_
    refine k_iaddN Ox dL_law_277 ?_
    refine k_sld Ox hScr (by omega) hLn dL_law_278 ?_
    refine k_aload_n Ox dL_law_279 rfl 0 rfl ?_
    refine k_iload_n Ox dL_law_280 rfl 3 rfl ?_
    refine k_iconst Ox (v := nI 3) dL_law_281 rfl ?_
    refine k_iaddN Ox dL_law_282 ?_
    refine k_sld Ox hScr (by omega) hLn dL_law_283 ?_
    refine k_if_eq Ox 291 dL_law_284 rfl (fun _ => ?_) (fun h => absurd hz h)
    refine k_iconst Ox (v := nI 0) dL_law_291 rfl ?_
    refine k_callV Ox [0, 1, 7, 10, 11] (c_X4_know G (ad 0) (ad 1) (ad 12) (ad 13) (ad 19) (ad 23) (ad 25) (ad 26) (ad 2) (ad 3) (ad 4) (ad 5) (ad 6) (ad 7) (ad 8) (ad 9) (ad 10) (ad 11) K B fd sg (xs (i + 1)) (xs (i + 2)) false hK) 3 rfl rfl rfl ⟨rfl, rfl⟩ rfl rfl gL_law_X4_know rfl 0 rfl ⟨rfl, (by decide +kernel), (by decide +kernel), (by decide +kernel)⟩ rfl dL_law_292 (Nat.le_of_ble_eq_true rfl) rfl ⟨Nat.le_trans (Nat.le_add_right n1 11) hr1, Nat.le_trans (Nat.le_add_right n2 96) hr2⟩ (fun r wa wb hp => ?_)
    obtain ⟨⟨rfl, rfl⟩, rfl⟩ := hp
    simp only [cW, mW, List.cons_append, List.nil_append, repl_cons, repl_nil, List.set_cons_zero, List.set_cons_succ, List.append_nil]
    show V x G 4 _ _ _ _ (.int _ :: _) (cW G ad L Gr O S T (knK (xs (i + 1)) (xs (i + 2)) false K) SP SL (knB (xs (i + 1)) (xs (i + 2)) false B) fd sg fi mn PS P W s z1 z2 g GU RO ++ (mW G ad L Gr O S T K SP SL B fd sg mn PS gM gc fI kf w1 w2 w3 w4 w5 w6 ++ (r0 ++ r1)))
    refine k_aload_n Ox dL_law_295 rfl 2 rfl ?_
    refine k_aload_n Ox dL_law_296 rfl 0 rfl ?_
    refine k_iload_n Ox dL_law_297 rfl 3 rfl ?_
    refine k_iconst Ox (v := nI 1) dL_law_298 rfl ?_
    refine k_iaddN Ox dL_law_299 ?_
    refine k_sld Ox hScr (by omega) hLn dL_law_300 ?_
    refine k_aload_n Ox dL_law_301 rfl 0 rfl ?_
    refine k_iload_n Ox dL_law_302 rfl 3 rfl ?_
    refine k_iconst Ox (v := nI 2) dL_law_303 rfl ?_
    refine k_iaddN Ox dL_law_304 ?_
    refine k_sld Ox hScr (by omega) hLn dL_law_305 ?_
    refine k_aload_n Ox dL_law_306 rfl 0 rfl ?_
    refine k_iload_n Ox dL_law_307 rfl 3 rfl ?_
    refine k_iconst Ox (v := nI 3) dL_law_308 rfl ?_
    refine k_iaddN Ox dL_law_309 ?_
    refine k_sld Ox hScr (by omega) hLn dL_law_310 ?_
    refine k_if_eq Ox 318 dL_law_311 rfl (fun _ => ?_) (fun h => absurd hz h)
    refine k_iconst Ox (v := nI 0) dL_law_318 rfl ?_
    refine k_callV Ox [27, 32, 33] (c_X5_know G (ad 27) (ad 28) (ad 29) (ad 30) (ad 31) (ad 32) (ad 33) (ad 34) (ad 35) (ad 36) (ad 37) (ad 38) (ad 39) (ad 40) fd sg mn w1 w2 w3 w4 w5 w6 K B (xs (i + 1)) (xs (i + 2)) false hK) 3 rfl rfl rfl ⟨rfl, rfl⟩ rfl rfl gL_law_X5_know rfl 27 rfl ⟨rfl, (by decide +kernel), (by decide +kernel), (by decide +kernel)⟩ rfl dL_law_319 (Nat.le_of_ble_eq_true rfl) rfl ⟨Nat.le_trans (Nat.le_add_right n1 11) hr1, Nat.le_trans (Nat.le_add_right n2 96) hr2⟩ (fun r wa wb hp => ?_)
    obtain ⟨⟨rfl, rfl⟩, rfl⟩ := hp
    simp only [cW, mW, List.cons_append, List.nil_append, repl_cons, repl_nil, List.set_cons_zero, List.set_cons_succ, List.append_nil]
    show V x G 4 _ _ _ _ (.int _ :: _) (cW G ad L Gr O S T (knK (xs (i + 1)) (xs (i + 2)) false K) SP SL (knB (xs (i + 1)) (xs (i + 2)) false B) fd sg fi mn PS P W s z1 z2 g GU RO ++ (mW G ad L Gr O S T (knK (xs (i + 1)) (xs (i + 2)) false K) SP SL (knB (xs (i + 1)) (xs (i + 2)) false B) fd sg mn PS gM gc fI kf w1 w2 w3 w4 w5 w6 ++ (r0 ++ r1)))
    refine k_icmp_eq Ox 1070 dL_law_322 rfl (fun _ => ?_) (fun h => absurd (rfl) h)
    refine k_widen (n1 + 11) (n2 + 96) (Nat.le_add_right _ _) (Nat.le_add_right _ _) ?_
    exact kk _ ⟨_, _, _, _, _, _, _, _, _, _, _, _, _, _, _, _, _, _, _, _, _, _, _, _, _, _, _, _, _, _, _, _, r0, r1, rfl, ⟨hL, hG, hO, hS, hT, hN, knK_ok hK, knB_ok hB, hsp, hsl, ⟨hfd0, hfd⟩, hsg⟩, hT9, h0, h1⟩
  · refine k_aload_n Ox dL_law_268 rfl 1 rfl ?_
    refine k_aload_n Ox dL_law_269 rfl 0 rfl ?_
    refine k_iload_n Ox dL_law_270 rfl 3 rfl ?_
    refine k_iconst Ox (v := nI 1) dL_law_271 rfl ?_
    refine k_iaddN Ox dL_law_272 ?_
    refine k_sld Ox hScr (by omega) hLn dL_law_273 ?_
    refine k_aload_n Ox dL_law_274 rfl 0 rfl ?_
    refine k_iload_n Ox dL_law_275 rfl 3 rfl ?_
    refine k_iconst Ox (v := nI 2) dL_law_276 rfl ?_
    refine k_iaddN Ox dL_law_277 ?_
    refine k_sld Ox hScr (by omega) hLn dL_law_278 ?_
    refine k_aload_n Ox dL_law_279 rfl 0 rfl ?_
    refine k_iload_n Ox dL_law_280 rfl 3 rfl ?_
    refine k_iconst Ox (v := nI 3) dL_law_281 rfl ?_
    refine k_iaddN Ox dL_law_282 ?_
    refine k_sld Ox hScr (by omega) hLn dL_law_283 ?_
    refine k_if_eq Ox 291 dL_law_284 rfl (fun h => absurd h hz) (fun _ => ?_)
    refine k_iconst Ox (v := nI 1) dL_law_287 rfl ?_
    refine k_goto Ox 292 dL_law_288 rfl ?_
    refine k_callV Ox [0, 1, 7, 10, 11] (c_X4_know G (ad 0) (ad 1) (ad 12) (ad 13) (ad 19) (ad 23) (ad 25) (ad 26) (ad 2) (ad 3) (ad 4) (ad 5) (ad 6) (ad 7) (ad 8) (ad 9) (ad 10) (ad 11) K B fd sg (xs (i + 1)) (xs (i + 2)) true hK) 3 rfl rfl rfl ⟨rfl, rfl⟩ rfl rfl gL_law_X4_know rfl 0 rfl ⟨rfl, (by decide +kernel), (by decide +kernel), (by decide +kernel)⟩ rfl dL_law_292 (Nat.le_of_ble_eq_true rfl) rfl ⟨Nat.le_trans (Nat.le_add_right n1 11) hr1, Nat.le_trans (Nat.le_add_right n2 96) hr2⟩ (fun r wa wb hp => ?_)
    obtain ⟨⟨rfl, rfl⟩, rfl⟩ := hp
    simp only [cW, mW, List.cons_append, List.nil_append, repl_cons, repl_nil, List.set_cons_zero, List.set_cons_succ, List.append_nil]
    show V x G 4 _ _ _ _ (.int _ :: _) (cW G ad L Gr O S T (knK (xs (i + 1)) (xs (i + 2)) true K) SP SL (knB (xs (i + 1)) (xs (i + 2)) true B) fd sg fi mn PS P W s z1 z2 g GU RO ++ (mW G ad L Gr O S T K SP SL B fd sg mn PS gM gc fI kf w1 w2 w3 w4 w5 w6 ++ (r0 ++ r1)))
    refine k_aload_n Ox dL_law_295 rfl 2 rfl ?_
    refine k_aload_n Ox dL_law_296 rfl 0 rfl ?_
    refine k_iload_n Ox dL_law_297 rfl 3 rfl ?_
    refine k_iconst Ox (v := nI 1) dL_law_298 rfl ?_
    refine k_iaddN Ox dL_law_299 ?_
    refine k_sld Ox hScr (by omega) hLn dL_law_300 ?_
    refine k_aload_n Ox dL_law_301 rfl 0 rfl ?_
    refine k_iload_n Ox dL_law_302 rfl 3 rfl ?_
    refine k_iconst Ox (v := nI 2) dL_law_303 rfl ?_
    refine k_iaddN Ox dL_law_304 ?_
    refine k_sld Ox hScr (by omega) hLn dL_law_305 ?_
    refine k_aload_n Ox dL_law_306 rfl 0 rfl ?_
    refine k_iload_n Ox dL_law_307 rfl 3 rfl ?_
    refine k_iconst Ox (v := nI 3) dL_law_308 rfl ?_
    refine k_iaddN Ox dL_law_309 ?_
    refine k_sld Ox hScr (by omega) hLn dL_law_310 ?_
    refine k_if_eq Ox 318 dL_law_311 rfl (fun h => absurd h hz) (fun _ => ?_)
    refine k_iconst Ox (v := nI 1) dL_law_314 rfl ?_
    refine k_goto Ox 319 dL_law_315 rfl ?_
    refine k_callV Ox [27, 32, 33] (c_X5_know G (ad 27) (ad 28) (ad 29) (ad 30) (ad 31) (ad 32) (ad 33) (ad 34) (ad 35) (ad 36) (ad 37) (ad 38) (ad 39) (ad 40) fd sg mn w1 w2 w3 w4 w5 w6 K B (xs (i + 1)) (xs (i + 2)) true hK) 3 rfl rfl rfl ⟨rfl, rfl⟩ rfl rfl gL_law_X5_know rfl 27 rfl ⟨rfl, (by decide +kernel), (by decide +kernel), (by decide +kernel)⟩ rfl dL_law_319 (Nat.le_of_ble_eq_true rfl) rfl ⟨Nat.le_trans (Nat.le_add_right n1 11) hr1, Nat.le_trans (Nat.le_add_right n2 96) hr2⟩ (fun r wa wb hp => ?_)
    obtain ⟨⟨rfl, rfl⟩, rfl⟩ := hp
    simp only [cW, mW, List.cons_append, List.nil_append, repl_cons, repl_nil, List.set_cons_zero, List.set_cons_succ, List.append_nil]
    show V x G 4 _ _ _ _ (.int _ :: _) (cW G ad L Gr O S T (knK (xs (i + 1)) (xs (i + 2)) true K) SP SL (knB (xs (i + 1)) (xs (i + 2)) true B) fd sg fi mn PS P W s z1 z2 g GU RO ++ (mW G ad L Gr O S T (knK (xs (i + 1)) (xs (i + 2)) true K) SP SL (knB (xs (i + 1)) (xs (i + 2)) true B) fd sg mn PS gM gc fI kf w1 w2 w3 w4 w5 w6 ++ (r0 ++ r1)))
    refine k_icmp_eq Ox 1070 dL_law_322 rfl (fun _ => ?_) (fun h => absurd (rfl) h)
    refine k_widen (n1 + 11) (n2 + 96) (Nat.le_add_right _ _) (Nat.le_add_right _ _) ?_
    exact kk _ ⟨_, _, _, _, _, _, _, _, _, _, _, _, _, _, _, _, _, _, _, _, _, _, _, _, _, _, _, _, _, _, _, _, r0, r1, rfl, ⟨hL, hG, hO, hS, hT, hN, knK_ok hK, knB_ok hB, hsp, hsl, ⟨hfd0, hfd⟩, hsg⟩, hT9, h0, h1⟩
set_option maxHeartbeats 1000000 in
set_option maxRecDepth 8000 in
theorem lc_fade (G : Gx) {x : Cx} {nm : String} (Ox : Okx x G 4 cL_law wsL_law (⟨RL, nm, "([I)Z"⟩ : MethodName) room_1) {b Ln : Nat} {xs : Nat → Int32} (hScr : Scx x b Ln xs) (ad : Nat → Nat) {i n1 n2 : Nat} (hi6 : i + 6 ≤ Ln) (hLn : Ln ≤ 3072) (hr1 : n1 + 11 ≤ room_1.cells) (hr2 : n2 + 96 ≤ room_1.slots) (kk : ∀ ws : va_W, LoopI G ad ws → V x G 4 (n1 + 11) (n2 + 96) 1070 [(0, .ref b), (1, .ref (ad 0)), (2, .ref (ad 27)), (3, .int (nI i))] [] ws) (ws : va_W) (hI : LoopI G ad ws) : V x G 4 n1 n2 327 [(0, .ref b), (1, .ref (ad 0)), (2, .ref (ad 27)), (3, .int (nI i))] [] ws := by
  obtain ⟨L, Gr, O, S, T, K, SP, SL, B, fd, sg, fi, mn, PS, P, W, s, z1, z2, g, GU, RO, gM, gc, fI, kf, w1, w2, w3, w4, w5, w6, r0, r1, rfl, hC, hT9, h0, h1⟩ := hI
  obtain ⟨hL, hG, hO, hS, hT, hN, hK, hB, hsp, hsl, ⟨hfd0, hfd⟩, hsg⟩ := id hC
  obtain ⟨⟨hmn, hPS⟩, hws, hww⟩ := id hT9
  refine k_aload_n Ox dL_law_327 rfl 1 rfl ?_
  refine k_aload_n Ox dL_law_328 rfl 0 rfl ?_
  refine k_iload_n Ox dL_law_329 rfl 3 rfl ?_
  refine k_iconst Ox (v := nI 1) dL_law_330 rfl ?_
  refine k_iaddN Ox dL_law_331 ?_
  refine k_sld Ox hScr (by omega) hLn dL_law_332 ?_
  refine k_callV Ox [0, 1] (c_X4_fade G (ad 0) (ad 1) (ad 12) (ad 13) (ad 19) (ad 23) (ad 25) (ad 26) (ad 2) (ad 3) (ad 4) (ad 5) (ad 6) (ad 7) (ad 8) (ad 9) (ad 10) fd sg (xs (i + 1))) 1 rfl rfl rfl ⟨rfl, rfl⟩ rfl rfl gL_law_X4_fade rfl 0 rfl ⟨rfl, (by decide +kernel), (by decide +kernel), (by decide +kernel)⟩ rfl dL_law_333 (Nat.le_of_ble_eq_true rfl) rfl ⟨Nat.le_trans (Nat.le_add_right n1 11) hr1, Nat.le_trans (Nat.le_add_right n2 96) hr2⟩ (fun r wa wb hp => ?_)
  obtain ⟨⟨rfl, rfl⟩, rfl⟩ := hp
  simp only [cW, mW, List.cons_append, List.nil_append, repl_cons, repl_nil, List.set_cons_zero, List.set_cons_succ, List.append_nil]
  show V x G 4 _ _ _ _ (.int _ :: _) (cW G ad L Gr O S T K SP SL B (if inR 1 9 (xs (i + 1)) then nn (xs (i + 1)) else fd) sg fi mn PS P W s z1 z2 g GU RO ++ (mW G ad L Gr O S T K SP SL B fd sg mn PS gM gc fI kf w1 w2 w3 w4 w5 w6 ++ (r0 ++ r1)))
  refine k_aload_n Ox dL_law_336 rfl 2 rfl ?_
  refine k_aload_n Ox dL_law_337 rfl 0 rfl ?_
  refine k_iload_n Ox dL_law_338 rfl 3 rfl ?_
  refine k_iconst Ox (v := nI 1) dL_law_339 rfl ?_
  refine k_iaddN Ox dL_law_340 ?_
  refine k_sld Ox hScr (by omega) hLn dL_law_341 ?_
  refine k_callV Ox [27] (c_X5_fade G (ad 27) (ad 28) (ad 29) (ad 30) (ad 31) (ad 32) (ad 33) (ad 34) (ad 35) (ad 36) (ad 37) (ad 38) (ad 39) (ad 40) fd sg mn w1 w2 w3 w4 w5 w6 (xs (i + 1))) 1 rfl rfl rfl ⟨rfl, rfl⟩ rfl rfl gL_law_X5_fade rfl 27 rfl ⟨rfl, (by decide +kernel), (by decide +kernel), (by decide +kernel)⟩ rfl dL_law_342 (Nat.le_of_ble_eq_true rfl) rfl ⟨Nat.le_trans (Nat.le_add_right n1 11) hr1, Nat.le_trans (Nat.le_add_right n2 96) hr2⟩ (fun r wa wb hp => ?_)
  obtain ⟨⟨rfl, rfl⟩, rfl⟩ := hp
  simp only [cW, mW, List.cons_append, List.nil_append, repl_cons, repl_nil, List.set_cons_zero, List.set_cons_succ, List.append_nil]
  show V x G 4 _ _ _ _ (.int _ :: _) (cW G ad L Gr O S T K SP SL B (if inR 1 9 (xs (i + 1)) then nn (xs (i + 1)) else fd) sg fi mn PS P W s z1 z2 g GU RO ++ (mW G ad L Gr O S T K SP SL B (if inR 1 9 (xs (i + 1)) then nn (xs (i + 1)) else fd) sg mn PS gM gc fI kf w1 w2 w3 w4 w5 w6 ++ (r0 ++ r1)))
  refine k_icmp_eq Ox 1070 dL_law_345 rfl (fun _ => ?_) (fun h => absurd (rfl) h)
  refine k_widen (n1 + 11) (n2 + 96) (Nat.le_add_right _ _) (Nat.le_add_right _ _) ?_
  exact kk _ ⟨_, _, _, _, _, _, _, _, _, _, _, _, _, _, _, _, _, _, _, _, _, _, _, _, _, _, _, _, _, _, _, _, r0, r1, rfl, ⟨hL, hG, hO, hS, hT, hN, hK, hB, hsp, hsl, fdv_ok hfd0 hfd, hsg⟩, hT9, h0, h1⟩
set_option maxHeartbeats 1000000 in
set_option maxRecDepth 8000 in
theorem lc_say (G : Gx) {x : Cx} {nm : String} (Ox : Okx x G 4 cL_law wsL_law (⟨RL, nm, "([I)Z"⟩ : MethodName) room_1) {b Ln : Nat} {xs : Nat → Int32} (hScr : Scx x b Ln xs) (ad : Nat → Nat) {i n1 n2 : Nat} (hi6 : i + 6 ≤ Ln) (hLn : Ln ≤ 3072) (hr1 : n1 + 11 ≤ room_1.cells) (hr2 : n2 + 96 ≤ room_1.slots) (kk : ∀ ws : va_W, LoopI G ad ws → V x G 4 (n1 + 11) (n2 + 96) 1070 [(0, .ref b), (1, .ref (ad 0)), (2, .ref (ad 27)), (3, .int (nI i))] [] ws) (ws : va_W) (hI : LoopI G ad ws) : V x G 4 n1 n2 350 [(0, .ref b), (1, .ref (ad 0)), (2, .ref (ad 27)), (3, .int (nI i))] [] ws := by
  obtain ⟨L, Gr, O, S, T, K, SP, SL, B, fd, sg, fi, mn, PS, P, W, s, z1, z2, g, GU, RO, gM, gc, fI, kf, w1, w2, w3, w4, w5, w6, r0, r1, rfl, hC, hT9, h0, h1⟩ := hI
  obtain ⟨hL, hG, hO, hS, hT, hN, hK, hB, hsp, hsl, ⟨hfd0, hfd⟩, hsg⟩ := id hC
  obtain ⟨⟨hmn, hPS⟩, hws, hww⟩ := id hT9
  refine k_aload_n Ox dL_law_350 rfl 1 rfl ?_
  refine k_aload_n Ox dL_law_351 rfl 0 rfl ?_
  refine k_iload_n Ox dL_law_352 rfl 3 rfl ?_
  refine k_iconst Ox (v := nI 1) dL_law_353 rfl ?_
  refine k_iaddN Ox dL_law_354 ?_
  refine k_sld Ox hScr (by omega) hLn dL_law_355 ?_
  refine k_callV Ox [0, 13, 14] (c_X4_say G (ad 0) (ad 1) (ad 12) (ad 13) (ad 19) (ad 23) (ad 25) (ad 26) (ad 14) (ad 15) (ad 16) (ad 17) (ad 18) PS P mn (xs (i + 1)) hmn) 1 rfl rfl rfl ⟨rfl, rfl⟩ rfl rfl gL_law_X4_say rfl 0 rfl ⟨rfl, (by decide +kernel), (by decide +kernel), (by decide +kernel)⟩ rfl dL_law_356 (Nat.le_of_ble_eq_true rfl) rfl ⟨Nat.le_trans (Nat.le_add_right n1 11) hr1, Nat.le_trans (Nat.le_add_right n2 96) hr2⟩ (fun r wa wb hp => ?_)
  obtain ⟨⟨rfl, rfl⟩, rfl⟩ := hp
  simp only [cW, mW, List.cons_append, List.nil_append, repl_cons, repl_nil, List.set_cons_zero, List.set_cons_succ, List.append_nil]
  show V x G 4 _ _ _ _ (.int _ :: _) (cW G ad L Gr O S T K SP SL B fd sg fi (sayM (xs (i + 1)) mn) (sayP (xs (i + 1)) mn PS) P W s z1 z2 g GU RO ++ (mW G ad L Gr O S T K SP SL B fd sg mn PS gM gc fI kf w1 w2 w3 w4 w5 w6 ++ (r0 ++ r1)))
  refine k_aload_n Ox dL_law_359 rfl 2 rfl ?_
  refine k_aload_n Ox dL_law_360 rfl 0 rfl ?_
  refine k_iload_n Ox dL_law_361 rfl 3 rfl ?_
  refine k_iconst Ox (v := nI 1) dL_law_362 rfl ?_
  refine k_iaddN Ox dL_law_363 ?_
  refine k_sld Ox hScr (by omega) hLn dL_law_364 ?_
  refine k_callV Ox [27, 36] (c_X5_say G (ad 27) (ad 28) (ad 29) (ad 30) (ad 31) (ad 32) (ad 33) (ad 34) (ad 35) (ad 36) (ad 37) (ad 38) (ad 39) (ad 40) fd sg mn w1 w2 w3 w4 w5 w6 PS (xs (i + 1)) hmn) 1 rfl rfl rfl ⟨rfl, rfl⟩ rfl rfl gL_law_X5_say rfl 27 rfl ⟨rfl, (by decide +kernel), (by decide +kernel), (by decide +kernel)⟩ rfl dL_law_365 (Nat.le_of_ble_eq_true rfl) rfl ⟨Nat.le_trans (Nat.le_add_right n1 11) hr1, Nat.le_trans (Nat.le_add_right n2 96) hr2⟩ (fun r wa wb hp => ?_)
  obtain ⟨⟨rfl, rfl⟩, rfl⟩ := hp
  simp only [cW, mW, List.cons_append, List.nil_append, repl_cons, repl_nil, List.set_cons_zero, List.set_cons_succ, List.append_nil]
  show V x G 4 _ _ _ _ (.int _ :: _) (cW G ad L Gr O S T K SP SL B fd sg fi (sayM (xs (i + 1)) mn) (sayP (xs (i + 1)) mn PS) P W s z1 z2 g GU RO ++ (mW G ad L Gr O S T K SP SL B fd sg (sayM (xs (i + 1)) mn) (sayP (xs (i + 1)) mn PS) gM gc fI kf w1 w2 w3 w4 w5 w6 ++ (r0 ++ r1)))
  refine k_icmp_eq Ox 1070 dL_law_368 rfl (fun _ => ?_) (fun h => absurd (rfl) h)
  refine k_widen (n1 + 11) (n2 + 96) (Nat.le_add_right _ _) (Nat.le_add_right _ _) ?_
  exact kk _ ⟨_, _, _, _, _, _, _, _, _, _, _, _, _, _, _, _, _, _, _, _, _, _, _, _, _, _, _, _, _, _, _, _, r0, r1, rfl, hC, ⟨⟨sayM_ok hmn, sayP_ok hPS⟩, hws, hww⟩, h0, h1⟩
set_option maxHeartbeats 1000000 in
set_option maxRecDepth 8000 in
theorem lc_wipe (G : Gx) {x : Cx} {nm : String} (Ox : Okx x G 4 cL_law wsL_law (⟨RL, nm, "([I)Z"⟩ : MethodName) room_1) {b Ln : Nat} {xs : Nat → Int32} (hScr : Scx x b Ln xs) (ad : Nat → Nat) {i n1 n2 : Nat} (hi6 : i + 6 ≤ Ln) (hLn : Ln ≤ 3072) (hr1 : n1 + 11 ≤ room_1.cells) (hr2 : n2 + 96 ≤ room_1.slots) (kk : ∀ ws : va_W, LoopI G ad ws → V x G 4 (n1 + 11) (n2 + 96) 1070 [(0, .ref b), (1, .ref (ad 0)), (2, .ref (ad 27)), (3, .int (nI i))] [] ws) (ws : va_W) (hI : LoopI G ad ws) : V x G 4 n1 n2 373 [(0, .ref b), (1, .ref (ad 0)), (2, .ref (ad 27)), (3, .int (nI i))] [] ws := by
  obtain ⟨L, Gr, O, S, T, K, SP, SL, B, fd, sg, fi, mn, PS, P, W, s, z1, z2, g, GU, RO, gM, gc, fI, kf, w1, w2, w3, w4, w5, w6, r0, r1, rfl, hC, hT9, h0, h1⟩ := hI
  obtain ⟨hL, hG, hO, hS, hT, hN, hK, hB, hsp, hsl, ⟨hfd0, hfd⟩, hsg⟩ := id hC
  obtain ⟨⟨hmn, hPS⟩, hws, hww⟩ := id hT9
  refine k_aload_n Ox dL_law_373 rfl 1 rfl ?_
  refine k_callV Ox [0, 13] (c_X4_wipe G (ad 0) (ad 1) (ad 12) (ad 13) (ad 19) (ad 23) (ad 25) (ad 26) (ad 14) (ad 15) (ad 16) (ad 17) (ad 18) P mn) 0 rfl rfl rfl ⟨rfl, rfl⟩ rfl rfl gL_law_X4_wipe rfl 0 rfl ⟨rfl, (by decide +kernel), (by decide +kernel), (by decide +kernel)⟩ rfl dL_law_374 (Nat.le_of_ble_eq_true rfl) rfl ⟨Nat.le_trans (Nat.le_add_right n1 11) hr1, Nat.le_trans (Nat.le_add_right n2 96) hr2⟩ (fun r wa wb hp => ?_)
  obtain ⟨⟨rfl, rfl⟩, rfl⟩ := hp
  simp only [cW, mW, List.cons_append, List.nil_append, repl_cons, repl_nil, List.set_cons_zero, List.set_cons_succ, List.append_nil]
  show V x G 4 _ _ _ _ (.int _ :: _) (cW G ad L Gr O S T K SP SL B fd sg fi 0 PS P W s z1 z2 g GU RO ++ (mW G ad L Gr O S T K SP SL B fd sg mn PS gM gc fI kf w1 w2 w3 w4 w5 w6 ++ (r0 ++ r1)))
  refine k_aload_n Ox dL_law_377 rfl 2 rfl ?_
  refine k_callV Ox [27] (c_X5_wipe G (ad 27) (ad 28) (ad 29) (ad 30) (ad 31) (ad 32) (ad 33) (ad 34) (ad 35) (ad 36) (ad 37) (ad 38) (ad 39) (ad 40) fd sg mn w1 w2 w3 w4 w5 w6) 0 rfl rfl rfl ⟨rfl, rfl⟩ rfl rfl gL_law_X5_wipe rfl 27 rfl ⟨rfl, (by decide +kernel), (by decide +kernel), (by decide +kernel)⟩ rfl dL_law_378 (Nat.le_of_ble_eq_true rfl) rfl ⟨Nat.le_trans (Nat.le_add_right n1 11) hr1, Nat.le_trans (Nat.le_add_right n2 96) hr2⟩ (fun r wa wb hp => ?_)
  obtain ⟨⟨rfl, rfl⟩, rfl⟩ := hp
  simp only [cW, mW, List.cons_append, List.nil_append, repl_cons, repl_nil, List.set_cons_zero, List.set_cons_succ, List.append_nil]
  show V x G 4 _ _ _ _ (.int _ :: _) (cW G ad L Gr O S T K SP SL B fd sg fi 0 PS P W s z1 z2 g GU RO ++ (mW G ad L Gr O S T K SP SL B fd sg 0 PS gM gc fI kf w1 w2 w3 w4 w5 w6 ++ (r0 ++ r1)))
  refine k_icmp_eq Ox 1070 dL_law_381 rfl (fun _ => ?_) (fun h => absurd (rfl) h)
  refine k_widen (n1 + 11) (n2 + 96) (Nat.le_add_right _ _) (Nat.le_add_right _ _) ?_
  exact kk _ ⟨_, _, _, _, _, _, _, _, _, _, _, _, _, _, _, _, _, _, _, _, _, _, _, _, _, _, _, _, _, _, _, _, r0, r1, rfl, hC, ⟨⟨Nat.zero_le _, fun j hj => absurd hj (Nat.not_lt_zero _)⟩, hws, hww⟩, h0, h1⟩
