/-! The law: its beginning, and the claim. -/
def nestW : List Cond := nestL.map (fun q => Cond.methodLinkNest q.1 q.2.1 q.2.2 "LieBridges")
set_option maxRecDepth 20000 in
theorem nestW_in : ∀ w ∈ nestW, w ∈ lw_tbl := memr _ [138, 176, 204, 82, 322, 62, 75, 83, 341, 346, 399, 539, 266, 283, 296, 309, 421, 448, 442] (by decide +kernel)
theorem arr_int : Cond.arrayClass .int ∈ lw_tbl := List.mem_of_getElem? (i := 70) (by decide +kernel)
theorem arr_delta : Cond.arrayOver (.object "LieBridges$Delta") ∈ lw_tbl := List.mem_of_getElem? (i := 135) (by decide +kernel)
theorem arr_bool : Cond.arrayClass .boolean ∈ lw_tbl := List.mem_of_getElem? (i := 622) (by decide +kernel)
theorem ins_X0 : Cond.instantiable RX0 1 ∈ lw_tbl := List.mem_of_getElem? (i := 61) (by decide +kernel)
theorem ins_X1 : Cond.instantiable RX1 11 ∈ lw_tbl := List.mem_of_getElem? (i := 55) (by decide +kernel)
theorem ins_X2 : Cond.instantiable RX2 8 ∈ lw_tbl := List.mem_of_getElem? (i := 137) (by decide +kernel)
theorem ins_X3 : Cond.instantiable RX3 7 ∈ lw_tbl := List.mem_of_getElem? (i := 175) (by decide +kernel)
theorem ins_X4 : Cond.instantiable RX4 7 ∈ lw_tbl := List.mem_of_getElem? (i := 47) (by decide +kernel)
theorem ins_X5 : Cond.instantiable RX5 22 ∈ lw_tbl := List.mem_of_getElem? (i := 550) (by decide +kernel)
/-- the arrays' classes, the classes' numbers -/
theorem law_KS {s : State} {args : Array Value} (hts : ∀ w ∈ lw_tbl, w.before args s = true) : ∃ G : Gx, KS G s := by
  obtain ⟨c1, k1, p1, f1, g1, e1⟩ := Cond.arrayClass_spec (hts _ arr_int)
  obtain ⟨c2, k2, p2, f2, g2, e2⟩ := Cond.arrayClass_spec (hts _ arr_bool)
  obtain ⟨p3, c3, k3, f3, -, g3, e3, n3⟩ := Cond.arrayOver_spec (hts _ arr_delta)
  obtain ⟨cA0, iA0, hK0⟩ := u_known (C := RX0) (T := TX0) (N := 1) (n := 1) hts inX0 (hts _ ins_X0)
  obtain ⟨cA1, iA1, hK1⟩ := u_known (C := RX1) (T := TX1) (N := 11) (n := 11) hts inX1 (hts _ ins_X1)
  obtain ⟨cA2, iA2, hK2⟩ := u_known (C := RX2) (T := TX2) (N := 8) (n := 8) hts inX2 (hts _ ins_X2)
  obtain ⟨cA3, iA3, hK3⟩ := u_known (C := RX3) (T := TX3) (N := 7) (n := 7) hts inX3 (hts _ ins_X3)
  obtain ⟨cA4, iA4, hK4⟩ := u_known (C := RX4) (T := TX4) (N := 7) (n := 7) hts inX4 (hts _ ins_X4)
  obtain ⟨cA5, iA5, hK5⟩ := u_known (C := RX5) (T := TX5) (N := 22) (n := 22) hts inX5 (hts _ ins_X5)
  refine ⟨((fun k => match k with | 0 => cA0 | 1 => cA1 | 2 => cA2 | 3 => cA3 | 4 => cA4 | _ => cA5, fun k => match k with | 0 => iA0 | 1 => iA1 | 2 => iA2 | 3 => iA3 | 4 => iA4 | _ => iA5), c1, c2, c3), ⟨?_, ?_⟩, ?_, ?_⟩
  · intro k q hq
    match k, hq with
    | 0, hq => cases hq; exact hK0
    | 1, hq => cases hq; exact hK1
    | 2, hq => cases hq; exact hK2
    | 3, hq => cases hq; exact hK3
    | 4, hq => cases hq; exact hK4
    | 5, hq => cases hq; exact hK5
    | k + 6, hq => simp [vwCl] at hq
  · intro k q hq
    match k, hq with
    | 0, hq => cases hq; exact ⟨fun n z => ⟨fun k h => (by cases h), k1, g1, p1, e1⟩, f1⟩
    | 1, hq => cases hq; exact ⟨fun n z => ⟨fun k h => (by cases h), k2, g2, p2, e2⟩, f2⟩
    | 2, hq => cases hq; exact ⟨fun n z => ⟨fun k h => (by cases h), k3, g3, p3, e3⟩, k3, p3, g3, e3, f3, n3⟩
    | k + 3, hq => simp [tyL] at hq
  · intro q hq
    exact va_Nw.of rfl (hts _ (nestW_in _ (List.mem_map_of_mem hq)))
  · exact hts _ arr_delta
theorem hin_L_law_X4 : ∀ w ∈ u_ws RX4 TX4 7, w ∈ wsL_law := inlX4
theorem lk_L_law_c7 : Cond.classLink RL 7 RX4 ∈ wsL_law := List.mem_of_getElem? (i := 0) rfl
theorem lk_L_law_iX4 : Cond.instantiable RX4 7 ∈ wsL_law := List.mem_of_getElem? (i := 1) rfl
theorem lk_L_law_tX4 : Cond.initialized RX4 ∈ wsL_law := List.mem_of_getElem? (i := 2) rfl
theorem lk_L_law_m9 : Cond.methodLink RL 9 yX4_init ∈ wsL_law := List.mem_of_getElem? (i := 6) rfl
theorem lk_L_law_nX4 : Cond.instanceMethod yX4_init ∈ wsL_law := List.mem_of_getElem? (i := 7) rfl
theorem hin_L_law_X5 : ∀ w ∈ u_ws RX5 TX5 22, w ∈ wsL_law := inlX5
theorem lk_L_law_c10 : Cond.classLink RL 10 RX5 ∈ wsL_law := List.mem_of_getElem? (i := 3) rfl
theorem lk_L_law_iX5 : Cond.instantiable RX5 22 ∈ wsL_law := List.mem_of_getElem? (i := 4) rfl
theorem lk_L_law_tX5 : Cond.initialized RX5 ∈ wsL_law := List.mem_of_getElem? (i := 5) rfl
theorem lk_L_law_m12 : Cond.methodLink RL 12 yX5_init ∈ wsL_law := List.mem_of_getElem? (i := 81) rfl
theorem lk_L_law_nX5 : Cond.instanceMethod yX5_init ∈ wsL_law := List.mem_of_getElem? (i := 82) rfl
set_option maxHeartbeats 2000000 in
set_option maxRecDepth 8000 in
theorem law_pre (G : Gx) {x : Cx} {nm : String} (Ox : Okx x G 4 cL_law wsL_law (⟨RL, nm, "([I)Z"⟩ : MethodName) room_1) {b : Nat} (kk : ∀ c0 c1 c2 c3 c4 c5 c6 c7 c8 c9 c10 c11 c12 c13 c14 c15 c16 c17 c18 c19 c20 c21 c22 c23 c24 c25 c26 e0 e1 e2 e3 e4 e5 e6 e7 e8 e9 e10 e11 e12 e13 : Nat, V x G 4 41 911 18 [(3, .int (nI 0)), (2, .ref e0), (1, .ref c0), (0, .ref b)] [] [(c0, cO 4 [.ref c1, .ref c12, .ref c13, .ref c19, .ref c23, .ref c25, .ref c26]), (c1, cO 1 [.ref c2, .ref c3, .ref c4, .ref c5, .ref c6, .ref c7, .ref c8, .ref c9, .ref c10, .int (nI 3), .int (nI 0)]), (c2, cI G 6 (rN ringL)), (c3, cI G 6 (rN ringG)), (c4, cI G 6 (rN (fun k => k))), (c5, cI G 6 (rN (fun _ => 5))), (c6, cI G 6 (rN (fun _ => 0))), (c7, cI G 6 (rN (fun _ => 0))), (c8, cI G 6 (rN (fun _ => 0))), (c9, cI G 6 (rN (fun _ => 0))), (c10, cO 0 [.ref c11]), (c11, cI G 36 (rN (flC (fun _ _ => 0)))), (c12, cQ G 2 (fun _ => none)), (c13, cO 2 [.ref c14, .int (nI 0), .ref c15, .ref c16, .ref c17, .ref c18, .int (nI 0), .int (nI 0)]), (c14, cI G 60 (rN (fun _ => 0))), (c15, cI G 60 (rN (fun _ => 0))), (c16, cI G 60 (rN (fun _ => 0))), (c17, cI G 60 (rN (fun _ => 0))), (c18, cI G 60 (rN (fun _ => 0))), (c19, cO 3 [.ref c20, .ref c21, .ref c22, .int (nI 0), .int (nI 0), .int (nI 0), .long 0]), (c20, cI G 6 (rN (fun _ => 0))), (c21, cI G 6 (rN (fun _ => 0))), (c22, cI G 6 (rN (fun _ => 0))), (c23, cO 0 [.ref c24]), (c24, cI G 36 (rN (flC (fun _ _ => 0)))), (c25, cI G 3 (rN (fun _ => 0))), (c26, cI G 6 (rN (fun _ => 0))), (e0, cO 5 [.ref e1, .ref e2, .ref e3, .ref e4, .ref e5, .ref e6, .ref e7, .int (nI 3), .int 0, .ref e8, .int 0, .ref e9, .ref e10, .int 0, .int 0, .ref e11, .int 0, .int 0, .int 0, .int 0, .ref e12, .ref e13]), (e1, cI G 6 (rN ringL)), (e2, cI G 6 (rN ringG)), (e3, cI G 6 (rN (fun k => k))), (e4, cI G 6 (rN (fun _ => 0))), (e5, cI G 6 (rN (fun _ => 0))), (e6, cI G 36 (rN (flM (fun _ _ => 0)))), (e7, cI G 6 (rN (fun _ => 5))), (e8, cI G 12 (rN (flS (fun _ => 0) (fun _ => 0)))), (e9, cI G 60 (rN (fun _ => 0))), (e10, cI G 36 (fun _ => nI 0)), (e11, cI G 6 (fun _ => nI 0)), (e12, cI G 200 (fun _ => nI 0)), (e13, cZ G 2 (bN (fun _ => false)))]) : V x G 4 0 0 0 [(0, .ref b)] [] [] := by
  refine k_new Ox (ci := 4) rfl hin_L_law_X4 tyX4 tyX4_ok lk_L_law_c7 lk_L_law_iX4 lk_L_law_tX4 [.null, .null, .null, .null, .null, .null, .null] (fun j hj => by rcases (show j = 0 ∨ j = 1 ∨ j = 2 ∨ j = 3 ∨ j = 4 ∨ j = 5 ∨ j = 6 by omega) with rfl | rfl | rfl | rfl | rfl | rfl | rfl <;> rfl) ⟨Nat.le_of_ble_eq_true rfl, Nat.le_of_ble_eq_true rfl⟩ dL_law_0 (fun q0 => ?_)
  show V x G _ 1 7 _ _ _ [_]
  refine k_dup Ox dL_law_3 rfl ?_
  refine k_callI Ox [0] (c_X4_init G _ ) 0 rfl rfl rfl ⟨rfl, rfl⟩ rfl rfl gL_law_X4_init lk_L_law_tX4 lk_L_law_m9 lk_L_law_nX4 rfl rfl ⟨(by decide +kernel), (by decide +kernel), (by decide +kernel)⟩ rfl dL_law_4 (Nat.le_of_ble_eq_true rfl) rfl ⟨Nat.le_of_ble_eq_true rfl, Nat.le_of_ble_eq_true rfl⟩ (fun r wa wb hp => ?_)
  obtain ⟨rfl, d4, im4, pd4, wy4, tb4, gu4, ro4, ls4, gs4, ly4, hs4, tr4, kn4, sp4, sl4, be4, bd4, s04, kd4, sk4, hr4, pk4, wt4, td4, bs4, tbd4, rfl, rfl⟩ := hp
  show V x G _ _ _ _ _ _ [_, _, _, _, _, _, _, _, _, _, _, _, _, _, _, _, _, _, _, _, _, _, _, _, _, _, _]
  refine k_astore_n Ox [(1, _), (0, _)] dL_law_7 rfl (by decide) rfl ?_
  refine k_new Ox (ci := 5) rfl hin_L_law_X5 tyX5 tyX5_ok lk_L_law_c10 lk_L_law_iX5 lk_L_law_tX5 [.null, .null, .null, .null, .null, .null, .null, .int 0, .int 0, .null, .int 0, .null, .null, .int 0, .int 0, .null, .int 0, .int 0, .int 0, .int 0, .null, .null] (fun j hj => by rcases (show j = 0 ∨ j = 1 ∨ j = 2 ∨ j = 3 ∨ j = 4 ∨ j = 5 ∨ j = 6 ∨ j = 7 ∨ j = 8 ∨ j = 9 ∨ j = 10 ∨ j = 11 ∨ j = 12 ∨ j = 13 ∨ j = 14 ∨ j = 15 ∨ j = 16 ∨ j = 17 ∨ j = 18 ∨ j = 19 ∨ j = 20 ∨ j = 21 by omega) with rfl | rfl | rfl | rfl | rfl | rfl | rfl | rfl | rfl | rfl | rfl | rfl | rfl | rfl | rfl | rfl | rfl | rfl | rfl | rfl | rfl | rfl <;> rfl) ⟨Nat.le_of_ble_eq_true rfl, Nat.le_of_ble_eq_true rfl⟩ dL_law_8 (fun q8 => ?_)
  show V x G _ 28 523 _ _ _ [_, _, _, _, _, _, _, _, _, _, _, _, _, _, _, _, _, _, _, _, _, _, _, _, _, _, _, _]
  refine k_dup Ox dL_law_11 rfl ?_
  refine k_callI Ox [27] (c_X5_init G _ ) 0 rfl rfl rfl ⟨rfl, rfl⟩ rfl rfl gL_law_X5_init lk_L_law_tX5 lk_L_law_m12 lk_L_law_nX5 rfl rfl ⟨(by decide +kernel), (by decide +kernel), (by decide +kernel)⟩ rfl dL_law_12 (Nat.le_of_ble_eq_true rfl) rfl ⟨Nat.le_of_ble_eq_true rfl, Nat.le_of_ble_eq_true rfl⟩ (fun r wa wb hp => ?_)
  obtain ⟨rfl, a112, a212, a312, a412, a512, a612, a712, a812, a912, a1012, a1112, a1212, a1312, rfl, rfl⟩ := hp
  show V x G _ _ _ _ _ _ [_, _, _, _, _, _, _, _, _, _, _, _, _, _, _, _, _, _, _, _, _, _, _, _, _, _, _, _, _, _, _, _, _, _, _, _, _, _, _, _, _]
  refine k_astore_n Ox [(2, _), (1, _), (0, _)] dL_law_15 rfl (by decide) rfl ?_
  refine k_iconst Ox (v := nI 0) dL_law_16 rfl ?_
  refine k_istore_n Ox [(3, _), (2, _), (1, _), (0, _)] dL_law_17 rfl (by decide) rfl ?_
  exact kk _ _ _ _ _ _ _ _ _ _ _ _ _ _ _ _ _ _ _ _ _ _ _ _ _ _ _ _ _ _ _ _ _ _ _ _ _ _ _ _ _
