theorem lk_X2_takeDay_f15 : Cond.fieldLink RX2 15 "LieBridges$Pad" "kinds" "[I" ∈ wsX2_takeDay := List.mem_of_getElem? (i := 1) rfl
theorem hin_X2_takeDay_X2 : ∀ w ∈ u_ws RX2 TX2 8, w ∈ wsX2_takeDay := fun _ h => List.mem_cons_of_mem _ (List.mem_append_right _ h)
theorem lk_X2_takeDay_f35 : Cond.fieldLink RX2 35 "LieBridges$Pad" "parts" "I" ∈ wsX2_takeDay := List.mem_of_getElem? (i := 2) rfl
theorem lk_X2_takeDay_sX4_put : Cond.static yX4_put ∈ wsX2_takeDay := List.mem_of_getElem? (i := 3) rfl
theorem lk_X2_takeDay_tX4 : Cond.initialized RX4 ∈ wsX2_takeDay := List.mem_of_getElem? (i := 4) rfl
set_option maxHeartbeats 400000 in
set_option maxRecDepth 4000 in
theorem c_X2_takeDay (G : Gx) (pd s0 kd sk hr pk mn : Nat) (P : Ps) (hn : pN P < 60) : Ct G yX2_takeDay wsX2_takeDay { frames := 1, cells := 0, slots := 0, locals := 22 } [.ref pd] [(pd, cO 2 [.ref s0, .int (nI mn), .ref kd, .ref sk, .ref hr, .ref pk, .int (nI (pN P)), .int (nI (pA P))]), (kd, cI G 60 (rN (pK P))), (sk, cI G 60 (rN (pS P))), (hr, cI G 60 (rN (pH P))), (pk, cI G 60 (rN (pP P)))] (fun r wa => r = some (.int (nI (pSt (dayP P)))) ∧ wa = [(pd, cO 2 [.ref s0, .int (nI mn), .ref kd, .ref sk, .ref hr, .ref pk, .int (nI (pN (dayP P))), .int (nI (pA (dayP P)))]), (kd, cI G 60 (rN (pK (dayP P)))), (sk, cI G 60 (rN (pS (dayP P)))), (hr, cI G 60 (rN (pH (dayP P)))), (pk, cI G 60 (rN (pP (dayP P))))]) := by
  refine CtN.of [(0, .ref pd)] (by decide +kernel) rfl rfl rfl rfl ?_
  intro x Ox Rt
  refine k_aload_n Ox dX2_takeDay_0 rfl 0 rfl ?_
  refine k_get Ox 0 rfl rfl hin_X2_takeDay_X2 2 rfl lk_X2_takeDay_f15 rfl rfl dX2_takeDay_1 ?_
  refine k_aload_n Ox dX2_takeDay_4 rfl 0 rfl ?_
  refine k_get Ox 0 rfl rfl hin_X2_takeDay_X2 6 rfl lk_X2_takeDay_f35 rfl rfl dX2_takeDay_5 ?_
  refine k_iconst Ox (v := nI 0) dX2_takeDay_8 rfl ?_
  refine k_callSN Ox [1] (c_X4_put G _ _ _ _ _ (by omega) (by decide)) 3 rfl rfl rfl ⟨rfl, rfl⟩ rfl rfl gX2_takeDay_X4_put_n31 (by decide +kernel) lk_X2_takeDay_sX4_put lk_X2_takeDay_tX4 ⟨(by decide +kernel), (by decide +kernel), (by decide +kernel)⟩ rfl dX2_takeDay_9 (Nat.le_of_ble_eq_true rfl) rfl ⟨Nat.le_of_ble_eq_true rfl, Nat.le_of_ble_eq_true rfl⟩ (fun r wa wb hp => ?_)
  obtain ⟨⟨rfl, rfl⟩, rfl⟩ := hp
  show V x G _ _ _ _ _ _ [_, _, _, _, _]
  rw [rN_upd]
  refine k_aload_n Ox dX2_takeDay_12 rfl 0 rfl ?_
  refine k_dup Ox dX2_takeDay_13 rfl ?_
  refine k_get Ox 0 rfl rfl hin_X2_takeDay_X2 6 rfl lk_X2_takeDay_f35 rfl rfl dX2_takeDay_14 ?_
  refine k_iconst Ox (v := nI 1) dX2_takeDay_17 rfl ?_
  refine k_iaddN Ox dX2_takeDay_18 ?_
  refine k_put Ox 0 rfl rfl hin_X2_takeDay_X2 6 rfl lk_X2_takeDay_f35 rfl tyX2 tyX2_ok nmX2 rfl  rfl rfl rfl [_, _, _, _, _, _, _, _] rfl [_, _, _, _, _] rfl dX2_takeDay_19 ?_
  refine k_iconst Ox (v := nI 0) dX2_takeDay_22 rfl ?_
  refine k_iret0 Ox Rt dX2_takeDay_23 (Nat.le_of_ble_eq_true rfl) (Nat.le_of_ble_eq_true rfl) rfl ?_
  exact ⟨⟨rfl, rfl⟩, rfl⟩
theorem lk_X2_takeDenial_f15 : Cond.fieldLink RX2 15 "LieBridges$Pad" "kinds" "[I" ∈ wsX2_takeDenial := List.mem_of_getElem? (i := 1) rfl
theorem hin_X2_takeDenial_X2 : ∀ w ∈ u_ws RX2 TX2 8, w ∈ wsX2_takeDenial := fun _ h => List.mem_cons_of_mem _ (List.mem_append_right _ h)
theorem lk_X2_takeDenial_f35 : Cond.fieldLink RX2 35 "LieBridges$Pad" "parts" "I" ∈ wsX2_takeDenial := List.mem_of_getElem? (i := 2) rfl
theorem lk_X2_takeDenial_sX4_put : Cond.static yX4_put ∈ wsX2_takeDenial := List.mem_of_getElem? (i := 3) rfl
theorem lk_X2_takeDenial_tX4 : Cond.initialized RX4 ∈ wsX2_takeDenial := List.mem_of_getElem? (i := 4) rfl
set_option maxHeartbeats 400000 in
set_option maxRecDepth 4000 in
theorem c_X2_takeDenial (G : Gx) (pd s0 kd sk hr pk mn : Nat) (P : Ps) (hn : pN P < 60) : Ct G yX2_takeDenial wsX2_takeDenial { frames := 1, cells := 0, slots := 0, locals := 22 } [.ref pd] [(pd, cO 2 [.ref s0, .int (nI mn), .ref kd, .ref sk, .ref hr, .ref pk, .int (nI (pN P)), .int (nI (pA P))]), (kd, cI G 60 (rN (pK P))), (sk, cI G 60 (rN (pS P))), (hr, cI G 60 (rN (pH P))), (pk, cI G 60 (rN (pP P)))] (fun r wa => r = some (.int (nI (pSt (denP P)))) ∧ wa = [(pd, cO 2 [.ref s0, .int (nI mn), .ref kd, .ref sk, .ref hr, .ref pk, .int (nI (pN (denP P))), .int (nI (pA (denP P)))]), (kd, cI G 60 (rN (pK (denP P)))), (sk, cI G 60 (rN (pS (denP P)))), (hr, cI G 60 (rN (pH (denP P)))), (pk, cI G 60 (rN (pP (denP P))))]) := by
  refine CtN.of [(0, .ref pd)] (by decide +kernel) rfl rfl rfl rfl ?_
  intro x Ox Rt
  refine k_aload_n Ox dX2_takeDenial_0 rfl 0 rfl ?_
  refine k_get Ox 0 rfl rfl hin_X2_takeDenial_X2 2 rfl lk_X2_takeDenial_f15 rfl rfl dX2_takeDenial_1 ?_
  refine k_aload_n Ox dX2_takeDenial_4 rfl 0 rfl ?_
  refine k_get Ox 0 rfl rfl hin_X2_takeDenial_X2 6 rfl lk_X2_takeDenial_f35 rfl rfl dX2_takeDenial_5 ?_
  refine k_iconst Ox (v := nI 2) dX2_takeDenial_8 rfl ?_
  refine k_callSN Ox [1] (c_X4_put G _ _ _ _ _ (by omega) (by decide)) 3 rfl rfl rfl ⟨rfl, rfl⟩ rfl rfl gX2_takeDenial_X4_put_n31 (by decide +kernel) lk_X2_takeDenial_sX4_put lk_X2_takeDenial_tX4 ⟨(by decide +kernel), (by decide +kernel), (by decide +kernel)⟩ rfl dX2_takeDenial_9 (Nat.le_of_ble_eq_true rfl) rfl ⟨Nat.le_of_ble_eq_true rfl, Nat.le_of_ble_eq_true rfl⟩ (fun r wa wb hp => ?_)
  obtain ⟨⟨rfl, rfl⟩, rfl⟩ := hp
  show V x G _ _ _ _ _ _ [_, _, _, _, _]
  rw [rN_upd]
  refine k_iconst Ox (v := nI 3) dX2_takeDenial_12 rfl ?_
  refine k_iret0 Ox Rt dX2_takeDenial_13 (Nat.le_of_ble_eq_true rfl) (Nat.le_of_ble_eq_true rfl) rfl ?_
  exact ⟨⟨rfl, rfl⟩, rfl⟩
theorem lk_X2_takePlank_sX4_isPlank : Cond.static yX4_isPlank ∈ wsX2_takePlank := List.mem_of_getElem? (i := 3) rfl
theorem lk_X2_takePlank_tX4 : Cond.initialized RX4 ∈ wsX2_takePlank := List.mem_of_getElem? (i := 4) rfl
theorem lk_X2_takePlank_f24 : Cond.fieldLink RX2 24 "LieBridges$Pad" "planks" "[I" ∈ wsX2_takePlank := List.mem_of_getElem? (i := 1) rfl
theorem hin_X2_takePlank_X2 : ∀ w ∈ u_ws RX2 TX2 8, w ∈ wsX2_takePlank := fun _ h => List.mem_cons_of_mem _ (List.mem_append_right _ h)
theorem lk_X2_takePlank_f35 : Cond.fieldLink RX2 35 "LieBridges$Pad" "parts" "I" ∈ wsX2_takePlank := List.mem_of_getElem? (i := 2) rfl
theorem lk_X2_takePlank_sX4_put : Cond.static yX4_put ∈ wsX2_takePlank := List.mem_of_getElem? (i := 9) rfl
set_option maxHeartbeats 400000 in
set_option maxRecDepth 4000 in
theorem c_X2_takePlank (G : Gx) (pd s0 kd sk hr pk mn : Nat) (P : Ps) (s : Nat) (hn : pN P < 60) (hs : s < 128) : Ct G yX2_takePlank wsX2_takePlank { frames := 2, cells := 0, slots := 0, locals := 42 } [.ref pd, .int (nI s - nI 48)] [(pd, cO 2 [.ref s0, .int (nI mn), .ref kd, .ref sk, .ref hr, .ref pk, .int (nI (pN P)), .int (nI (pA P))]), (kd, cI G 60 (rN (pK P))), (sk, cI G 60 (rN (pS P))), (hr, cI G 60 (rN (pH P))), (pk, cI G 60 (rN (pP P)))] (fun r wa => r = some (.int (nI (pSt (plaP s P)))) ∧ wa = [(pd, cO 2 [.ref s0, .int (nI mn), .ref kd, .ref sk, .ref hr, .ref pk, .int (nI (pN (plaP s P))), .int (nI (pA (plaP s P)))]), (kd, cI G 60 (rN (pK (plaP s P)))), (sk, cI G 60 (rN (pS (plaP s P)))), (hr, cI G 60 (rN (pH (plaP s P)))), (pk, cI G 60 (rN (pP (plaP s P))))]) := by
  refine CtN.of [(0, .ref pd), (1, .int (nI s - nI 48))] (by decide +kernel) rfl rfl rfl rfl ?_
  intro x Ox Rt
  refine k_iload_n Ox dX2_takePlank_0 rfl 1 rfl ?_
  refine k_callSN Ox [] (c_X4_isPlank G _ ) 1 rfl rfl rfl ⟨rfl, rfl⟩ rfl rfl gX2_takePlank_X4_isPlank_n70 (by decide +kernel) lk_X2_takePlank_sX4_isPlank lk_X2_takePlank_tX4 ⟨(by decide +kernel), (by decide +kernel), (by decide +kernel)⟩ rfl dX2_takePlank_1 (Nat.le_of_ble_eq_true rfl) rfl ⟨Nat.le_of_ble_eq_true rfl, Nat.le_of_ble_eq_true rfl⟩ (fun r wa wb hp => ?_)
  obtain ⟨⟨rfl, rfl⟩, rfl⟩ := hp
  show V x G _ _ _ _ _ (.int _ :: _) [_, _, _, _, _]
  refine k_if_neB Ox 9 dX2_takePlank_4 rfl (fun c_4 => ?_) (fun c_4 => ?_)
  · obtain ⟨j, hj, rfl, e0, e⟩ := plaP_yes (P := P) hs c_4
    rw [e0]
    refine k_aload_n Ox dX2_takePlank_9 rfl 0 rfl ?_
    refine k_get Ox 0 rfl rfl hin_X2_takePlank_X2 5 rfl lk_X2_takePlank_f24 rfl rfl dX2_takePlank_10 ?_
    refine k_aload_n Ox dX2_takePlank_13 rfl 0 rfl ?_
    refine k_get Ox 0 rfl rfl hin_X2_takePlank_X2 6 rfl lk_X2_takePlank_f35 rfl rfl dX2_takePlank_14 ?_
    refine k_iload_n Ox dX2_takePlank_17 rfl 1 rfl ?_
    refine k_callSN Ox [4] (c_X4_put G _ _ _ _ _ (by omega) (by decide)) 3 rfl rfl rfl ⟨rfl, rfl⟩ rfl rfl gX2_takePlank_X4_put_n31 (by decide +kernel) lk_X2_takePlank_sX4_put lk_X2_takePlank_tX4 ⟨(by decide +kernel), (by decide +kernel), (by decide +kernel)⟩ rfl dX2_takePlank_18 (Nat.le_of_ble_eq_true rfl) rfl ⟨Nat.le_of_ble_eq_true rfl, Nat.le_of_ble_eq_true rfl⟩ (fun r wa wb hp => ?_)
    obtain ⟨⟨rfl, rfl⟩, rfl⟩ := hp
    show V x G _ _ _ _ _ _ [_, _, _, _, _]
    rw [rN_upd]
    refine k_aload_n Ox dX2_takePlank_21 rfl 0 rfl ?_
    refine k_dup Ox dX2_takePlank_22 rfl ?_
    refine k_get Ox 0 rfl rfl hin_X2_takePlank_X2 6 rfl lk_X2_takePlank_f35 rfl rfl dX2_takePlank_23 ?_
    refine k_iconst Ox (v := nI 1) dX2_takePlank_26 rfl ?_
    refine k_iaddN Ox dX2_takePlank_27 ?_
    refine k_put Ox 0 rfl rfl hin_X2_takePlank_X2 6 rfl lk_X2_takePlank_f35 rfl tyX2 tyX2_ok nmX2 rfl  rfl rfl rfl [_, _, _, _, _, _, _, _] rfl [_, _, _, _, _] rfl dX2_takePlank_28 ?_
    refine k_iconst Ox (v := nI 0) dX2_takePlank_31 rfl ?_
    refine k_iret0 Ox Rt dX2_takePlank_32 (Nat.le_of_ble_eq_true rfl) (Nat.le_of_ble_eq_true rfl) rfl ?_
    exact ⟨by rw [e]; exact ⟨rfl, rfl⟩, rfl⟩
  · have e := plaP_no (P := P) hs c_4
    refine k_iconst Ox (v := nI 4) dX2_takePlank_7 rfl ?_
    refine k_iret0 Ox Rt dX2_takePlank_8 (Nat.le_of_ble_eq_true rfl) (Nat.le_of_ble_eq_true rfl) rfl ?_
    exact ⟨by rw [e]; exact ⟨rfl, rfl⟩, rfl⟩
theorem lk_X2_takeHearer_sX4_isPerson : Cond.static yX4_isPerson ∈ wsX2_takeHearer := List.mem_of_getElem? (i := 4) rfl
theorem lk_X2_takeHearer_tX4 : Cond.initialized RX4 ∈ wsX2_takeHearer := List.mem_of_getElem? (i := 5) rfl
theorem lk_X2_takeHearer_f18 : Cond.fieldLink RX2 18 "LieBridges$Pad" "speakers" "[I" ∈ wsX2_takeHearer := List.mem_of_getElem? (i := 1) rfl
theorem hin_X2_takeHearer_X2 : ∀ w ∈ u_ws RX2 TX2 8, w ∈ wsX2_takeHearer := fun _ h => List.mem_cons_of_mem _ (List.mem_append_right _ h)
theorem lk_X2_takeHearer_f35 : Cond.fieldLink RX2 35 "LieBridges$Pad" "parts" "I" ∈ wsX2_takeHearer := List.mem_of_getElem? (i := 2) rfl
theorem lk_X2_takeHearer_sX4_at : Cond.static yX4_at ∈ wsX2_takeHearer := List.mem_of_getElem? (i := 10) rfl
theorem lk_X2_takeHearer_f21 : Cond.fieldLink RX2 21 "LieBridges$Pad" "hearers" "[I" ∈ wsX2_takeHearer := List.mem_of_getElem? (i := 3) rfl
theorem lk_X2_takeHearer_sX4_put : Cond.static yX4_put ∈ wsX2_takeHearer := List.mem_of_getElem? (i := 12) rfl
set_option maxHeartbeats 400000 in
set_option maxRecDepth 4000 in
theorem c_X2_takeHearer (G : Gx) (pd s0 kd sk hr pk mn : Nat) (P : Ps) (s : Nat) (hn : pN P < 60) (hs : s < 128) (hS : pS P (pN P) < 100) : Ct G yX2_takeHearer wsX2_takeHearer { frames := 2, cells := 0, slots := 0, locals := 42 } [.ref pd, .int (nI s - nI 65)] [(pd, cO 2 [.ref s0, .int (nI mn), .ref kd, .ref sk, .ref hr, .ref pk, .int (nI (pN P)), .int (nI (pA P))]), (kd, cI G 60 (rN (pK P))), (sk, cI G 60 (rN (pS P))), (hr, cI G 60 (rN (pH P))), (pk, cI G 60 (rN (pP P)))] (fun r wa => r = some (.int (nI (pSt (heaP s P)))) ∧ wa = [(pd, cO 2 [.ref s0, .int (nI mn), .ref kd, .ref sk, .ref hr, .ref pk, .int (nI (pN (heaP s P))), .int (nI (pA (heaP s P)))]), (kd, cI G 60 (rN (pK (heaP s P)))), (sk, cI G 60 (rN (pS (heaP s P)))), (hr, cI G 60 (rN (pH (heaP s P)))), (pk, cI G 60 (rN (pP (heaP s P))))]) := by
  refine CtN.of [(0, .ref pd), (1, .int (nI s - nI 65))] (by decide +kernel) rfl rfl rfl rfl ?_
  intro x Ox Rt
  refine k_iload_n Ox dX2_takeHearer_0 rfl 1 rfl ?_
  refine k_callSN Ox [] (c_X4_isPerson G _ ) 1 rfl rfl rfl ⟨rfl, rfl⟩ rfl rfl gX2_takeHearer_X4_isPerson_n66 (by decide +kernel) lk_X2_takeHearer_sX4_isPerson lk_X2_takeHearer_tX4 ⟨(by decide +kernel), (by decide +kernel), (by decide +kernel)⟩ rfl dX2_takeHearer_1 (Nat.le_of_ble_eq_true rfl) rfl ⟨Nat.le_of_ble_eq_true rfl, Nat.le_of_ble_eq_true rfl⟩ (fun r wa wb hp => ?_)
  obtain ⟨⟨rfl, rfl⟩, rfl⟩ := hp
  show V x G _ _ _ _ _ (.int _ :: _) [_, _, _, _, _]
  refine k_if_eqB Ox 22 dX2_takeHearer_4 rfl (fun c_4 => ?_) (fun c_4 => ?_)
  · have e := heaP_no (P := P) hs c_4
    refine k_iconst Ox (v := nI 4) dX2_takeHearer_22 rfl ?_
    refine k_iret0 Ox Rt dX2_takeHearer_23 (Nat.le_of_ble_eq_true rfl) (Nat.le_of_ble_eq_true rfl) rfl ?_
    exact ⟨by rw [e]; exact ⟨rfl, rfl⟩, rfl⟩
  · obtain ⟨j, hj, rfl, e0, e1⟩ := heaP_in (P := P) hs c_4
    rw [e0]
    refine k_iload_n Ox dX2_takeHearer_7 rfl 1 rfl ?_
    refine k_aload_n Ox dX2_takeHearer_8 rfl 0 rfl ?_
    refine k_get Ox 0 rfl rfl hin_X2_takeHearer_X2 3 rfl lk_X2_takeHearer_f18 rfl rfl dX2_takeHearer_9 ?_
    refine k_aload_n Ox dX2_takeHearer_12 rfl 0 rfl ?_
    refine k_get Ox 0 rfl rfl hin_X2_takeHearer_X2 6 rfl lk_X2_takeHearer_f35 rfl rfl dX2_takeHearer_13 ?_
    refine k_callSN Ox [2] (c_X4_at G _ _ _ _ (by omega) (by decide)) 2 rfl rfl rfl ⟨rfl, rfl⟩ rfl rfl gX2_takeHearer_X4_at_n41 (by decide +kernel) lk_X2_takeHearer_sX4_at lk_X2_takeHearer_tX4 ⟨(by decide +kernel), (by decide +kernel), (by decide +kernel)⟩ rfl dX2_takeHearer_16 (Nat.le_of_ble_eq_true rfl) rfl ⟨Nat.le_of_ble_eq_true rfl, Nat.le_of_ble_eq_true rfl⟩ (fun r wa wb hp => ?_)
    obtain ⟨⟨rfl, rfl⟩, rfl⟩ := hp
    show V x G _ _ _ _ _ (.int _ :: _) [_, _, _, _, _]
    refine k_icmp_neN Ox 24 dX2_takeHearer_19 rfl (by omega) (by omega) (fun c_19 => ?_) (fun c_19 => ?_)
    · have e := e1 c_19
      refine k_aload_n Ox dX2_takeHearer_24 rfl 0 rfl ?_
      refine k_get Ox 0 rfl rfl hin_X2_takeHearer_X2 4 rfl lk_X2_takeHearer_f21 rfl rfl dX2_takeHearer_25 ?_
      refine k_aload_n Ox dX2_takeHearer_28 rfl 0 rfl ?_
      refine k_get Ox 0 rfl rfl hin_X2_takeHearer_X2 6 rfl lk_X2_takeHearer_f35 rfl rfl dX2_takeHearer_29 ?_
      refine k_iload_n Ox dX2_takeHearer_32 rfl 1 rfl ?_
      refine k_callSN Ox [3] (c_X4_put G _ _ _ _ _ (by omega) (by decide)) 3 rfl rfl rfl ⟨rfl, rfl⟩ rfl rfl gX2_takeHearer_X4_put_n31 (by decide +kernel) lk_X2_takeHearer_sX4_put lk_X2_takeHearer_tX4 ⟨(by decide +kernel), (by decide +kernel), (by decide +kernel)⟩ rfl dX2_takeHearer_33 (Nat.le_of_ble_eq_true rfl) rfl ⟨Nat.le_of_ble_eq_true rfl, Nat.le_of_ble_eq_true rfl⟩ (fun r wa wb hp => ?_)
      obtain ⟨⟨rfl, rfl⟩, rfl⟩ := hp
      show V x G _ _ _ _ _ _ [_, _, _, _, _]
      rw [rN_upd]
      refine k_iconst Ox (v := nI 2) dX2_takeHearer_36 rfl ?_
      refine k_iret0 Ox Rt dX2_takeHearer_37 (Nat.le_of_ble_eq_true rfl) (Nat.le_of_ble_eq_true rfl) rfl ?_
      exact ⟨by rw [e]; exact ⟨rfl, rfl⟩, rfl⟩
    · have e := (heaP_eq c_19)
      refine k_iconst Ox (v := nI 4) dX2_takeHearer_22 rfl ?_
      refine k_iret0 Ox Rt dX2_takeHearer_23 (Nat.le_of_ble_eq_true rfl) (Nat.le_of_ble_eq_true rfl) rfl ?_
      exact ⟨by rw [e]; exact ⟨rfl, rfl⟩, rfl⟩
theorem lk_X2_takeSpeaker_sX4_isPerson : Cond.static yX4_isPerson ∈ wsX2_takeSpeaker := List.mem_of_getElem? (i := 5) rfl
theorem lk_X2_takeSpeaker_tX4 : Cond.initialized RX4 ∈ wsX2_takeSpeaker := List.mem_of_getElem? (i := 6) rfl
theorem lk_X2_takeSpeaker_f15 : Cond.fieldLink RX2 15 "LieBridges$Pad" "kinds" "[I" ∈ wsX2_takeSpeaker := List.mem_of_getElem? (i := 2) rfl
theorem hin_X2_takeSpeaker_X2 : ∀ w ∈ u_ws RX2 TX2 8, w ∈ wsX2_takeSpeaker := fun _ h => List.mem_cons_of_mem _ (List.mem_append_right _ h)
theorem lk_X2_takeSpeaker_f35 : Cond.fieldLink RX2 35 "LieBridges$Pad" "parts" "I" ∈ wsX2_takeSpeaker := List.mem_of_getElem? (i := 3) rfl
theorem lk_X2_takeSpeaker_sX4_put : Cond.static yX4_put ∈ wsX2_takeSpeaker := List.mem_of_getElem? (i := 11) rfl
theorem lk_X2_takeSpeaker_f18 : Cond.fieldLink RX2 18 "LieBridges$Pad" "speakers" "[I" ∈ wsX2_takeSpeaker := List.mem_of_getElem? (i := 4) rfl
theorem lk_X2_takeSpeaker_f38 : Cond.fieldLink RX2 38 "LieBridges$Pad" "asked" "I" ∈ wsX2_takeSpeaker := List.mem_of_getElem? (i := 1) rfl
set_option maxHeartbeats 400000 in
set_option maxRecDepth 4000 in
theorem c_X2_takeSpeaker (G : Gx) (pd s0 kd sk hr pk mn : Nat) (P : Ps) (s : Nat) (hn : pN P < 60) (hs : s < 128) (hA : pA P < 100) : Ct G yX2_takeSpeaker wsX2_takeSpeaker { frames := 2, cells := 0, slots := 0, locals := 42 } [.ref pd, .int (nI s)] [(pd, cO 2 [.ref s0, .int (nI mn), .ref kd, .ref sk, .ref hr, .ref pk, .int (nI (pN P)), .int (nI (pA P))]), (kd, cI G 60 (rN (pK P))), (sk, cI G 60 (rN (pS P))), (hr, cI G 60 (rN (pH P))), (pk, cI G 60 (rN (pP P)))] (fun r wa => r = some (.int (nI (pSt (spkP s P)))) ∧ wa = [(pd, cO 2 [.ref s0, .int (nI mn), .ref kd, .ref sk, .ref hr, .ref pk, .int (nI (pN (spkP s P))), .int (nI (pA (spkP s P)))]), (kd, cI G 60 (rN (pK (spkP s P)))), (sk, cI G 60 (rN (pS (spkP s P)))), (hr, cI G 60 (rN (pH (spkP s P)))), (pk, cI G 60 (rN (pP (spkP s P))))]) := by
  refine CtN.of [(0, .ref pd), (1, .int (nI s))] (by decide +kernel) rfl rfl rfl rfl ?_
  intro x Ox Rt
  refine k_iload_n Ox dX2_takeSpeaker_0 rfl 1 rfl ?_
  refine k_bipush Ox (v := nI 65) dX2_takeSpeaker_1 rfl ?_
  refine k_isub Ox dX2_takeSpeaker_3 ?_
  refine k_istore_n Ox [(2, _), (0, _), (1, _)] dX2_takeSpeaker_4 rfl (by decide) rfl ?_
  refine k_iload_n Ox dX2_takeSpeaker_5 rfl 2 rfl ?_
  refine k_bipush Ox (v := nI 63) dX2_takeSpeaker_6 rfl ?_
  refine k_icmp_neN Ox 40 dX2_takeSpeaker_8 rfl (by omega) (by omega) (fun c_8 => ?_) (fun c_8 => ?_)
  · refine k_iload_n Ox dX2_takeSpeaker_40 rfl 0 rfl ?_
    refine k_callSN Ox [] (c_X4_isPerson G _ ) 1 rfl rfl rfl ⟨rfl, rfl⟩ rfl rfl gX2_takeSpeaker_X4_isPerson_n66 (by decide +kernel) lk_X2_takeSpeaker_sX4_isPerson lk_X2_takeSpeaker_tX4 ⟨(by decide +kernel), (by decide +kernel), (by decide +kernel)⟩ rfl dX2_takeSpeaker_41 (Nat.le_of_ble_eq_true rfl) rfl ⟨Nat.le_of_ble_eq_true rfl, Nat.le_of_ble_eq_true rfl⟩ (fun r wa wb hp => ?_)
    obtain ⟨⟨rfl, rfl⟩, rfl⟩ := hp
    show V x G _ _ _ _ _ (.int _ :: _) [_, _, _, _, _]
    refine k_if_neB Ox 49 dX2_takeSpeaker_44 rfl (fun c_44 => ?_) (fun c_44 => ?_)
    · obtain ⟨j, hj, rfl, e0, e⟩ := spkP_yes (P := P) hs (by omega) c_44
      rw [e0]
      refine k_aload_n Ox dX2_takeSpeaker_49 rfl 1 rfl ?_
      refine k_get Ox 0 rfl rfl hin_X2_takeSpeaker_X2 2 rfl lk_X2_takeSpeaker_f15 rfl rfl dX2_takeSpeaker_50 ?_
      refine k_aload_n Ox dX2_takeSpeaker_53 rfl 1 rfl ?_
      refine k_get Ox 0 rfl rfl hin_X2_takeSpeaker_X2 6 rfl lk_X2_takeSpeaker_f35 rfl rfl dX2_takeSpeaker_54 ?_
      refine k_iconst Ox (v := nI 1) dX2_takeSpeaker_57 rfl ?_
      refine k_callSN Ox [1] (c_X4_put G _ _ _ _ _ (by omega) (by decide)) 3 rfl rfl rfl ⟨rfl, rfl⟩ rfl rfl gX2_takeSpeaker_X4_put_n31 (by decide +kernel) lk_X2_takeSpeaker_sX4_put lk_X2_takeSpeaker_tX4 ⟨(by decide +kernel), (by decide +kernel), (by decide +kernel)⟩ rfl dX2_takeSpeaker_58 (Nat.le_of_ble_eq_true rfl) rfl ⟨Nat.le_of_ble_eq_true rfl, Nat.le_of_ble_eq_true rfl⟩ (fun r wa wb hp => ?_)
      obtain ⟨⟨rfl, rfl⟩, rfl⟩ := hp
      show V x G _ _ _ _ _ _ [_, _, _, _, _]
      rw [rN_upd]
      refine k_aload_n Ox dX2_takeSpeaker_61 rfl 1 rfl ?_
      refine k_get Ox 0 rfl rfl hin_X2_takeSpeaker_X2 3 rfl lk_X2_takeSpeaker_f18 rfl rfl dX2_takeSpeaker_62 ?_
      refine k_aload_n Ox dX2_takeSpeaker_65 rfl 1 rfl ?_
      refine k_get Ox 0 rfl rfl hin_X2_takeSpeaker_X2 6 rfl lk_X2_takeSpeaker_f35 rfl rfl dX2_takeSpeaker_66 ?_
      refine k_iload_n Ox dX2_takeSpeaker_69 rfl 0 rfl ?_
      refine k_callSN Ox [2] (c_X4_put G _ _ _ _ _ (by omega) (by decide)) 3 rfl rfl rfl ⟨rfl, rfl⟩ rfl rfl gX2_takeSpeaker_X4_put_n31 (by decide +kernel) lk_X2_takeSpeaker_sX4_put lk_X2_takeSpeaker_tX4 ⟨(by decide +kernel), (by decide +kernel), (by decide +kernel)⟩ rfl dX2_takeSpeaker_70 (Nat.le_of_ble_eq_true rfl) rfl ⟨Nat.le_of_ble_eq_true rfl, Nat.le_of_ble_eq_true rfl⟩ (fun r wa wb hp => ?_)
      obtain ⟨⟨rfl, rfl⟩, rfl⟩ := hp
      show V x G _ _ _ _ _ _ [_, _, _, _, _]
      rw [rN_upd]
      refine k_iconst Ox (v := nI 1) dX2_takeSpeaker_73 rfl ?_
      refine k_iret0 Ox Rt dX2_takeSpeaker_74 (Nat.le_of_ble_eq_true rfl) (Nat.le_of_ble_eq_true rfl) rfl ?_
      exact ⟨by rw [e]; exact ⟨rfl, rfl⟩, rfl⟩
    · have e := spkP_no (P := P) hs (by omega) c_44
      refine k_iconst Ox (v := nI 4) dX2_takeSpeaker_47 rfl ?_
      refine k_iret0 Ox Rt dX2_takeSpeaker_48 (Nat.le_of_ble_eq_true rfl) (Nat.le_of_ble_eq_true rfl) rfl ?_
      exact ⟨by rw [e]; exact ⟨rfl, rfl⟩, rfl⟩
  · refine k_aload_n Ox dX2_takeSpeaker_11 rfl 1 rfl ?_
    refine k_get Ox 0 rfl rfl hin_X2_takeSpeaker_X2 7 rfl lk_X2_takeSpeaker_f38 rfl rfl dX2_takeSpeaker_12 ?_
    refine k_iconst Ox (v := nI 3) dX2_takeSpeaker_15 rfl ?_
    refine k_icmp_geN Ox 40 dX2_takeSpeaker_16 rfl (by omega) (by omega) (fun c_16 => ?_) (fun c_16 => ?_)
    · refine k_iload_n Ox dX2_takeSpeaker_40 rfl 0 rfl ?_
      refine k_callSN Ox [] (c_X4_isPerson G _ ) 1 rfl rfl rfl ⟨rfl, rfl⟩ rfl rfl gX2_takeSpeaker_X4_isPerson_n66 (by decide +kernel) lk_X2_takeSpeaker_sX4_isPerson lk_X2_takeSpeaker_tX4 ⟨(by decide +kernel), (by decide +kernel), (by decide +kernel)⟩ rfl dX2_takeSpeaker_41 (Nat.le_of_ble_eq_true rfl) rfl ⟨Nat.le_of_ble_eq_true rfl, Nat.le_of_ble_eq_true rfl⟩ (fun r wa wb hp => ?_)
      obtain ⟨⟨rfl, rfl⟩, rfl⟩ := hp
      show V x G _ _ _ _ _ (.int _ :: _) [_, _, _, _, _]
      refine k_if_neB Ox 49 dX2_takeSpeaker_44 rfl (fun c_44 => ?_) (fun c_44 => ?_)
      · obtain ⟨j, hj, rfl, e0, e⟩ := spkP_yes (P := P) hs (by omega) c_44
        rw [e0]
        refine k_aload_n Ox dX2_takeSpeaker_49 rfl 1 rfl ?_
        refine k_get Ox 0 rfl rfl hin_X2_takeSpeaker_X2 2 rfl lk_X2_takeSpeaker_f15 rfl rfl dX2_takeSpeaker_50 ?_
        refine k_aload_n Ox dX2_takeSpeaker_53 rfl 1 rfl ?_
        refine k_get Ox 0 rfl rfl hin_X2_takeSpeaker_X2 6 rfl lk_X2_takeSpeaker_f35 rfl rfl dX2_takeSpeaker_54 ?_
        refine k_iconst Ox (v := nI 1) dX2_takeSpeaker_57 rfl ?_
        refine k_callSN Ox [1] (c_X4_put G _ _ _ _ _ (by omega) (by decide)) 3 rfl rfl rfl ⟨rfl, rfl⟩ rfl rfl gX2_takeSpeaker_X4_put_n31 (by decide +kernel) lk_X2_takeSpeaker_sX4_put lk_X2_takeSpeaker_tX4 ⟨(by decide +kernel), (by decide +kernel), (by decide +kernel)⟩ rfl dX2_takeSpeaker_58 (Nat.le_of_ble_eq_true rfl) rfl ⟨Nat.le_of_ble_eq_true rfl, Nat.le_of_ble_eq_true rfl⟩ (fun r wa wb hp => ?_)
        obtain ⟨⟨rfl, rfl⟩, rfl⟩ := hp
        show V x G _ _ _ _ _ _ [_, _, _, _, _]
        rw [rN_upd]
        refine k_aload_n Ox dX2_takeSpeaker_61 rfl 1 rfl ?_
        refine k_get Ox 0 rfl rfl hin_X2_takeSpeaker_X2 3 rfl lk_X2_takeSpeaker_f18 rfl rfl dX2_takeSpeaker_62 ?_
        refine k_aload_n Ox dX2_takeSpeaker_65 rfl 1 rfl ?_
        refine k_get Ox 0 rfl rfl hin_X2_takeSpeaker_X2 6 rfl lk_X2_takeSpeaker_f35 rfl rfl dX2_takeSpeaker_66 ?_
        refine k_iload_n Ox dX2_takeSpeaker_69 rfl 0 rfl ?_
        refine k_callSN Ox [2] (c_X4_put G _ _ _ _ _ (by omega) (by decide)) 3 rfl rfl rfl ⟨rfl, rfl⟩ rfl rfl gX2_takeSpeaker_X4_put_n31 (by decide +kernel) lk_X2_takeSpeaker_sX4_put lk_X2_takeSpeaker_tX4 ⟨(by decide +kernel), (by decide +kernel), (by decide +kernel)⟩ rfl dX2_takeSpeaker_70 (Nat.le_of_ble_eq_true rfl) rfl ⟨Nat.le_of_ble_eq_true rfl, Nat.le_of_ble_eq_true rfl⟩ (fun r wa wb hp => ?_)
        obtain ⟨⟨rfl, rfl⟩, rfl⟩ := hp
        show V x G _ _ _ _ _ _ [_, _, _, _, _]
        rw [rN_upd]
        refine k_iconst Ox (v := nI 1) dX2_takeSpeaker_73 rfl ?_
        refine k_iret0 Ox Rt dX2_takeSpeaker_74 (Nat.le_of_ble_eq_true rfl) (Nat.le_of_ble_eq_true rfl) rfl ?_
        exact ⟨by rw [e]; exact ⟨rfl, rfl⟩, rfl⟩
      · have e := spkP_no (P := P) hs (by omega) c_44
        refine k_iconst Ox (v := nI 4) dX2_takeSpeaker_47 rfl ?_
        refine k_iret0 Ox Rt dX2_takeSpeaker_48 (Nat.le_of_ble_eq_true rfl) (Nat.le_of_ble_eq_true rfl) rfl ?_
        exact ⟨by rw [e]; exact ⟨rfl, rfl⟩, rfl⟩
    · have e := spkP_q (P := P) c_8 c_16
      refine k_bipush Ox (v := nI 6) dX2_takeSpeaker_19 rfl ?_
      refine k_aload_n Ox dX2_takeSpeaker_21 rfl 1 rfl ?_
      refine k_get Ox 0 rfl rfl hin_X2_takeSpeaker_X2 7 rfl lk_X2_takeSpeaker_f38 rfl rfl dX2_takeSpeaker_22 ?_
      refine k_iaddN Ox dX2_takeSpeaker_25 ?_
      refine k_istore_n Ox [(2, _), (0, _), (1, _)] dX2_takeSpeaker_26 rfl (by decide) rfl ?_
      refine k_aload_n Ox dX2_takeSpeaker_27 rfl 1 rfl ?_
      refine k_dup Ox dX2_takeSpeaker_28 rfl ?_
      refine k_get Ox 0 rfl rfl hin_X2_takeSpeaker_X2 7 rfl lk_X2_takeSpeaker_f38 rfl rfl dX2_takeSpeaker_29 ?_
      refine k_iconst Ox (v := nI 1) dX2_takeSpeaker_32 rfl ?_
      refine k_iaddN Ox dX2_takeSpeaker_33 ?_
      refine k_put Ox 0 rfl rfl hin_X2_takeSpeaker_X2 7 rfl lk_X2_takeSpeaker_f38 rfl tyX2 tyX2_ok nmX2 rfl  rfl rfl rfl [_, _, _, _, _, _, _, _] rfl [_, _, _, _, _] rfl dX2_takeSpeaker_34 ?_
      refine k_goto Ox 49 dX2_takeSpeaker_37 rfl ?_
      refine k_aload_n Ox dX2_takeSpeaker_49 rfl 1 rfl ?_
      refine k_get Ox 0 rfl rfl hin_X2_takeSpeaker_X2 2 rfl lk_X2_takeSpeaker_f15 rfl rfl dX2_takeSpeaker_50 ?_
      refine k_aload_n Ox dX2_takeSpeaker_53 rfl 1 rfl ?_
      refine k_get Ox 0 rfl rfl hin_X2_takeSpeaker_X2 6 rfl lk_X2_takeSpeaker_f35 rfl rfl dX2_takeSpeaker_54 ?_
      refine k_iconst Ox (v := nI 1) dX2_takeSpeaker_57 rfl ?_
      refine k_callSN Ox [1] (c_X4_put G _ _ _ _ _ (by omega) (by decide)) 3 rfl rfl rfl ⟨rfl, rfl⟩ rfl rfl gX2_takeSpeaker_X4_put_n31 (by decide +kernel) lk_X2_takeSpeaker_sX4_put lk_X2_takeSpeaker_tX4 ⟨(by decide +kernel), (by decide +kernel), (by decide +kernel)⟩ rfl dX2_takeSpeaker_58 (Nat.le_of_ble_eq_true rfl) rfl ⟨Nat.le_of_ble_eq_true rfl, Nat.le_of_ble_eq_true rfl⟩ (fun r wa wb hp => ?_)
      obtain ⟨⟨rfl, rfl⟩, rfl⟩ := hp
      show V x G _ _ _ _ _ _ [_, _, _, _, _]
      rw [rN_upd]
      refine k_aload_n Ox dX2_takeSpeaker_61 rfl 1 rfl ?_
      refine k_get Ox 0 rfl rfl hin_X2_takeSpeaker_X2 3 rfl lk_X2_takeSpeaker_f18 rfl rfl dX2_takeSpeaker_62 ?_
      refine k_aload_n Ox dX2_takeSpeaker_65 rfl 1 rfl ?_
      refine k_get Ox 0 rfl rfl hin_X2_takeSpeaker_X2 6 rfl lk_X2_takeSpeaker_f35 rfl rfl dX2_takeSpeaker_66 ?_
      refine k_iload_n Ox dX2_takeSpeaker_69 rfl 0 rfl ?_
      refine k_callSN Ox [2] (c_X4_put G _ _ _ _ _ (by omega) (by decide)) 3 rfl rfl rfl ⟨rfl, rfl⟩ rfl rfl gX2_takeSpeaker_X4_put_n31 (by decide +kernel) lk_X2_takeSpeaker_sX4_put lk_X2_takeSpeaker_tX4 ⟨(by decide +kernel), (by decide +kernel), (by decide +kernel)⟩ rfl dX2_takeSpeaker_70 (Nat.le_of_ble_eq_true rfl) rfl ⟨Nat.le_of_ble_eq_true rfl, Nat.le_of_ble_eq_true rfl⟩ (fun r wa wb hp => ?_)
      obtain ⟨⟨rfl, rfl⟩, rfl⟩ := hp
      show V x G _ _ _ _ _ _ [_, _, _, _, _]
      rw [rN_upd]
      refine k_iconst Ox (v := nI 1) dX2_takeSpeaker_73 rfl ?_
      refine k_iret0 Ox Rt dX2_takeSpeaker_74 (Nat.le_of_ble_eq_true rfl) (Nat.le_of_ble_eq_true rfl) rfl ?_
      exact ⟨by rw [e]; exact ⟨rfl, rfl⟩, rfl⟩
set_option maxHeartbeats 400000 in
set_option maxRecDepth 4000 in
theorem c_X2_take (G : Gx) (pd s0 kd sk hr pk mn : Nat) (P : Ps) (st s : Nat) (hn : pN P < 60) (hst : st < 4) (hs : s < 128) (hA : pA P < 100) (hS : st = 1 → pS P (pN P) < 100) : Ct G yX2_take wsX2_take { frames := 3, cells := 0, slots := 0, locals := 64 } [.ref pd, .int (nI st), .int (nI s)] [(pd, cO 2 [.ref s0, .int (nI mn), .ref kd, .ref sk, .ref hr, .ref pk, .int (nI (pN P)), .int (nI (pA P))]), (kd, cI G 60 (rN (pK P))), (sk, cI G 60 (rN (pS P))), (hr, cI G 60 (rN (pH P))), (pk, cI G 60 (rN (pP P)))] (fun r wa => r = some (.int (nI (pSt (tk st s P)))) ∧ wa = [(pd, cO 2 [.ref s0, .int (nI mn), .ref kd, .ref sk, .ref hr, .ref pk, .int (nI (pN (tk st s P))), .int (nI (pA (tk st s P)))]), (kd, cI G 60 (rN (pK (tk st s P)))), (sk, cI G 60 (rN (pS (tk st s P)))), (hr, cI G 60 (rN (pH (tk st s P)))), (pk, cI G 60 (rN (pP (tk st s P))))]) := by
  refine CtN.of [(0, .ref pd), (1, .int (nI st)), (2, .int (nI s))] (by decide +kernel) rfl rfl rfl rfl ?_
  intro x Ox Rt
  refine k_iload_n Ox dX2_take_0 rfl 1 rfl ?_
  rcases (show st = 0 ∨ st = 1 ∨ st = 2 ∨ st = 3 by omega) with rfl | rfl | rfl | rfl
  · refine k_tableIn Ox (off := 27) 28 dX2_take_1 (by decide) (by decide) (by decide) rfl ?_
    refine k_iload_n Ox dX2_take_28 rfl 2 rfl ?_
    refine k_bipush Ox (v := nI 46) dX2_take_29 rfl ?_
    refine k_icmp_neN Ox 41 dX2_take_31 rfl (by omega) (by omega) (fun c_31 => ?_) (fun c_31 => ?_)
    · refine k_aload_n Ox dX2_take_41 rfl 0 rfl ?_
      refine k_iload_n Ox dX2_take_42 rfl 2 rfl ?_
      refine k_callV Ox [0, 1, 2, 3, 4] (c_X2_takeSpeaker G _ _ _ _ _ _ _ _ _ (by omega) (by omega) (by omega)) 1 rfl rfl rfl ⟨rfl, rfl⟩ rfl rfl gX2_take_X2_takeSpeaker rfl 0 rfl ⟨rfl, (by decide +kernel), (by decide +kernel), (by decide +kernel)⟩ rfl dX2_take_43 (Nat.le_of_ble_eq_true rfl) rfl ⟨Nat.le_of_ble_eq_true rfl, Nat.le_of_ble_eq_true rfl⟩ (fun r wa wb hp => ?_)
      obtain ⟨⟨rfl, rfl⟩, rfl⟩ := hp
      show V x G _ _ _ _ _ (.int _ :: _) [_, _, _, _, _]
      refine k_iret0 Ox Rt dX2_take_46 (Nat.le_of_ble_eq_true rfl) (Nat.le_of_ble_eq_true rfl) rfl ?_
      exact ⟨by first | (rw [show tk 0 s P = dayP P by simp [tk, c_31]]; exact ⟨rfl, rfl⟩) | (rw [show tk 0 s P = spkP s P by simp [tk, c_31]]; exact ⟨rfl, rfl⟩), rfl⟩
    · refine k_aload_n Ox dX2_take_34 rfl 0 rfl ?_
      refine k_callV Ox [0, 1, 2, 3, 4] (c_X2_takeDay G _ _ _ _ _ _ _ _ (by omega)) 0 rfl rfl rfl ⟨rfl, rfl⟩ rfl rfl gX2_take_X2_takeDay rfl 0 rfl ⟨rfl, (by decide +kernel), (by decide +kernel), (by decide +kernel)⟩ rfl dX2_take_35 (Nat.le_of_ble_eq_true rfl) rfl ⟨Nat.le_of_ble_eq_true rfl, Nat.le_of_ble_eq_true rfl⟩ (fun r wa wb hp => ?_)
      obtain ⟨⟨rfl, rfl⟩, rfl⟩ := hp
      show V x G _ _ _ _ _ (.int _ :: _) [_, _, _, _, _]
      refine k_goto Ox 46 dX2_take_38 rfl ?_
      refine k_iret0 Ox Rt dX2_take_46 (Nat.le_of_ble_eq_true rfl) (Nat.le_of_ble_eq_true rfl) rfl ?_
      exact ⟨by first | (rw [show tk 0 s P = dayP P by simp [tk, c_31]]; exact ⟨rfl, rfl⟩) | (rw [show tk 0 s P = spkP s P by simp [tk, c_31]]; exact ⟨rfl, rfl⟩), rfl⟩
  · refine k_tableIn Ox (off := 46) 47 dX2_take_1 (by decide) (by decide) (by decide) rfl ?_
    refine k_aload_n Ox dX2_take_47 rfl 0 rfl ?_
    refine k_iload_n Ox dX2_take_48 rfl 2 rfl ?_
    refine k_bipush Ox (v := nI 65) dX2_take_49 rfl ?_
    refine k_isub Ox dX2_take_51 ?_
    refine k_callV Ox [0, 1, 2, 3, 4] (c_X2_takeHearer G _ _ _ _ _ _ _ _ _ (hn) (hs) (hS rfl)) 1 rfl rfl rfl ⟨rfl, rfl⟩ rfl rfl gX2_take_X2_takeHearer rfl 0 rfl ⟨rfl, (by decide +kernel), (by decide +kernel), (by decide +kernel)⟩ rfl dX2_take_52 (Nat.le_of_ble_eq_true rfl) rfl ⟨Nat.le_of_ble_eq_true rfl, Nat.le_of_ble_eq_true rfl⟩ (fun r wa wb hp => ?_)
    obtain ⟨⟨rfl, rfl⟩, rfl⟩ := hp
    show V x G _ _ _ _ _ (.int _ :: _) [_, _, _, _, _]
    refine k_iret0 Ox Rt dX2_take_55 (Nat.le_of_ble_eq_true rfl) (Nat.le_of_ble_eq_true rfl) rfl ?_
    exact ⟨⟨rfl, rfl⟩, rfl⟩
  · refine k_tableIn Ox (off := 55) 56 dX2_take_1 (by decide) (by decide) (by decide) rfl ?_
    refine k_iload_n Ox dX2_take_56 rfl 2 rfl ?_
    refine k_bipush Ox (v := nI 45) dX2_take_57 rfl ?_
    refine k_icmp_neN Ox 69 dX2_take_59 rfl (by omega) (by omega) (fun c_59 => ?_) (fun c_59 => ?_)
    · refine k_aload_n Ox dX2_take_69 rfl 0 rfl ?_
      refine k_iload_n Ox dX2_take_70 rfl 2 rfl ?_
      refine k_bipush Ox (v := nI 48) dX2_take_71 rfl ?_
      refine k_isub Ox dX2_take_73 ?_
      refine k_callV Ox [0, 1, 2, 3, 4] (c_X2_takePlank G _ _ _ _ _ _ _ _ _ (by omega) (by omega)) 1 rfl rfl rfl ⟨rfl, rfl⟩ rfl rfl gX2_take_X2_takePlank rfl 0 rfl ⟨rfl, (by decide +kernel), (by decide +kernel), (by decide +kernel)⟩ rfl dX2_take_74 (Nat.le_of_ble_eq_true rfl) rfl ⟨Nat.le_of_ble_eq_true rfl, Nat.le_of_ble_eq_true rfl⟩ (fun r wa wb hp => ?_)
      obtain ⟨⟨rfl, rfl⟩, rfl⟩ := hp
      show V x G _ _ _ _ _ (.int _ :: _) [_, _, _, _, _]
      refine k_iret0 Ox Rt dX2_take_77 (Nat.le_of_ble_eq_true rfl) (Nat.le_of_ble_eq_true rfl) rfl ?_
      exact ⟨by first | (rw [show tk 2 s P = denP P by simp [tk, c_59]]; exact ⟨rfl, rfl⟩) | (rw [show tk 2 s P = plaP s P by simp [tk, c_59]]; exact ⟨rfl, rfl⟩), rfl⟩
    · refine k_aload_n Ox dX2_take_62 rfl 0 rfl ?_
      refine k_callV Ox [0, 1, 2, 3, 4] (c_X2_takeDenial G _ _ _ _ _ _ _ _ (by omega)) 0 rfl rfl rfl ⟨rfl, rfl⟩ rfl rfl gX2_take_X2_takeDenial rfl 0 rfl ⟨rfl, (by decide +kernel), (by decide +kernel), (by decide +kernel)⟩ rfl dX2_take_63 (Nat.le_of_ble_eq_true rfl) rfl ⟨Nat.le_of_ble_eq_true rfl, Nat.le_of_ble_eq_true rfl⟩ (fun r wa wb hp => ?_)
      obtain ⟨⟨rfl, rfl⟩, rfl⟩ := hp
      show V x G _ _ _ _ _ (.int _ :: _) [_, _, _, _, _]
      refine k_goto Ox 77 dX2_take_66 rfl ?_
      refine k_iret0 Ox Rt dX2_take_77 (Nat.le_of_ble_eq_true rfl) (Nat.le_of_ble_eq_true rfl) rfl ?_
      exact ⟨by first | (rw [show tk 2 s P = denP P by simp [tk, c_59]]; exact ⟨rfl, rfl⟩) | (rw [show tk 2 s P = plaP s P by simp [tk, c_59]]; exact ⟨rfl, rfl⟩), rfl⟩
  · refine k_tableOut Ox 78 dX2_take_1 (by decide) rfl ?_
    refine k_aload_n Ox dX2_take_78 rfl 0 rfl ?_
    refine k_iload_n Ox dX2_take_79 rfl 2 rfl ?_
    refine k_bipush Ox (v := nI 48) dX2_take_80 rfl ?_
    refine k_isub Ox dX2_take_82 ?_
    refine k_callV Ox [0, 1, 2, 3, 4] (c_X2_takePlank G _ _ _ _ _ _ _ _ _ (by omega) (by omega)) 1 rfl rfl rfl ⟨rfl, rfl⟩ rfl rfl gX2_take_X2_takePlank rfl 0 rfl ⟨rfl, (by decide +kernel), (by decide +kernel), (by decide +kernel)⟩ rfl dX2_take_83 (Nat.le_of_ble_eq_true rfl) rfl ⟨Nat.le_of_ble_eq_true rfl, Nat.le_of_ble_eq_true rfl⟩ (fun r wa wb hp => ?_)
    obtain ⟨⟨rfl, rfl⟩, rfl⟩ := hp
    show V x G _ _ _ _ _ (.int _ :: _) [_, _, _, _, _]
    refine k_iret0 Ox Rt dX2_take_86 (Nat.le_of_ble_eq_true rfl) (Nat.le_of_ble_eq_true rfl) rfl ?_
    exact ⟨⟨rfl, rfl⟩, rfl⟩
theorem lk_X2_read_f35 : Cond.fieldLink RX2 35 "LieBridges$Pad" "parts" "I" ∈ wsX2_read := List.mem_of_getElem? (i := 1) rfl
theorem hin_X2_read_X2 : ∀ w ∈ u_ws RX2 TX2 8, w ∈ wsX2_read := fun _ h => List.mem_cons_of_mem _ (List.mem_append_right _ h)
theorem lk_X2_read_f38 : Cond.fieldLink RX2 38 "LieBridges$Pad" "asked" "I" ∈ wsX2_read := List.mem_of_getElem? (i := 2) rfl
theorem lk_X2_read_f27 : Cond.fieldLink RX2 27 "LieBridges$Pad" "many" "I" ∈ wsX2_read := List.mem_of_getElem? (i := 3) rfl
theorem lk_X2_read_f9 : Cond.fieldLink RX2 9 "LieBridges$Pad" "signs" "[I" ∈ wsX2_read := List.mem_of_getElem? (i := 4) rfl
theorem lk_X2_read_sX4_at : Cond.static yX4_at ∈ wsX2_read := List.mem_of_getElem? (i := 5) rfl
theorem lk_X2_read_tX4 : Cond.initialized RX4 ∈ wsX2_read := List.mem_of_getElem? (i := 6) rfl
set_option maxHeartbeats 400000 in
set_option maxRecDepth 4000 in
theorem c_X2_read (G : Gx) (pd s0 kd sk hr pk mn : Nat) (P : Ps) (PS : Nat → Nat) (hmn : mn ≤ 60) (hPS : ∀ i, i < mn → PS i < 128) : Ct G yX2_read wsX2_read { frames := 4, cells := 0, slots := 0, locals := 86 } [.ref pd] [(pd, cO 2 [.ref s0, .int (nI mn), .ref kd, .ref sk, .ref hr, .ref pk, .int (nI (pN P)), .int (nI (pA P))]), (s0, cI G 60 (rN PS)), (kd, cI G 60 (rN (pK P))), (sk, cI G 60 (rN (pS P))), (hr, cI G 60 (rN (pH P))), (pk, cI G 60 (rN (pP P)))] (fun r wa => r = some (.int (rdv PS P mn)) ∧ wa = [(pd, cO 2 [.ref s0, .int (nI mn), .ref kd, .ref sk, .ref hr, .ref pk, .int (nI (pN (rdp PS P mn))), .int (nI (pA (rdp PS P mn)))]), (s0, cI G 60 (rN PS)), (kd, cI G 60 (rN (pK (rdp PS P mn)))), (sk, cI G 60 (rN (pS (rdp PS P mn)))), (hr, cI G 60 (rN (pH (rdp PS P mn)))), (pk, cI G 60 (rN (pP (rdp PS P mn))))]) := by
  refine CtN.of [(0, .ref pd)] (by decide +kernel) rfl rfl rfl rfl ?_
  intro x Ox Rt
  refine k_aload_n Ox dX2_read_0 rfl 0 rfl ?_
  refine k_iconst Ox (v := nI 0) dX2_read_1 rfl ?_
  refine k_put Ox 0 rfl rfl hin_X2_read_X2 6 rfl lk_X2_read_f35 rfl tyX2 tyX2_ok nmX2 rfl  rfl rfl rfl [_, _, _, _, _, _, _, _] rfl [_, _, _, _, _, _] rfl dX2_read_2 ?_
  refine k_aload_n Ox dX2_read_5 rfl 0 rfl ?_
  refine k_iconst Ox (v := nI 0) dX2_read_6 rfl ?_
  refine k_put Ox 0 rfl rfl hin_X2_read_X2 7 rfl lk_X2_read_f38 rfl tyX2 tyX2_ok nmX2 rfl  rfl rfl rfl [_, _, _, _, _, _, _, _] rfl [_, _, _, _, _, _] rfl dX2_read_7 ?_
  refine k_iconst Ox (v := nI 0) dX2_read_10 rfl ?_
  refine k_istore_n Ox [(1, _), (0, _)] dX2_read_11 rfl (by decide) rfl ?_
  refine k_iconst Ox (v := nI 0) dX2_read_12 rfl ?_
  refine k_istore_n Ox [(2, _), (1, _), (0, _)] dX2_read_13 rfl (by decide) rfl ?_
  have L14 : ∀ (fuel : Nat) (i : Nat), i ≤ mn → mn + 1 ≤ i + fuel → (∀ j, j < i → pSt (sc PS P (j + 1)) < 4) → V x G 3 0 0 14 [(0, .ref pd), (1, .int (nI (pSt (sc PS P i)))), (2, .int (nI i))] [] [(pd, cO 2 [.ref s0, .int (nI mn), .ref kd, .ref sk, .ref hr, .ref pk, .int (nI (pN (sc PS P i))), .int (nI (pA (sc PS P i)))]), (s0, cI G 60 (rN PS)), (kd, cI G 60 (rN (pK (sc PS P i)))), (sk, cI G 60 (rN (pS (sc PS P i)))), (hr, cI G 60 (rN (pH (sc PS P i)))), (pk, cI G 60 (rN (pP (sc PS P i))))] := by
    intro fuel
    induction fuel with
    | zero => intro i hi hfuel h1; exact absurd hi (by omega)
    | succ fuel ih =>
      intro i hi hfuel h1
      refine k_iload_n Ox dX2_read_14 rfl 2 rfl ?_
      refine k_aload_n Ox dX2_read_15 rfl 0 rfl ?_
      refine k_get Ox 0 rfl rfl hin_X2_read_X2 1 rfl lk_X2_read_f27 rfl rfl dX2_read_16 ?_
      refine k_icmp_geN Ox 49 dX2_read_19 rfl (by omega) (by omega) (fun c_19 => ?_) (fun c_19 => ?_)
      · obtain rfl : i = mn := by omega
        rw [← rdp_all h1]
        refine k_iload_n Ox dX2_read_49 rfl 1 rfl ?_
        have e2 := rdv_all h1
        have e3 := sc_le4 PS P i
        rw [← rdp_all h1] at e2 e3
        refine k_if_neN Ox 58 dX2_read_50 rfl (by omega) (fun c_50 => ?_) (fun c_50 => ?_)
        · refine k_aload_n Ox dX2_read_58 rfl 0 rfl ?_
          refine k_get Ox 0 rfl rfl hin_X2_read_X2 1 rfl lk_X2_read_f27 rfl rfl dX2_read_59 ?_
          refine k_iret0 Ox Rt dX2_read_62 (Nat.le_of_ble_eq_true rfl) (Nat.le_of_ble_eq_true rfl) rfl ?_
          exact ⟨⟨by rw [e2]; first | (rw [if_pos c_50]; done) | (rw [if_neg (by omega)]; done), rfl⟩, rfl⟩
        · refine k_bipush Ox (v := -6) dX2_read_53 (by decide) ?_
          refine k_goto Ox 62 dX2_read_55 rfl ?_
          refine k_iret0 Ox Rt dX2_read_62 (Nat.le_of_ble_eq_true rfl) (Nat.le_of_ble_eq_true rfl) rfl ?_
          exact ⟨⟨by rw [e2]; first | (rw [if_pos c_50]; done) | (rw [if_neg (by omega)]; done), rfl⟩, rfl⟩
      · have hf := sc_facts PS P i
        have hs1 := hPS i c_19
        have hst : pSt (sc PS P i) < 4 := by cases i with
          | zero => show (0 : Nat) < 4; decide
          | succ k => exact h1 k (by omega)
        refine k_aload_n Ox dX2_read_22 rfl 0 rfl ?_
        refine k_iload_n Ox dX2_read_23 rfl 1 rfl ?_
        refine k_aload_n Ox dX2_read_24 rfl 0 rfl ?_
        refine k_get Ox 0 rfl rfl hin_X2_read_X2 0 rfl lk_X2_read_f9 rfl rfl dX2_read_25 ?_
        refine k_iload_n Ox dX2_read_28 rfl 2 rfl ?_
        refine k_callSN Ox [1] (c_X4_at G _ _ _ _ (by omega) (by decide)) 2 rfl rfl rfl ⟨rfl, rfl⟩ rfl rfl gX2_read_X4_at_n41 (by decide +kernel) lk_X2_read_sX4_at lk_X2_read_tX4 ⟨(by decide +kernel), (by decide +kernel), (by decide +kernel)⟩ rfl dX2_read_29 (Nat.le_of_ble_eq_true rfl) rfl ⟨Nat.le_of_ble_eq_true rfl, Nat.le_of_ble_eq_true rfl⟩ (fun r wa wb hp => ?_)
        obtain ⟨⟨rfl, rfl⟩, rfl⟩ := hp
        show V x G _ _ _ _ _ (.int _ :: _) [_, _, _, _, _, _]
        refine k_callV Ox [0, 2, 3, 4, 5] (c_X2_take G _ _ _ _ _ _ _ _ _ _ (by omega) (hst) (hs1) (by omega) (fun z => by have := hf.2.2 z; omega)) 2 rfl rfl rfl ⟨rfl, rfl⟩ rfl rfl gX2_read_X2_take rfl 0 rfl ⟨rfl, (by decide +kernel), (by decide +kernel), (by decide +kernel)⟩ rfl dX2_read_32 (Nat.le_of_ble_eq_true rfl) rfl ⟨Nat.le_of_ble_eq_true rfl, Nat.le_of_ble_eq_true rfl⟩ (fun r wa wb hp => ?_)
        obtain ⟨⟨rfl, rfl⟩, rfl⟩ := hp
        show V x G _ _ _ _ _ (.int _ :: _) [_, _, _, _, _, _]
        refine k_istore_n Ox [(1, _), (0, _), (2, _)] dX2_read_35 rfl (by decide) rfl ?_
        have h4 := tk_le4 (pSt (sc PS P i)) (PS i) (sc PS P i)
        refine k_iload_n Ox dX2_read_36 rfl 0 rfl ?_
        refine k_iconst Ox (v := nI 4) dX2_read_37 rfl ?_
        refine k_icmp_neN Ox 43 dX2_read_38 rfl (by omega) (by omega) (fun c_38 => ?_) (fun c_38 => ?_)
        · refine k_iincN Ox (k := 2) (m := 1) [(2, _), (1, _), (0, _)] dX2_read_43 rfl rfl (by decide) rfl ?_
          refine k_goto Ox 14 dX2_read_46 rfl ?_
          refine k_sub [2, 1, 0] [(0, _), (1, _), (2, _)] rfl ?_
          exact ih (i + 1) (by omega) (by omega) (rd_next h1 c_38)
        · have e1 := rd_brk h1 c_19 c_38
          refine k_iload_n Ox dX2_read_41 rfl 2 rfl ?_
          refine k_iret0 Ox Rt dX2_read_42 (Nat.le_of_ble_eq_true rfl) (Nat.le_of_ble_eq_true rfl) rfl ?_
          exact ⟨⟨by rw [e1.1], by rw [e1.2]; rfl⟩, rfl⟩
  refine k_sub [2, 1, 0] [(0, _), (1, _), (2, _)] rfl ?_
  exact L14 (mn + 1) 0 (by omega) (by omega) (fun j hj => absurd hj (by omega))
theorem lk_X2_add_f27 : Cond.fieldLink RX2 27 "LieBridges$Pad" "many" "I" ∈ wsX2_add := List.mem_of_getElem? (i := 1) rfl
theorem hin_X2_add_X2 : ∀ w ∈ u_ws RX2 TX2 8, w ∈ wsX2_add := fun _ h => List.mem_cons_of_mem _ (List.mem_append_right _ h)
theorem lk_X2_add_f9 : Cond.fieldLink RX2 9 "LieBridges$Pad" "signs" "[I" ∈ wsX2_add := List.mem_of_getElem? (i := 2) rfl
theorem lk_X2_add_sX4_put : Cond.static yX4_put ∈ wsX2_add := List.mem_of_getElem? (i := 3) rfl
theorem lk_X2_add_tX4 : Cond.initialized RX4 ∈ wsX2_add := List.mem_of_getElem? (i := 4) rfl
set_option maxHeartbeats 400000 in
set_option maxRecDepth 4000 in
theorem c_X2_add (G : Gx) (pd s0 kd sk hr pk mn : Nat) (P : Ps) (PS : Nat → Nat) (s : Nat) (hmn : mn ≤ 60) : Ct G yX2_add wsX2_add { frames := 1, cells := 0, slots := 0, locals := 22 } [.ref pd, .int (nI s)] [(pd, cO 2 [.ref s0, .int (nI mn), .ref kd, .ref sk, .ref hr, .ref pk, .int (nI (pN P)), .int (nI (pA P))]), (s0, cI G 60 (rN PS))] (fun r wa => r = some (.int (bI (decide (mn < 60)))) ∧ wa = [(pd, cO 2 [.ref s0, .int (nI (if mn < 60 then mn + 1 else mn)), .ref kd, .ref sk, .ref hr, .ref pk, .int (nI (pN P)), .int (nI (pA P))]), (s0, cI G 60 (rN (if mn < 60 then va_up PS mn s else PS)))]) := by
  refine CtN.of [(0, .ref pd), (1, .int (nI s))] (by decide +kernel) rfl rfl rfl rfl ?_
  intro x Ox Rt
  refine k_aload_n Ox dX2_add_0 rfl 0 rfl ?_
  refine k_get Ox 0 rfl rfl hin_X2_add_X2 1 rfl lk_X2_add_f27 rfl rfl dX2_add_1 ?_
  refine k_bipush Ox (v := nI 60) dX2_add_4 rfl ?_
  refine k_icmp_ltN Ox 11 dX2_add_6 rfl (by omega) (by omega) (fun c_6 => ?_) (fun c_6 => ?_)
  · refine k_aload_n Ox dX2_add_11 rfl 0 rfl ?_
    refine k_get Ox 0 rfl rfl hin_X2_add_X2 0 rfl lk_X2_add_f9 rfl rfl dX2_add_12 ?_
    refine k_aload_n Ox dX2_add_15 rfl 0 rfl ?_
    refine k_get Ox 0 rfl rfl hin_X2_add_X2 1 rfl lk_X2_add_f27 rfl rfl dX2_add_16 ?_
    refine k_iload_n Ox dX2_add_19 rfl 1 rfl ?_
    refine k_callSN Ox [1] (c_X4_put G _ _ _ _ _ (by omega) (by decide)) 3 rfl rfl rfl ⟨rfl, rfl⟩ rfl rfl gX2_add_X4_put_n31 (by decide +kernel) lk_X2_add_sX4_put lk_X2_add_tX4 ⟨(by decide +kernel), (by decide +kernel), (by decide +kernel)⟩ rfl dX2_add_20 (Nat.le_of_ble_eq_true rfl) rfl ⟨Nat.le_of_ble_eq_true rfl, Nat.le_of_ble_eq_true rfl⟩ (fun r wa wb hp => ?_)
    obtain ⟨⟨rfl, rfl⟩, rfl⟩ := hp
    show V x G _ _ _ _ _ _ [_, _]
    rw [rN_upd]
    refine k_aload_n Ox dX2_add_23 rfl 0 rfl ?_
    refine k_dup Ox dX2_add_24 rfl ?_
    refine k_get Ox 0 rfl rfl hin_X2_add_X2 1 rfl lk_X2_add_f27 rfl rfl dX2_add_25 ?_
    refine k_iconst Ox (v := nI 1) dX2_add_28 rfl ?_
    refine k_iaddN Ox dX2_add_29 ?_
    refine k_put Ox 0 rfl rfl hin_X2_add_X2 1 rfl lk_X2_add_f27 rfl tyX2 tyX2_ok nmX2 rfl  rfl rfl rfl [_, _, _, _, _, _, _, _] rfl [_, _] rfl dX2_add_30 ?_
    refine k_iconst Ox (v := nI 1) dX2_add_33 rfl ?_
    refine k_zret0 Ox Rt dX2_add_34 (by first | exact bI_nar _ | decide) (Nat.le_of_ble_eq_true rfl) (Nat.le_of_ble_eq_true rfl) rfl ?_
    have hf : mn < 60 := c_6
    exact ⟨⟨by rw [decide_eq_true hf]; rfl, by rw [if_pos hf, if_pos hf]⟩, rfl⟩
  · refine k_iconst Ox (v := nI 0) dX2_add_9 rfl ?_
    refine k_zret0 Ox Rt dX2_add_10 (by first | exact bI_nar _ | decide) (Nat.le_of_ble_eq_true rfl) (Nat.le_of_ble_eq_true rfl) rfl ?_
    have hf : ¬ mn < 60 := by omega
    exact ⟨⟨by rw [decide_eq_false hf]; rfl, by rw [if_neg hf, if_neg hf]⟩, rfl⟩
theorem lk_X2_clear_f27 : Cond.fieldLink RX2 27 "LieBridges$Pad" "many" "I" ∈ wsX2_clear := List.mem_of_getElem? (i := 1) rfl
theorem hin_X2_clear_X2 : ∀ w ∈ u_ws RX2 TX2 8, w ∈ wsX2_clear := fun _ h => List.mem_cons_of_mem _ (List.mem_append_right _ h)
set_option maxHeartbeats 400000 in
set_option maxRecDepth 4000 in
theorem c_X2_clear (G : Gx) (pd s0 kd sk hr pk mn : Nat) (P : Ps) : Ct G yX2_clear wsX2_clear { frames := 0, cells := 0, slots := 0, locals := 0 } [.ref pd] [(pd, cO 2 [.ref s0, .int (nI mn), .ref kd, .ref sk, .ref hr, .ref pk, .int (nI (pN P)), .int (nI (pA P))])] (fun r wa => r = none ∧ wa = [(pd, cO 2 [.ref s0, .int (nI 0), .ref kd, .ref sk, .ref hr, .ref pk, .int (nI (pN P)), .int (nI (pA P))])]) := by
  refine CtN.of [(0, .ref pd)] (by decide +kernel) rfl rfl rfl rfl ?_
  intro x Ox Rt
  refine k_aload_n Ox dX2_clear_0 rfl 0 rfl ?_
  refine k_iconst Ox (v := nI 0) dX2_clear_1 rfl ?_
  refine k_put Ox 0 rfl rfl hin_X2_clear_X2 1 rfl lk_X2_clear_f27 rfl tyX2 tyX2_ok nmX2 rfl  rfl rfl rfl [_, _, _, _, _, _, _, _] rfl [_] rfl dX2_clear_2 ?_
  refine k_vret0 Ox Rt dX2_clear_5 (Nat.le_of_ble_eq_true rfl) (Nat.le_of_ble_eq_true rfl) rfl ?_
  exact ⟨⟨rfl, rfl⟩, rfl⟩
