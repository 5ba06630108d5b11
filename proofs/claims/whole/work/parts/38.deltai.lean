theorem lk_X0_init_m3 : Cond.methodLink RX0 3 objectInit ∈ wsX0_init := List.mem_of_getElem? (i := 1) rfl
theorem lk_X0_init_oi : Cond.instanceMethod objectInit ∈ wsX0_init := List.mem_of_getElem? (i := 2) rfl
theorem lk_X0_init_oc : Cond.code objectInit ⟨#[0xb1]⟩ 1 none ∈ wsX0_init := List.mem_of_getElem? (i := 3) rfl
theorem lk_X0_init_aint : Cond.arrayClass .int ∈ wsX0_init := List.mem_of_getElem? (i := 4) rfl
theorem lk_X0_init_f9 : Cond.fieldLink RX0 9 "LieBridges$Beliefs" "days" "[I" ∈ wsX0_init := List.mem_of_getElem? (i := 5) rfl
theorem hin_X0_init_X0 : ∀ w ∈ u_ws RX0 TX0 1, w ∈ wsX0_init := fun _ h => List.mem_cons_of_mem _ (List.mem_append_right _ h)
set_option maxHeartbeats 400000 in
set_option maxRecDepth 4000 in
theorem c_X0_init (G : Gx) (h : Nat) : CtN G yX0_init wsX0_init { frames := 1, cells := 1, slots := 36, locals := 12 } [.ref h] [(h, cO 0 [.null])] (fun r wa wb => r = none ∧ ∃ d : Nat, wa = [(h, cO 0 [.ref d])] ∧ wb = [(d, cI G 36 (fun _ => nI 0))]) 1 36 := by
  refine CtN.of [(0, .ref h)] (by decide +kernel) rfl rfl rfl rfl ?_
  intro x Ox Rt
  refine k_aload_n Ox dX0_init_0 rfl 0 rfl ?_
  refine k_objInit Ox lk_X0_init_m3 lk_X0_init_oi lk_X0_init_oc dX0_init_1 (by decide) (Nat.le_of_ble_eq_true rfl) ?_
  refine k_aload_n Ox dX0_init_4 rfl 0 rfl ?_
  refine k_bipush Ox (v := nI 36) dX0_init_5 rfl ?_
  refine k_newa Ox dX0_init_7 lk_X0_init_aint rfl ⟨Nat.le_of_ble_eq_true rfl, Nat.le_of_ble_eq_true rfl⟩ (fun q7 => ?_)
  show V x G _ 1 36 _ _ _ [_, _]
  refine k_putF Ox 0 rfl rfl hin_X0_init_X0 0 rfl lk_X0_init_f9 rfl tyX0 tyX0_ok nmX0 rfl rfl rfl rfl rfl rfl [_] rfl [_, _] rfl dX0_init_9 ?_
  refine k_vret (ws := [_]) (wb := [_]) Ox Rt dX0_init_12 (Nat.le_of_ble_eq_true rfl) (Nat.le_of_ble_eq_true rfl) rfl ?_
  exact ⟨rfl, _, rfl, rfl⟩
theorem lk_X1_init_m3 : Cond.methodLink RX1 3 objectInit ∈ wsX1_init := List.mem_of_getElem? (i := 1) rfl
theorem lk_X1_init_oi : Cond.instanceMethod objectInit ∈ wsX1_init := List.mem_of_getElem? (i := 2) rfl
theorem lk_X1_init_oc : Cond.code objectInit ⟨#[0xb1]⟩ 1 none ∈ wsX1_init := List.mem_of_getElem? (i := 3) rfl
theorem lk_X1_init_aint : Cond.arrayClass .int ∈ wsX1_init := List.mem_of_getElem? (i := 4) rfl
theorem lk_X1_init_f9 : Cond.fieldLink RX1 9 "LieBridges$Delta" "lessers" "[I" ∈ wsX1_init := List.mem_of_getElem? (i := 5) rfl
theorem hin_X1_init_X1 : ∀ w ∈ u_ws RX1 TX1 11, w ∈ wsX1_init := fun _ h => List.mem_cons_of_mem _ (List.mem_append_left _ (List.mem_append_right _ h))
theorem lk_X1_init_f15 : Cond.fieldLink RX1 15 "LieBridges$Delta" "greaters" "[I" ∈ wsX1_init := List.mem_of_getElem? (i := 6) rfl
theorem lk_X1_init_f18 : Cond.fieldLink RX1 18 "LieBridges$Delta" "layers" "[I" ∈ wsX1_init := List.mem_of_getElem? (i := 7) rfl
theorem lk_X1_init_f21 : Cond.fieldLink RX1 21 "LieBridges$Delta" "holds" "[I" ∈ wsX1_init := List.mem_of_getElem? (i := 8) rfl
theorem lk_X1_init_f24 : Cond.fieldLink RX1 24 "LieBridges$Delta" "trusted" "[I" ∈ wsX1_init := List.mem_of_getElem? (i := 9) rfl
theorem lk_X1_init_f27 : Cond.fieldLink RX1 27 "LieBridges$Delta" "known" "[I" ∈ wsX1_init := List.mem_of_getElem? (i := 10) rfl
theorem lk_X1_init_f30 : Cond.fieldLink RX1 30 "LieBridges$Delta" "sightPlanks" "[I" ∈ wsX1_init := List.mem_of_getElem? (i := 11) rfl
theorem lk_X1_init_f33 : Cond.fieldLink RX1 33 "LieBridges$Delta" "sightLoads" "[I" ∈ wsX1_init := List.mem_of_getElem? (i := 12) rfl
theorem hin_X1_init_X0 : ∀ w ∈ u_ws RX0 TX0 1, w ∈ wsX1_init := fun _ h => List.mem_cons_of_mem _ (List.mem_append_right _ h)
theorem lk_X1_init_c36 : Cond.classLink RX1 36 RX0 ∈ wsX1_init := List.mem_of_getElem? (i := 13) rfl
theorem lk_X1_init_iX0 : Cond.instantiable RX0 1 ∈ wsX1_init := List.mem_of_getElem? (i := 14) rfl
theorem lk_X1_init_tX0 : Cond.initialized RX0 ∈ wsX1_init := List.mem_of_getElem? (i := 15) rfl
theorem lk_X1_init_nX0 : Cond.instanceMethod yX0_init ∈ wsX1_init := List.mem_of_getElem? (i := 18) rfl
theorem lk_X1_init_f39 : Cond.fieldLink RX1 39 "LieBridges$Delta" "beliefs" "LLieBridges$Beliefs;" ∈ wsX1_init := List.mem_of_getElem? (i := 16) rfl
theorem lk_X1_init_f43 : Cond.fieldLink RX1 43 "LieBridges$Delta" "fadeDays" "I" ∈ wsX1_init := List.mem_of_getElem? (i := 17) rfl
theorem lk_X1_init_sX4_put : Cond.static yX4_put ∈ wsX1_init := List.mem_of_getElem? (i := 27) rfl
theorem lk_X1_init_tX4 : Cond.initialized RX4 ∈ wsX1_init := List.mem_of_getElem? (i := 28) rfl
set_option maxHeartbeats 400000 in
set_option maxRecDepth 4000 in
theorem c_X1_init (G : Gx) (d : Nat) : CtN G yX1_init wsX1_init { frames := 3, cells := 10, slots := 85, locals := 71 } [.ref d] [(d, cO 1 [.null, .null, .null, .null, .null, .null, .null, .null, .null, .int 0, .int 0])] (fun r wa wb => r = none ∧ ∃ ls gs ly hs tr kn sp sl be bd : Nat, wa = [(d, cO 1 [.ref ls, .ref gs, .ref ly, .ref hs, .ref tr, .ref kn, .ref sp, .ref sl, .ref be, .int (nI 3), .int (nI 0)])] ∧ wb = [(ls, cI G 6 (rN ringL)), (gs, cI G 6 (rN ringG)), (ly, cI G 6 (rN (fun k => k))), (hs, cI G 6 (rN (fun _ => 5))), (tr, cI G 6 (rN (fun _ => 0))), (kn, cI G 6 (rN (fun _ => 0))), (sp, cI G 6 (rN (fun _ => 0))), (sl, cI G 6 (rN (fun _ => 0))), (be, cO 0 [.ref bd]), (bd, cI G 36 (rN (flC (fun _ _ => 0))))]) 10 85 := by
  refine CtN.of [(0, .ref d)] (by decide +kernel) rfl rfl rfl rfl ?_
  intro x Ox Rt
  refine k_aload_n Ox dX1_init_0 rfl 0 rfl ?_
  refine k_objInit Ox lk_X1_init_m3 lk_X1_init_oi lk_X1_init_oc dX1_init_1 (by decide) (Nat.le_of_ble_eq_true rfl) ?_
  refine k_aload_n Ox dX1_init_4 rfl 0 rfl ?_
  refine k_bipush Ox (v := nI 6) dX1_init_5 rfl ?_
  refine k_newa Ox dX1_init_7 lk_X1_init_aint rfl ⟨Nat.le_of_ble_eq_true rfl, Nat.le_of_ble_eq_true rfl⟩ (fun q7 => ?_)
  show V x G _ 1 6 _ _ _ [_, _]
  refine k_putF Ox 0 rfl rfl hin_X1_init_X1 0 rfl lk_X1_init_f9 rfl tyX1 tyX1_ok nmX1 rfl rfl rfl rfl rfl rfl [_, _, _, _, _, _, _, _, _, _, _] rfl [_, _] rfl dX1_init_9 ?_
  refine k_aload_n Ox dX1_init_12 rfl 0 rfl ?_
  refine k_bipush Ox (v := nI 6) dX1_init_13 rfl ?_
  refine k_newa Ox dX1_init_15 lk_X1_init_aint rfl ⟨Nat.le_of_ble_eq_true rfl, Nat.le_of_ble_eq_true rfl⟩ (fun q15 => ?_)
  show V x G _ 2 12 _ _ _ [_, _, _]
  refine k_putF Ox 0 rfl rfl hin_X1_init_X1 1 rfl lk_X1_init_f15 rfl tyX1 tyX1_ok nmX1 rfl rfl rfl rfl rfl rfl [_, _, _, _, _, _, _, _, _, _, _] rfl [_, _, _] rfl dX1_init_17 ?_
  refine k_aload_n Ox dX1_init_20 rfl 0 rfl ?_
  refine k_bipush Ox (v := nI 6) dX1_init_21 rfl ?_
  refine k_newa Ox dX1_init_23 lk_X1_init_aint rfl ⟨Nat.le_of_ble_eq_true rfl, Nat.le_of_ble_eq_true rfl⟩ (fun q23 => ?_)
  show V x G _ 3 18 _ _ _ [_, _, _, _]
  refine k_putF Ox 0 rfl rfl hin_X1_init_X1 2 rfl lk_X1_init_f18 rfl tyX1 tyX1_ok nmX1 rfl rfl rfl rfl rfl rfl [_, _, _, _, _, _, _, _, _, _, _] rfl [_, _, _, _] rfl dX1_init_25 ?_
  refine k_aload_n Ox dX1_init_28 rfl 0 rfl ?_
  refine k_bipush Ox (v := nI 6) dX1_init_29 rfl ?_
  refine k_newa Ox dX1_init_31 lk_X1_init_aint rfl ⟨Nat.le_of_ble_eq_true rfl, Nat.le_of_ble_eq_true rfl⟩ (fun q31 => ?_)
  show V x G _ 4 24 _ _ _ [_, _, _, _, _]
  refine k_putF Ox 0 rfl rfl hin_X1_init_X1 3 rfl lk_X1_init_f21 rfl tyX1 tyX1_ok nmX1 rfl rfl rfl rfl rfl rfl [_, _, _, _, _, _, _, _, _, _, _] rfl [_, _, _, _, _] rfl dX1_init_33 ?_
  refine k_aload_n Ox dX1_init_36 rfl 0 rfl ?_
  refine k_bipush Ox (v := nI 6) dX1_init_37 rfl ?_
  refine k_newa Ox dX1_init_39 lk_X1_init_aint rfl ⟨Nat.le_of_ble_eq_true rfl, Nat.le_of_ble_eq_true rfl⟩ (fun q39 => ?_)
  show V x G _ 5 30 _ _ _ [_, _, _, _, _, _]
  refine k_putF Ox 0 rfl rfl hin_X1_init_X1 4 rfl lk_X1_init_f24 rfl tyX1 tyX1_ok nmX1 rfl rfl rfl rfl rfl rfl [_, _, _, _, _, _, _, _, _, _, _] rfl [_, _, _, _, _, _] rfl dX1_init_41 ?_
  refine k_aload_n Ox dX1_init_44 rfl 0 rfl ?_
  refine k_bipush Ox (v := nI 6) dX1_init_45 rfl ?_
  refine k_newa Ox dX1_init_47 lk_X1_init_aint rfl ⟨Nat.le_of_ble_eq_true rfl, Nat.le_of_ble_eq_true rfl⟩ (fun q47 => ?_)
  show V x G _ 6 36 _ _ _ [_, _, _, _, _, _, _]
  refine k_putF Ox 0 rfl rfl hin_X1_init_X1 5 rfl lk_X1_init_f27 rfl tyX1 tyX1_ok nmX1 rfl rfl rfl rfl rfl rfl [_, _, _, _, _, _, _, _, _, _, _] rfl [_, _, _, _, _, _, _] rfl dX1_init_49 ?_
  refine k_aload_n Ox dX1_init_52 rfl 0 rfl ?_
  refine k_bipush Ox (v := nI 6) dX1_init_53 rfl ?_
  refine k_newa Ox dX1_init_55 lk_X1_init_aint rfl ⟨Nat.le_of_ble_eq_true rfl, Nat.le_of_ble_eq_true rfl⟩ (fun q55 => ?_)
  show V x G _ 7 42 _ _ _ [_, _, _, _, _, _, _, _]
  refine k_putF Ox 0 rfl rfl hin_X1_init_X1 6 rfl lk_X1_init_f30 rfl tyX1 tyX1_ok nmX1 rfl rfl rfl rfl rfl rfl [_, _, _, _, _, _, _, _, _, _, _] rfl [_, _, _, _, _, _, _, _] rfl dX1_init_57 ?_
  refine k_aload_n Ox dX1_init_60 rfl 0 rfl ?_
  refine k_bipush Ox (v := nI 6) dX1_init_61 rfl ?_
  refine k_newa Ox dX1_init_63 lk_X1_init_aint rfl ⟨Nat.le_of_ble_eq_true rfl, Nat.le_of_ble_eq_true rfl⟩ (fun q63 => ?_)
  show V x G _ 8 48 _ _ _ [_, _, _, _, _, _, _, _, _]
  refine k_putF Ox 0 rfl rfl hin_X1_init_X1 7 rfl lk_X1_init_f33 rfl tyX1 tyX1_ok nmX1 rfl rfl rfl rfl rfl rfl [_, _, _, _, _, _, _, _, _, _, _] rfl [_, _, _, _, _, _, _, _, _] rfl dX1_init_65 ?_
  refine k_aload_n Ox dX1_init_68 rfl 0 rfl ?_
  refine k_new Ox (ci := 0) rfl hin_X1_init_X0 tyX0 tyX0_ok lk_X1_init_c36 lk_X1_init_iX0 lk_X1_init_tX0 [.null] (fun j hj => by rcases (show j = 0 by omega) with rfl <;> rfl) ⟨Nat.le_of_ble_eq_true rfl, Nat.le_of_ble_eq_true rfl⟩ dX1_init_69 (fun q69 => ?_)
  show V x G _ 9 49 _ _ _ [_, _, _, _, _, _, _, _, _, _]
  refine k_dup Ox dX1_init_72 rfl ?_
  refine k_callIN Ox [9] (c_X0_init G _ ) 0 rfl rfl rfl ⟨rfl, rfl⟩ rfl rfl gX1_init_X0_init_n38 lk_X1_init_tX0 (by decide +kernel) lk_X1_init_nX0 rfl rfl ⟨(by decide +kernel), (by decide +kernel), (by decide +kernel)⟩ rfl dX1_init_73 (Nat.le_of_ble_eq_true rfl) rfl ⟨Nat.le_of_ble_eq_true rfl, Nat.le_of_ble_eq_true rfl⟩ (fun r wa wb hp => ?_)
  obtain ⟨rfl, qd73, rfl, rfl⟩ := hp
  show V x G _ _ _ _ _ _ [_, _, _, _, _, _, _, _, _, _, _]
  refine k_putF Ox 0 rfl rfl hin_X1_init_X1 8 rfl lk_X1_init_f39 rfl tyX1 tyX1_ok nmX1 rfl rfl rfl rfl rfl rfl [_, _, _, _, _, _, _, _, _, _, _] rfl [_, _, _, _, _, _, _, _, _, _, _] rfl dX1_init_76 ?_
  refine k_aload_n Ox dX1_init_79 rfl 0 rfl ?_
  refine k_iconst Ox (v := nI 3) dX1_init_80 rfl ?_
  refine k_put Ox 0 rfl rfl hin_X1_init_X1 9 rfl lk_X1_init_f43 rfl tyX1 tyX1_ok nmX1 rfl  rfl rfl rfl [_, _, _, _, _, _, _, _, _, _, _] rfl [_, _, _, _, _, _, _, _, _, _, _] rfl dX1_init_81 ?_
  refine k_iconst Ox (v := nI 0) dX1_init_84 rfl ?_
  refine k_istore_n Ox [(1, _), (0, _)] dX1_init_85 rfl (by decide) rfl ?_
  have L86 : ∀ (fuel : Nat) (e : Nat) (L1 G1 O1 S1 K1 : Nat → Nat) (B1 : Nat → Nat → Nat), e ≤ 6 → 7 ≤ e + fuel → (∀ j, j < e → L1 j = ringL j) → (∀ j, j < e → G1 j = ringG j) → (∀ j, j < e → O1 j = j) → (∀ j, j < e → S1 j = 5) → (∀ a, K1 a = 0) → (∀ a q, B1 a q = 0) → V x G 2 10 85 86 [(0, .ref d), (1, .int (nI e))] [] [(d, cO 1 [.ref q7, .ref q15, .ref q23, .ref q31, .ref q39, .ref q47, .ref q55, .ref q63, .ref q69, .int (nI 3), .int (nI 0)]), (q7, cI G 6 (rN L1)), (q15, cI G 6 (rN G1)), (q23, cI G 6 (rN O1)), (q31, cI G 6 (rN S1)), (q39, cI G 6 (rN (fun _ => 0))), (q47, cI G 6 (rN K1)), (q55, cI G 6 (rN (fun _ => 0))), (q63, cI G 6 (rN (fun _ => 0))), (q69, cO 0 [.ref qd73]), (qd73, cI G 36 (rN (flC B1)))] := by
    intro fuel
    induction fuel with
    | zero => intro e L1 G1 O1 S1 K1 B1 he hfuel h1 h2 h3 h4 h5 h6; exact absurd he (by omega)
    | succ fuel ih =>
      intro e L1 G1 O1 S1 K1 B1 he hfuel h1 h2 h3 h4 h5 h6
      refine k_iload_n Ox dX1_init_86 rfl 1 rfl ?_
      refine k_bipush Ox (v := nI 6) dX1_init_87 rfl ?_
      refine k_icmp_geN Ox 120 dX1_init_89 rfl (by omega) (by omega) (fun c_89 => ?_) (fun c_89 => ?_)
      · obtain rfl : e = 6 := by omega
        refine k_cell 1 (rN ringL) rfl (fun z hz => congrArg nI (h1 z hz)) [_, _, _, _, _, _, _, _, _, _, _] rfl ?_
        refine k_cell 2 (rN ringG) rfl (fun z hz => congrArg nI (h2 z hz)) [_, _, _, _, _, _, _, _, _, _, _] rfl ?_
        refine k_cell 3 (rN (fun k => k)) rfl (fun z hz => congrArg nI (h3 z hz)) [_, _, _, _, _, _, _, _, _, _, _] rfl ?_
        refine k_cell 4 (rN (fun _ => 5)) rfl (fun z hz => congrArg nI (h4 z hz)) [_, _, _, _, _, _, _, _, _, _, _] rfl ?_
        refine k_cell 6 (rN (fun _ => 0)) rfl (fun z hz => congrArg nI (h5 z)) [_, _, _, _, _, _, _, _, _, _, _] rfl ?_
        refine k_cell 10 (rN (flC (fun _ _ => 0))) rfl (fun z hz => congrArg nI (h6 _ _)) [_, _, _, _, _, _, _, _, _, _, _] rfl ?_
        refine k_vret (ws := [_]) (wb := [_, _, _, _, _, _, _, _, _, _]) Ox Rt dX1_init_120 (Nat.le_of_ble_eq_true rfl) (Nat.le_of_ble_eq_true rfl) rfl ?_
        exact ⟨rfl, _, _, _, _, _, _, _, _, _, _, rfl, rfl⟩
      · refine k_aload_n Ox dX1_init_92 rfl 0 rfl ?_
        refine k_iload_n Ox dX1_init_93 rfl 1 rfl ?_
        refine k_iload_n Ox dX1_init_94 rfl 1 rfl ?_
        refine k_iload_n Ox dX1_init_95 rfl 1 rfl ?_
        refine k_iconst Ox (v := nI 1) dX1_init_96 rfl ?_
        refine k_iaddN Ox dX1_init_97 ?_
        refine k_bipush Ox (v := nI 6) dX1_init_98 rfl ?_
        refine k_iremN Ox dX1_init_100 (by omega) (by first | decide | omega) (by first | decide | omega) ?_
        refine k_iload_n Ox dX1_init_101 rfl 1 rfl ?_
        refine k_callV Ox [0, 1, 2, 3, 6, 9, 10] (c_X1_lay G _ _ _ _ _ _ _ _ _ _ _ _ _ _ _ _ _ _ _ _ _ _ (fun a _ => by rw [h5 a]; decide) (by omega) (by omega) (by omega) (by omega)) 4 rfl rfl rfl ⟨rfl, rfl⟩ rfl rfl gX1_init_X1_lay rfl 0 rfl ⟨rfl, (by decide +kernel), (by decide +kernel), (by decide +kernel)⟩ rfl dX1_init_102 (Nat.le_of_ble_eq_true rfl) rfl ⟨Nat.le_of_ble_eq_true rfl, Nat.le_of_ble_eq_true rfl⟩ (fun r wa wb hp => ?_)
        obtain ⟨⟨rfl, rfl⟩, rfl⟩ := hp
        show V x G _ _ _ _ _ _ [_, _, _, _, _, _, _, _, _, _, _]
        rw [if_ring, if_ring2]
        refine k_aload_n Ox dX1_init_105 rfl 0 rfl ?_
        refine k_get Ox 0 rfl rfl hin_X1_init_X1 3 rfl lk_X1_init_f21 rfl rfl dX1_init_106 ?_
        refine k_iload_n Ox dX1_init_109 rfl 1 rfl ?_
        refine k_iconst Ox (v := nI 5) dX1_init_110 rfl ?_
        refine k_callSN Ox [4] (c_X4_put G _ _ _ _ _ (by omega) (by decide)) 3 rfl rfl rfl ⟨rfl, rfl⟩ rfl rfl gX1_init_X4_put_n51 (by decide +kernel) lk_X1_init_sX4_put lk_X1_init_tX4 ⟨(by decide +kernel), (by decide +kernel), (by decide +kernel)⟩ rfl dX1_init_111 (Nat.le_of_ble_eq_true rfl) rfl ⟨Nat.le_of_ble_eq_true rfl, Nat.le_of_ble_eq_true rfl⟩ (fun r wa wb hp => ?_)
        obtain ⟨⟨rfl, rfl⟩, rfl⟩ := hp
        show V x G _ _ _ _ _ _ [_, _, _, _, _, _, _, _, _, _, _]
        rw [rN_upd]
        refine k_iincN Ox (k := 1) (m := 1) [(1, _), (0, _)] dX1_init_114 rfl rfl (by decide) rfl ?_
        refine k_goto Ox 86 dX1_init_117 rfl ?_
        refine k_sub [1, 0] [(0, _), (1, _)] rfl ?_
        exact ih (e + 1) _ _ _ _ _ _ (by omega) (by omega) (up_lt h1 rfl) (up_lt h2 rfl) (up_lt h3 rfl) (up_lt h4 rfl) (fun a => by unfold clrK; rw [h5 a]; exact setb0 e (by omega)) (fun a q => by unfold wipeB; split; rfl; exact h6 a q)
  refine k_sub [1, 0] [(0, _), (1, _)] rfl ?_
  exact L86 7 0 (fun _ => 0) (fun _ => 0) (fun _ => 0) (fun _ => 0) (fun _ => 0) (fun _ _ => 0) (by omega) (by omega) (fun j hj => absurd hj (by omega)) (fun j hj => absurd hj (by omega)) (fun j hj => absurd hj (by omega)) (fun j hj => absurd hj (by omega)) (fun _ => rfl) (fun _ _ => rfl)
theorem lk_X2_init_m3 : Cond.methodLink RX2 3 objectInit ∈ wsX2_init := List.mem_of_getElem? (i := 1) rfl
theorem lk_X2_init_oi : Cond.instanceMethod objectInit ∈ wsX2_init := List.mem_of_getElem? (i := 2) rfl
theorem lk_X2_init_oc : Cond.code objectInit ⟨#[0xb1]⟩ 1 none ∈ wsX2_init := List.mem_of_getElem? (i := 3) rfl
theorem lk_X2_init_aint : Cond.arrayClass .int ∈ wsX2_init := List.mem_of_getElem? (i := 4) rfl
theorem lk_X2_init_f9 : Cond.fieldLink RX2 9 "LieBridges$Pad" "signs" "[I" ∈ wsX2_init := List.mem_of_getElem? (i := 5) rfl
theorem hin_X2_init_X2 : ∀ w ∈ u_ws RX2 TX2 8, w ∈ wsX2_init := fun _ h => List.mem_cons_of_mem _ (List.mem_append_right _ h)
theorem lk_X2_init_f15 : Cond.fieldLink RX2 15 "LieBridges$Pad" "kinds" "[I" ∈ wsX2_init := List.mem_of_getElem? (i := 6) rfl
theorem lk_X2_init_f18 : Cond.fieldLink RX2 18 "LieBridges$Pad" "speakers" "[I" ∈ wsX2_init := List.mem_of_getElem? (i := 7) rfl
theorem lk_X2_init_f21 : Cond.fieldLink RX2 21 "LieBridges$Pad" "hearers" "[I" ∈ wsX2_init := List.mem_of_getElem? (i := 8) rfl
theorem lk_X2_init_f24 : Cond.fieldLink RX2 24 "LieBridges$Pad" "planks" "[I" ∈ wsX2_init := List.mem_of_getElem? (i := 9) rfl
set_option maxHeartbeats 400000 in
set_option maxRecDepth 4000 in
theorem c_X2_init (G : Gx) (d : Nat) : CtN G yX2_init wsX2_init { frames := 1, cells := 5, slots := 300, locals := 12 } [.ref d] [(d, cO 2 [.null, .int 0, .null, .null, .null, .null, .int 0, .int 0])] (fun r wa wb => r = none ∧ ∃ s0 kd sk hr pk : Nat, wa = [(d, cO 2 [.ref s0, .int (nI 0), .ref kd, .ref sk, .ref hr, .ref pk, .int (nI 0), .int (nI 0)])] ∧ wb = [(s0, cI G 60 (rN (fun _ => 0))), (kd, cI G 60 (rN (fun _ => 0))), (sk, cI G 60 (rN (fun _ => 0))), (hr, cI G 60 (rN (fun _ => 0))), (pk, cI G 60 (rN (fun _ => 0)))]) 5 300 := by
  refine CtN.of [(0, .ref d)] (by decide +kernel) rfl rfl rfl rfl ?_
  intro x Ox Rt
  refine k_aload_n Ox dX2_init_0 rfl 0 rfl ?_
  refine k_objInit Ox lk_X2_init_m3 lk_X2_init_oi lk_X2_init_oc dX2_init_1 (by decide) (Nat.le_of_ble_eq_true rfl) ?_
  refine k_aload_n Ox dX2_init_4 rfl 0 rfl ?_
  refine k_bipush Ox (v := nI 60) dX2_init_5 rfl ?_
  refine k_newa Ox dX2_init_7 lk_X2_init_aint rfl ⟨Nat.le_of_ble_eq_true rfl, Nat.le_of_ble_eq_true rfl⟩ (fun q7 => ?_)
  show V x G _ 1 60 _ _ _ [_, _]
  refine k_putF Ox 0 rfl rfl hin_X2_init_X2 0 rfl lk_X2_init_f9 rfl tyX2 tyX2_ok nmX2 rfl rfl rfl rfl rfl rfl [_, _, _, _, _, _, _, _] rfl [_, _] rfl dX2_init_9 ?_
  refine k_aload_n Ox dX2_init_12 rfl 0 rfl ?_
  refine k_bipush Ox (v := nI 60) dX2_init_13 rfl ?_
  refine k_newa Ox dX2_init_15 lk_X2_init_aint rfl ⟨Nat.le_of_ble_eq_true rfl, Nat.le_of_ble_eq_true rfl⟩ (fun q15 => ?_)
  show V x G _ 2 120 _ _ _ [_, _, _]
  refine k_putF Ox 0 rfl rfl hin_X2_init_X2 2 rfl lk_X2_init_f15 rfl tyX2 tyX2_ok nmX2 rfl rfl rfl rfl rfl rfl [_, _, _, _, _, _, _, _] rfl [_, _, _] rfl dX2_init_17 ?_
  refine k_aload_n Ox dX2_init_20 rfl 0 rfl ?_
  refine k_bipush Ox (v := nI 60) dX2_init_21 rfl ?_
  refine k_newa Ox dX2_init_23 lk_X2_init_aint rfl ⟨Nat.le_of_ble_eq_true rfl, Nat.le_of_ble_eq_true rfl⟩ (fun q23 => ?_)
  show V x G _ 3 180 _ _ _ [_, _, _, _]
  refine k_putF Ox 0 rfl rfl hin_X2_init_X2 3 rfl lk_X2_init_f18 rfl tyX2 tyX2_ok nmX2 rfl rfl rfl rfl rfl rfl [_, _, _, _, _, _, _, _] rfl [_, _, _, _] rfl dX2_init_25 ?_
  refine k_aload_n Ox dX2_init_28 rfl 0 rfl ?_
  refine k_bipush Ox (v := nI 60) dX2_init_29 rfl ?_
  refine k_newa Ox dX2_init_31 lk_X2_init_aint rfl ⟨Nat.le_of_ble_eq_true rfl, Nat.le_of_ble_eq_true rfl⟩ (fun q31 => ?_)
  show V x G _ 4 240 _ _ _ [_, _, _, _, _]
  refine k_putF Ox 0 rfl rfl hin_X2_init_X2 4 rfl lk_X2_init_f21 rfl tyX2 tyX2_ok nmX2 rfl rfl rfl rfl rfl rfl [_, _, _, _, _, _, _, _] rfl [_, _, _, _, _] rfl dX2_init_33 ?_
  refine k_aload_n Ox dX2_init_36 rfl 0 rfl ?_
  refine k_bipush Ox (v := nI 60) dX2_init_37 rfl ?_
  refine k_newa Ox dX2_init_39 lk_X2_init_aint rfl ⟨Nat.le_of_ble_eq_true rfl, Nat.le_of_ble_eq_true rfl⟩ (fun q39 => ?_)
  show V x G _ 5 300 _ _ _ [_, _, _, _, _, _]
  refine k_putF Ox 0 rfl rfl hin_X2_init_X2 5 rfl lk_X2_init_f24 rfl tyX2 tyX2_ok nmX2 rfl rfl rfl rfl rfl rfl [_, _, _, _, _, _, _, _] rfl [_, _, _, _, _, _] rfl dX2_init_41 ?_
  refine k_vret (ws := [_]) (wb := [_, _, _, _, _]) Ox Rt dX2_init_44 (Nat.le_of_ble_eq_true rfl) (Nat.le_of_ble_eq_true rfl) rfl ?_
  exact ⟨rfl, _, _, _, _, _, rfl, rfl⟩
theorem lk_X3_init_m3 : Cond.methodLink RX3 3 objectInit ∈ wsX3_init := List.mem_of_getElem? (i := 1) rfl
theorem lk_X3_init_oi : Cond.instanceMethod objectInit ∈ wsX3_init := List.mem_of_getElem? (i := 2) rfl
theorem lk_X3_init_oc : Cond.code objectInit ⟨#[0xb1]⟩ 1 none ∈ wsX3_init := List.mem_of_getElem? (i := 3) rfl
theorem lk_X3_init_aint : Cond.arrayClass .int ∈ wsX3_init := List.mem_of_getElem? (i := 4) rfl
theorem lk_X3_init_f9 : Cond.fieldLink RX3 9 "LieBridges$Ways" "weights" "[I" ∈ wsX3_init := List.mem_of_getElem? (i := 5) rfl
theorem hin_X3_init_X3 : ∀ w ∈ u_ws RX3 TX3 7, w ∈ wsX3_init := fun _ h => List.mem_cons_of_mem _ (List.mem_append_right _ h)
theorem lk_X3_init_f15 : Cond.fieldLink RX3 15 "LieBridges$Ways" "trodden" "[I" ∈ wsX3_init := List.mem_of_getElem? (i := 6) rfl
theorem lk_X3_init_f18 : Cond.fieldLink RX3 18 "LieBridges$Ways" "best" "[I" ∈ wsX3_init := List.mem_of_getElem? (i := 7) rfl
set_option maxHeartbeats 400000 in
set_option maxRecDepth 4000 in
theorem c_X3_init (G : Gx) (d : Nat) : CtN G yX3_init wsX3_init { frames := 1, cells := 3, slots := 18, locals := 12 } [.ref d] [(d, cO 3 [.null, .null, .null, .int 0, .int 0, .int 0, .long 0])] (fun r wa wb => r = none ∧ ∃ wt td bs : Nat, wa = [(d, cO 3 [.ref wt, .ref td, .ref bs, .int (nI 0), .int (nI 0), .int (nI 0), .long 0])] ∧ wb = [(wt, cI G 6 (rN (fun _ => 0))), (td, cI G 6 (rN (fun _ => 0))), (bs, cI G 6 (rN (fun _ => 0)))]) 3 18 := by
  refine CtN.of [(0, .ref d)] (by decide +kernel) rfl rfl rfl rfl ?_
  intro x Ox Rt
  refine k_aload_n Ox dX3_init_0 rfl 0 rfl ?_
  refine k_objInit Ox lk_X3_init_m3 lk_X3_init_oi lk_X3_init_oc dX3_init_1 (by decide) (Nat.le_of_ble_eq_true rfl) ?_
  refine k_aload_n Ox dX3_init_4 rfl 0 rfl ?_
  refine k_bipush Ox (v := nI 6) dX3_init_5 rfl ?_
  refine k_newa Ox dX3_init_7 lk_X3_init_aint rfl ⟨Nat.le_of_ble_eq_true rfl, Nat.le_of_ble_eq_true rfl⟩ (fun q7 => ?_)
  show V x G _ 1 6 _ _ _ [_, _]
  refine k_putF Ox 0 rfl rfl hin_X3_init_X3 0 rfl lk_X3_init_f9 rfl tyX3 tyX3_ok nmX3 rfl rfl rfl rfl rfl rfl [_, _, _, _, _, _, _] rfl [_, _] rfl dX3_init_9 ?_
  refine k_aload_n Ox dX3_init_12 rfl 0 rfl ?_
  refine k_bipush Ox (v := nI 6) dX3_init_13 rfl ?_
  refine k_newa Ox dX3_init_15 lk_X3_init_aint rfl ⟨Nat.le_of_ble_eq_true rfl, Nat.le_of_ble_eq_true rfl⟩ (fun q15 => ?_)
  show V x G _ 2 12 _ _ _ [_, _, _]
  refine k_putF Ox 0 rfl rfl hin_X3_init_X3 1 rfl lk_X3_init_f15 rfl tyX3 tyX3_ok nmX3 rfl rfl rfl rfl rfl rfl [_, _, _, _, _, _, _] rfl [_, _, _] rfl dX3_init_17 ?_
  refine k_aload_n Ox dX3_init_20 rfl 0 rfl ?_
  refine k_bipush Ox (v := nI 6) dX3_init_21 rfl ?_
  refine k_newa Ox dX3_init_23 lk_X3_init_aint rfl ⟨Nat.le_of_ble_eq_true rfl, Nat.le_of_ble_eq_true rfl⟩ (fun q23 => ?_)
  show V x G _ 3 18 _ _ _ [_, _, _, _]
  refine k_putF Ox 0 rfl rfl hin_X3_init_X3 2 rfl lk_X3_init_f18 rfl tyX3 tyX3_ok nmX3 rfl rfl rfl rfl rfl rfl [_, _, _, _, _, _, _] rfl [_, _, _, _] rfl dX3_init_25 ?_
  refine k_vret (ws := [_]) (wb := [_, _, _]) Ox Rt dX3_init_28 (Nat.le_of_ble_eq_true rfl) (Nat.le_of_ble_eq_true rfl) rfl ?_
  exact ⟨rfl, _, _, _, rfl, rfl⟩
theorem lk_X4_init_m1 : Cond.methodLink RX4 1 objectInit ∈ wsX4_init := List.mem_of_getElem? (i := 1) rfl
theorem lk_X4_init_oi : Cond.instanceMethod objectInit ∈ wsX4_init := List.mem_of_getElem? (i := 2) rfl
theorem lk_X4_init_oc : Cond.code objectInit ⟨#[0xb1]⟩ 1 none ∈ wsX4_init := List.mem_of_getElem? (i := 3) rfl
theorem hin_X4_init_X1 : ∀ w ∈ u_ws RX1 TX1 11, w ∈ wsX4_init := fun _ h => List.mem_cons_of_mem _ (List.mem_append_left _ (List.mem_append_left _ (List.mem_append_left _ (List.mem_append_left _ (List.mem_append_right _ h)))))
theorem lk_X4_init_c7 : Cond.classLink RX4 7 RX1 ∈ wsX4_init := List.mem_of_getElem? (i := 4) rfl
theorem lk_X4_init_iX1 : Cond.instantiable RX1 11 ∈ wsX4_init := List.mem_of_getElem? (i := 5) rfl
theorem lk_X4_init_tX1 : Cond.initialized RX1 ∈ wsX4_init := List.mem_of_getElem? (i := 6) rfl
theorem lk_X4_init_m9 : Cond.methodLink RX4 9 yX1_init ∈ wsX4_init := List.mem_of_getElem? (i := 24) rfl
theorem lk_X4_init_nX1 : Cond.instanceMethod yX1_init ∈ wsX4_init := List.mem_of_getElem? (i := 25) rfl
theorem lk_X4_init_f10 : Cond.fieldLink RX4 10 "LieBridges" "now" "LLieBridges$Delta;" ∈ wsX4_init := List.mem_of_getElem? (i := 7) rfl
theorem hin_X4_init_X4 : ∀ w ∈ u_ws RX4 TX4 7, w ∈ wsX4_init := fun _ h => List.mem_cons_of_mem _ (List.mem_append_left _ (List.mem_append_left _ (List.mem_append_left _ (List.mem_append_right _ h))))
theorem lk_X4_init_f16 : Cond.fieldLink RX4 16 "LieBridges" "images" "[LLieBridges$Delta;" ∈ wsX4_init := List.mem_of_getElem? (i := 8) rfl
theorem hin_X4_init_X2 : ∀ w ∈ u_ws RX2 TX2 8, w ∈ wsX4_init := fun _ h => List.mem_cons_of_mem _ (List.mem_append_left _ (List.mem_append_left _ (List.mem_append_right _ h)))
theorem lk_X4_init_c20 : Cond.classLink RX4 20 RX2 ∈ wsX4_init := List.mem_of_getElem? (i := 9) rfl
theorem lk_X4_init_iX2 : Cond.instantiable RX2 8 ∈ wsX4_init := List.mem_of_getElem? (i := 10) rfl
theorem lk_X4_init_tX2 : Cond.initialized RX2 ∈ wsX4_init := List.mem_of_getElem? (i := 11) rfl
theorem lk_X4_init_nX2 : Cond.instanceMethod yX2_init ∈ wsX4_init := List.mem_of_getElem? (i := 60) rfl
theorem lk_X4_init_f23 : Cond.fieldLink RX4 23 "LieBridges" "pad" "LLieBridges$Pad;" ∈ wsX4_init := List.mem_of_getElem? (i := 12) rfl
theorem hin_X4_init_X3 : ∀ w ∈ u_ws RX3 TX3 7, w ∈ wsX4_init := fun _ h => List.mem_cons_of_mem _ (List.mem_append_left _ (List.mem_append_right _ h))
theorem lk_X4_init_c27 : Cond.classLink RX4 27 RX3 ∈ wsX4_init := List.mem_of_getElem? (i := 13) rfl
theorem lk_X4_init_iX3 : Cond.instantiable RX3 7 ∈ wsX4_init := List.mem_of_getElem? (i := 14) rfl
theorem lk_X4_init_tX3 : Cond.initialized RX3 ∈ wsX4_init := List.mem_of_getElem? (i := 15) rfl
theorem lk_X4_init_nX3 : Cond.instanceMethod yX3_init ∈ wsX4_init := List.mem_of_getElem? (i := 68) rfl
theorem lk_X4_init_f30 : Cond.fieldLink RX4 30 "LieBridges" "ways" "LLieBridges$Ways;" ∈ wsX4_init := List.mem_of_getElem? (i := 16) rfl
theorem hin_X4_init_X0 : ∀ w ∈ u_ws RX0 TX0 1, w ∈ wsX4_init := fun _ h => List.mem_cons_of_mem _ (List.mem_append_right _ h)
theorem lk_X4_init_c34 : Cond.classLink RX4 34 RX0 ∈ wsX4_init := List.mem_of_getElem? (i := 17) rfl
theorem lk_X4_init_iX0 : Cond.instantiable RX0 1 ∈ wsX4_init := List.mem_of_getElem? (i := 18) rfl
theorem lk_X4_init_tX0 : Cond.initialized RX0 ∈ wsX4_init := List.mem_of_getElem? (i := 19) rfl
theorem lk_X4_init_nX0 : Cond.instanceMethod yX0_init ∈ wsX4_init := List.mem_of_getElem? (i := 39) rfl
theorem lk_X4_init_f37 : Cond.fieldLink RX4 37 "LieBridges" "trial" "LLieBridges$Beliefs;" ∈ wsX4_init := List.mem_of_getElem? (i := 20) rfl
theorem lk_X4_init_aint : Cond.arrayClass .int ∈ wsX4_init := List.mem_of_getElem? (i := 21) rfl
theorem lk_X4_init_f41 : Cond.fieldLink RX4 41 "LieBridges" "guesses" "[I" ∈ wsX4_init := List.mem_of_getElem? (i := 22) rfl
theorem lk_X4_init_f45 : Cond.fieldLink RX4 45 "LieBridges" "route" "[I" ∈ wsX4_init := List.mem_of_getElem? (i := 23) rfl
set_option maxHeartbeats 400000 in
set_option maxRecDepth 4000 in
theorem c_X4_init (G : Gx) (h : Nat) : CtN G yX4_init wsX4_init { frames := 4, cells := 26, slots := 494, locals := 92 } [.ref h] [(h, cO 4 [.null, .null, .null, .null, .null, .null, .null])] (fun r wa wb => r = none ∧ ∃ d im pd wy tb gu ro ls gs ly hs tr kn sp sl be bd s0 kd sk hr pk wt td bs tbd : Nat, wa = [(h, cO 4 [.ref d, .ref im, .ref pd, .ref wy, .ref tb, .ref gu, .ref ro])] ∧ wb = [(d, cO 1 [.ref ls, .ref gs, .ref ly, .ref hs, .ref tr, .ref kn, .ref sp, .ref sl, .ref be, .int (nI 3), .int (nI 0)]), (ls, cI G 6 (rN ringL)), (gs, cI G 6 (rN ringG)), (ly, cI G 6 (rN (fun k => k))), (hs, cI G 6 (rN (fun _ => 5))), (tr, cI G 6 (rN (fun _ => 0))), (kn, cI G 6 (rN (fun _ => 0))), (sp, cI G 6 (rN (fun _ => 0))), (sl, cI G 6 (rN (fun _ => 0))), (be, cO 0 [.ref bd]), (bd, cI G 36 (rN (flC (fun _ _ => 0)))), (im, cQ G 2 (fun _ => none)), (pd, cO 2 [.ref s0, .int (nI 0), .ref kd, .ref sk, .ref hr, .ref pk, .int (nI 0), .int (nI 0)]), (s0, cI G 60 (rN (fun _ => 0))), (kd, cI G 60 (rN (fun _ => 0))), (sk, cI G 60 (rN (fun _ => 0))), (hr, cI G 60 (rN (fun _ => 0))), (pk, cI G 60 (rN (fun _ => 0))), (wy, cO 3 [.ref wt, .ref td, .ref bs, .int (nI 0), .int (nI 0), .int (nI 0), .long 0]), (wt, cI G 6 (rN (fun _ => 0))), (td, cI G 6 (rN (fun _ => 0))), (bs, cI G 6 (rN (fun _ => 0))), (tb, cO 0 [.ref tbd]), (tbd, cI G 36 (rN (flC (fun _ _ => 0)))), (gu, cI G 3 (rN (fun _ => 0))), (ro, cI G 6 (rN (fun _ => 0)))]) 26 494 := by
  refine CtN.of [(0, .ref h)] (by decide +kernel) rfl rfl rfl rfl ?_
  intro x Ox Rt
  refine k_aload_n Ox dX4_init_0 rfl 0 rfl ?_
  refine k_objInit Ox lk_X4_init_m1 lk_X4_init_oi lk_X4_init_oc dX4_init_1 (by decide) (Nat.le_of_ble_eq_true rfl) ?_
  refine k_aload_n Ox dX4_init_4 rfl 0 rfl ?_
  refine k_new Ox (ci := 1) rfl hin_X4_init_X1 tyX1 tyX1_ok lk_X4_init_c7 lk_X4_init_iX1 lk_X4_init_tX1 [.null, .null, .null, .null, .null, .null, .null, .null, .null, .int 0, .int 0] (fun j hj => by rcases (show j = 0 ∨ j = 1 ∨ j = 2 ∨ j = 3 ∨ j = 4 ∨ j = 5 ∨ j = 6 ∨ j = 7 ∨ j = 8 ∨ j = 9 ∨ j = 10 by omega) with rfl | rfl | rfl | rfl | rfl | rfl | rfl | rfl | rfl | rfl | rfl <;> rfl) ⟨Nat.le_of_ble_eq_true rfl, Nat.le_of_ble_eq_true rfl⟩ dX4_init_5 (fun q5 => ?_)
  show V x G _ 1 11 _ _ _ [_, _]
  refine k_dup Ox dX4_init_8 rfl ?_
  refine k_callI Ox [1] (c_X1_init G _ ) 0 rfl rfl rfl ⟨rfl, rfl⟩ rfl rfl gX4_init_X1_init lk_X4_init_tX1 lk_X4_init_m9 lk_X4_init_nX1 rfl rfl ⟨(by decide +kernel), (by decide +kernel), (by decide +kernel)⟩ rfl dX4_init_9 (Nat.le_of_ble_eq_true rfl) rfl ⟨Nat.le_of_ble_eq_true rfl, Nat.le_of_ble_eq_true rfl⟩ (fun r wa wb hp => ?_)
  obtain ⟨rfl, ls9, gs9, ly9, hs9, tr9, kn9, sp9, sl9, be9, bd9, rfl, rfl⟩ := hp
  show V x G _ _ _ _ _ _ [_, _, _, _, _, _, _, _, _, _, _, _]
  refine k_putF Ox 0 rfl rfl hin_X4_init_X4 0 rfl lk_X4_init_f10 rfl tyX4 tyX4_ok nmX4 rfl rfl rfl rfl rfl rfl [_, _, _, _, _, _, _] rfl [_, _, _, _, _, _, _, _, _, _, _, _] rfl dX4_init_12 ?_
  refine k_aload_n Ox dX4_init_15 rfl 0 rfl ?_
  refine k_iconst Ox (v := nI 2) dX4_init_16 rfl ?_
  refine k_newq Ox dX4_init_17 lk_X4_init_c7 rfl ⟨Nat.le_of_ble_eq_true rfl, Nat.le_of_ble_eq_true rfl⟩ (fun q17 => ?_)
  show V x G _ 12 98 _ _ _ [_, _, _, _, _, _, _, _, _, _, _, _, _]
  refine k_putF Ox 0 rfl rfl hin_X4_init_X4 1 rfl lk_X4_init_f16 rfl tyX4 tyX4_ok nmX4 rfl rfl rfl rfl rfl rfl [_, _, _, _, _, _, _] rfl [_, _, _, _, _, _, _, _, _, _, _, _, _] rfl dX4_init_20 ?_
  refine k_aload_n Ox dX4_init_23 rfl 0 rfl ?_
  refine k_new Ox (ci := 2) rfl hin_X4_init_X2 tyX2 tyX2_ok lk_X4_init_c20 lk_X4_init_iX2 lk_X4_init_tX2 [.null, .int 0, .null, .null, .null, .null, .int 0, .int 0] (fun j hj => by rcases (show j = 0 ∨ j = 1 ∨ j = 2 ∨ j = 3 ∨ j = 4 ∨ j = 5 ∨ j = 6 ∨ j = 7 by omega) with rfl | rfl | rfl | rfl | rfl | rfl | rfl | rfl <;> rfl) ⟨Nat.le_of_ble_eq_true rfl, Nat.le_of_ble_eq_true rfl⟩ dX4_init_24 (fun q24 => ?_)
  show V x G _ 13 106 _ _ _ [_, _, _, _, _, _, _, _, _, _, _, _, _, _]
  refine k_dup Ox dX4_init_27 rfl ?_
  refine k_callIN Ox [13] (c_X2_init G _ ) 0 rfl rfl rfl ⟨rfl, rfl⟩ rfl rfl gX4_init_X2_init_n22 lk_X4_init_tX2 (by decide +kernel) lk_X4_init_nX2 rfl rfl ⟨(by decide +kernel), (by decide +kernel), (by decide +kernel)⟩ rfl dX4_init_28 (Nat.le_of_ble_eq_true rfl) rfl ⟨Nat.le_of_ble_eq_true rfl, Nat.le_of_ble_eq_true rfl⟩ (fun r wa wb hp => ?_)
  obtain ⟨rfl, s028, kd28, sk28, hr28, pk28, rfl, rfl⟩ := hp
  show V x G _ _ _ _ _ _ [_, _, _, _, _, _, _, _, _, _, _, _, _, _, _, _, _, _, _]
  refine k_putF Ox 0 rfl rfl hin_X4_init_X4 2 rfl lk_X4_init_f23 rfl tyX4 tyX4_ok nmX4 rfl rfl rfl rfl rfl rfl [_, _, _, _, _, _, _] rfl [_, _, _, _, _, _, _, _, _, _, _, _, _, _, _, _, _, _, _] rfl dX4_init_31 ?_
  refine k_aload_n Ox dX4_init_34 rfl 0 rfl ?_
  refine k_new Ox (ci := 3) rfl hin_X4_init_X3 tyX3 tyX3_ok lk_X4_init_c27 lk_X4_init_iX3 lk_X4_init_tX3 [.null, .null, .null, .int 0, .int 0, .int 0, .long 0] (fun j hj => by rcases (show j = 0 ∨ j = 1 ∨ j = 2 ∨ j = 3 ∨ j = 4 ∨ j = 5 ∨ j = 6 by omega) with rfl | rfl | rfl | rfl | rfl | rfl | rfl <;> rfl) ⟨Nat.le_of_ble_eq_true rfl, Nat.le_of_ble_eq_true rfl⟩ dX4_init_35 (fun q35 => ?_)
  show V x G _ 19 413 _ _ _ [_, _, _, _, _, _, _, _, _, _, _, _, _, _, _, _, _, _, _, _]
  refine k_dup Ox dX4_init_38 rfl ?_
  refine k_callIN Ox [19] (c_X3_init G _ ) 0 rfl rfl rfl ⟨rfl, rfl⟩ rfl rfl gX4_init_X3_init_n29 lk_X4_init_tX3 (by decide +kernel) lk_X4_init_nX3 rfl rfl ⟨(by decide +kernel), (by decide +kernel), (by decide +kernel)⟩ rfl dX4_init_39 (Nat.le_of_ble_eq_true rfl) rfl ⟨Nat.le_of_ble_eq_true rfl, Nat.le_of_ble_eq_true rfl⟩ (fun r wa wb hp => ?_)
  obtain ⟨rfl, wt39, td39, bs39, rfl, rfl⟩ := hp
  show V x G _ _ _ _ _ _ [_, _, _, _, _, _, _, _, _, _, _, _, _, _, _, _, _, _, _, _, _, _, _]
  refine k_putF Ox 0 rfl rfl hin_X4_init_X4 3 rfl lk_X4_init_f30 rfl tyX4 tyX4_ok nmX4 rfl rfl rfl rfl rfl rfl [_, _, _, _, _, _, _] rfl [_, _, _, _, _, _, _, _, _, _, _, _, _, _, _, _, _, _, _, _, _, _, _] rfl dX4_init_42 ?_
  refine k_aload_n Ox dX4_init_45 rfl 0 rfl ?_
  refine k_new Ox (ci := 0) rfl hin_X4_init_X0 tyX0 tyX0_ok lk_X4_init_c34 lk_X4_init_iX0 lk_X4_init_tX0 [.null] (fun j hj => by rcases (show j = 0 by omega) with rfl <;> rfl) ⟨Nat.le_of_ble_eq_true rfl, Nat.le_of_ble_eq_true rfl⟩ dX4_init_46 (fun q46 => ?_)
  show V x G _ 23 432 _ _ _ [_, _, _, _, _, _, _, _, _, _, _, _, _, _, _, _, _, _, _, _, _, _, _, _]
  refine k_dup Ox dX4_init_49 rfl ?_
  refine k_callIN Ox [23] (c_X0_init G _ ) 0 rfl rfl rfl ⟨rfl, rfl⟩ rfl rfl gX4_init_X0_init_n36 lk_X4_init_tX0 (by decide +kernel) lk_X4_init_nX0 rfl rfl ⟨(by decide +kernel), (by decide +kernel), (by decide +kernel)⟩ rfl dX4_init_50 (Nat.le_of_ble_eq_true rfl) rfl ⟨Nat.le_of_ble_eq_true rfl, Nat.le_of_ble_eq_true rfl⟩ (fun r wa wb hp => ?_)
  obtain ⟨rfl, qd50, rfl, rfl⟩ := hp
  show V x G _ _ _ _ _ _ [_, _, _, _, _, _, _, _, _, _, _, _, _, _, _, _, _, _, _, _, _, _, _, _, _]
  refine k_putF Ox 0 rfl rfl hin_X4_init_X4 4 rfl lk_X4_init_f37 rfl tyX4 tyX4_ok nmX4 rfl rfl rfl rfl rfl rfl [_, _, _, _, _, _, _] rfl [_, _, _, _, _, _, _, _, _, _, _, _, _, _, _, _, _, _, _, _, _, _, _, _, _] rfl dX4_init_53 ?_
  refine k_aload_n Ox dX4_init_56 rfl 0 rfl ?_
  refine k_iconst Ox (v := nI 3) dX4_init_57 rfl ?_
  refine k_newa Ox dX4_init_58 lk_X4_init_aint rfl ⟨Nat.le_of_ble_eq_true rfl, Nat.le_of_ble_eq_true rfl⟩ (fun q58 => ?_)
  show V x G _ 25 471 _ _ _ [_, _, _, _, _, _, _, _, _, _, _, _, _, _, _, _, _, _, _, _, _, _, _, _, _, _]
  refine k_putF Ox 0 rfl rfl hin_X4_init_X4 5 rfl lk_X4_init_f41 rfl tyX4 tyX4_ok nmX4 rfl rfl rfl rfl rfl rfl [_, _, _, _, _, _, _] rfl [_, _, _, _, _, _, _, _, _, _, _, _, _, _, _, _, _, _, _, _, _, _, _, _, _, _] rfl dX4_init_60 ?_
  refine k_aload_n Ox dX4_init_63 rfl 0 rfl ?_
  refine k_bipush Ox (v := nI 6) dX4_init_64 rfl ?_
  refine k_newa Ox dX4_init_66 lk_X4_init_aint rfl ⟨Nat.le_of_ble_eq_true rfl, Nat.le_of_ble_eq_true rfl⟩ (fun q66 => ?_)
  show V x G _ 26 477 _ _ _ [_, _, _, _, _, _, _, _, _, _, _, _, _, _, _, _, _, _, _, _, _, _, _, _, _, _, _]
  refine k_putF Ox 0 rfl rfl hin_X4_init_X4 6 rfl lk_X4_init_f45 rfl tyX4 tyX4_ok nmX4 rfl rfl rfl rfl rfl rfl [_, _, _, _, _, _, _] rfl [_, _, _, _, _, _, _, _, _, _, _, _, _, _, _, _, _, _, _, _, _, _, _, _, _, _, _] rfl dX4_init_68 ?_
  refine k_vret (ws := [_]) (wb := [_, _, _, _, _, _, _, _, _, _, _, _, _, _, _, _, _, _, _, _, _, _, _, _, _, _]) Ox Rt dX4_init_71 (Nat.le_of_ble_eq_true rfl) (Nat.le_of_ble_eq_true rfl) rfl ?_
  exact ⟨rfl, _, _, _, _, _, _, _, _, _, _, _, _, _, _, _, _, _, _, _, _, _, _, _, _, _, _, rfl, rfl⟩
