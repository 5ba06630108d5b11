theorem lk_X5_init_m1 : Cond.methodLink RX5 1 objectInit ∈ wsX5_init := List.mem_of_getElem? (i := 1) rfl
theorem lk_X5_init_oi : Cond.instanceMethod objectInit ∈ wsX5_init := List.mem_of_getElem? (i := 2) rfl
theorem lk_X5_init_oc : Cond.code objectInit ⟨#[0xb1]⟩ 1 none ∈ wsX5_init := List.mem_of_getElem? (i := 3) rfl
theorem lk_X5_init_aint : Cond.arrayClass .int ∈ wsX5_init := List.mem_of_getElem? (i := 4) rfl
theorem lk_X5_init_f7 : Cond.fieldLink RX5 7 "LieBridgesModel" "one" "[I" ∈ wsX5_init := List.mem_of_getElem? (i := 5) rfl
theorem hin_X5_init_X5 : ∀ w ∈ u_ws RX5 TX5 22, w ∈ wsX5_init := fun _ h => List.mem_cons_of_mem _ (List.mem_append_right _ h)
theorem lk_X5_init_f13 : Cond.fieldLink RX5 13 "LieBridgesModel" "two" "[I" ∈ wsX5_init := List.mem_of_getElem? (i := 6) rfl
theorem lk_X5_init_f16 : Cond.fieldLink RX5 16 "LieBridgesModel" "owner" "[I" ∈ wsX5_init := List.mem_of_getElem? (i := 7) rfl
theorem lk_X5_init_f19 : Cond.fieldLink RX5 19 "LieBridgesModel" "trusts" "[I" ∈ wsX5_init := List.mem_of_getElem? (i := 8) rfl
theorem lk_X5_init_f22 : Cond.fieldLink RX5 22 "LieBridgesModel" "knows" "[I" ∈ wsX5_init := List.mem_of_getElem? (i := 9) rfl
theorem lk_X5_init_f25 : Cond.fieldLink RX5 25 "LieBridgesModel" "days" "[I" ∈ wsX5_init := List.mem_of_getElem? (i := 10) rfl
theorem lk_X5_init_f28 : Cond.fieldLink RX5 28 "LieBridgesModel" "safety" "[I" ∈ wsX5_init := List.mem_of_getElem? (i := 11) rfl
theorem lk_X5_init_f31 : Cond.fieldLink RX5 31 "LieBridgesModel" "fade" "I" ∈ wsX5_init := List.mem_of_getElem? (i := 12) rfl
theorem lk_X5_init_f35 : Cond.fieldLink RX5 35 "LieBridgesModel" "sight" "[I" ∈ wsX5_init := List.mem_of_getElem? (i := 13) rfl
theorem lk_X5_init_f38 : Cond.fieldLink RX5 38 "LieBridgesModel" "pad" "[I" ∈ wsX5_init := List.mem_of_getElem? (i := 14) rfl
theorem lk_X5_init_f41 : Cond.fieldLink RX5 41 "LieBridgesModel" "now" "[I" ∈ wsX5_init := List.mem_of_getElem? (i := 15) rfl
theorem lk_X5_init_f44 : Cond.fieldLink RX5 44 "LieBridgesModel" "cost" "[I" ∈ wsX5_init := List.mem_of_getElem? (i := 16) rfl
theorem lk_X5_init_f47 : Cond.fieldLink RX5 47 "LieBridgesModel" "image" "[I" ∈ wsX5_init := List.mem_of_getElem? (i := 17) rfl
theorem lk_X5_init_aboolean : Cond.arrayClass .boolean ∈ wsX5_init := List.mem_of_getElem? (i := 18) rfl
theorem lk_X5_init_f50 : Cond.fieldLink RX5 50 "LieBridgesModel" "isKept" "[Z" ∈ wsX5_init := List.mem_of_getElem? (i := 19) rfl
set_option maxHeartbeats 2000000 in
set_option maxRecDepth 4000 in
theorem c_X5_init (G : Gx) (m : Nat) : CtN G yX5_init wsX5_init { frames := 1, cells := 13, slots := 388, locals := 12 } [.ref m] [(m, cO 5 [.null, .null, .null, .null, .null, .null, .null, .int 0, .int 0, .null, .int 0, .null, .null, .int 0, .int 0, .null, .int 0, .int 0, .int 0, .int 0, .null, .null])] (fun r wa wb => r = none ∧ ∃ q7 q15 q23 q31 q39 q47 q55 q68 q76 q84 q92 q101 q108 : Nat, wa = [(m, cO 5 [.ref q7, .ref q15, .ref q23, .ref q31, .ref q39, .ref q47, .ref q55, .int (nI 3), .int 0, .ref q68, .int 0, .ref q76, .ref q84, .int 0, .int 0, .ref q92, .int 0, .int 0, .int 0, .int 0, .ref q101, .ref q108])] ∧ wb = [(q7, cI G 6 (rN ringL)), (q15, cI G 6 (rN ringG)), (q23, cI G 6 (rN (fun k => k))), (q31, cI G 6 (rN (fun _ => 0))), (q39, cI G 6 (rN (fun _ => 0))), (q47, cI G 36 (rN (flM (fun _ _ => 0)))), (q55, cI G 6 (rN (fun _ => 5))), (q68, cI G 12 (rN (flS (fun _ => 0) (fun _ => 0)))), (q76, cI G 60 (rN (fun _ => 0))), (q84, cI G 36 (fun _ => nI 0)), (q92, cI G 6 (fun _ => nI 0)), (q101, cI G 200 (fun _ => nI 0)), (q108, cZ G 2 (bN (fun _ => false)))]) 13 388 := by
  refine CtN.of [(0, .ref m)] (by decide +kernel) rfl rfl rfl rfl ?_
  intro x Ox Rt
  refine k_aload_n Ox dX5_init_0 rfl 0 rfl ?_
  refine k_objInit Ox lk_X5_init_m1 lk_X5_init_oi lk_X5_init_oc dX5_init_1 (by decide) (Nat.le_of_ble_eq_true rfl) ?_
  refine k_aload_n Ox dX5_init_4 rfl 0 rfl ?_
  refine k_bipush Ox (v := nI 6) dX5_init_5 rfl ?_
  refine k_newa Ox dX5_init_7 lk_X5_init_aint rfl ⟨Nat.le_of_ble_eq_true rfl, Nat.le_of_ble_eq_true rfl⟩ (fun q7 => ?_)
  show V x G _ 1 6 _ _ _ [_, _]
  refine k_putF Ox 0 rfl rfl hin_X5_init_X5 0 rfl lk_X5_init_f7 rfl tyX5 tyX5_ok nmX5 rfl rfl rfl rfl rfl rfl [_, _, _, _, _, _, _, _, _, _, _, _, _, _, _, _, _, _, _, _, _, _] rfl [_, _] rfl dX5_init_9 ?_
  refine k_aload_n Ox dX5_init_12 rfl 0 rfl ?_
  refine k_bipush Ox (v := nI 6) dX5_init_13 rfl ?_
  refine k_newa Ox dX5_init_15 lk_X5_init_aint rfl ⟨Nat.le_of_ble_eq_true rfl, Nat.le_of_ble_eq_true rfl⟩ (fun q15 => ?_)
  show V x G _ 2 12 _ _ _ [_, _, _]
  refine k_putF Ox 0 rfl rfl hin_X5_init_X5 1 rfl lk_X5_init_f13 rfl tyX5 tyX5_ok nmX5 rfl rfl rfl rfl rfl rfl [_, _, _, _, _, _, _, _, _, _, _, _, _, _, _, _, _, _, _, _, _, _] rfl [_, _, _] rfl dX5_init_17 ?_
  refine k_aload_n Ox dX5_init_20 rfl 0 rfl ?_
  refine k_bipush Ox (v := nI 6) dX5_init_21 rfl ?_
  refine k_newa Ox dX5_init_23 lk_X5_init_aint rfl ⟨Nat.le_of_ble_eq_true rfl, Nat.le_of_ble_eq_true rfl⟩ (fun q23 => ?_)
  show V x G _ 3 18 _ _ _ [_, _, _, _]
  refine k_putF Ox 0 rfl rfl hin_X5_init_X5 2 rfl lk_X5_init_f16 rfl tyX5 tyX5_ok nmX5 rfl rfl rfl rfl rfl rfl [_, _, _, _, _, _, _, _, _, _, _, _, _, _, _, _, _, _, _, _, _, _] rfl [_, _, _, _] rfl dX5_init_25 ?_
  refine k_aload_n Ox dX5_init_28 rfl 0 rfl ?_
  refine k_bipush Ox (v := nI 6) dX5_init_29 rfl ?_
  refine k_newa Ox dX5_init_31 lk_X5_init_aint rfl ⟨Nat.le_of_ble_eq_true rfl, Nat.le_of_ble_eq_true rfl⟩ (fun q31 => ?_)
  show V x G _ 4 24 _ _ _ [_, _, _, _, _]
  refine k_putF Ox 0 rfl rfl hin_X5_init_X5 3 rfl lk_X5_init_f19 rfl tyX5 tyX5_ok nmX5 rfl rfl rfl rfl rfl rfl [_, _, _, _, _, _, _, _, _, _, _, _, _, _, _, _, _, _, _, _, _, _] rfl [_, _, _, _, _] rfl dX5_init_33 ?_
  refine k_aload_n Ox dX5_init_36 rfl 0 rfl ?_
  refine k_bipush Ox (v := nI 6) dX5_init_37 rfl ?_
  refine k_newa Ox dX5_init_39 lk_X5_init_aint rfl ⟨Nat.le_of_ble_eq_true rfl, Nat.le_of_ble_eq_true rfl⟩ (fun q39 => ?_)
  show V x G _ 5 30 _ _ _ [_, _, _, _, _, _]
  refine k_putF Ox 0 rfl rfl hin_X5_init_X5 4 rfl lk_X5_init_f22 rfl tyX5 tyX5_ok nmX5 rfl rfl rfl rfl rfl rfl [_, _, _, _, _, _, _, _, _, _, _, _, _, _, _, _, _, _, _, _, _, _] rfl [_, _, _, _, _, _] rfl dX5_init_41 ?_
  refine k_aload_n Ox dX5_init_44 rfl 0 rfl ?_
  refine k_bipush Ox (v := nI 36) dX5_init_45 rfl ?_
  refine k_newa Ox dX5_init_47 lk_X5_init_aint rfl ⟨Nat.le_of_ble_eq_true rfl, Nat.le_of_ble_eq_true rfl⟩ (fun q47 => ?_)
  show V x G _ 6 66 _ _ _ [_, _, _, _, _, _, _]
  refine k_putF Ox 0 rfl rfl hin_X5_init_X5 5 rfl lk_X5_init_f25 rfl tyX5 tyX5_ok nmX5 rfl rfl rfl rfl rfl rfl [_, _, _, _, _, _, _, _, _, _, _, _, _, _, _, _, _, _, _, _, _, _] rfl [_, _, _, _, _, _, _] rfl dX5_init_49 ?_
  refine k_aload_n Ox dX5_init_52 rfl 0 rfl ?_
  refine k_bipush Ox (v := nI 6) dX5_init_53 rfl ?_
  refine k_newa Ox dX5_init_55 lk_X5_init_aint rfl ⟨Nat.le_of_ble_eq_true rfl, Nat.le_of_ble_eq_true rfl⟩ (fun q55 => ?_)
  show V x G _ 7 72 _ _ _ [_, _, _, _, _, _, _, _]
  refine k_putF Ox 0 rfl rfl hin_X5_init_X5 6 rfl lk_X5_init_f28 rfl tyX5 tyX5_ok nmX5 rfl rfl rfl rfl rfl rfl [_, _, _, _, _, _, _, _, _, _, _, _, _, _, _, _, _, _, _, _, _, _] rfl [_, _, _, _, _, _, _, _] rfl dX5_init_57 ?_
  refine k_aload_n Ox dX5_init_60 rfl 0 rfl ?_
  refine k_iconst Ox (v := nI 3) dX5_init_61 rfl ?_
  refine k_put Ox 0 rfl rfl hin_X5_init_X5 7 rfl lk_X5_init_f31 rfl tyX5 tyX5_ok nmX5 rfl  rfl rfl rfl [_, _, _, _, _, _, _, _, _, _, _, _, _, _, _, _, _, _, _, _, _, _] rfl [_, _, _, _, _, _, _, _] rfl dX5_init_62 ?_
  refine k_aload_n Ox dX5_init_65 rfl 0 rfl ?_
  refine k_bipush Ox (v := nI 12) dX5_init_66 rfl ?_
  refine k_newa Ox dX5_init_68 lk_X5_init_aint rfl ⟨Nat.le_of_ble_eq_true rfl, Nat.le_of_ble_eq_true rfl⟩ (fun q68 => ?_)
  show V x G _ 8 84 _ _ _ [_, _, _, _, _, _, _, _, _]
  refine k_putF Ox 0 rfl rfl hin_X5_init_X5 9 rfl lk_X5_init_f35 rfl tyX5 tyX5_ok nmX5 rfl rfl rfl rfl rfl rfl [_, _, _, _, _, _, _, _, _, _, _, _, _, _, _, _, _, _, _, _, _, _] rfl [_, _, _, _, _, _, _, _, _] rfl dX5_init_70 ?_
  refine k_aload_n Ox dX5_init_73 rfl 0 rfl ?_
  refine k_bipush Ox (v := nI 60) dX5_init_74 rfl ?_
  refine k_newa Ox dX5_init_76 lk_X5_init_aint rfl ⟨Nat.le_of_ble_eq_true rfl, Nat.le_of_ble_eq_true rfl⟩ (fun q76 => ?_)
  show V x G _ 9 144 _ _ _ [_, _, _, _, _, _, _, _, _, _]
  refine k_putF Ox 0 rfl rfl hin_X5_init_X5 11 rfl lk_X5_init_f38 rfl tyX5 tyX5_ok nmX5 rfl rfl rfl rfl rfl rfl [_, _, _, _, _, _, _, _, _, _, _, _, _, _, _, _, _, _, _, _, _, _] rfl [_, _, _, _, _, _, _, _, _, _] rfl dX5_init_78 ?_
  refine k_aload_n Ox dX5_init_81 rfl 0 rfl ?_
  refine k_bipush Ox (v := nI 36) dX5_init_82 rfl ?_
  refine k_newa Ox dX5_init_84 lk_X5_init_aint rfl ⟨Nat.le_of_ble_eq_true rfl, Nat.le_of_ble_eq_true rfl⟩ (fun q84 => ?_)
  show V x G _ 10 180 _ _ _ [_, _, _, _, _, _, _, _, _, _, _]
  refine k_putF Ox 0 rfl rfl hin_X5_init_X5 12 rfl lk_X5_init_f41 rfl tyX5 tyX5_ok nmX5 rfl rfl rfl rfl rfl rfl [_, _, _, _, _, _, _, _, _, _, _, _, _, _, _, _, _, _, _, _, _, _] rfl [_, _, _, _, _, _, _, _, _, _, _] rfl dX5_init_86 ?_
  refine k_aload_n Ox dX5_init_89 rfl 0 rfl ?_
  refine k_bipush Ox (v := nI 6) dX5_init_90 rfl ?_
  refine k_newa Ox dX5_init_92 lk_X5_init_aint rfl ⟨Nat.le_of_ble_eq_true rfl, Nat.le_of_ble_eq_true rfl⟩ (fun q92 => ?_)
  show V x G _ 11 186 _ _ _ [_, _, _, _, _, _, _, _, _, _, _, _]
  refine k_putF Ox 0 rfl rfl hin_X5_init_X5 15 rfl lk_X5_init_f44 rfl tyX5 tyX5_ok nmX5 rfl rfl rfl rfl rfl rfl [_, _, _, _, _, _, _, _, _, _, _, _, _, _, _, _, _, _, _, _, _, _] rfl [_, _, _, _, _, _, _, _, _, _, _, _] rfl dX5_init_94 ?_
  refine k_aload_n Ox dX5_init_97 rfl 0 rfl ?_
  refine k_sipush Ox (v := nI 200) dX5_init_98 rfl ?_
  refine k_newa Ox dX5_init_101 lk_X5_init_aint rfl ⟨Nat.le_of_ble_eq_true rfl, Nat.le_of_ble_eq_true rfl⟩ (fun q101 => ?_)
  show V x G _ 12 386 _ _ _ [_, _, _, _, _, _, _, _, _, _, _, _, _]
  refine k_putF Ox 0 rfl rfl hin_X5_init_X5 20 rfl lk_X5_init_f47 rfl tyX5 tyX5_ok nmX5 rfl rfl rfl rfl rfl rfl [_, _, _, _, _, _, _, _, _, _, _, _, _, _, _, _, _, _, _, _, _, _] rfl [_, _, _, _, _, _, _, _, _, _, _, _, _] rfl dX5_init_103 ?_
  refine k_aload_n Ox dX5_init_106 rfl 0 rfl ?_
  refine k_iconst Ox (v := nI 2) dX5_init_107 rfl ?_
  refine k_newz Ox dX5_init_108 lk_X5_init_aboolean rfl ⟨Nat.le_of_ble_eq_true rfl, Nat.le_of_ble_eq_true rfl⟩ (fun q108 => ?_)
  show V x G _ 13 388 _ _ _ [_, _, _, _, _, _, _, _, _, _, _, _, _, _]
  refine k_putF Ox 0 rfl rfl hin_X5_init_X5 21 rfl lk_X5_init_f50 rfl tyX5 tyX5_ok nmX5 rfl rfl rfl rfl rfl rfl [_, _, _, _, _, _, _, _, _, _, _, _, _, _, _, _, _, _, _, _, _, _] rfl [_, _, _, _, _, _, _, _, _, _, _, _, _, _] rfl dX5_init_110 ?_
  refine k_iconst Ox (v := nI 0) dX5_init_113 rfl ?_
  refine k_istore_n Ox [(1, _), (0, _)] dX5_init_114 rfl (by decide) rfl ?_
  have L115 : ∀ (fuel : Nat) (e : Nat) (L1 G1 O1 S1 : Nat → Nat), e ≤ 6 → 7 ≤ e + fuel → (∀ j, j < e → L1 j = ringL j) → (∀ j, j < e → G1 j = ringG j) → (∀ j, j < e → O1 j = j) → (∀ j, j < e → S1 j = 5) → V x G 2 13 388 115 [(0, .ref m), (1, .int (nI e))] [] [(m, cO 5 [.ref q7, .ref q15, .ref q23, .ref q31, .ref q39, .ref q47, .ref q55, .int (nI 3), .int 0, .ref q68, .int 0, .ref q76, .ref q84, .int 0, .int 0, .ref q92, .int 0, .int 0, .int 0, .int 0, .ref q101, .ref q108]), (q7, cI G 6 (rN L1)), (q15, cI G 6 (rN G1)), (q23, cI G 6 (rN O1)), (q31, cI G 6 (rN (fun _ => 0))), (q39, cI G 6 (rN (fun _ => 0))), (q47, cI G 36 (rN (flM (fun _ _ => 0)))), (q55, cI G 6 (rN S1)), (q68, cI G 12 (fun _ => nI 0)), (q76, cI G 60 (rN (fun _ => 0))), (q84, cI G 36 (fun _ => nI 0)), (q92, cI G 6 (fun _ => nI 0)), (q101, cI G 200 (fun _ => nI 0)), (q108, cZ G 2 (fun _ => nI 0))] := by
    intro fuel
    induction fuel with
    | zero => intro e L1 G1 O1 S1 he hfuel h1 h2 h3 h4; exact absurd he (by omega)
    | succ fuel ih =>
      intro e L1 G1 O1 S1 he hfuel h1 h2 h3 h4
      refine k_iload_n Ox dX5_init_115 rfl 1 rfl ?_
      refine k_bipush Ox (v := nI 6) dX5_init_116 rfl ?_
      refine k_icmp_geN Ox 175 dX5_init_118 rfl (by omega) (by omega) (fun c_118 => ?_) (fun c_118 => ?_)
      · obtain rfl : e = 6 := by omega
        refine k_cell 1 (rN ringL) rfl (fun z hz => congrArg nI (h1 z hz)) [_, _, _, _, _, _, _, _, _, _, _, _, _, _] rfl ?_
        refine k_cell 2 (rN ringG) rfl (fun z hz => congrArg nI (h2 z hz)) [_, _, _, _, _, _, _, _, _, _, _, _, _, _] rfl ?_
        refine k_cell 3 (rN (fun k => k)) rfl (fun z hz => congrArg nI (h3 z hz)) [_, _, _, _, _, _, _, _, _, _, _, _, _, _] rfl ?_
        refine k_cell 7 (rN (fun _ => 5)) rfl (fun z hz => congrArg nI (h4 z hz)) [_, _, _, _, _, _, _, _, _, _, _, _, _, _] rfl ?_
        refine k_cell 8 (rN (flS (fun _ => 0) (fun _ => 0))) rfl (fun z hz => congrArg nI (by unfold flS; split <;> rfl)) [_, _, _, _, _, _, _, _, _, _, _, _, _, _] rfl ?_
        refine k_cellZ (k := 13) (f := bN (fun _ => false)) (by funext z; rfl) rfl [_, _, _, _, _, _, _, _, _, _, _, _, _, _] rfl ?_
        refine k_vret (ws := [_]) (wb := [_, _, _, _, _, _, _, _, _, _, _, _, _]) Ox Rt dX5_init_175 (Nat.le_of_ble_eq_true rfl) (Nat.le_of_ble_eq_true rfl) rfl ?_
        exact ⟨rfl, _, _, _, _, _, _, _, _, _, _, _, _, _, rfl, rfl⟩
      · have L136 : ∀ (v : Nat), v = ringL e → V x G 2 13 388 136 [(0, .ref m), (1, .int (nI e))] [.int (nI v), .int (nI e), .ref q7] [(m, cO 5 [.ref q7, .ref q15, .ref q23, .ref q31, .ref q39, .ref q47, .ref q55, .int (nI 3), .int 0, .ref q68, .int 0, .ref q76, .ref q84, .int 0, .int 0, .ref q92, .int 0, .int 0, .int 0, .int 0, .ref q101, .ref q108]), (q7, cI G 6 (rN L1)), (q15, cI G 6 (rN G1)), (q23, cI G 6 (rN O1)), (q31, cI G 6 (rN (fun _ => 0))), (q39, cI G 6 (rN (fun _ => 0))), (q47, cI G 36 (rN (flM (fun _ _ => 0)))), (q55, cI G 6 (rN S1)), (q68, cI G 12 (fun _ => nI 0)), (q76, cI G 60 (rN (fun _ => 0))), (q84, cI G 36 (fun _ => nI 0)), (q92, cI G 6 (fun _ => nI 0)), (q101, cI G 200 (fun _ => nI 0)), (q108, cZ G 2 (fun _ => nI 0))] := by
          intro v hv
          refine k_iastN Ox 1 rfl (by omega) (by first | decide | omega) [_, _, _, _, _, _, _, _, _, _, _, _, _, _] rfl dX5_init_136 ?_
          have L154 : ∀ (u : Nat), u = ringG e → V x G 2 13 388 154 [(0, .ref m), (1, .int (nI e))] [.int (nI u), .int (nI e), .ref q15] [(m, cO 5 [.ref q7, .ref q15, .ref q23, .ref q31, .ref q39, .ref q47, .ref q55, .int (nI 3), .int 0, .ref q68, .int 0, .ref q76, .ref q84, .int 0, .int 0, .ref q92, .int 0, .int 0, .int 0, .int 0, .ref q101, .ref q108]), (q7, cI G 6 (rN (va_up L1 e v))), (q15, cI G 6 (rN G1)), (q23, cI G 6 (rN O1)), (q31, cI G 6 (rN (fun _ => 0))), (q39, cI G 6 (rN (fun _ => 0))), (q47, cI G 36 (rN (flM (fun _ _ => 0)))), (q55, cI G 6 (rN S1)), (q68, cI G 12 (fun _ => nI 0)), (q76, cI G 60 (rN (fun _ => 0))), (q84, cI G 36 (fun _ => nI 0)), (q92, cI G 6 (fun _ => nI 0)), (q101, cI G 200 (fun _ => nI 0)), (q108, cZ G 2 (fun _ => nI 0))] := by
            intro u hu
            refine k_iastN Ox 2 rfl (by omega) (by first | decide | omega) [_, _, _, _, _, _, _, _, _, _, _, _, _, _] rfl dX5_init_154 ?_
            refine k_aload_n Ox dX5_init_155 rfl 0 rfl ?_
            refine k_get Ox 0 rfl rfl hin_X5_init_X5 2 rfl lk_X5_init_f16 rfl rfl dX5_init_156 ?_
            refine k_iload_n Ox dX5_init_159 rfl 1 rfl ?_
            refine k_iload_n Ox dX5_init_160 rfl 1 rfl ?_
            refine k_iastN Ox 3 rfl (by omega) (by first | decide | omega) [_, _, _, _, _, _, _, _, _, _, _, _, _, _] rfl dX5_init_161 ?_
            refine k_aload_n Ox dX5_init_162 rfl 0 rfl ?_
            refine k_get Ox 0 rfl rfl hin_X5_init_X5 6 rfl lk_X5_init_f28 rfl rfl dX5_init_163 ?_
            refine k_iload_n Ox dX5_init_166 rfl 1 rfl ?_
            refine k_iconst Ox (v := nI 5) dX5_init_167 rfl ?_
            refine k_iastN Ox 7 rfl (by omega) (by first | decide | omega) [_, _, _, _, _, _, _, _, _, _, _, _, _, _] rfl dX5_init_168 ?_
            refine k_iincN Ox (k := 1) (m := 1) [(1, _), (0, _)] dX5_init_169 rfl rfl (by decide) rfl ?_
            refine k_goto Ox 115 dX5_init_172 rfl ?_
            refine k_sub [1, 0] [(0, _), (1, _)] rfl ?_
            exact ih (e + 1) _ _ _ _ (by omega) (by omega) (up_lt h1 hv) (up_lt h2 hu) (up_lt h3 rfl) (up_lt h4 rfl)
          refine k_aload_n Ox dX5_init_137 rfl 0 rfl ?_
          refine k_get Ox 0 rfl rfl hin_X5_init_X5 1 rfl lk_X5_init_f13 rfl rfl dX5_init_138 ?_
          refine k_iload_n Ox dX5_init_141 rfl 1 rfl ?_
          refine k_iload_n Ox dX5_init_142 rfl 1 rfl ?_
          refine k_iconst Ox (v := nI 5) dX5_init_143 rfl ?_
          refine k_icmp_neN Ox 151 dX5_init_144 rfl (by omega) (by omega) (fun c_144 => ?_) (fun c_144 => ?_)
          · refine k_iload_n Ox dX5_init_151 rfl 1 rfl ?_
            refine k_iconst Ox (v := nI 1) dX5_init_152 rfl ?_
            refine k_iaddN Ox dX5_init_153 ?_
            exact L154 _ (by unfold ringG; split <;> omega)
          · refine k_iconst Ox (v := nI 5) dX5_init_147 rfl ?_
            refine k_goto Ox 154 dX5_init_148 rfl ?_
            exact L154 _ (by unfold ringG; split <;> omega)
        refine k_aload_n Ox dX5_init_121 rfl 0 rfl ?_
        refine k_get Ox 0 rfl rfl hin_X5_init_X5 0 rfl lk_X5_init_f7 rfl rfl dX5_init_122 ?_
        refine k_iload_n Ox dX5_init_125 rfl 1 rfl ?_
        refine k_iload_n Ox dX5_init_126 rfl 1 rfl ?_
        refine k_iconst Ox (v := nI 5) dX5_init_127 rfl ?_
        refine k_icmp_neN Ox 135 dX5_init_128 rfl (by omega) (by omega) (fun c_128 => ?_) (fun c_128 => ?_)
        · refine k_iload_n Ox dX5_init_135 rfl 1 rfl ?_
          exact L136 _ (by unfold ringL; split <;> omega)
        · refine k_iconst Ox (v := nI 0) dX5_init_131 rfl ?_
          refine k_goto Ox 136 dX5_init_132 rfl ?_
          exact L136 _ (by unfold ringL; split <;> omega)
  refine k_sub [1, 0] [(0, _), (1, _)] rfl ?_
  exact L115 7 0 (fun _ => 0) (fun _ => 0) (fun _ => 0) (fun _ => 0) (by omega) (by omega) (fun j hj => absurd hj (by omega)) (fun j hj => absurd hj (by omega)) (fun j hj => absurd hj (by omega)) (fun j hj => absurd hj (by omega))
