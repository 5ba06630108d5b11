theorem lk_X0_init_m3 : Cond.methodLink RX0 3 objectInit ∈ wsX0_init := List.mem_of_getElem? (i := 1) rfl
theorem lk_X0_init_oi : Cond.instanceMethod objectInit ∈ wsX0_init := List.mem_of_getElem? (i := 2) rfl
theorem lk_X0_init_oc : Cond.code objectInit ⟨#[0xb1]⟩ 1 none ∈ wsX0_init := List.mem_of_getElem? (i := 3) rfl
theorem lk_X0_init_aint : Cond.arrayClass .int ∈ wsX0_init := List.mem_of_getElem? (i := 4) rfl
theorem lk_X0_init_f9 : Cond.fieldLink RX0 9 "LieBridges$Beliefs" "days" "[I" ∈ wsX0_init := List.mem_of_getElem? (i := 5) rfl
theorem hin_X0_init_X0 : ∀ w ∈ u_ws RX0 TX0 1, w ∈ wsX0_init := fun _ h => List.mem_cons_of_mem _ (List.mem_append_right _ h)
set_option maxHeartbeats 400000 in
set_option maxRecDepth 4000 in
theorem c_X0_init (G : Gx) (h : Nat) : CtN G yX0_init wsX0_init { frames := 1, cells := 1, slots := 36, locals := 12 } [.ref h] [(h, cO 0 [.null])] (fun r wa wb => r = none ∧ ∃ d : Nat, wa = [(h, cO 0 [.ref d])] ∧ wb = [(d, cI G 36 (fun _ => nI 0))]) 1 36 := by
  refine CtN.of [(0, .ref h)] (by decide +kernel) rfl rfl rfl rfl ?_
  intro x Ox Rt
  refine k_aload_n Ox dX0_init_0 rfl 0 rfl ?_
  refine k_objInit Ox lk_X0_init_m3 lk_X0_init_oi lk_X0_init_oc dX0_init_1 (by decide) (Nat.le_of_ble_eq_true rfl) ?_
  refine k_aload_n Ox dX0_init_4 rfl 0 rfl ?_
  refine k_bipush Ox (v := nI 36) dX0_init_5 rfl ?_
  refine k_newa Ox dX0_init_7 lk_X0_init_aint rfl ⟨Nat.le_of_ble_eq_true rfl, Nat.le_of_ble_eq_true rfl⟩ (fun q7 => ?_)
  show V x G _ 1 36 _ _ _ [_, _]
  refine k_putF Ox 0 rfl rfl hin_X0_init_X0 0 rfl lk_X0_init_f9 rfl tyX0 tyX0_ok nmX0 rfl rfl rfl rfl rfl rfl [_, _] rfl dX0_init_9 ?_
  refine k_vret (ws := [_]) (wb := [_]) Ox Rt dX0_init_12 (Nat.le_of_ble_eq_true rfl) (Nat.le_of_ble_eq_true rfl) rfl ?_
  exact ⟨rfl, _, rfl, rfl⟩
