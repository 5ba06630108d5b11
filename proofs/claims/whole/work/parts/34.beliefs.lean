theorem lk_X0_of_f9 : Cond.fieldLink RX0 9 "LieBridges$Beliefs" "days" "[I" ∈ wsX0_of := List.mem_of_getElem? (i := 1) rfl
theorem hin_X0_of_X0 : ∀ w ∈ u_ws RX0 TX0 1, w ∈ wsX0_of := fun _ h => List.mem_cons_of_mem _ (List.mem_append_right _ h)
set_option maxHeartbeats 400000 in
set_option maxRecDepth 4000 in
theorem c_X0_of (G : Gx) (h d : Nat) (B : Nat → Nat → Nat) (p a : Nat) (hp : p < 6) (ha : a < 6) : Ct G yX0_of wsX0_of { frames := 0, cells := 0, slots := 0, locals := 0 } [.ref h, .int (nI p), .int (nI a)] [(h, cO 0 [.ref d]), (d, cI G 36 (rN (flC B)))] (fun r wa => r = some (.int (nI (B a p))) ∧ wa = [(h, cO 0 [.ref d]), (d, cI G 36 (rN (flC B)))]) := by
  refine CtN.of [(0, .ref h), (1, .int (nI p)), (2, .int (nI a))] (by decide +kernel) rfl rfl rfl rfl ?_
  intro x Ox Rt
  refine k_iload_n Ox dX0_of_0 rfl 1 rfl ?_
  refine k_bipush Ox (v := nI 6) dX0_of_1 rfl ?_
  refine k_imulN Ox dX0_of_3 ?_
  refine k_iload_n Ox dX0_of_4 rfl 2 rfl ?_
  refine k_iaddN Ox dX0_of_5 ?_
  refine k_istore_n Ox [(3, _), (0, _), (1, _), (2, _)] dX0_of_6 rfl (by decide) rfl ?_
  refine k_iload_n Ox dX0_of_7 rfl 0 rfl ?_
  refine k_if_ltN Ox 29 dX0_of_8 rfl (by omega) ?_
  refine k_iload_n Ox dX0_of_11 rfl 0 rfl ?_
  refine k_aload_n Ox dX0_of_12 rfl 1 rfl ?_
  refine k_get Ox 0 rfl rfl hin_X0_of_X0 0 rfl lk_X0_of_f9 rfl rfl dX0_of_13 ?_
  refine k_alen Ox 1 0 rfl rfl dX0_of_16 ?_
  refine k_icmp_geN Ox 29 dX0_of_17 rfl (by omega) (by omega) (fun c_17 => ?_) (fun c_17 => ?_)
  · exfalso; omega
  · refine k_aload_n Ox dX0_of_20 rfl 1 rfl ?_
    refine k_get Ox 0 rfl rfl hin_X0_of_X0 0 rfl lk_X0_of_f9 rfl rfl dX0_of_21 ?_
    refine k_iload_n Ox dX0_of_24 rfl 0 rfl ?_
    refine k_iald Ox 1 rfl (by omega) (by first | decide | omega) dX0_of_25 ?_
    refine k_top (nI (B a p)) (congrArg nI (flC_at ha)) ?_
    refine k_goto Ox 30 dX0_of_26 rfl ?_
    refine k_iret0 Ox Rt dX0_of_30 (Nat.le_of_ble_eq_true rfl) (Nat.le_of_ble_eq_true rfl) rfl ?_
    exact ⟨⟨rfl, rfl⟩, rfl⟩
theorem lk_X0_set_f9 : Cond.fieldLink RX0 9 "LieBridges$Beliefs" "days" "[I" ∈ wsX0_set := List.mem_of_getElem? (i := 1) rfl
theorem hin_X0_set_X0 : ∀ w ∈ u_ws RX0 TX0 1, w ∈ wsX0_set := fun _ h => List.mem_cons_of_mem _ (List.mem_append_right _ h)
theorem lk_X0_set_sX4_put : Cond.static yX4_put ∈ wsX0_set := List.mem_of_getElem? (i := 2) rfl
theorem lk_X0_set_tX4 : Cond.initialized RX4 ∈ wsX0_set := List.mem_of_getElem? (i := 3) rfl
set_option maxHeartbeats 400000 in
set_option maxRecDepth 4000 in
theorem c_X0_set (G : Gx) (h d : Nat) (B : Nat → Nat → Nat) (p a v : Nat) (hp : p < 6) (ha : a < 6) : Ct G yX0_set wsX0_set { frames := 1, cells := 0, slots := 0, locals := 22 } [.ref h, .int (nI p), .int (nI a), .int (nI v)] [(h, cO 0 [.ref d]), (d, cI G 36 (rN (flC B)))] (fun r wa => r = none ∧ wa = [(h, cO 0 [.ref d]), (d, cI G 36 (rN (flC (up2 B a p v))))]) := by
  refine CtN.of [(0, .ref h), (1, .int (nI p)), (2, .int (nI a)), (3, .int (nI v))] (by decide +kernel) rfl rfl rfl rfl ?_
  intro x Ox Rt
  refine k_aload_n Ox dX0_set_0 rfl 0 rfl ?_
  refine k_get Ox 0 rfl rfl hin_X0_set_X0 0 rfl lk_X0_set_f9 rfl rfl dX0_set_1 ?_
  refine k_iload_n Ox dX0_set_4 rfl 1 rfl ?_
  refine k_bipush Ox (v := nI 6) dX0_set_5 rfl ?_
  refine k_imulN Ox dX0_set_7 ?_
  refine k_iload_n Ox dX0_set_8 rfl 2 rfl ?_
  refine k_iaddN Ox dX0_set_9 ?_
  refine k_iload_n Ox dX0_set_10 rfl 3 rfl ?_
  refine k_callSN Ox [1] (c_X4_put G _ _ _ _ _ (by omega) (by decide)) 3 rfl rfl rfl ⟨rfl, rfl⟩ rfl rfl gX0_set_X4_put_n15 (by decide +kernel) lk_X0_set_sX4_put lk_X0_set_tX4 ⟨(by decide +kernel), (by decide +kernel), (by decide +kernel)⟩ rfl dX0_set_11 (Nat.le_of_ble_eq_true rfl) rfl ⟨Nat.le_of_ble_eq_true rfl, Nat.le_of_ble_eq_true rfl⟩ (fun r wa wb hp => ?_)
  obtain ⟨⟨rfl, rfl⟩, rfl⟩ := hp
  show V x G _ _ _ _ _ _ [_, _]
  rw [rN_flC_up ha]
  refine k_vret0 Ox Rt dX0_set_14 (Nat.le_of_ble_eq_true rfl) (Nat.le_of_ble_eq_true rfl) rfl ?_
  exact ⟨⟨rfl, rfl⟩, rfl⟩
set_option maxHeartbeats 400000 in
set_option maxRecDepth 4000 in
theorem c_X0_load (G : Gx) (h d : Nat) (B : Nat → Nat → Nat) (p g : Nat) (hp : p < 6) (hg : g < 100) (hB : okB B) : Ct G yX0_load wsX0_load { frames := 1, cells := 0, slots := 0, locals := 23 } [.ref h, .int (nI p), .int (nI g)] [(h, cO 0 [.ref d]), (d, cI G 36 (rN (flC B)))] (fun r wa => r = some (.int (nI (ld B p g))) ∧ wa = [(h, cO 0 [.ref d]), (d, cI G 36 (rN (flC B)))]) := by
  refine CtN.of [(0, .ref h), (1, .int (nI p)), (2, .int (nI g))] (by decide +kernel) rfl rfl rfl rfl ?_
  intro x Ox Rt
  refine k_iconst Ox (v := nI 0) dX0_load_0 rfl ?_
  refine k_istore_n Ox [(3, _), (0, _), (1, _), (2, _)] dX0_load_1 rfl (by decide) rfl ?_
  refine k_iconst Ox (v := nI 0) dX0_load_2 rfl ?_
  refine k_istore Ox [(4, _), (3, _), (0, _), (1, _), (2, _)] dX0_load_3 (by decide) rfl ?_
  have L5 : ∀ (fuel : Nat) (i m : Nat), i ≤ 6 → 7 ≤ i + fuel → m = cnt (fun a => decide (g < B a p)) i → V x G 5 0 0 5 [(0, .ref h), (1, .int (nI p)), (2, .int (nI g)), (3, .int (nI m)), (4, .int (nI i))] [] [(h, cO 0 [.ref d]), (d, cI G 36 (rN (flC B)))] := by
    intro fuel
    induction fuel with
    | zero => intro i m hi hfuel hm; exact absurd hi (by omega)
    | succ fuel ih =>
      intro i m hi hfuel hm
      refine k_iload Ox dX0_load_5 4 rfl ?_
      refine k_bipush Ox (v := nI 6) dX0_load_7 rfl ?_
      refine k_icmp_geN Ox 32 dX0_load_9 rfl (by omega) (by omega) (fun c_9 => ?_) (fun c_9 => ?_)
      · obtain rfl : i = 6 := by omega
        refine k_iload_n Ox dX0_load_32 rfl 3 rfl ?_
        refine k_iret0 Ox Rt dX0_load_33 (Nat.le_of_ble_eq_true rfl) (Nat.le_of_ble_eq_true rfl) rfl ?_
        exact ⟨⟨by rw [hm]; rfl, rfl⟩, rfl⟩
      · refine k_aload_n Ox dX0_load_12 rfl 0 rfl ?_
        refine k_iload_n Ox dX0_load_13 rfl 1 rfl ?_
        refine k_iload Ox dX0_load_14 4 rfl ?_
        refine k_callV Ox [0, 1] (c_X0_of G _ _ _ _ _ (by omega) (by omega)) 2 rfl rfl rfl ⟨rfl, rfl⟩ rfl rfl gX0_load_X0_of rfl 0 rfl ⟨rfl, (by decide +kernel), (by decide +kernel), (by decide +kernel)⟩ rfl dX0_load_16 (Nat.le_of_ble_eq_true rfl) rfl ⟨Nat.le_of_ble_eq_true rfl, Nat.le_of_ble_eq_true rfl⟩ (fun r wa wb hp => ?_)
        obtain ⟨⟨rfl, rfl⟩, rfl⟩ := hp
        show V x G _ _ _ _ _ (.int _ :: _) [_, _]
        refine k_iload_n Ox dX0_load_19 rfl 2 rfl ?_
        have hb1 := hB i p (by omega) hp
        refine k_icmp_leN Ox 26 dX0_load_20 rfl (by omega) (by omega) (fun c_20 => ?_) (fun c_20 => ?_)
        · refine k_iincN Ox (k := 4) (m := 1) [(4, _), (0, _), (1, _), (2, _), (3, _)] dX0_load_26 rfl rfl (by decide) rfl ?_
          refine k_goto Ox 5 dX0_load_29 rfl ?_
          refine k_sub [1, 2, 3, 4, 0] [(0, _), (1, _), (2, _), (3, _), (4, _)] rfl ?_
          exact ih (i + 1) _ (by omega) (by omega) (by simp only [cnt, decide_eq_true_eq]; split <;> omega)
        · refine k_iincN Ox (k := 3) (m := 1) [(3, _), (0, _), (1, _), (2, _), (4, _)] dX0_load_23 rfl rfl (by decide) rfl ?_
          refine k_iincN Ox (k := 4) (m := 1) [(4, _), (3, _), (0, _), (1, _), (2, _)] dX0_load_26 rfl rfl (by decide) rfl ?_
          refine k_goto Ox 5 dX0_load_29 rfl ?_
          refine k_sub [2, 3, 4, 1, 0] [(0, _), (1, _), (2, _), (3, _), (4, _)] rfl ?_
          exact ih (i + 1) _ (by omega) (by omega) (by simp only [cnt, decide_eq_true_eq]; split <;> omega)
  refine k_sub [2, 3, 4, 1, 0] [(0, _), (1, _), (2, _), (3, _), (4, _)] rfl ?_
  exact L5 7 0 0 (by omega) (by omega) rfl
theorem lk_X0_fadeADay_f9 : Cond.fieldLink RX0 9 "LieBridges$Beliefs" "days" "[I" ∈ wsX0_fadeADay := List.mem_of_getElem? (i := 1) rfl
theorem hin_X0_fadeADay_X0 : ∀ w ∈ u_ws RX0 TX0 1, w ∈ wsX0_fadeADay := fun _ h => List.mem_cons_of_mem _ (List.mem_append_right _ h)
set_option maxHeartbeats 400000 in
set_option maxRecDepth 4000 in
theorem c_X0_fadeADay (G : Gx) (h d : Nat) (B : Nat → Nat → Nat) (hB : okB B) : Ct G yX0_fadeADay wsX0_fadeADay { frames := 0, cells := 0, slots := 0, locals := 0 } [.ref h] [(h, cO 0 [.ref d]), (d, cI G 36 (rN (flC B)))] (fun r wa => r = none ∧ wa = [(h, cO 0 [.ref d]), (d, cI G 36 (rN (flC (fdB B))))]) := by
  refine CtN.of [(0, .ref h)] (by decide +kernel) rfl rfl rfl rfl ?_
  intro x Ox Rt
  refine k_iconst Ox (v := nI 0) dX0_fadeADay_0 rfl ?_
  refine k_istore_n Ox [(1, _), (0, _)] dX0_fadeADay_1 rfl (by decide) rfl ?_
  have L2 : ∀ (fuel : Nat) (i : Nat) (D : Nat → Nat), i ≤ 36 → 37 ≤ i + fuel → (∀ j, j < i → D j = flC B j - 1) → (∀ j, i ≤ j → D j = flC B j) → V x G 2 0 0 2 [(0, .ref h), (1, .int (nI i))] [] [(h, cO 0 [.ref d]), (d, cI G 36 (rN D))] := by
    intro fuel
    induction fuel with
    | zero => intro i D hi hfuel h1 h2; exact absurd hi (by omega)
    | succ fuel ih =>
      intro i D hi hfuel h1 h2
      refine k_iload_n Ox dX0_fadeADay_2 rfl 1 rfl ?_
      refine k_aload_n Ox dX0_fadeADay_3 rfl 0 rfl ?_
      refine k_get Ox 0 rfl rfl hin_X0_fadeADay_X0 0 rfl lk_X0_fadeADay_f9 rfl rfl dX0_fadeADay_4 ?_
      refine k_alen Ox 1 0 rfl rfl dX0_fadeADay_7 ?_
      refine k_icmp_geN Ox 36 dX0_fadeADay_8 rfl (by omega) (by omega) (fun c_8 => ?_) (fun c_8 => ?_)
      · refine k_cell 1 (rN (flC (fdB B))) rfl (fun j hj => congrArg nI (h1 j (by omega))) [_, _] rfl ?_
        refine k_vret0 Ox Rt dX0_fadeADay_36 (Nat.le_of_ble_eq_true rfl) (Nat.le_of_ble_eq_true rfl) rfl ?_
        exact ⟨⟨rfl, rfl⟩, rfl⟩
      · have hb1 := flC_le hB (show i < 36 by omega)
        have hb2 := h2 i (Nat.le_refl _)
        refine k_aload_n Ox dX0_fadeADay_11 rfl 0 rfl ?_
        refine k_get Ox 0 rfl rfl hin_X0_fadeADay_X0 0 rfl lk_X0_fadeADay_f9 rfl rfl dX0_fadeADay_12 ?_
        refine k_iload_n Ox dX0_fadeADay_15 rfl 1 rfl ?_
        refine k_iald Ox 1 rfl (by omega) (by first | decide | omega) dX0_fadeADay_16 ?_
        refine k_if_leN Ox 30 dX0_fadeADay_17 rfl (by omega) (fun c_17 => ?_) (fun c_17 => ?_)
        · refine k_iincN Ox (k := 1) (m := 1) [(1, _), (0, _)] dX0_fadeADay_30 rfl rfl (by decide) rfl ?_
          refine k_goto Ox 2 dX0_fadeADay_33 rfl ?_
          refine k_sub [1, 0] [(0, _), (1, _)] rfl ?_
          refine ih (i + 1) _ (by omega) (by omega) (fun j hj => ?_) (fun j hj => ?_)
          · first | exact fd_lo h1 h2 hj | exact fd_lo0 h1 h2 c_17 hj
          · first | exact fd_hi h2 hj | exact h2 j (by omega)
        · refine k_aload_n Ox dX0_fadeADay_20 rfl 0 rfl ?_
          refine k_get Ox 0 rfl rfl hin_X0_fadeADay_X0 0 rfl lk_X0_fadeADay_f9 rfl rfl dX0_fadeADay_21 ?_
          refine k_iload_n Ox dX0_fadeADay_24 rfl 1 rfl ?_
          refine k_dup2 Ox dX0_fadeADay_25 rfl rfl ?_
          refine k_iald Ox 1 rfl (by omega) (by first | decide | omega) dX0_fadeADay_26 ?_
          refine k_iconst Ox (v := nI 1) dX0_fadeADay_27 rfl ?_
          refine k_isubN Ox dX0_fadeADay_28 (by omega) ?_
          refine k_iastN Ox 1 rfl (by omega) (by first | decide | omega) [_, _] rfl dX0_fadeADay_29 ?_
          refine k_iincN Ox (k := 1) (m := 1) [(1, _), (0, _)] dX0_fadeADay_30 rfl rfl (by decide) rfl ?_
          refine k_goto Ox 2 dX0_fadeADay_33 rfl ?_
          refine k_sub [1, 0] [(0, _), (1, _)] rfl ?_
          refine ih (i + 1) _ (by omega) (by omega) (fun j hj => ?_) (fun j hj => ?_)
          · first | exact fd_lo h1 h2 hj | exact fd_lo0 h1 h2 c_17 hj
          · first | exact fd_hi h2 hj | exact h2 j (by omega)
  refine k_sub [1, 0] [(0, _), (1, _)] rfl ?_
  exact L2 37 0 (flC B) (by omega) (by omega) (fun j hj => absurd hj (by omega)) (fun j hj => rfl)
theorem lk_X0_become_f9 : Cond.fieldLink RX0 9 "LieBridges$Beliefs" "days" "[I" ∈ wsX0_become := List.mem_of_getElem? (i := 1) rfl
theorem hin_X0_become_X0 : ∀ w ∈ u_ws RX0 TX0 1, w ∈ wsX0_become := fun _ h => List.mem_cons_of_mem _ (List.mem_append_right _ h)
theorem lk_X0_become_sX4_copy : Cond.static yX4_copy ∈ wsX0_become := List.mem_of_getElem? (i := 2) rfl
theorem lk_X0_become_tX4 : Cond.initialized RX4 ∈ wsX0_become := List.mem_of_getElem? (i := 3) rfl
set_option maxHeartbeats 400000 in
set_option maxRecDepth 4000 in
theorem c_X0_become (G : Gx) (h d h2 d2 : Nat) (B : Nat → Nat → Nat) (g : Nat → Int32) : Ct G yX0_become wsX0_become { frames := 2, cells := 0, slots := 0, locals := 43 } [.ref h, .ref h2] [(h, cO 0 [.ref d]), (d, cI G 36 g), (h2, cO 0 [.ref d2]), (d2, cI G 36 (rN (flC B)))] (fun r wa => r = none ∧ wa = [(h, cO 0 [.ref d]), (d, cI G 36 (rN (flC B))), (h2, cO 0 [.ref d2]), (d2, cI G 36 (rN (flC B)))]) := by
  refine CtN.of [(0, .ref h), (1, .ref h2)] (by decide +kernel) rfl rfl rfl rfl ?_
  intro x Ox Rt
  refine k_aload_n Ox dX0_become_0 rfl 1 rfl ?_
  refine k_get Ox 2 rfl rfl hin_X0_become_X0 0 rfl lk_X0_become_f9 rfl rfl dX0_become_1 ?_
  refine k_aload_n Ox dX0_become_4 rfl 0 rfl ?_
  refine k_get Ox 0 rfl rfl hin_X0_become_X0 0 rfl lk_X0_become_f9 rfl rfl dX0_become_5 ?_
  refine k_callSN Ox [3, 1] (c_X4_copy G _ _ _ _ _ (by decide)) 2 rfl rfl rfl ⟨rfl, rfl⟩ rfl rfl gX0_become_X4_copy_n23 (by decide +kernel) lk_X0_become_sX4_copy lk_X0_become_tX4 ⟨(by decide +kernel), (by decide +kernel), (by decide +kernel)⟩ rfl dX0_become_8 (Nat.le_of_ble_eq_true rfl) rfl ⟨Nat.le_of_ble_eq_true rfl, Nat.le_of_ble_eq_true rfl⟩ (fun r wa wb hp => ?_)
  obtain ⟨⟨rfl, rfl⟩, rfl⟩ := hp
  show V x G _ _ _ _ _ _ [_, _, _, _]
  refine k_vret0 Ox Rt dX0_become_11 (Nat.le_of_ble_eq_true rfl) (Nat.le_of_ble_eq_true rfl) rfl ?_
  exact ⟨⟨rfl, rfl⟩, rfl⟩
