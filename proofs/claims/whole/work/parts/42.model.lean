set_option maxHeartbeats 400000 in
set_option maxRecDepth 4000 in
theorem c_X5_in (G : Gx) (v l h : Int32) : Ct G yX5_in wsX5_in { frames := 0, cells := 0, slots := 0, locals := 0 } [.int v, .int l, .int h] [] (fun r wa => r = some (.int (bI (inR l.toInt h.toInt v))) ∧ wa = []) := by
  refine CtN.of [(0, .int v), (1, .int l), (2, .int h)] (by decide +kernel) rfl rfl rfl rfl ?_
  intro x Ox Rt
  refine k_iload_n Ox dX5_in_0 rfl 0 rfl ?_
  refine k_iload_n Ox dX5_in_1 rfl 1 rfl ?_
  refine k_icmp_lt Ox 14 dX5_in_2 rfl (fun c_2 => ?_) (fun c_2 => ?_)
  · refine k_iconst Ox (v := nI 0) dX5_in_14 rfl ?_
    refine k_zret0 Ox Rt dX5_in_15 (by first | exact bI_nar _ | decide) (Nat.le_of_ble_eq_true rfl) (Nat.le_of_ble_eq_true rfl) rfl ?_
    refine ⟨⟨congrArg (fun z => some (Value.int z)) ?_, rfl⟩, rfl⟩
    first | exact (show nI 1 = bI (inR l.toInt h.toInt v) by rw [show inR l.toInt h.toInt v = true from decide_eq_true ⟨by omega, by omega⟩]; rfl) | exact (show nI 0 = bI (inR l.toInt h.toInt v) by rw [show inR l.toInt h.toInt v = false from decide_eq_false (by omega)]; rfl)
  · refine k_iload_n Ox dX5_in_5 rfl 0 rfl ?_
    refine k_iload_n Ox dX5_in_6 rfl 2 rfl ?_
    refine k_icmp_gt Ox 14 dX5_in_7 rfl (fun c_7 => ?_) (fun c_7 => ?_)
    · refine k_iconst Ox (v := nI 0) dX5_in_14 rfl ?_
      refine k_zret0 Ox Rt dX5_in_15 (by first | exact bI_nar _ | decide) (Nat.le_of_ble_eq_true rfl) (Nat.le_of_ble_eq_true rfl) rfl ?_
      refine ⟨⟨congrArg (fun z => some (Value.int z)) ?_, rfl⟩, rfl⟩
      first | exact (show nI 1 = bI (inR l.toInt h.toInt v) by rw [show inR l.toInt h.toInt v = true from decide_eq_true ⟨by omega, by omega⟩]; rfl) | exact (show nI 0 = bI (inR l.toInt h.toInt v) by rw [show inR l.toInt h.toInt v = false from decide_eq_false (by omega)]; rfl)
    · refine k_iconst Ox (v := nI 1) dX5_in_10 rfl ?_
      refine k_goto Ox 15 dX5_in_11 rfl ?_
      refine k_zret0 Ox Rt dX5_in_15 (by first | exact bI_nar _ | decide) (Nat.le_of_ble_eq_true rfl) (Nat.le_of_ble_eq_true rfl) rfl ?_
      refine ⟨⟨congrArg (fun z => some (Value.int z)) ?_, rfl⟩, rfl⟩
      first | exact (show nI 1 = bI (inR l.toInt h.toInt v) by rw [show inR l.toInt h.toInt v = true from decide_eq_true ⟨by omega, by omega⟩]; rfl) | exact (show nI 0 = bI (inR l.toInt h.toInt v) by rw [show inR l.toInt h.toInt v = false from decide_eq_false (by omega)]; rfl)
set_option maxHeartbeats 400000 in
set_option maxRecDepth 4000 in
theorem c_X5_is6 (G : Gx) (v : Int32) : Ct G yX5_is6 wsX5_is6 { frames := 1, cells := 0, slots := 0, locals := 22 } [.int v] [] (fun r wa => r = some (.int (bI (inR 0 5 v))) ∧ wa = []) := by
  refine CtN.of [(0, .int v)] (by decide +kernel) rfl rfl rfl rfl ?_
  intro x Ox Rt
  refine k_iload_n Ox dX5_is6_0 rfl 0 rfl ?_
  refine k_iconst Ox (v := nI 0) dX5_is6_1 rfl ?_
  refine k_iconst Ox (v := nI 5) dX5_is6_2 rfl ?_
  refine k_callS Ox [] (c_X5_in G _ _ _ ) 3 rfl rfl rfl ⟨rfl, rfl⟩ rfl rfl gX5_is6_X5_in ⟨(by decide +kernel), (by decide +kernel), (by decide +kernel)⟩ rfl dX5_is6_3 (Nat.le_of_ble_eq_true rfl) rfl ⟨Nat.le_of_ble_eq_true rfl, Nat.le_of_ble_eq_true rfl⟩ (fun r wa wb hp => ?_)
  obtain ⟨⟨rfl, rfl⟩, rfl⟩ := hp
  show V x G _ _ _ _ _ (.int _ :: _) []
  change V x G _ _ _ _ _ (.int (bI (inR (0) (5) _)) :: _) _
  refine k_zret0 Ox Rt dX5_is6_6 (by first | exact bI_nar _ | decide) (Nat.le_of_ble_eq_true rfl) (Nat.le_of_ble_eq_true rfl) rfl ?_
  exact ⟨⟨rfl, rfl⟩, rfl⟩
set_option maxHeartbeats 400000 in
set_option maxRecDepth 4000 in
theorem c_X5_has (G : Gx) (m b : Nat) (hm : m < 64) (hb : b < 6) : Ct G yX5_has wsX5_has { frames := 0, cells := 0, slots := 0, locals := 0 } [.int (nI m), .int (nI b)] [] (fun r wa => r = some (.int (bI (m.testBit b))) ∧ wa = []) := by
  refine CtN.of [(0, .int (nI m)), (1, .int (nI b))] (by decide +kernel) rfl rfl rfl rfl ?_
  intro x Ox Rt
  refine k_iload_n Ox dX5_has_0 rfl 0 rfl ?_
  refine k_iload_n Ox dX5_has_1 rfl 1 rfl ?_
  refine k_ishr Ox dX5_has_2 ?_
  refine k_iconst Ox (v := nI 1) dX5_has_3 rfl ?_
  refine k_iand Ox dX5_has_4 ?_
  refine k_top _ (hasb _ hm _ hb) ?_
  refine k_iconst Ox (v := nI 1) dX5_has_5 rfl ?_
  refine k_icmp_ne Ox 13 dX5_has_6 rfl (fun c_6 => ?_) (fun c_6 => ?_)
  · refine k_iconst Ox (v := nI 0) dX5_has_13 rfl ?_
    refine k_zret0 Ox Rt dX5_has_14 (by first | exact bI_nar _ | decide) (Nat.le_of_ble_eq_true rfl) (Nat.le_of_ble_eq_true rfl) rfl ?_
    exact ⟨⟨congrArg (fun z => some (Value.int z)) (by revert c_6; cases m.testBit b <;> decide), rfl⟩, rfl⟩
  · refine k_iconst Ox (v := nI 1) dX5_has_9 rfl ?_
    refine k_goto Ox 14 dX5_has_10 rfl ?_
    refine k_zret0 Ox Rt dX5_has_14 (by first | exact bI_nar _ | decide) (Nat.le_of_ble_eq_true rfl) (Nat.le_of_ble_eq_true rfl) rfl ?_
    exact ⟨⟨congrArg (fun z => some (Value.int z)) (by revert c_6; cases m.testBit b <;> decide), rfl⟩, rfl⟩
theorem lk_X5_over_f7 : Cond.fieldLink RX5 7 "LieBridgesModel" "one" "[I" ∈ wsX5_over := List.mem_of_getElem? (i := 1) rfl
theorem hin_X5_over_X5 : ∀ w ∈ u_ws RX5 TX5 22, w ∈ wsX5_over := fun _ h => List.mem_cons_of_mem _ (List.mem_append_right _ h)
theorem lk_X5_over_f13 : Cond.fieldLink RX5 13 "LieBridgesModel" "two" "[I" ∈ wsX5_over := List.mem_of_getElem? (i := 2) rfl
set_option maxHeartbeats 400000 in
set_option maxRecDepth 4000 in
theorem c_X5_over (G : Gx) (m a1 a2 a3 a4 a5 a6 a7 a8 a9 a10 a11 a12 a13 : Nat) (fd sg mn : Nat) (w1 w2 w3 w4 w5 w6 : Int32) (L Gr : Nat → Nat) (p i : Nat) (hL : okP L) (hG : okP Gr) (hp : p < 6) (hi : i < 6) : Ct G yX5_over wsX5_over { frames := 0, cells := 0, slots := 0, locals := 0 } [.ref m, .int (nI p), .int (nI i)] [(m, cO 5 [.ref a1, .ref a2, .ref a3, .ref a4, .ref a5, .ref a6, .ref a7, .int (nI fd), .int (nI sg), .ref a8, .int (nI mn), .ref a9, .ref a10, .int w1, .int w2, .ref a11, .int w3, .int w4, .int w5, .int w6, .ref a12, .ref a13]), (a1, cI G 6 (rN L)), (a2, cI G 6 (rN Gr))] (fun r wa => r = some (.int (ovr L Gr p i)) ∧ wa = [(m, cO 5 [.ref a1, .ref a2, .ref a3, .ref a4, .ref a5, .ref a6, .ref a7, .int (nI fd), .int (nI sg), .ref a8, .int (nI mn), .ref a9, .ref a10, .int w1, .int w2, .ref a11, .int w3, .int w4, .int w5, .int w6, .ref a12, .ref a13]), (a1, cI G 6 (rN L)), (a2, cI G 6 (rN Gr))]) := by
  refine CtN.of [(0, .ref m), (1, .int (nI p)), (2, .int (nI i))] (by decide +kernel) rfl rfl rfl rfl ?_
  intro x Ox Rt
  have hl1 := hL p hp
  have hg1 := hG p hp
  refine k_aload_n Ox dX5_over_0 rfl 0 rfl ?_
  refine k_get Ox 0 rfl rfl hin_X5_over_X5 0 rfl lk_X5_over_f7 rfl rfl dX5_over_1 ?_
  refine k_iload_n Ox dX5_over_4 rfl 1 rfl ?_
  refine k_iald Ox 1 rfl (by omega) (by first | decide | omega) dX5_over_5 ?_
  refine k_iload_n Ox dX5_over_6 rfl 2 rfl ?_
  refine k_icmp_neN Ox 19 dX5_over_7 rfl (by omega) (by omega) (fun c_7 => ?_) (fun c_7 => ?_)
  · refine k_aload_n Ox dX5_over_19 rfl 0 rfl ?_
    refine k_get Ox 0 rfl rfl hin_X5_over_X5 1 rfl lk_X5_over_f13 rfl rfl dX5_over_20 ?_
    refine k_iload_n Ox dX5_over_23 rfl 1 rfl ?_
    refine k_iald Ox 2 rfl (by omega) (by first | decide | omega) dX5_over_24 ?_
    refine k_iload_n Ox dX5_over_25 rfl 2 rfl ?_
    refine k_icmp_neN Ox 38 dX5_over_26 rfl (by omega) (by omega) (fun c_26 => ?_) (fun c_26 => ?_)
    · refine k_bipush Ox (v := -6) dX5_over_38 (by decide) ?_
      refine k_iret0 Ox Rt dX5_over_40 (Nat.le_of_ble_eq_true rfl) (Nat.le_of_ble_eq_true rfl) rfl ?_
      exact ⟨⟨congrArg (fun z => some (Value.int z)) (by unfold ovr nxt; first | (rw [if_pos c_7]; done) | (rw [if_neg c_7, if_pos c_26]; done) | (rw [if_neg c_7, if_neg c_26]; done)), rfl⟩, rfl⟩
    · refine k_aload_n Ox dX5_over_29 rfl 0 rfl ?_
      refine k_get Ox 0 rfl rfl hin_X5_over_X5 0 rfl lk_X5_over_f7 rfl rfl dX5_over_30 ?_
      refine k_iload_n Ox dX5_over_33 rfl 1 rfl ?_
      refine k_iald Ox 1 rfl (by omega) (by first | decide | omega) dX5_over_34 ?_
      refine k_goto Ox 40 dX5_over_35 rfl ?_
      refine k_iret0 Ox Rt dX5_over_40 (Nat.le_of_ble_eq_true rfl) (Nat.le_of_ble_eq_true rfl) rfl ?_
      exact ⟨⟨congrArg (fun z => some (Value.int z)) (by unfold ovr nxt; first | (rw [if_pos c_7]; done) | (rw [if_neg c_7, if_pos c_26]; done) | (rw [if_neg c_7, if_neg c_26]; done)), rfl⟩, rfl⟩
  · refine k_aload_n Ox dX5_over_10 rfl 0 rfl ?_
    refine k_get Ox 0 rfl rfl hin_X5_over_X5 1 rfl lk_X5_over_f13 rfl rfl dX5_over_11 ?_
    refine k_iload_n Ox dX5_over_14 rfl 1 rfl ?_
    refine k_iald Ox 2 rfl (by omega) (by first | decide | omega) dX5_over_15 ?_
    refine k_goto Ox 40 dX5_over_16 rfl ?_
    refine k_iret0 Ox Rt dX5_over_40 (Nat.le_of_ble_eq_true rfl) (Nat.le_of_ble_eq_true rfl) rfl ?_
    exact ⟨⟨congrArg (fun z => some (Value.int z)) (by unfold ovr nxt; first | (rw [if_pos c_7]; done) | (rw [if_neg c_7, if_pos c_26]; done) | (rw [if_neg c_7, if_neg c_26]; done)), rfl⟩, rfl⟩
theorem lk_X5_asNow_f41 : Cond.fieldLink RX5 41 "LieBridgesModel" "now" "[I" ∈ wsX5_asNow := List.mem_of_getElem? (i := 1) rfl
theorem hin_X5_asNow_X5 : ∀ w ∈ u_ws RX5 TX5 22, w ∈ wsX5_asNow := fun _ h => List.mem_cons_of_mem _ (List.mem_append_right _ h)
theorem lk_X5_asNow_f25 : Cond.fieldLink RX5 25 "LieBridgesModel" "days" "[I" ∈ wsX5_asNow := List.mem_of_getElem? (i := 2) rfl
set_option maxHeartbeats 400000 in
set_option maxRecDepth 4000 in
theorem c_X5_asNow (G : Gx) (m a1 a2 a3 a4 a5 a6 a7 a8 a9 a10 a11 a12 a13 : Nat) (fd sg mn : Nat) (w1 w2 w3 w4 w5 w6 : Int32) (B : Nat → Nat → Nat) (g : Nat → Int32) : Ct G yX5_asNow wsX5_asNow { frames := 0, cells := 0, slots := 0, locals := 0 } [.ref m] [(m, cO 5 [.ref a1, .ref a2, .ref a3, .ref a4, .ref a5, .ref a6, .ref a7, .int (nI fd), .int (nI sg), .ref a8, .int (nI mn), .ref a9, .ref a10, .int w1, .int w2, .ref a11, .int w3, .int w4, .int w5, .int w6, .ref a12, .ref a13]), (a6, cI G 36 (rN (flM B))), (a10, cI G 36 g)] (fun r wa => r = none ∧ wa = [(m, cO 5 [.ref a1, .ref a2, .ref a3, .ref a4, .ref a5, .ref a6, .ref a7, .int (nI fd), .int (nI sg), .ref a8, .int (nI mn), .ref a9, .ref a10, .int w1, .int w2, .ref a11, .int w3, .int w4, .int w5, .int w6, .ref a12, .ref a13]), (a6, cI G 36 (rN (flM B))), (a10, cI G 36 (rN (flM B)))]) := by
  refine CtN.of [(0, .ref m)] (by decide +kernel) rfl rfl rfl rfl ?_
  intro x Ox Rt
  refine k_iconst Ox (v := nI 0) dX5_asNow_0 rfl ?_
  refine k_istore_n Ox [(1, _), (0, _)] dX5_asNow_1 rfl (by decide) rfl ?_
  have L2 : ∀ (fuel : Nat) (i : Nat) (g : Nat → Int32), i ≤ 36 → 37 ≤ i + fuel → (∀ j, j < i → g j = rN (flM B) j) → V x G 2 0 0 2 [(0, .ref m), (1, .int (nI i))] [] [(m, cO 5 [.ref a1, .ref a2, .ref a3, .ref a4, .ref a5, .ref a6, .ref a7, .int (nI fd), .int (nI sg), .ref a8, .int (nI mn), .ref a9, .ref a10, .int w1, .int w2, .ref a11, .int w3, .int w4, .int w5, .int w6, .ref a12, .ref a13]), (a6, cI G 36 (rN (flM B))), (a10, cI G 36 g)] := by
    intro fuel
    induction fuel with
    | zero => intro i g hi hfuel hg; exact absurd hi (by omega)
    | succ fuel ih =>
      intro i g hi hfuel hg
      refine k_iload_n Ox dX5_asNow_2 rfl 1 rfl ?_
      refine k_bipush Ox (v := nI 36) dX5_asNow_3 rfl ?_
      refine k_icmp_geN Ox 26 dX5_asNow_5 rfl (by omega) (by omega) (fun c_5 => ?_) (fun c_5 => ?_)
      · refine k_cell 2 (rN (flM B)) rfl (fun j hj => hg j (by omega)) [_, _, _] rfl ?_
        refine k_vret0 Ox Rt dX5_asNow_26 (Nat.le_of_ble_eq_true rfl) (Nat.le_of_ble_eq_true rfl) rfl ?_
        exact ⟨⟨rfl, rfl⟩, rfl⟩
      · refine k_aload_n Ox dX5_asNow_8 rfl 0 rfl ?_
        refine k_get Ox 0 rfl rfl hin_X5_asNow_X5 12 rfl lk_X5_asNow_f41 rfl rfl dX5_asNow_9 ?_
        refine k_iload_n Ox dX5_asNow_12 rfl 1 rfl ?_
        refine k_aload_n Ox dX5_asNow_13 rfl 0 rfl ?_
        refine k_get Ox 0 rfl rfl hin_X5_asNow_X5 5 rfl lk_X5_asNow_f25 rfl rfl dX5_asNow_14 ?_
        refine k_iload_n Ox dX5_asNow_17 rfl 1 rfl ?_
        refine k_iald Ox 1 rfl (by omega) (by first | decide | omega) dX5_asNow_18 ?_
        refine k_iast Ox 2 rfl (by omega) (by first | decide | omega) [_, _, _] rfl dX5_asNow_19 ?_
        refine k_iincN Ox (k := 1) (m := 1) [(1, _), (0, _)] dX5_asNow_20 rfl rfl (by decide) rfl ?_
        refine k_goto Ox 2 dX5_asNow_23 rfl ?_
        refine k_sub [1, 0] [(0, _), (1, _)] rfl ?_
        exact ih (i + 1) _ (by omega) (by omega) (fun j hj => cp_up hg hj)
  refine k_sub [1, 0] [(0, _), (1, _)] rfl ?_
  exact L2 37 0 g (by omega) (by omega) (fun j hj => absurd hj (by omega))
theorem lk_X5_pass_f41 : Cond.fieldLink RX5 41 "LieBridgesModel" "now" "[I" ∈ wsX5_pass := List.mem_of_getElem? (i := 1) rfl
theorem hin_X5_pass_X5 : ∀ w ∈ u_ws RX5 TX5 22, w ∈ wsX5_pass := fun _ h => List.mem_cons_of_mem _ (List.mem_append_right _ h)
set_option maxHeartbeats 400000 in
set_option maxRecDepth 4000 in
theorem c_X5_pass (G : Gx) (m a1 a2 a3 a4 a5 a6 a7 a8 a9 a10 a11 a12 a13 : Nat) (fd sg mn : Nat) (w1 w2 w3 w4 w5 w6 : Int32) (B : Nat → Nat → Nat) (hB : okB B) : Ct G yX5_pass wsX5_pass { frames := 0, cells := 0, slots := 0, locals := 0 } [.ref m] [(m, cO 5 [.ref a1, .ref a2, .ref a3, .ref a4, .ref a5, .ref a6, .ref a7, .int (nI fd), .int (nI sg), .ref a8, .int (nI mn), .ref a9, .ref a10, .int w1, .int w2, .ref a11, .int w3, .int w4, .int w5, .int w6, .ref a12, .ref a13]), (a10, cI G 36 (rN (flM B)))] (fun r wa => r = none ∧ wa = [(m, cO 5 [.ref a1, .ref a2, .ref a3, .ref a4, .ref a5, .ref a6, .ref a7, .int (nI fd), .int (nI sg), .ref a8, .int (nI mn), .ref a9, .ref a10, .int w1, .int w2, .ref a11, .int w3, .int w4, .int w5, .int w6, .ref a12, .ref a13]), (a10, cI G 36 (rN (flM (fdB B))))]) := by
  refine CtN.of [(0, .ref m)] (by decide +kernel) rfl rfl rfl rfl ?_
  intro x Ox Rt
  refine k_iconst Ox (v := nI 0) dX5_pass_0 rfl ?_
  refine k_istore_n Ox [(1, _), (0, _)] dX5_pass_1 rfl (by decide) rfl ?_
  have L2 : ∀ (fuel : Nat) (i : Nat) (D : Nat → Nat), i ≤ 36 → 37 ≤ i + fuel → (∀ j, j < i → D j = flM B j - 1) → (∀ j, i ≤ j → D j = flM B j) → V x G 2 0 0 2 [(0, .ref m), (1, .int (nI i))] [] [(m, cO 5 [.ref a1, .ref a2, .ref a3, .ref a4, .ref a5, .ref a6, .ref a7, .int (nI fd), .int (nI sg), .ref a8, .int (nI mn), .ref a9, .ref a10, .int w1, .int w2, .ref a11, .int w3, .int w4, .int w5, .int w6, .ref a12, .ref a13]), (a10, cI G 36 (rN D))] := by
    intro fuel
    induction fuel with
    | zero => intro i D hi hfuel h1 h2; exact absurd hi (by omega)
    | succ fuel ih =>
      intro i D hi hfuel h1 h2
      refine k_iload_n Ox dX5_pass_2 rfl 1 rfl ?_
      refine k_bipush Ox (v := nI 36) dX5_pass_3 rfl ?_
      refine k_icmp_geN Ox 37 dX5_pass_5 rfl (by omega) (by omega) (fun c_5 => ?_) (fun c_5 => ?_)
      · refine k_cell 1 (rN (flM (fdB B))) rfl (fun j hj => congrArg nI (h1 j (by omega))) [_, _] rfl ?_
        refine k_vret0 Ox Rt dX5_pass_37 (Nat.le_of_ble_eq_true rfl) (Nat.le_of_ble_eq_true rfl) rfl ?_
        exact ⟨⟨rfl, rfl⟩, rfl⟩
      · have hb1 := flM_le hB (show i < 36 by omega)
        have hb2 := h2 i (Nat.le_refl _)
        refine k_aload_n Ox dX5_pass_8 rfl 0 rfl ?_
        refine k_get Ox 0 rfl rfl hin_X5_pass_X5 12 rfl lk_X5_pass_f41 rfl rfl dX5_pass_9 ?_
        refine k_iload_n Ox dX5_pass_12 rfl 1 rfl ?_
        refine k_dup2 Ox dX5_pass_13 rfl rfl ?_
        refine k_iald Ox 1 rfl (by omega) (by first | decide | omega) dX5_pass_14 ?_
        refine k_aload_n Ox dX5_pass_15 rfl 0 rfl ?_
        refine k_get Ox 0 rfl rfl hin_X5_pass_X5 12 rfl lk_X5_pass_f41 rfl rfl dX5_pass_16 ?_
        refine k_iload_n Ox dX5_pass_19 rfl 1 rfl ?_
        refine k_iald Ox 1 rfl (by omega) (by first | decide | omega) dX5_pass_20 ?_
        refine k_if_leN Ox 28 dX5_pass_21 rfl (by omega) (fun c_21 => ?_) (fun c_21 => ?_)
        · refine k_iconst Ox (v := nI 0) dX5_pass_28 rfl ?_
          refine k_isubN Ox dX5_pass_29 (by omega) ?_
          refine k_iastN Ox 1 rfl (by omega) (by first | decide | omega) [_, _] rfl dX5_pass_30 ?_
          refine k_iincN Ox (k := 1) (m := 1) [(1, _), (0, _)] dX5_pass_31 rfl rfl (by decide) rfl ?_
          refine k_goto Ox 2 dX5_pass_34 rfl ?_
          refine k_sub [1, 0] [(0, _), (1, _)] rfl ?_
          exact ih (i + 1) _ (by omega) (by omega) (fun j hj => by first | exact fdm_lo h1 h2 hj | exact fdm_lo0 h1 h2 c_21 hj) (fun j hj => fdm_hi h2 hj)
        · refine k_iconst Ox (v := nI 1) dX5_pass_24 rfl ?_
          refine k_goto Ox 29 dX5_pass_25 rfl ?_
          refine k_isubN Ox dX5_pass_29 (by omega) ?_
          refine k_iastN Ox 1 rfl (by omega) (by first | decide | omega) [_, _] rfl dX5_pass_30 ?_
          refine k_iincN Ox (k := 1) (m := 1) [(1, _), (0, _)] dX5_pass_31 rfl rfl (by decide) rfl ?_
          refine k_goto Ox 2 dX5_pass_34 rfl ?_
          refine k_sub [1, 0] [(0, _), (1, _)] rfl ?_
          exact ih (i + 1) _ (by omega) (by omega) (fun j hj => by first | exact fdm_lo h1 h2 hj | exact fdm_lo0 h1 h2 c_21 hj) (fun j hj => fdm_hi h2 hj)
  refine k_sub [1, 0] [(0, _), (1, _)] rfl ?_
  exact L2 37 0 (flM B) (by omega) (by omega) (fun j hj => absurd hj (by omega)) (fun j hj => rfl)
theorem lk_X5_bornBy_f41 : Cond.fieldLink RX5 41 "LieBridgesModel" "now" "[I" ∈ wsX5_bornBy := List.mem_of_getElem? (i := 1) rfl
theorem hin_X5_bornBy_X5 : ∀ w ∈ u_ws RX5 TX5 22, w ∈ wsX5_bornBy := fun _ h => List.mem_cons_of_mem _ (List.mem_append_right _ h)
set_option maxHeartbeats 400000 in
set_option maxRecDepth 4000 in
theorem c_X5_bornBy (G : Gx) (m a1 a2 a3 a4 a5 a6 a7 a8 a9 a10 a11 a12 a13 : Nat) (fd sg mn : Nat) (w1 w2 w3 w4 w5 w6 : Int32) (B : Nat → Nat → Nat) (p : Nat) (hB : okB B) (hp : p < 6) : Ct G yX5_bornBy wsX5_bornBy { frames := 0, cells := 0, slots := 0, locals := 0 } [.ref m, .int (nI p)] [(m, cO 5 [.ref a1, .ref a2, .ref a3, .ref a4, .ref a5, .ref a6, .ref a7, .int (nI fd), .int (nI sg), .ref a8, .int (nI mn), .ref a9, .ref a10, .int w1, .int w2, .ref a11, .int w3, .int w4, .int w5, .int w6, .ref a12, .ref a13]), (a10, cI G 36 (rN (flM B)))] (fun r wa => r = some (.int (nI (ld B p 0))) ∧ wa = [(m, cO 5 [.ref a1, .ref a2, .ref a3, .ref a4, .ref a5, .ref a6, .ref a7, .int (nI fd), .int (nI sg), .ref a8, .int (nI mn), .ref a9, .ref a10, .int w1, .int w2, .ref a11, .int w3, .int w4, .int w5, .int w6, .ref a12, .ref a13]), (a10, cI G 36 (rN (flM B)))]) := by
  refine CtN.of [(0, .ref m), (1, .int (nI p))] (by decide +kernel) rfl rfl rfl rfl ?_
  intro x Ox Rt
  refine k_iconst Ox (v := nI 0) dX5_bornBy_0 rfl ?_
  refine k_istore_n Ox [(2, _), (0, _), (1, _)] dX5_bornBy_1 rfl (by decide) rfl ?_
  refine k_iconst Ox (v := nI 0) dX5_bornBy_2 rfl ?_
  refine k_istore_n Ox [(3, _), (2, _), (0, _), (1, _)] dX5_bornBy_3 rfl (by decide) rfl ?_
  have L4 : ∀ (fuel : Nat) (i n : Nat), i ≤ 6 → 7 ≤ i + fuel → n = cnt (fun a => decide (0 < B a p)) i → V x G 4 0 0 4 [(0, .ref m), (1, .int (nI p)), (2, .int (nI n)), (3, .int (nI i))] [] [(m, cO 5 [.ref a1, .ref a2, .ref a3, .ref a4, .ref a5, .ref a6, .ref a7, .int (nI fd), .int (nI sg), .ref a8, .int (nI mn), .ref a9, .ref a10, .int w1, .int w2, .ref a11, .int w3, .int w4, .int w5, .int w6, .ref a12, .ref a13]), (a10, cI G 36 (rN (flM B)))] := by
    intro fuel
    induction fuel with
    | zero => intro i n hi hfuel hn; exact absurd hi (by omega)
    | succ fuel ih =>
      intro i n hi hfuel hn
      refine k_iload_n Ox dX5_bornBy_4 rfl 3 rfl ?_
      refine k_bipush Ox (v := nI 6) dX5_bornBy_5 rfl ?_
      refine k_icmp_geN Ox 38 dX5_bornBy_7 rfl (by omega) (by omega) (fun c_7 => ?_) (fun c_7 => ?_)
      · obtain rfl : i = 6 := by omega
        refine k_iload_n Ox dX5_bornBy_38 rfl 2 rfl ?_
        refine k_iret0 Ox Rt dX5_bornBy_39 (Nat.le_of_ble_eq_true rfl) (Nat.le_of_ble_eq_true rfl) rfl ?_
        exact ⟨⟨by rw [hn]; rfl, rfl⟩, rfl⟩
      · have hb1 := hB i p (by omega) hp
        refine k_iload_n Ox dX5_bornBy_10 rfl 2 rfl ?_
        refine k_aload_n Ox dX5_bornBy_11 rfl 0 rfl ?_
        refine k_get Ox 0 rfl rfl hin_X5_bornBy_X5 12 rfl lk_X5_bornBy_f41 rfl rfl dX5_bornBy_12 ?_
        refine k_bipush Ox (v := nI 6) dX5_bornBy_15 rfl ?_
        refine k_iload_n Ox dX5_bornBy_17 rfl 3 rfl ?_
        refine k_imulN Ox dX5_bornBy_18 ?_
        refine k_iload_n Ox dX5_bornBy_19 rfl 1 rfl ?_
        refine k_iaddN Ox dX5_bornBy_20 ?_
        refine k_iald Ox 1 rfl (by omega) (by first | decide | omega) dX5_bornBy_21 ?_
        refine k_top (nI (B i p)) (congrArg nI (flM_at hp)) ?_
        refine k_if_leN Ox 29 dX5_bornBy_22 rfl (by omega) (fun c_22 => ?_) (fun c_22 => ?_)
        · refine k_iconst Ox (v := nI 0) dX5_bornBy_29 rfl ?_
          refine k_iaddN Ox dX5_bornBy_30 ?_
          refine k_istore_n Ox [(2, _), (0, _), (1, _), (3, _)] dX5_bornBy_31 rfl (by decide) rfl ?_
          refine k_iincN Ox (k := 3) (m := 1) [(3, _), (2, _), (0, _), (1, _)] dX5_bornBy_32 rfl rfl (by decide) rfl ?_
          refine k_goto Ox 4 dX5_bornBy_35 rfl ?_
          refine k_sub [2, 3, 1, 0] [(0, _), (1, _), (2, _), (3, _)] rfl ?_
          exact ih (i + 1) _ (by omega) (by omega) (by simp only [cnt, decide_eq_true_eq]; split <;> omega)
        · refine k_iconst Ox (v := nI 1) dX5_bornBy_25 rfl ?_
          refine k_goto Ox 30 dX5_bornBy_26 rfl ?_
          refine k_iaddN Ox dX5_bornBy_30 ?_
          refine k_istore_n Ox [(2, _), (0, _), (1, _), (3, _)] dX5_bornBy_31 rfl (by decide) rfl ?_
          refine k_iincN Ox (k := 3) (m := 1) [(3, _), (2, _), (0, _), (1, _)] dX5_bornBy_32 rfl rfl (by decide) rfl ?_
          refine k_goto Ox 4 dX5_bornBy_35 rfl ?_
          refine k_sub [2, 3, 1, 0] [(0, _), (1, _), (2, _), (3, _)] rfl ?_
          exact ih (i + 1) _ (by omega) (by omega) (by simp only [cnt, decide_eq_true_eq]; split <;> omega)
  refine k_sub [2, 3, 1, 0] [(0, _), (1, _), (2, _), (3, _)] rfl ?_
  exact L4 7 0 0 (by omega) (by omega) rfl
theorem lk_X5_denies_f41 : Cond.fieldLink RX5 41 "LieBridgesModel" "now" "[I" ∈ wsX5_denies := List.mem_of_getElem? (i := 2) rfl
theorem hin_X5_denies_X5 : ∀ w ∈ u_ws RX5 TX5 22, w ∈ wsX5_denies := fun _ h => List.mem_cons_of_mem _ (List.mem_append_right _ h)
theorem lk_X5_denies_f19 : Cond.fieldLink RX5 19 "LieBridgesModel" "trusts" "[I" ∈ wsX5_denies := List.mem_of_getElem? (i := 1) rfl
set_option maxHeartbeats 400000 in
set_option maxRecDepth 4000 in
theorem c_X5_denies (G : Gx) (m a1 a2 a3 a4 a5 a6 a7 a8 a9 a10 a11 a12 a13 : Nat) (fd sg mn : Nat) (w1 w2 w3 w4 w5 w6 : Int32) (T : Nat → Nat) (B : Nat → Nat → Nat) (a b p : Nat) (hT : okM T) (hN : noSelf T) (hB : okB B) (ha : a < 6) (hb : b < 6) (hp : p < 6) : Ct G yX5_denies wsX5_denies { frames := 1, cells := 0, slots := 0, locals := 21 } [.ref m, .int (nI a), .int (nI b), .int (nI p)] [(m, cO 5 [.ref a1, .ref a2, .ref a3, .ref a4, .ref a5, .ref a6, .ref a7, .int (nI fd), .int (nI sg), .ref a8, .int (nI mn), .ref a9, .ref a10, .int w1, .int w2, .ref a11, .int w3, .int w4, .int w5, .int w6, .ref a12, .ref a13]), (a4, cI G 6 (rN T)), (a10, cI G 36 (rN (flM B)))] (fun r wa => r = some (.int (bI (denyOK T B a b p))) ∧ wa = [(m, cO 5 [.ref a1, .ref a2, .ref a3, .ref a4, .ref a5, .ref a6, .ref a7, .int (nI fd), .int (nI sg), .ref a8, .int (nI mn), .ref a9, .ref a10, .int w1, .int w2, .ref a11, .int w3, .int w4, .int w5, .int w6, .ref a12, .ref a13]), (a4, cI G 6 (rN T)), (a10, cI G 36 (rN (flM (denyB T B a b p))))]) := by
  refine CtN.of [(0, .ref m), (1, .int (nI a)), (2, .int (nI b)), (3, .int (nI p))] (by decide +kernel) rfl rfl rfl rfl ?_
  intro x Ox Rt
  have hb1 := hB b p hb hp
  refine k_iload_n Ox dX5_denies_0 rfl 1 rfl ?_
  refine k_iload_n Ox dX5_denies_1 rfl 2 rfl ?_
  refine k_icmp_eqN Ox 36 dX5_denies_2 rfl (by omega) (by omega) (fun c_2 => ?_) (fun c_2 => ?_)
  · have hf : denyOK T B a b p = false := by simp [denyOK, ← c_2, hN a ha]
    refine k_iconst Ox (v := nI 0) dX5_denies_36 rfl ?_
    refine k_istore Ox [(4, _), (0, _), (1, _), (2, _), (3, _)] dX5_denies_37 (by decide) rfl ?_
    refine k_aload_n Ox dX5_denies_39 rfl 1 rfl ?_
    refine k_get Ox 0 rfl rfl hin_X5_denies_X5 12 rfl lk_X5_denies_f41 rfl rfl dX5_denies_40 ?_
    refine k_bipush Ox (v := nI 6) dX5_denies_43 rfl ?_
    refine k_iload_n Ox dX5_denies_45 rfl 3 rfl ?_
    refine k_imulN Ox dX5_denies_46 ?_
    refine k_iload_n Ox dX5_denies_47 rfl 4 rfl ?_
    refine k_iaddN Ox dX5_denies_48 ?_
    refine k_iload Ox dX5_denies_49 0 rfl ?_
    refine k_if_eqN Ox 58 dX5_denies_51 rfl (by decide) (fun _ => ?_) (fun h => absurd h (by decide))
    refine k_aload_n Ox dX5_denies_58 rfl 1 rfl ?_
    refine k_get Ox 0 rfl rfl hin_X5_denies_X5 12 rfl lk_X5_denies_f41 rfl rfl dX5_denies_59 ?_
    refine k_bipush Ox (v := nI 6) dX5_denies_62 rfl ?_
    refine k_iload_n Ox dX5_denies_64 rfl 3 rfl ?_
    refine k_imulN Ox dX5_denies_65 ?_
    refine k_iload_n Ox dX5_denies_66 rfl 4 rfl ?_
    refine k_iaddN Ox dX5_denies_67 ?_
    refine k_iald Ox 2 rfl (by omega) (by first | decide | omega) dX5_denies_68 ?_
    refine k_top (nI (B b p)) (congrArg nI (flM_at hp)) ?_
    refine k_iastN Ox 2 rfl (by omega) (by first | decide | omega) [_, _, _] rfl dX5_denies_69 ?_
    rw [flM_up hp]
    refine k_iload Ox dX5_denies_70 0 rfl ?_
    refine k_zret0 Ox Rt dX5_denies_72 (by first | exact bI_nar _ | decide) (Nat.le_of_ble_eq_true rfl) (Nat.le_of_ble_eq_true rfl) rfl ?_
    refine ⟨⟨by rw [hf]; rfl, ?_⟩, rfl⟩
    rw [denyB, hf]
    first | rfl | (rw [up2_same]; rfl)
  · refine k_aload_n Ox dX5_denies_5 rfl 0 rfl ?_
    refine k_get Ox 0 rfl rfl hin_X5_denies_X5 3 rfl lk_X5_denies_f19 rfl rfl dX5_denies_6 ?_
    refine k_iload_n Ox dX5_denies_9 rfl 2 rfl ?_
    refine k_iald Ox 1 rfl (by omega) (by first | decide | omega) dX5_denies_10 ?_
    refine k_iload_n Ox dX5_denies_11 rfl 1 rfl ?_
    refine k_callS Ox [] (c_X5_has G _ _ (hT b hb) (ha)) 2 rfl rfl rfl ⟨rfl, rfl⟩ rfl rfl gX5_denies_X5_has ⟨(by decide +kernel), (by decide +kernel), (by decide +kernel)⟩ rfl dX5_denies_12 (Nat.le_of_ble_eq_true rfl) rfl ⟨Nat.le_of_ble_eq_true rfl, Nat.le_of_ble_eq_true rfl⟩ (fun r wa wb hp => ?_)
    obtain ⟨⟨rfl, rfl⟩, rfl⟩ := hp
    show V x G _ _ _ _ _ (.int _ :: _) [_, _, _]
    refine k_if_eqB Ox 36 dX5_denies_15 rfl (fun c_15 => ?_) (fun c_15 => ?_)
    · have hf : denyOK T B a b p = false := by simp [denyOK, c_15]
      refine k_iconst Ox (v := nI 0) dX5_denies_36 rfl ?_
      refine k_istore Ox [(4, _), (0, _), (1, _), (2, _), (3, _)] dX5_denies_37 (by decide) rfl ?_
      refine k_aload_n Ox dX5_denies_39 rfl 1 rfl ?_
      refine k_get Ox 0 rfl rfl hin_X5_denies_X5 12 rfl lk_X5_denies_f41 rfl rfl dX5_denies_40 ?_
      refine k_bipush Ox (v := nI 6) dX5_denies_43 rfl ?_
      refine k_iload_n Ox dX5_denies_45 rfl 3 rfl ?_
      refine k_imulN Ox dX5_denies_46 ?_
      refine k_iload_n Ox dX5_denies_47 rfl 4 rfl ?_
      refine k_iaddN Ox dX5_denies_48 ?_
      refine k_iload Ox dX5_denies_49 0 rfl ?_
      refine k_if_eqN Ox 58 dX5_denies_51 rfl (by decide) (fun _ => ?_) (fun h => absurd h (by decide))
      refine k_aload_n Ox dX5_denies_58 rfl 1 rfl ?_
      refine k_get Ox 0 rfl rfl hin_X5_denies_X5 12 rfl lk_X5_denies_f41 rfl rfl dX5_denies_59 ?_
      refine k_bipush Ox (v := nI 6) dX5_denies_62 rfl ?_
      refine k_iload_n Ox dX5_denies_64 rfl 3 rfl ?_
      refine k_imulN Ox dX5_denies_65 ?_
      refine k_iload_n Ox dX5_denies_66 rfl 4 rfl ?_
      refine k_iaddN Ox dX5_denies_67 ?_
      refine k_iald Ox 2 rfl (by omega) (by first | decide | omega) dX5_denies_68 ?_
      refine k_top (nI (B b p)) (congrArg nI (flM_at hp)) ?_
      refine k_iastN Ox 2 rfl (by omega) (by first | decide | omega) [_, _, _] rfl dX5_denies_69 ?_
      rw [flM_up hp]
      refine k_iload Ox dX5_denies_70 0 rfl ?_
      refine k_zret0 Ox Rt dX5_denies_72 (by first | exact bI_nar _ | decide) (Nat.le_of_ble_eq_true rfl) (Nat.le_of_ble_eq_true rfl) rfl ?_
      refine ⟨⟨by rw [hf]; rfl, ?_⟩, rfl⟩
      rw [denyB, hf]
      first | rfl | (rw [up2_same]; rfl)
    · refine k_aload_n Ox dX5_denies_18 rfl 0 rfl ?_
      refine k_get Ox 0 rfl rfl hin_X5_denies_X5 12 rfl lk_X5_denies_f41 rfl rfl dX5_denies_19 ?_
      refine k_bipush Ox (v := nI 6) dX5_denies_22 rfl ?_
      refine k_iload_n Ox dX5_denies_24 rfl 2 rfl ?_
      refine k_imulN Ox dX5_denies_25 ?_
      refine k_iload_n Ox dX5_denies_26 rfl 3 rfl ?_
      refine k_iaddN Ox dX5_denies_27 ?_
      refine k_iald Ox 2 rfl (by omega) (by first | decide | omega) dX5_denies_28 ?_
      refine k_top (nI (B b p)) (congrArg nI (flM_at hp)) ?_
      refine k_if_leN Ox 36 dX5_denies_29 rfl (by omega) (fun c_29 => ?_) (fun c_29 => ?_)
      · have hf : denyOK T B a b p = false := by simp [denyOK]; omega
        refine k_iconst Ox (v := nI 0) dX5_denies_36 rfl ?_
        refine k_istore Ox [(4, _), (0, _), (1, _), (2, _), (3, _)] dX5_denies_37 (by decide) rfl ?_
        refine k_aload_n Ox dX5_denies_39 rfl 1 rfl ?_
        refine k_get Ox 0 rfl rfl hin_X5_denies_X5 12 rfl lk_X5_denies_f41 rfl rfl dX5_denies_40 ?_
        refine k_bipush Ox (v := nI 6) dX5_denies_43 rfl ?_
        refine k_iload_n Ox dX5_denies_45 rfl 3 rfl ?_
        refine k_imulN Ox dX5_denies_46 ?_
        refine k_iload_n Ox dX5_denies_47 rfl 4 rfl ?_
        refine k_iaddN Ox dX5_denies_48 ?_
        refine k_iload Ox dX5_denies_49 0 rfl ?_
        refine k_if_eqN Ox 58 dX5_denies_51 rfl (by decide) (fun _ => ?_) (fun h => absurd h (by decide))
        refine k_aload_n Ox dX5_denies_58 rfl 1 rfl ?_
        refine k_get Ox 0 rfl rfl hin_X5_denies_X5 12 rfl lk_X5_denies_f41 rfl rfl dX5_denies_59 ?_
        refine k_bipush Ox (v := nI 6) dX5_denies_62 rfl ?_
        refine k_iload_n Ox dX5_denies_64 rfl 3 rfl ?_
        refine k_imulN Ox dX5_denies_65 ?_
        refine k_iload_n Ox dX5_denies_66 rfl 4 rfl ?_
        refine k_iaddN Ox dX5_denies_67 ?_
        refine k_iald Ox 2 rfl (by omega) (by first | decide | omega) dX5_denies_68 ?_
        refine k_top (nI (B b p)) (congrArg nI (flM_at hp)) ?_
        refine k_iastN Ox 2 rfl (by omega) (by first | decide | omega) [_, _, _] rfl dX5_denies_69 ?_
        rw [flM_up hp]
        refine k_iload Ox dX5_denies_70 0 rfl ?_
        refine k_zret0 Ox Rt dX5_denies_72 (by first | exact bI_nar _ | decide) (Nat.le_of_ble_eq_true rfl) (Nat.le_of_ble_eq_true rfl) rfl ?_
        refine ⟨⟨by rw [hf]; rfl, ?_⟩, rfl⟩
        rw [denyB, hf]
        first | rfl | (rw [up2_same]; rfl)
      · have hf : denyOK T B a b p = true := by simp [denyOK, c_15]; omega
        refine k_iconst Ox (v := nI 1) dX5_denies_32 rfl ?_
        refine k_goto Ox 37 dX5_denies_33 rfl ?_
        refine k_istore Ox [(4, _), (0, _), (1, _), (2, _), (3, _)] dX5_denies_37 (by decide) rfl ?_
        refine k_aload_n Ox dX5_denies_39 rfl 1 rfl ?_
        refine k_get Ox 0 rfl rfl hin_X5_denies_X5 12 rfl lk_X5_denies_f41 rfl rfl dX5_denies_40 ?_
        refine k_bipush Ox (v := nI 6) dX5_denies_43 rfl ?_
        refine k_iload_n Ox dX5_denies_45 rfl 3 rfl ?_
        refine k_imulN Ox dX5_denies_46 ?_
        refine k_iload_n Ox dX5_denies_47 rfl 4 rfl ?_
        refine k_iaddN Ox dX5_denies_48 ?_
        refine k_iload Ox dX5_denies_49 0 rfl ?_
        refine k_if_eqN Ox 58 dX5_denies_51 rfl (by decide) (fun h => absurd h (by decide)) (fun _ => ?_)
        refine k_iconst Ox (v := nI 0) dX5_denies_54 rfl ?_
        refine k_goto Ox 69 dX5_denies_55 rfl ?_
        refine k_iastN Ox 2 rfl (by omega) (by first | decide | omega) [_, _, _] rfl dX5_denies_69 ?_
        rw [flM_up hp]
        refine k_iload Ox dX5_denies_70 0 rfl ?_
        refine k_zret0 Ox Rt dX5_denies_72 (by first | exact bI_nar _ | decide) (Nat.le_of_ble_eq_true rfl) (Nat.le_of_ble_eq_true rfl) rfl ?_
        refine ⟨⟨by rw [hf]; rfl, ?_⟩, rfl⟩
        rw [denyB, hf]
        first | rfl | (rw [up2_same]; rfl)
theorem lk_X5_tells_f41 : Cond.fieldLink RX5 41 "LieBridgesModel" "now" "[I" ∈ wsX5_tells := List.mem_of_getElem? (i := 2) rfl
theorem hin_X5_tells_X5 : ∀ w ∈ u_ws RX5 TX5 22, w ∈ wsX5_tells := fun _ h => List.mem_cons_of_mem _ (List.mem_append_right _ h)
theorem lk_X5_tells_f16 : Cond.fieldLink RX5 16 "LieBridgesModel" "owner" "[I" ∈ wsX5_tells := List.mem_of_getElem? (i := 1) rfl
theorem lk_X5_tells_f19 : Cond.fieldLink RX5 19 "LieBridgesModel" "trusts" "[I" ∈ wsX5_tells := List.mem_of_getElem? (i := 3) rfl
theorem lk_X5_tells_f22 : Cond.fieldLink RX5 22 "LieBridgesModel" "knows" "[I" ∈ wsX5_tells := List.mem_of_getElem? (i := 4) rfl
theorem lk_X5_tells_f31 : Cond.fieldLink RX5 31 "LieBridgesModel" "fade" "I" ∈ wsX5_tells := List.mem_of_getElem? (i := 5) rfl
set_option maxHeartbeats 1000000 in
set_option maxRecDepth 4000 in
theorem c_X5_tells (G : Gx) (m a1 a2 a3 a4 a5 a6 a7 a8 a9 a10 a11 a12 a13 : Nat) (fd sg mn : Nat) (w1 w2 w3 w4 w5 w6 : Int32) (O T K : Nat → Nat) (B : Nat → Nat → Nat) (a b p : Nat) (hO : okP O) (hT : okM T) (hK : okM K) (hN : noSelf T) (hB : okB B) (ha : a < 6) (hb : b < 6) (hp : p < 6) : Ct G yX5_tells wsX5_tells { frames := 1, cells := 0, slots := 0, locals := 21 } [.ref m, .int (nI a), .int (nI b), .int (nI p)] [(m, cO 5 [.ref a1, .ref a2, .ref a3, .ref a4, .ref a5, .ref a6, .ref a7, .int (nI fd), .int (nI sg), .ref a8, .int (nI mn), .ref a9, .ref a10, .int w1, .int w2, .ref a11, .int w3, .int w4, .int w5, .int w6, .ref a12, .ref a13]), (a3, cI G 6 (rN O)), (a4, cI G 6 (rN T)), (a5, cI G 6 (rN K)), (a10, cI G 36 (rN (flM B)))] (fun r wa => r = some (.int (bI (tellOK O T K B a b p))) ∧ wa = [(m, cO 5 [.ref a1, .ref a2, .ref a3, .ref a4, .ref a5, .ref a6, .ref a7, .int (nI fd), .int (nI sg), .ref a8, .int (nI mn), .ref a9, .ref a10, .int w1, .int w2, .ref a11, .int w3, .int w4, .int w5, .int w6, .ref a12, .ref a13]), (a3, cI G 6 (rN O)), (a4, cI G 6 (rN T)), (a5, cI G 6 (rN K)), (a10, cI G 36 (rN (flM (tellB O T K fd B a b p))))]) := by
  refine CtN.of [(0, .ref m), (1, .int (nI a)), (2, .int (nI b)), (3, .int (nI p))] (by decide +kernel) rfl rfl rfl rfl ?_
  intro x Ox Rt
  have ho1 := hO p hp
  have hb1 := hB b p hb hp
  have hb2 := hB a p ha hp
  refine k_iload_n Ox dX5_tells_0 rfl 1 rfl ?_
  refine k_iload_n Ox dX5_tells_1 rfl 2 rfl ?_
  refine k_icmp_eqN Ox 83 dX5_tells_2 rfl (by omega) (by omega) (fun c_2 => ?_) (fun c_2 => ?_)
  · have hf : tellOK O T K B a b p = false := by simp [tellOK, ← c_2, hN a ha]
    refine k_iconst Ox (v := nI 0) dX5_tells_83 rfl ?_
    refine k_istore Ox [(4, _), (0, _), (1, _), (2, _), (3, _)] dX5_tells_84 (by decide) rfl ?_
    refine k_aload_n Ox dX5_tells_86 rfl 1 rfl ?_
    refine k_get Ox 0 rfl rfl hin_X5_tells_X5 12 rfl lk_X5_tells_f41 rfl rfl dX5_tells_87 ?_
    refine k_bipush Ox (v := nI 6) dX5_tells_90 rfl ?_
    refine k_iload_n Ox dX5_tells_92 rfl 3 rfl ?_
    refine k_imulN Ox dX5_tells_93 ?_
    refine k_iload_n Ox dX5_tells_94 rfl 4 rfl ?_
    refine k_iaddN Ox dX5_tells_95 ?_
    refine k_iload Ox dX5_tells_96 0 rfl ?_
    refine k_if_eqN Ox 108 dX5_tells_98 rfl (by decide) (fun _ => ?_) (fun h => absurd h (by decide))
    refine k_aload_n Ox dX5_tells_108 rfl 1 rfl ?_
    refine k_get Ox 0 rfl rfl hin_X5_tells_X5 12 rfl lk_X5_tells_f41 rfl rfl dX5_tells_109 ?_
    refine k_bipush Ox (v := nI 6) dX5_tells_112 rfl ?_
    refine k_iload_n Ox dX5_tells_114 rfl 3 rfl ?_
    refine k_imulN Ox dX5_tells_115 ?_
    refine k_iload_n Ox dX5_tells_116 rfl 4 rfl ?_
    refine k_iaddN Ox dX5_tells_117 ?_
    refine k_iald Ox 4 rfl (by omega) (by first | decide | omega) dX5_tells_118 ?_
    refine k_top (nI (B b p)) (congrArg nI (flM_at hp)) ?_
    refine k_iastN Ox 4 rfl (by omega) (by first | decide | omega) [_, _, _, _, _] rfl dX5_tells_119 ?_
    rw [flM_up hp]
    refine k_iload Ox dX5_tells_120 0 rfl ?_
    refine k_zret0 Ox Rt dX5_tells_122 (by first | exact bI_nar _ | decide) (Nat.le_of_ble_eq_true rfl) (Nat.le_of_ble_eq_true rfl) rfl ?_
    refine ⟨⟨by rw [hf]; rfl, ?_⟩, rfl⟩
    rw [tellB, hf]
    first | rfl | (rw [up2_same]; rfl)
  · refine k_aload_n Ox dX5_tells_5 rfl 0 rfl ?_
    refine k_get Ox 0 rfl rfl hin_X5_tells_X5 2 rfl lk_X5_tells_f16 rfl rfl dX5_tells_6 ?_
    refine k_iload_n Ox dX5_tells_9 rfl 3 rfl ?_
    refine k_iald Ox 1 rfl (by omega) (by first | decide | omega) dX5_tells_10 ?_
    refine k_iload_n Ox dX5_tells_11 rfl 1 rfl ?_
    refine k_icmp_eqN Ox 29 dX5_tells_12 rfl (by omega) (by omega) (fun c_12 => ?_) (fun c_12 => ?_)
    · have hm : mayT O B a p = true := by simp [mayT, c_12]
      refine k_aload_n Ox dX5_tells_29 rfl 0 rfl ?_
      refine k_get Ox 0 rfl rfl hin_X5_tells_X5 3 rfl lk_X5_tells_f19 rfl rfl dX5_tells_30 ?_
      refine k_iload_n Ox dX5_tells_33 rfl 2 rfl ?_
      refine k_iald Ox 2 rfl (by omega) (by first | decide | omega) dX5_tells_34 ?_
      refine k_iload_n Ox dX5_tells_35 rfl 1 rfl ?_
      refine k_callS Ox [] (c_X5_has G _ _ (hT b hb) (ha)) 2 rfl rfl rfl ⟨rfl, rfl⟩ rfl rfl gX5_tells_X5_has ⟨(by decide +kernel), (by decide +kernel), (by decide +kernel)⟩ rfl dX5_tells_36 (Nat.le_of_ble_eq_true rfl) rfl ⟨Nat.le_of_ble_eq_true rfl, Nat.le_of_ble_eq_true rfl⟩ (fun r wa wb hp => ?_)
      obtain ⟨⟨rfl, rfl⟩, rfl⟩ := hp
      show V x G _ _ _ _ _ (.int _ :: _) [_, _, _, _, _]
      refine k_if_eqB Ox 83 dX5_tells_39 rfl (fun c_39 => ?_) (fun c_39 => ?_)
      · have hf : tellOK O T K B a b p = false := by simp [tellOK, c_39]
        refine k_iconst Ox (v := nI 0) dX5_tells_83 rfl ?_
        refine k_istore Ox [(4, _), (0, _), (1, _), (2, _), (3, _)] dX5_tells_84 (by decide) rfl ?_
        refine k_aload_n Ox dX5_tells_86 rfl 1 rfl ?_
        refine k_get Ox 0 rfl rfl hin_X5_tells_X5 12 rfl lk_X5_tells_f41 rfl rfl dX5_tells_87 ?_
        refine k_bipush Ox (v := nI 6) dX5_tells_90 rfl ?_
        refine k_iload_n Ox dX5_tells_92 rfl 3 rfl ?_
        refine k_imulN Ox dX5_tells_93 ?_
        refine k_iload_n Ox dX5_tells_94 rfl 4 rfl ?_
        refine k_iaddN Ox dX5_tells_95 ?_
        refine k_iload Ox dX5_tells_96 0 rfl ?_
        refine k_if_eqN Ox 108 dX5_tells_98 rfl (by decide) (fun _ => ?_) (fun h => absurd h (by decide))
        refine k_aload_n Ox dX5_tells_108 rfl 1 rfl ?_
        refine k_get Ox 0 rfl rfl hin_X5_tells_X5 12 rfl lk_X5_tells_f41 rfl rfl dX5_tells_109 ?_
        refine k_bipush Ox (v := nI 6) dX5_tells_112 rfl ?_
        refine k_iload_n Ox dX5_tells_114 rfl 3 rfl ?_
        refine k_imulN Ox dX5_tells_115 ?_
        refine k_iload_n Ox dX5_tells_116 rfl 4 rfl ?_
        refine k_iaddN Ox dX5_tells_117 ?_
        refine k_iald Ox 4 rfl (by omega) (by first | decide | omega) dX5_tells_118 ?_
        refine k_top (nI (B b p)) (congrArg nI (flM_at hp)) ?_
        refine k_iastN Ox 4 rfl (by omega) (by first | decide | omega) [_, _, _, _, _] rfl dX5_tells_119 ?_
        rw [flM_up hp]
        refine k_iload Ox dX5_tells_120 0 rfl ?_
        refine k_zret0 Ox Rt dX5_tells_122 (by first | exact bI_nar _ | decide) (Nat.le_of_ble_eq_true rfl) (Nat.le_of_ble_eq_true rfl) rfl ?_
        refine ⟨⟨by rw [hf]; rfl, ?_⟩, rfl⟩
        rw [tellB, hf]
        first | rfl | (rw [up2_same]; rfl)
      · refine k_aload_n Ox dX5_tells_42 rfl 0 rfl ?_
        refine k_get Ox 0 rfl rfl hin_X5_tells_X5 2 rfl lk_X5_tells_f16 rfl rfl dX5_tells_43 ?_
        refine k_iload_n Ox dX5_tells_46 rfl 3 rfl ?_
        refine k_iald Ox 1 rfl (by omega) (by first | decide | omega) dX5_tells_47 ?_
        refine k_iload_n Ox dX5_tells_48 rfl 2 rfl ?_
        refine k_icmp_eqN Ox 83 dX5_tells_49 rfl (by omega) (by omega) (fun c_49 => ?_) (fun c_49 => ?_)
        · have hf : tellOK O T K B a b p = false := by simp [tellOK, c_49]
          refine k_iconst Ox (v := nI 0) dX5_tells_83 rfl ?_
          refine k_istore Ox [(4, _), (0, _), (1, _), (2, _), (3, _)] dX5_tells_84 (by decide) rfl ?_
          refine k_aload_n Ox dX5_tells_86 rfl 1 rfl ?_
          refine k_get Ox 0 rfl rfl hin_X5_tells_X5 12 rfl lk_X5_tells_f41 rfl rfl dX5_tells_87 ?_
          refine k_bipush Ox (v := nI 6) dX5_tells_90 rfl ?_
          refine k_iload_n Ox dX5_tells_92 rfl 3 rfl ?_
          refine k_imulN Ox dX5_tells_93 ?_
          refine k_iload_n Ox dX5_tells_94 rfl 4 rfl ?_
          refine k_iaddN Ox dX5_tells_95 ?_
          refine k_iload Ox dX5_tells_96 0 rfl ?_
          refine k_if_eqN Ox 108 dX5_tells_98 rfl (by decide) (fun _ => ?_) (fun h => absurd h (by decide))
          refine k_aload_n Ox dX5_tells_108 rfl 1 rfl ?_
          refine k_get Ox 0 rfl rfl hin_X5_tells_X5 12 rfl lk_X5_tells_f41 rfl rfl dX5_tells_109 ?_
          refine k_bipush Ox (v := nI 6) dX5_tells_112 rfl ?_
          refine k_iload_n Ox dX5_tells_114 rfl 3 rfl ?_
          refine k_imulN Ox dX5_tells_115 ?_
          refine k_iload_n Ox dX5_tells_116 rfl 4 rfl ?_
          refine k_iaddN Ox dX5_tells_117 ?_
          refine k_iald Ox 4 rfl (by omega) (by first | decide | omega) dX5_tells_118 ?_
          refine k_top (nI (B b p)) (congrArg nI (flM_at hp)) ?_
          refine k_iastN Ox 4 rfl (by omega) (by first | decide | omega) [_, _, _, _, _] rfl dX5_tells_119 ?_
          rw [flM_up hp]
          refine k_iload Ox dX5_tells_120 0 rfl ?_
          refine k_zret0 Ox Rt dX5_tells_122 (by first | exact bI_nar _ | decide) (Nat.le_of_ble_eq_true rfl) (Nat.le_of_ble_eq_true rfl) rfl ?_
          refine ⟨⟨by rw [hf]; rfl, ?_⟩, rfl⟩
          rw [tellB, hf]
          first | rfl | (rw [up2_same]; rfl)
        · refine k_aload_n Ox dX5_tells_52 rfl 0 rfl ?_
          refine k_get Ox 0 rfl rfl hin_X5_tells_X5 4 rfl lk_X5_tells_f22 rfl rfl dX5_tells_53 ?_
          refine k_iload_n Ox dX5_tells_56 rfl 2 rfl ?_
          refine k_iald Ox 3 rfl (by omega) (by first | decide | omega) dX5_tells_57 ?_
          refine k_iload_n Ox dX5_tells_58 rfl 3 rfl ?_
          refine k_callS Ox [] (c_X5_has G _ _ (hK b hb) (hp)) 2 rfl rfl rfl ⟨rfl, rfl⟩ rfl rfl gX5_tells_X5_has ⟨(by decide +kernel), (by decide +kernel), (by decide +kernel)⟩ rfl dX5_tells_59 (Nat.le_of_ble_eq_true rfl) rfl ⟨Nat.le_of_ble_eq_true rfl, Nat.le_of_ble_eq_true rfl⟩ (fun r wa wb hp => ?_)
          obtain ⟨⟨rfl, rfl⟩, rfl⟩ := hp
          show V x G _ _ _ _ _ (.int _ :: _) [_, _, _, _, _]
          refine k_if_neB Ox 83 dX5_tells_62 rfl (fun c_62 => ?_) (fun c_62 => ?_)
          · have hf : tellOK O T K B a b p = false := by simp [tellOK, c_62]
            refine k_iconst Ox (v := nI 0) dX5_tells_83 rfl ?_
            refine k_istore Ox [(4, _), (0, _), (1, _), (2, _), (3, _)] dX5_tells_84 (by decide) rfl ?_
            refine k_aload_n Ox dX5_tells_86 rfl 1 rfl ?_
            refine k_get Ox 0 rfl rfl hin_X5_tells_X5 12 rfl lk_X5_tells_f41 rfl rfl dX5_tells_87 ?_
            refine k_bipush Ox (v := nI 6) dX5_tells_90 rfl ?_
            refine k_iload_n Ox dX5_tells_92 rfl 3 rfl ?_
            refine k_imulN Ox dX5_tells_93 ?_
            refine k_iload_n Ox dX5_tells_94 rfl 4 rfl ?_
            refine k_iaddN Ox dX5_tells_95 ?_
            refine k_iload Ox dX5_tells_96 0 rfl ?_
            refine k_if_eqN Ox 108 dX5_tells_98 rfl (by decide) (fun _ => ?_) (fun h => absurd h (by decide))
            refine k_aload_n Ox dX5_tells_108 rfl 1 rfl ?_
            refine k_get Ox 0 rfl rfl hin_X5_tells_X5 12 rfl lk_X5_tells_f41 rfl rfl dX5_tells_109 ?_
            refine k_bipush Ox (v := nI 6) dX5_tells_112 rfl ?_
            refine k_iload_n Ox dX5_tells_114 rfl 3 rfl ?_
            refine k_imulN Ox dX5_tells_115 ?_
            refine k_iload_n Ox dX5_tells_116 rfl 4 rfl ?_
            refine k_iaddN Ox dX5_tells_117 ?_
            refine k_iald Ox 4 rfl (by omega) (by first | decide | omega) dX5_tells_118 ?_
            refine k_top (nI (B b p)) (congrArg nI (flM_at hp)) ?_
            refine k_iastN Ox 4 rfl (by omega) (by first | decide | omega) [_, _, _, _, _] rfl dX5_tells_119 ?_
            rw [flM_up hp]
            refine k_iload Ox dX5_tells_120 0 rfl ?_
            refine k_zret0 Ox Rt dX5_tells_122 (by first | exact bI_nar _ | decide) (Nat.le_of_ble_eq_true rfl) (Nat.le_of_ble_eq_true rfl) rfl ?_
            refine ⟨⟨by rw [hf]; rfl, ?_⟩, rfl⟩
            rw [tellB, hf]
            first | rfl | (rw [up2_same]; rfl)
          · refine k_aload_n Ox dX5_tells_65 rfl 0 rfl ?_
            refine k_get Ox 0 rfl rfl hin_X5_tells_X5 12 rfl lk_X5_tells_f41 rfl rfl dX5_tells_66 ?_
            refine k_bipush Ox (v := nI 6) dX5_tells_69 rfl ?_
            refine k_iload_n Ox dX5_tells_71 rfl 2 rfl ?_
            refine k_imulN Ox dX5_tells_72 ?_
            refine k_iload_n Ox dX5_tells_73 rfl 3 rfl ?_
            refine k_iaddN Ox dX5_tells_74 ?_
            refine k_iald Ox 4 rfl (by omega) (by first | decide | omega) dX5_tells_75 ?_
            refine k_top (nI (B b p)) (congrArg nI (flM_at hp)) ?_
            refine k_if_neN Ox 83 dX5_tells_76 rfl (by omega) (fun c_76 => ?_) (fun c_76 => ?_)
            · have hf : tellOK O T K B a b p = false := by simp [tellOK]; omega
              refine k_iconst Ox (v := nI 0) dX5_tells_83 rfl ?_
              refine k_istore Ox [(4, _), (0, _), (1, _), (2, _), (3, _)] dX5_tells_84 (by decide) rfl ?_
              refine k_aload_n Ox dX5_tells_86 rfl 1 rfl ?_
              refine k_get Ox 0 rfl rfl hin_X5_tells_X5 12 rfl lk_X5_tells_f41 rfl rfl dX5_tells_87 ?_
              refine k_bipush Ox (v := nI 6) dX5_tells_90 rfl ?_
              refine k_iload_n Ox dX5_tells_92 rfl 3 rfl ?_
              refine k_imulN Ox dX5_tells_93 ?_
              refine k_iload_n Ox dX5_tells_94 rfl 4 rfl ?_
              refine k_iaddN Ox dX5_tells_95 ?_
              refine k_iload Ox dX5_tells_96 0 rfl ?_
              refine k_if_eqN Ox 108 dX5_tells_98 rfl (by decide) (fun _ => ?_) (fun h => absurd h (by decide))
              refine k_aload_n Ox dX5_tells_108 rfl 1 rfl ?_
              refine k_get Ox 0 rfl rfl hin_X5_tells_X5 12 rfl lk_X5_tells_f41 rfl rfl dX5_tells_109 ?_
              refine k_bipush Ox (v := nI 6) dX5_tells_112 rfl ?_
              refine k_iload_n Ox dX5_tells_114 rfl 3 rfl ?_
              refine k_imulN Ox dX5_tells_115 ?_
              refine k_iload_n Ox dX5_tells_116 rfl 4 rfl ?_
              refine k_iaddN Ox dX5_tells_117 ?_
              refine k_iald Ox 4 rfl (by omega) (by first | decide | omega) dX5_tells_118 ?_
              refine k_top (nI (B b p)) (congrArg nI (flM_at hp)) ?_
              refine k_iastN Ox 4 rfl (by omega) (by first | decide | omega) [_, _, _, _, _] rfl dX5_tells_119 ?_
              rw [flM_up hp]
              refine k_iload Ox dX5_tells_120 0 rfl ?_
              refine k_zret0 Ox Rt dX5_tells_122 (by first | exact bI_nar _ | decide) (Nat.le_of_ble_eq_true rfl) (Nat.le_of_ble_eq_true rfl) rfl ?_
              refine ⟨⟨by rw [hf]; rfl, ?_⟩, rfl⟩
              rw [tellB, hf]
              first | rfl | (rw [up2_same]; rfl)
            · have hf : tellOK O T K B a b p = true := by simp [tellOK, hm, c_39, c_62, c_76]; exact c_49
              refine k_iconst Ox (v := nI 1) dX5_tells_79 rfl ?_
              refine k_goto Ox 84 dX5_tells_80 rfl ?_
              refine k_istore Ox [(4, _), (0, _), (1, _), (2, _), (3, _)] dX5_tells_84 (by decide) rfl ?_
              refine k_aload_n Ox dX5_tells_86 rfl 1 rfl ?_
              refine k_get Ox 0 rfl rfl hin_X5_tells_X5 12 rfl lk_X5_tells_f41 rfl rfl dX5_tells_87 ?_
              refine k_bipush Ox (v := nI 6) dX5_tells_90 rfl ?_
              refine k_iload_n Ox dX5_tells_92 rfl 3 rfl ?_
              refine k_imulN Ox dX5_tells_93 ?_
              refine k_iload_n Ox dX5_tells_94 rfl 4 rfl ?_
              refine k_iaddN Ox dX5_tells_95 ?_
              refine k_iload Ox dX5_tells_96 0 rfl ?_
              refine k_if_eqN Ox 108 dX5_tells_98 rfl (by decide) (fun h => absurd h (by decide)) (fun _ => ?_)
              refine k_aload_n Ox dX5_tells_101 rfl 1 rfl ?_
              refine k_get Ox 0 rfl rfl hin_X5_tells_X5 7 rfl lk_X5_tells_f31 rfl rfl dX5_tells_102 ?_
              refine k_goto Ox 119 dX5_tells_105 rfl ?_
              refine k_iastN Ox 4 rfl (by omega) (by first | decide | omega) [_, _, _, _, _] rfl dX5_tells_119 ?_
              rw [flM_up hp]
              refine k_iload Ox dX5_tells_120 0 rfl ?_
              refine k_zret0 Ox Rt dX5_tells_122 (by first | exact bI_nar _ | decide) (Nat.le_of_ble_eq_true rfl) (Nat.le_of_ble_eq_true rfl) rfl ?_
              refine ⟨⟨by rw [hf]; rfl, ?_⟩, rfl⟩
              rw [tellB, hf]
              first | rfl | (rw [up2_same]; rfl)
    · refine k_aload_n Ox dX5_tells_15 rfl 0 rfl ?_
      refine k_get Ox 0 rfl rfl hin_X5_tells_X5 12 rfl lk_X5_tells_f41 rfl rfl dX5_tells_16 ?_
      refine k_bipush Ox (v := nI 6) dX5_tells_19 rfl ?_
      refine k_iload_n Ox dX5_tells_21 rfl 1 rfl ?_
      refine k_imulN Ox dX5_tells_22 ?_
      refine k_iload_n Ox dX5_tells_23 rfl 3 rfl ?_
      refine k_iaddN Ox dX5_tells_24 ?_
      refine k_iald Ox 4 rfl (by omega) (by first | decide | omega) dX5_tells_25 ?_
      refine k_top (nI (B a p)) (congrArg nI (flM_at hp)) ?_
      refine k_if_leN Ox 83 dX5_tells_26 rfl (by omega) (fun c_26 => ?_) (fun c_26 => ?_)
      · have hf : tellOK O T K B a b p = false := by simp [tellOK, mayT, c_12, c_26]
        refine k_iconst Ox (v := nI 0) dX5_tells_83 rfl ?_
        refine k_istore Ox [(4, _), (0, _), (1, _), (2, _), (3, _)] dX5_tells_84 (by decide) rfl ?_
        refine k_aload_n Ox dX5_tells_86 rfl 1 rfl ?_
        refine k_get Ox 0 rfl rfl hin_X5_tells_X5 12 rfl lk_X5_tells_f41 rfl rfl dX5_tells_87 ?_
        refine k_bipush Ox (v := nI 6) dX5_tells_90 rfl ?_
        refine k_iload_n Ox dX5_tells_92 rfl 3 rfl ?_
        refine k_imulN Ox dX5_tells_93 ?_
        refine k_iload_n Ox dX5_tells_94 rfl 4 rfl ?_
        refine k_iaddN Ox dX5_tells_95 ?_
        refine k_iload Ox dX5_tells_96 0 rfl ?_
        refine k_if_eqN Ox 108 dX5_tells_98 rfl (by decide) (fun _ => ?_) (fun h => absurd h (by decide))
        refine k_aload_n Ox dX5_tells_108 rfl 1 rfl ?_
        refine k_get Ox 0 rfl rfl hin_X5_tells_X5 12 rfl lk_X5_tells_f41 rfl rfl dX5_tells_109 ?_
        refine k_bipush Ox (v := nI 6) dX5_tells_112 rfl ?_
        refine k_iload_n Ox dX5_tells_114 rfl 3 rfl ?_
        refine k_imulN Ox dX5_tells_115 ?_
        refine k_iload_n Ox dX5_tells_116 rfl 4 rfl ?_
        refine k_iaddN Ox dX5_tells_117 ?_
        refine k_iald Ox 4 rfl (by omega) (by first | decide | omega) dX5_tells_118 ?_
        refine k_top (nI (B b p)) (congrArg nI (flM_at hp)) ?_
        refine k_iastN Ox 4 rfl (by omega) (by first | decide | omega) [_, _, _, _, _] rfl dX5_tells_119 ?_
        rw [flM_up hp]
        refine k_iload Ox dX5_tells_120 0 rfl ?_
        refine k_zret0 Ox Rt dX5_tells_122 (by first | exact bI_nar _ | decide) (Nat.le_of_ble_eq_true rfl) (Nat.le_of_ble_eq_true rfl) rfl ?_
        refine ⟨⟨by rw [hf]; rfl, ?_⟩, rfl⟩
        rw [tellB, hf]
        first | rfl | (rw [up2_same]; rfl)
      · have hm : mayT O B a p = true := by simp [mayT]; omega
        refine k_aload_n Ox dX5_tells_29 rfl 0 rfl ?_
        refine k_get Ox 0 rfl rfl hin_X5_tells_X5 3 rfl lk_X5_tells_f19 rfl rfl dX5_tells_30 ?_
        refine k_iload_n Ox dX5_tells_33 rfl 2 rfl ?_
        refine k_iald Ox 2 rfl (by omega) (by first | decide | omega) dX5_tells_34 ?_
        refine k_iload_n Ox dX5_tells_35 rfl 1 rfl ?_
        refine k_callS Ox [] (c_X5_has G _ _ (hT b hb) (ha)) 2 rfl rfl rfl ⟨rfl, rfl⟩ rfl rfl gX5_tells_X5_has ⟨(by decide +kernel), (by decide +kernel), (by decide +kernel)⟩ rfl dX5_tells_36 (Nat.le_of_ble_eq_true rfl) rfl ⟨Nat.le_of_ble_eq_true rfl, Nat.le_of_ble_eq_true rfl⟩ (fun r wa wb hp => ?_)
        obtain ⟨⟨rfl, rfl⟩, rfl⟩ := hp
        show V x G _ _ _ _ _ (.int _ :: _) [_, _, _, _, _]
        refine k_if_eqB Ox 83 dX5_tells_39 rfl (fun c_39 => ?_) (fun c_39 => ?_)
        · have hf : tellOK O T K B a b p = false := by simp [tellOK, c_39]
          refine k_iconst Ox (v := nI 0) dX5_tells_83 rfl ?_
          refine k_istore Ox [(4, _), (0, _), (1, _), (2, _), (3, _)] dX5_tells_84 (by decide) rfl ?_
          refine k_aload_n Ox dX5_tells_86 rfl 1 rfl ?_
          refine k_get Ox 0 rfl rfl hin_X5_tells_X5 12 rfl lk_X5_tells_f41 rfl rfl dX5_tells_87 ?_
          refine k_bipush Ox (v := nI 6) dX5_tells_90 rfl ?_
          refine k_iload_n Ox dX5_tells_92 rfl 3 rfl ?_
          refine k_imulN Ox dX5_tells_93 ?_
          refine k_iload_n Ox dX5_tells_94 rfl 4 rfl ?_
          refine k_iaddN Ox dX5_tells_95 ?_
          refine k_iload Ox dX5_tells_96 0 rfl ?_
          refine k_if_eqN Ox 108 dX5_tells_98 rfl (by decide) (fun _ => ?_) (fun h => absurd h (by decide))
          refine k_aload_n Ox dX5_tells_108 rfl 1 rfl ?_
          refine k_get Ox 0 rfl rfl hin_X5_tells_X5 12 rfl lk_X5_tells_f41 rfl rfl dX5_tells_109 ?_
          refine k_bipush Ox (v := nI 6) dX5_tells_112 rfl ?_
          refine k_iload_n Ox dX5_tells_114 rfl 3 rfl ?_
          refine k_imulN Ox dX5_tells_115 ?_
          refine k_iload_n Ox dX5_tells_116 rfl 4 rfl ?_
          refine k_iaddN Ox dX5_tells_117 ?_
          refine k_iald Ox 4 rfl (by omega) (by first | decide | omega) dX5_tells_118 ?_
          refine k_top (nI (B b p)) (congrArg nI (flM_at hp)) ?_
          refine k_iastN Ox 4 rfl (by omega) (by first | decide | omega) [_, _, _, _, _] rfl dX5_tells_119 ?_
          rw [flM_up hp]
          refine k_iload Ox dX5_tells_120 0 rfl ?_
          refine k_zret0 Ox Rt dX5_tells_122 (by first | exact bI_nar _ | decide) (Nat.le_of_ble_eq_true rfl) (Nat.le_of_ble_eq_true rfl) rfl ?_
          refine ⟨⟨by rw [hf]; rfl, ?_⟩, rfl⟩
          rw [tellB, hf]
          first | rfl | (rw [up2_same]; rfl)
        · refine k_aload_n Ox dX5_tells_42 rfl 0 rfl ?_
          refine k_get Ox 0 rfl rfl hin_X5_tells_X5 2 rfl lk_X5_tells_f16 rfl rfl dX5_tells_43 ?_
          refine k_iload_n Ox dX5_tells_46 rfl 3 rfl ?_
          refine k_iald Ox 1 rfl (by omega) (by first | decide | omega) dX5_tells_47 ?_
          refine k_iload_n Ox dX5_tells_48 rfl 2 rfl ?_
          refine k_icmp_eqN Ox 83 dX5_tells_49 rfl (by omega) (by omega) (fun c_49 => ?_) (fun c_49 => ?_)
          · have hf : tellOK O T K B a b p = false := by simp [tellOK, c_49]
            refine k_iconst Ox (v := nI 0) dX5_tells_83 rfl ?_
            refine k_istore Ox [(4, _), (0, _), (1, _), (2, _), (3, _)] dX5_tells_84 (by decide) rfl ?_
            refine k_aload_n Ox dX5_tells_86 rfl 1 rfl ?_
            refine k_get Ox 0 rfl rfl hin_X5_tells_X5 12 rfl lk_X5_tells_f41 rfl rfl dX5_tells_87 ?_
            refine k_bipush Ox (v := nI 6) dX5_tells_90 rfl ?_
            refine k_iload_n Ox dX5_tells_92 rfl 3 rfl ?_
            refine k_imulN Ox dX5_tells_93 ?_
            refine k_iload_n Ox dX5_tells_94 rfl 4 rfl ?_
            refine k_iaddN Ox dX5_tells_95 ?_
            refine k_iload Ox dX5_tells_96 0 rfl ?_
            refine k_if_eqN Ox 108 dX5_tells_98 rfl (by decide) (fun _ => ?_) (fun h => absurd h (by decide))
            refine k_aload_n Ox dX5_tells_108 rfl 1 rfl ?_
            refine k_get Ox 0 rfl rfl hin_X5_tells_X5 12 rfl lk_X5_tells_f41 rfl rfl dX5_tells_109 ?_
            refine k_bipush Ox (v := nI 6) dX5_tells_112 rfl ?_
            refine k_iload_n Ox dX5_tells_114 rfl 3 rfl ?_
            refine k_imulN Ox dX5_tells_115 ?_
            refine k_iload_n Ox dX5_tells_116 rfl 4 rfl ?_
            refine k_iaddN Ox dX5_tells_117 ?_
            refine k_iald Ox 4 rfl (by omega) (by first | decide | omega) dX5_tells_118 ?_
            refine k_top (nI (B b p)) (congrArg nI (flM_at hp)) ?_
            refine k_iastN Ox 4 rfl (by omega) (by first | decide | omega) [_, _, _, _, _] rfl dX5_tells_119 ?_
            rw [flM_up hp]
            refine k_iload Ox dX5_tells_120 0 rfl ?_
            refine k_zret0 Ox Rt dX5_tells_122 (by first | exact bI_nar _ | decide) (Nat.le_of_ble_eq_true rfl) (Nat.le_of_ble_eq_true rfl) rfl ?_
            refine ⟨⟨by rw [hf]; rfl, ?_⟩, rfl⟩
            rw [tellB, hf]
            first | rfl | (rw [up2_same]; rfl)
          · refine k_aload_n Ox dX5_tells_52 rfl 0 rfl ?_
            refine k_get Ox 0 rfl rfl hin_X5_tells_X5 4 rfl lk_X5_tells_f22 rfl rfl dX5_tells_53 ?_
            refine k_iload_n Ox dX5_tells_56 rfl 2 rfl ?_
            refine k_iald Ox 3 rfl (by omega) (by first | decide | omega) dX5_tells_57 ?_
            refine k_iload_n Ox dX5_tells_58 rfl 3 rfl ?_
            refine k_callS Ox [] (c_X5_has G _ _ (hK b hb) (hp)) 2 rfl rfl rfl ⟨rfl, rfl⟩ rfl rfl gX5_tells_X5_has ⟨(by decide +kernel), (by decide +kernel), (by decide +kernel)⟩ rfl dX5_tells_59 (Nat.le_of_ble_eq_true rfl) rfl ⟨Nat.le_of_ble_eq_true rfl, Nat.le_of_ble_eq_true rfl⟩ (fun r wa wb hp => ?_)
            obtain ⟨⟨rfl, rfl⟩, rfl⟩ := hp
            show V x G _ _ _ _ _ (.int _ :: _) [_, _, _, _, _]
            refine k_if_neB Ox 83 dX5_tells_62 rfl (fun c_62 => ?_) (fun c_62 => ?_)
            · have hf : tellOK O T K B a b p = false := by simp [tellOK, c_62]
              refine k_iconst Ox (v := nI 0) dX5_tells_83 rfl ?_
              refine k_istore Ox [(4, _), (0, _), (1, _), (2, _), (3, _)] dX5_tells_84 (by decide) rfl ?_
              refine k_aload_n Ox dX5_tells_86 rfl 1 rfl ?_
              refine k_get Ox 0 rfl rfl hin_X5_tells_X5 12 rfl lk_X5_tells_f41 rfl rfl dX5_tells_87 ?_
              refine k_bipush Ox (v := nI 6) dX5_tells_90 rfl ?_
              refine k_iload_n Ox dX5_tells_92 rfl 3 rfl ?_
              refine k_imulN Ox dX5_tells_93 ?_
              refine k_iload_n Ox dX5_tells_94 rfl 4 rfl ?_
              refine k_iaddN Ox dX5_tells_95 ?_
              refine k_iload Ox dX5_tells_96 0 rfl ?_
              refine k_if_eqN Ox 108 dX5_tells_98 rfl (by decide) (fun _ => ?_) (fun h => absurd h (by decide))
              refine k_aload_n Ox dX5_tells_108 rfl 1 rfl ?_
              refine k_get Ox 0 rfl rfl hin_X5_tells_X5 12 rfl lk_X5_tells_f41 rfl rfl dX5_tells_109 ?_
              refine k_bipush Ox (v := nI 6) dX5_tells_112 rfl ?_
              refine k_iload_n Ox dX5_tells_114 rfl 3 rfl ?_
              refine k_imulN Ox dX5_tells_115 ?_
              refine k_iload_n Ox dX5_tells_116 rfl 4 rfl ?_
              refine k_iaddN Ox dX5_tells_117 ?_
              refine k_iald Ox 4 rfl (by omega) (by first | decide | omega) dX5_tells_118 ?_
              refine k_top (nI (B b p)) (congrArg nI (flM_at hp)) ?_
              refine k_iastN Ox 4 rfl (by omega) (by first | decide | omega) [_, _, _, _, _] rfl dX5_tells_119 ?_
              rw [flM_up hp]
              refine k_iload Ox dX5_tells_120 0 rfl ?_
              refine k_zret0 Ox Rt dX5_tells_122 (by first | exact bI_nar _ | decide) (Nat.le_of_ble_eq_true rfl) (Nat.le_of_ble_eq_true rfl) rfl ?_
              refine ⟨⟨by rw [hf]; rfl, ?_⟩, rfl⟩
              rw [tellB, hf]
              first | rfl | (rw [up2_same]; rfl)
            · refine k_aload_n Ox dX5_tells_65 rfl 0 rfl ?_
              refine k_get Ox 0 rfl rfl hin_X5_tells_X5 12 rfl lk_X5_tells_f41 rfl rfl dX5_tells_66 ?_
              refine k_bipush Ox (v := nI 6) dX5_tells_69 rfl ?_
              refine k_iload_n Ox dX5_tells_71 rfl 2 rfl ?_
              refine k_imulN Ox dX5_tells_72 ?_
              refine k_iload_n Ox dX5_tells_73 rfl 3 rfl ?_
              refine k_iaddN Ox dX5_tells_74 ?_
              refine k_iald Ox 4 rfl (by omega) (by first | decide | omega) dX5_tells_75 ?_
              refine k_top (nI (B b p)) (congrArg nI (flM_at hp)) ?_
              refine k_if_neN Ox 83 dX5_tells_76 rfl (by omega) (fun c_76 => ?_) (fun c_76 => ?_)
              · have hf : tellOK O T K B a b p = false := by simp [tellOK]; omega
                refine k_iconst Ox (v := nI 0) dX5_tells_83 rfl ?_
                refine k_istore Ox [(4, _), (0, _), (1, _), (2, _), (3, _)] dX5_tells_84 (by decide) rfl ?_
                refine k_aload_n Ox dX5_tells_86 rfl 1 rfl ?_
                refine k_get Ox 0 rfl rfl hin_X5_tells_X5 12 rfl lk_X5_tells_f41 rfl rfl dX5_tells_87 ?_
                refine k_bipush Ox (v := nI 6) dX5_tells_90 rfl ?_
                refine k_iload_n Ox dX5_tells_92 rfl 3 rfl ?_
                refine k_imulN Ox dX5_tells_93 ?_
                refine k_iload_n Ox dX5_tells_94 rfl 4 rfl ?_
                refine k_iaddN Ox dX5_tells_95 ?_
                refine k_iload Ox dX5_tells_96 0 rfl ?_
                refine k_if_eqN Ox 108 dX5_tells_98 rfl (by decide) (fun _ => ?_) (fun h => absurd h (by decide))
                refine k_aload_n Ox dX5_tells_108 rfl 1 rfl ?_
                refine k_get Ox 0 rfl rfl hin_X5_tells_X5 12 rfl lk_X5_tells_f41 rfl rfl dX5_tells_109 ?_
                refine k_bipush Ox (v := nI 6) dX5_tells_112 rfl ?_
                refine k_iload_n Ox dX5_tells_114 rfl 3 rfl ?_
                refine k_imulN Ox dX5_tells_115 ?_
                refine k_iload_n Ox dX5_tells_116 rfl 4 rfl ?_
                refine k_iaddN Ox dX5_tells_117 ?_
                refine k_iald Ox 4 rfl (by omega) (by first | decide | omega) dX5_tells_118 ?_
                refine k_top (nI (B b p)) (congrArg nI (flM_at hp)) ?_
                refine k_iastN Ox 4 rfl (by omega) (by first | decide | omega) [_, _, _, _, _] rfl dX5_tells_119 ?_
                rw [flM_up hp]
                refine k_iload Ox dX5_tells_120 0 rfl ?_
                refine k_zret0 Ox Rt dX5_tells_122 (by first | exact bI_nar _ | decide) (Nat.le_of_ble_eq_true rfl) (Nat.le_of_ble_eq_true rfl) rfl ?_
                refine ⟨⟨by rw [hf]; rfl, ?_⟩, rfl⟩
                rw [tellB, hf]
                first | rfl | (rw [up2_same]; rfl)
              · have hf : tellOK O T K B a b p = true := by simp [tellOK, hm, c_39, c_62, c_76]; exact c_49
                refine k_iconst Ox (v := nI 1) dX5_tells_79 rfl ?_
                refine k_goto Ox 84 dX5_tells_80 rfl ?_
                refine k_istore Ox [(4, _), (0, _), (1, _), (2, _), (3, _)] dX5_tells_84 (by decide) rfl ?_
                refine k_aload_n Ox dX5_tells_86 rfl 1 rfl ?_
                refine k_get Ox 0 rfl rfl hin_X5_tells_X5 12 rfl lk_X5_tells_f41 rfl rfl dX5_tells_87 ?_
                refine k_bipush Ox (v := nI 6) dX5_tells_90 rfl ?_
                refine k_iload_n Ox dX5_tells_92 rfl 3 rfl ?_
                refine k_imulN Ox dX5_tells_93 ?_
                refine k_iload_n Ox dX5_tells_94 rfl 4 rfl ?_
                refine k_iaddN Ox dX5_tells_95 ?_
                refine k_iload Ox dX5_tells_96 0 rfl ?_
                refine k_if_eqN Ox 108 dX5_tells_98 rfl (by decide) (fun h => absurd h (by decide)) (fun _ => ?_)
                refine k_aload_n Ox dX5_tells_101 rfl 1 rfl ?_
                refine k_get Ox 0 rfl rfl hin_X5_tells_X5 7 rfl lk_X5_tells_f31 rfl rfl dX5_tells_102 ?_
                refine k_goto Ox 119 dX5_tells_105 rfl ?_
                refine k_iastN Ox 4 rfl (by omega) (by first | decide | omega) [_, _, _, _, _] rfl dX5_tells_119 ?_
                rw [flM_up hp]
                refine k_iload Ox dX5_tells_120 0 rfl ?_
                refine k_zret0 Ox Rt dX5_tells_122 (by first | exact bI_nar _ | decide) (Nat.le_of_ble_eq_true rfl) (Nat.le_of_ble_eq_true rfl) rfl ?_
                refine ⟨⟨by rw [hf]; rfl, ?_⟩, rfl⟩
                rw [tellB, hf]
                first | rfl | (rw [up2_same]; rfl)
theorem lk_X5_beliefOf_f41 : Cond.fieldLink RX5 41 "LieBridgesModel" "now" "[I" ∈ wsX5_beliefOf := List.mem_of_getElem? (i := 1) rfl
theorem hin_X5_beliefOf_X5 : ∀ w ∈ u_ws RX5 TX5 22, w ∈ wsX5_beliefOf := fun _ h => List.mem_cons_of_mem _ (List.mem_append_right _ h)
set_option maxHeartbeats 400000 in
set_option maxRecDepth 4000 in
theorem c_X5_beliefOf (G : Gx) (m a1 a2 a3 a4 a5 a6 a7 a8 a9 a10 a11 a12 a13 : Nat) (fd sg mn : Nat) (w1 w2 w3 w4 w5 w6 : Int32) (B : Nat → Nat → Nat) (p : Nat) (a : Int32) (hB : okB B) (hp : p < 6) (ha : isPA a = true) : Ct G yX5_beliefOf wsX5_beliefOf { frames := 1, cells := 0, slots := 0, locals := 23 } [.ref m, .int (nI p), .int a, .int (-1)] [(m, cO 5 [.ref a1, .ref a2, .ref a3, .ref a4, .ref a5, .ref a6, .ref a7, .int (nI fd), .int (nI sg), .ref a8, .int (nI mn), .ref a9, .ref a10, .int w1, .int w2, .ref a11, .int w3, .int w4, .int w5, .int w6, .ref a12, .ref a13]), (a10, cI G 36 (rN (flM B)))] (fun r wa => r = some (.int (blR B p a)) ∧ wa = [(m, cO 5 [.ref a1, .ref a2, .ref a3, .ref a4, .ref a5, .ref a6, .ref a7, .int (nI fd), .int (nI sg), .ref a8, .int (nI mn), .ref a9, .ref a10, .int w1, .int w2, .ref a11, .int w3, .int w4, .int w5, .int w6, .ref a12, .ref a13]), (a10, cI G 36 (rN (flM B)))]) := by
  refine CtN.of [(0, .ref m), (1, .int (nI p)), (2, .int a), (3, .int (-1))] (by decide +kernel) rfl rfl rfl rfl ?_
  intro x Ox Rt
  refine k_iload_n Ox dX5_beliefOf_0 rfl 2 rfl ?_
  refine k_iload_n Ox dX5_beliefOf_1 rfl 3 rfl ?_
  refine k_icmp_ne Ox 13 dX5_beliefOf_2 rfl (fun c_2 => ?_) (fun c_2 => ?_)
  · obtain ⟨j, hj, rfl⟩ := isPA_ne ha c_2
    refine k_aload_n Ox dX5_beliefOf_13 rfl 0 rfl ?_
    refine k_get Ox 0 rfl rfl hin_X5_beliefOf_X5 12 rfl lk_X5_beliefOf_f41 rfl rfl dX5_beliefOf_14 ?_
    refine k_bipush Ox (v := nI 6) dX5_beliefOf_17 rfl ?_
    refine k_iload_n Ox dX5_beliefOf_19 rfl 2 rfl ?_
    refine k_imulN Ox dX5_beliefOf_20 ?_
    refine k_iload_n Ox dX5_beliefOf_21 rfl 1 rfl ?_
    refine k_iaddN Ox dX5_beliefOf_22 ?_
    refine k_iald Ox 1 rfl (by omega) (by first | decide | omega) dX5_beliefOf_23 ?_
    refine k_top (nI (B j p)) (congrArg nI (flM_at hp)) ?_
    refine k_iret0 Ox Rt dX5_beliefOf_24 (Nat.le_of_ble_eq_true rfl) (Nat.le_of_ble_eq_true rfl) rfl ?_
    first | exact ⟨⟨by rw [blR, if_pos c_2], rfl⟩, rfl⟩ | exact ⟨⟨by rw [blR, if_neg c_2, nn_nI (by omega)], rfl⟩, rfl⟩
  · refine k_aload_n Ox dX5_beliefOf_5 rfl 0 rfl ?_
    refine k_iload_n Ox dX5_beliefOf_6 rfl 1 rfl ?_
    refine k_callV Ox [0, 1] (c_X5_bornBy G _ _ _ _ _ _ _ _ _ _ _ _ _ _ _ _ _ _ _ _ _ _ _ _ _ (by assumption) (by omega)) 1 rfl rfl rfl ⟨rfl, rfl⟩ rfl rfl gX5_beliefOf_X5_bornBy rfl 0 rfl ⟨rfl, (by decide +kernel), (by decide +kernel), (by decide +kernel)⟩ rfl dX5_beliefOf_7 (Nat.le_of_ble_eq_true rfl) rfl ⟨Nat.le_of_ble_eq_true rfl, Nat.le_of_ble_eq_true rfl⟩ (fun r wa wb hp => ?_)
    obtain ⟨⟨rfl, rfl⟩, rfl⟩ := hp
    show V x G _ _ _ _ _ (.int _ :: _) [_, _]
    refine k_goto Ox 24 dX5_beliefOf_10 rfl ?_
    refine k_iret0 Ox Rt dX5_beliefOf_24 (Nat.le_of_ble_eq_true rfl) (Nat.le_of_ble_eq_true rfl) rfl ?_
    first | exact ⟨⟨by rw [blR, if_pos c_2], rfl⟩, rfl⟩ | exact ⟨⟨by rw [blR, if_neg c_2, nn_nI (by omega)], rfl⟩, rfl⟩
set_option maxHeartbeats 400000 in
set_option maxRecDepth 4000 in
theorem c_X5_powerOf (G : Gx) (b k : Nat) (hb : 0 < b) (hk : k ≤ 6) (hb2 : b ≤ 10) : Ct G yX5_powerOf wsX5_powerOf { frames := 0, cells := 0, slots := 0, locals := 0 } [.int (nI b), .int (nI k)] [] (fun r wa => r = some (.int (nI (b ^ k))) ∧ wa = []) := by
  refine CtN.of [(0, .int (nI b)), (1, .int (nI k))] (by decide +kernel) rfl rfl rfl rfl ?_
  intro x Ox Rt
  refine k_iconst Ox (v := nI 1) dX5_powerOf_0 rfl ?_
  refine k_istore_n Ox [(2, _), (0, _), (1, _)] dX5_powerOf_1 rfl (by decide) rfl ?_
  refine k_iconst Ox (v := nI 0) dX5_powerOf_2 rfl ?_
  refine k_istore_n Ox [(3, _), (2, _), (0, _), (1, _)] dX5_powerOf_3 rfl (by decide) rfl ?_
  have L4 : ∀ (fuel : Nat) (i : Nat), i ≤ k → k + 1 ≤ i + fuel → V x G 4 0 0 4 [(0, .int (nI b)), (1, .int (nI k)), (2, .int (nI (b ^ i))), (3, .int (nI i))] [] [] := by
    intro fuel
    induction fuel with
    | zero => intro i hi hfuel; exact absurd hi (by omega)
    | succ fuel ih =>
      intro i hi hfuel
      refine k_iload_n Ox dX5_powerOf_4 rfl 3 rfl ?_
      refine k_iload_n Ox dX5_powerOf_5 rfl 1 rfl ?_
      refine k_icmp_geN Ox 19 dX5_powerOf_6 rfl (by omega) (by omega) (fun c_6 => ?_) (fun c_6 => ?_)
      · obtain rfl : i = k := by omega
        refine k_iload_n Ox dX5_powerOf_19 rfl 2 rfl ?_
        refine k_iret0 Ox Rt dX5_powerOf_20 (Nat.le_of_ble_eq_true rfl) (Nat.le_of_ble_eq_true rfl) rfl ?_
        exact ⟨⟨rfl, rfl⟩, rfl⟩
      · refine k_iload_n Ox dX5_powerOf_9 rfl 2 rfl ?_
        refine k_iload_n Ox dX5_powerOf_10 rfl 0 rfl ?_
        refine k_imulN Ox dX5_powerOf_11 ?_
        refine k_istore_n Ox [(2, _), (0, _), (1, _), (3, _)] dX5_powerOf_12 rfl (by decide) rfl ?_
        refine k_iincN Ox (k := 3) (m := 1) [(3, _), (2, _), (0, _), (1, _)] dX5_powerOf_13 rfl rfl (by decide) rfl ?_
        refine k_goto Ox 4 dX5_powerOf_16 rfl ?_
        refine k_sub [2, 3, 1, 0] [(0, _), (1, _), (2, _), (3, _)] rfl ?_
        exact ih (i + 1) (by omega) (by omega)
  refine k_sub [2, 3, 1, 0] [(0, _), (1, _), (2, _), (3, _)] rfl ?_
  exact L4 (k + 1) 0 (by omega) (by omega)
