theorem lk_X4_tellToAll_f10 : Cond.fieldLink RX4 10 "LieBridges" "now" "LLieBridges$Delta;" ∈ wsX4_tellToAll := List.mem_of_getElem? (i := 1) rfl
theorem hin_X4_tellToAll_X4 : ∀ w ∈ u_ws RX4 TX4 7, w ∈ wsX4_tellToAll := fun _ h => List.mem_cons_of_mem _ (List.mem_append_left _ (List.mem_append_left _ (List.mem_append_right _ h)))
set_option maxHeartbeats 400000 in
set_option maxRecDepth 4000 in
theorem c_X4_tellToAll (G : Gx) (h d im pd wy tb gu ro ls gs ly hs tr kn sp sl be hb hbd : Nat) (O : Nat → Nat) (T : Nat → Nat) (K : Nat → Nat) (B : Nat → Nat → Nat) (fd : Nat) (sg : Nat) (a p : Nat) (hO : okP O) (hT : okM T) (hK : okM K) (hB : okB B) (hfd : fd < 10) (ha : a < 6) (hp : p < 6) : Ct G yX4_tellToAll wsX4_tellToAll { frames := 3, cells := 0, slots := 0, locals := 71 } [.ref h, .ref hb, .int (nI a), .int (nI p)] [(h, cO 4 [.ref d, .ref im, .ref pd, .ref wy, .ref tb, .ref gu, .ref ro]), (d, cO 1 [.ref ls, .ref gs, .ref ly, .ref hs, .ref tr, .ref kn, .ref sp, .ref sl, .ref be, .int (nI fd), .int (nI sg)]), (ly, cI G 6 (rN O)), (tr, cI G 6 (rN T)), (kn, cI G 6 (rN K)), (hb, cO 0 [.ref hbd]), (hbd, cI G 36 (rN (flC B)))] (fun r wa => r = none ∧ wa = [(h, cO 4 [.ref d, .ref im, .ref pd, .ref wy, .ref tb, .ref gu, .ref ro]), (d, cO 1 [.ref ls, .ref gs, .ref ly, .ref hs, .ref tr, .ref kn, .ref sp, .ref sl, .ref be, .int (nI fd), .int (nI sg)]), (ly, cI G 6 (rN O)), (tr, cI G 6 (rN T)), (kn, cI G 6 (rN K)), (hb, cO 0 [.ref hbd]), (hbd, cI G 36 (rN (flC (tAll O T K fd B a p 6))))]) := by
  refine CtN.of [(0, .ref h), (1, .ref hb), (2, .int (nI a)), (3, .int (nI p))] (by decide +kernel) rfl rfl rfl rfl ?_
  intro x Ox Rt
  refine k_iconst Ox (v := nI 0) dX4_tellToAll_0 rfl ?_
  refine k_istore Ox [(4, _), (0, _), (1, _), (2, _), (3, _)] dX4_tellToAll_1 (by decide) rfl ?_
  have L3 : ∀ (fuel : Nat) (i : Nat), i ≤ 6 → 7 ≤ i + fuel → V x G 5 0 0 3 [(0, .ref h), (1, .ref hb), (2, .int (nI a)), (3, .int (nI p)), (4, .int (nI i))] [] [(h, cO 4 [.ref d, .ref im, .ref pd, .ref wy, .ref tb, .ref gu, .ref ro]), (d, cO 1 [.ref ls, .ref gs, .ref ly, .ref hs, .ref tr, .ref kn, .ref sp, .ref sl, .ref be, .int (nI fd), .int (nI sg)]), (ly, cI G 6 (rN O)), (tr, cI G 6 (rN T)), (kn, cI G 6 (rN K)), (hb, cO 0 [.ref hbd]), (hbd, cI G 36 (rN (flC (tAll O T K fd B a p i))))] := by
    intro fuel
    induction fuel with
    | zero => intro i hi hfuel; exact absurd hi (by omega)
    | succ fuel ih =>
      intro i hi hfuel
      refine k_iload Ox dX4_tellToAll_3 4 rfl ?_
      refine k_bipush Ox (v := nI 6) dX4_tellToAll_5 rfl ?_
      refine k_icmp_geN Ox 29 dX4_tellToAll_7 rfl (by omega) (by omega) (fun c_7 => ?_) (fun c_7 => ?_)
      · obtain rfl : i = 6 := by omega
        refine k_vret0 Ox Rt dX4_tellToAll_29 (Nat.le_of_ble_eq_true rfl) (Nat.le_of_ble_eq_true rfl) rfl ?_
        exact ⟨⟨rfl, rfl⟩, rfl⟩
      · refine k_aload_n Ox dX4_tellToAll_10 rfl 0 rfl ?_
        refine k_get Ox 0 rfl rfl hin_X4_tellToAll_X4 0 rfl lk_X4_tellToAll_f10 rfl rfl dX4_tellToAll_11 ?_
        refine k_aload_n Ox dX4_tellToAll_14 rfl 1 rfl ?_
        refine k_iload_n Ox dX4_tellToAll_15 rfl 2 rfl ?_
        refine k_iload Ox dX4_tellToAll_16 4 rfl ?_
        refine k_iload_n Ox dX4_tellToAll_18 rfl 3 rfl ?_
        refine k_callV Ox [1, 2, 3, 4, 5, 6] (c_X1_tell G _ _ _ _ _ _ _ _ _ _ _ _ _ _ _ _ _ _ _ _ _ (hO) (hT) (hK) (tAll_ok hB hfd hp i (by omega)) (hfd) (ha) (by omega) (hp)) 4 rfl rfl rfl ⟨rfl, rfl⟩ rfl rfl gX4_tellToAll_X1_tell rfl 1 rfl ⟨rfl, (by decide +kernel), (by decide +kernel), (by decide +kernel)⟩ rfl dX4_tellToAll_19 (Nat.le_of_ble_eq_true rfl) rfl ⟨Nat.le_of_ble_eq_true rfl, Nat.le_of_ble_eq_true rfl⟩ (fun r wa wb hp => ?_)
        obtain ⟨⟨rfl, rfl⟩, rfl⟩ := hp
        show V x G _ _ _ _ _ (.int _ :: _) [_, _, _, _, _, _, _]
        refine k_pop Ox dX4_tellToAll_22 rfl ?_
        refine k_iincN Ox (k := 4) (m := 1) [(4, _), (0, _), (1, _), (2, _), (3, _)] dX4_tellToAll_23 rfl rfl (by decide) rfl ?_
        refine k_goto Ox 3 dX4_tellToAll_26 rfl ?_
        refine k_sub [1, 2, 3, 4, 0] [(0, _), (1, _), (2, _), (3, _), (4, _)] rfl ?_
        exact ih (i + 1) (by omega) (by omega)
  refine k_sub [1, 2, 3, 4, 0] [(0, _), (1, _), (2, _), (3, _), (4, _)] rfl ?_
  exact L3 7 0 (by omega) (by omega)
theorem lk_X4_denyToAll_f10 : Cond.fieldLink RX4 10 "LieBridges" "now" "LLieBridges$Delta;" ∈ wsX4_denyToAll := List.mem_of_getElem? (i := 1) rfl
theorem hin_X4_denyToAll_X4 : ∀ w ∈ u_ws RX4 TX4 7, w ∈ wsX4_denyToAll := fun _ h => List.mem_cons_of_mem _ (List.mem_append_left _ (List.mem_append_left _ (List.mem_append_right _ h)))
set_option maxHeartbeats 400000 in
set_option maxRecDepth 4000 in
theorem c_X4_denyToAll (G : Gx) (h d im pd wy tb gu ro ls gs ly hs tr kn sp sl be hb hbd : Nat) (T : Nat → Nat) (B : Nat → Nat → Nat) (fd : Nat) (sg : Nat) (a p : Nat) (hT : okM T) (hB : okB B) (ha : a < 6) (hp : p < 6) : Ct G yX4_denyToAll wsX4_denyToAll { frames := 3, cells := 0, slots := 0, locals := 70 } [.ref h, .ref hb, .int (nI a), .int (nI p)] [(h, cO 4 [.ref d, .ref im, .ref pd, .ref wy, .ref tb, .ref gu, .ref ro]), (d, cO 1 [.ref ls, .ref gs, .ref ly, .ref hs, .ref tr, .ref kn, .ref sp, .ref sl, .ref be, .int (nI fd), .int (nI sg)]), (tr, cI G 6 (rN T)), (hb, cO 0 [.ref hbd]), (hbd, cI G 36 (rN (flC B)))] (fun r wa => r = some (.int (nI (dCnt T B a p 6))) ∧ wa = [(h, cO 4 [.ref d, .ref im, .ref pd, .ref wy, .ref tb, .ref gu, .ref ro]), (d, cO 1 [.ref ls, .ref gs, .ref ly, .ref hs, .ref tr, .ref kn, .ref sp, .ref sl, .ref be, .int (nI fd), .int (nI sg)]), (tr, cI G 6 (rN T)), (hb, cO 0 [.ref hbd]), (hbd, cI G 36 (rN (flC (dAll T B a p 6))))]) := by
  refine CtN.of [(0, .ref h), (1, .ref hb), (2, .int (nI a)), (3, .int (nI p))] (by decide +kernel) rfl rfl rfl rfl ?_
  intro x Ox Rt
  refine k_iconst Ox (v := nI 0) dX4_denyToAll_0 rfl ?_
  refine k_istore Ox [(4, _), (0, _), (1, _), (2, _), (3, _)] dX4_denyToAll_1 (by decide) rfl ?_
  refine k_iconst Ox (v := nI 0) dX4_denyToAll_3 rfl ?_
  refine k_istore Ox [(5, _), (4, _), (0, _), (1, _), (2, _), (3, _)] dX4_denyToAll_4 (by decide) rfl ?_
  have L6 : ∀ (fuel : Nat) (i n : Nat), i ≤ 6 → 7 ≤ i + fuel → n = dCnt T B a p i → V x G 6 0 0 6 [(0, .ref h), (1, .ref hb), (2, .int (nI a)), (3, .int (nI p)), (4, .int (nI n)), (5, .int (nI i))] [] [(h, cO 4 [.ref d, .ref im, .ref pd, .ref wy, .ref tb, .ref gu, .ref ro]), (d, cO 1 [.ref ls, .ref gs, .ref ly, .ref hs, .ref tr, .ref kn, .ref sp, .ref sl, .ref be, .int (nI fd), .int (nI sg)]), (tr, cI G 6 (rN T)), (hb, cO 0 [.ref hbd]), (hbd, cI G 36 (rN (flC (dAll T B a p i))))] := by
    intro fuel
    induction fuel with
    | zero => intro i n hi hfuel hn; exact absurd hi (by omega)
    | succ fuel ih =>
      intro i n hi hfuel hn
      refine k_iload Ox dX4_denyToAll_6 5 rfl ?_
      refine k_bipush Ox (v := nI 6) dX4_denyToAll_8 rfl ?_
      refine k_icmp_geN Ox 37 dX4_denyToAll_10 rfl (by omega) (by omega) (fun c_10 => ?_) (fun c_10 => ?_)
      · obtain rfl : i = 6 := by omega
        subst hn
        refine k_iload Ox dX4_denyToAll_37 4 rfl ?_
        refine k_iret0 Ox Rt dX4_denyToAll_39 (Nat.le_of_ble_eq_true rfl) (Nat.le_of_ble_eq_true rfl) rfl ?_
        exact ⟨⟨rfl, rfl⟩, rfl⟩
      · refine k_aload_n Ox dX4_denyToAll_13 rfl 0 rfl ?_
        refine k_get Ox 0 rfl rfl hin_X4_denyToAll_X4 0 rfl lk_X4_denyToAll_f10 rfl rfl dX4_denyToAll_14 ?_
        refine k_aload_n Ox dX4_denyToAll_17 rfl 1 rfl ?_
        refine k_iload_n Ox dX4_denyToAll_18 rfl 2 rfl ?_
        refine k_iload Ox dX4_denyToAll_19 5 rfl ?_
        refine k_iload_n Ox dX4_denyToAll_21 rfl 3 rfl ?_
        refine k_callV Ox [1, 2, 3, 4] (c_X1_deny G _ _ _ _ _ _ _ _ _ _ _ _ _ _ _ _ _ _ _ (hT) (dAll_ok hB i) (ha) (by omega) (hp)) 4 rfl rfl rfl ⟨rfl, rfl⟩ rfl rfl gX4_denyToAll_X1_deny rfl 1 rfl ⟨rfl, (by decide +kernel), (by decide +kernel), (by decide +kernel)⟩ rfl dX4_denyToAll_22 (Nat.le_of_ble_eq_true rfl) rfl ⟨Nat.le_of_ble_eq_true rfl, Nat.le_of_ble_eq_true rfl⟩ (fun r wa wb hp => ?_)
        obtain ⟨⟨rfl, rfl⟩, rfl⟩ := hp
        show V x G _ _ _ _ _ (.int _ :: _) [_, _, _, _, _]
        refine k_if_eqB Ox 31 dX4_denyToAll_25 rfl (fun c_25 => ?_) (fun c_25 => ?_)
        · refine k_iincN Ox (k := 5) (m := 1) [(5, _), (0, _), (1, _), (2, _), (3, _), (4, _)] dX4_denyToAll_31 rfl rfl (by decide) rfl ?_
          refine k_goto Ox 6 dX4_denyToAll_34 rfl ?_
          refine k_sub [1, 2, 3, 4, 5, 0] [(0, _), (1, _), (2, _), (3, _), (4, _), (5, _)] rfl ?_
          exact ih (i + 1) _ (by omega) (by omega) (by rw [hn]; simp only [dCnt, c_25]; rfl)
        · refine k_iincN Ox (k := 4) (m := 1) [(4, _), (0, _), (1, _), (2, _), (3, _), (5, _)] dX4_denyToAll_28 rfl rfl (by decide) rfl ?_
          refine k_iincN Ox (k := 5) (m := 1) [(5, _), (4, _), (0, _), (1, _), (2, _), (3, _)] dX4_denyToAll_31 rfl rfl (by decide) rfl ?_
          refine k_goto Ox 6 dX4_denyToAll_34 rfl ?_
          refine k_sub [2, 3, 4, 5, 1, 0] [(0, _), (1, _), (2, _), (3, _), (4, _), (5, _)] rfl ?_
          exact ih (i + 1) _ (by omega) (by omega) (by rw [hn]; simp only [dCnt, c_25]; rfl)
  refine k_sub [2, 3, 4, 5, 1, 0] [(0, _), (1, _), (2, _), (3, _), (4, _), (5, _)] rfl ?_
  exact L6 7 0 0 (by omega) (by omega) rfl
theorem lk_X4_spread_f10 : Cond.fieldLink RX4 10 "LieBridges" "now" "LLieBridges$Delta;" ∈ wsX4_spread := List.mem_of_getElem? (i := 1) rfl
theorem hin_X4_spread_X4 : ∀ w ∈ u_ws RX4 TX4 7, w ∈ wsX4_spread := fun _ h => List.mem_cons_of_mem _ (List.mem_append_left _ (List.mem_append_left _ (List.mem_append_right _ h)))
set_option maxHeartbeats 400000 in
set_option maxRecDepth 4000 in
theorem c_X4_spread (G : Gx) (h d im pd wy tb gu ro ls gs ly hs tr kn sp sl be hb hbd : Nat) (O : Nat → Nat) (T : Nat → Nat) (K : Nat → Nat) (B : Nat → Nat → Nat) (fd : Nat) (sg : Nat) (p : Nat) (hO : okP O) (hT : okM T) (hK : okM K) (hB : okB B) (hfd : fd < 10) (hp : p < 6) : Ct G yX4_spread wsX4_spread { frames := 4, cells := 0, slots := 0, locals := 95 } [.ref h, .ref hb, .int (nI p)] [(h, cO 4 [.ref d, .ref im, .ref pd, .ref wy, .ref tb, .ref gu, .ref ro]), (d, cO 1 [.ref ls, .ref gs, .ref ly, .ref hs, .ref tr, .ref kn, .ref sp, .ref sl, .ref be, .int (nI fd), .int (nI sg)]), (ly, cI G 6 (rN O)), (tr, cI G 6 (rN T)), (kn, cI G 6 (rN K)), (hb, cO 0 [.ref hbd]), (hbd, cI G 36 (rN (flC B)))] (fun r wa => r = none ∧ wa = [(h, cO 4 [.ref d, .ref im, .ref pd, .ref wy, .ref tb, .ref gu, .ref ro]), (d, cO 1 [.ref ls, .ref gs, .ref ly, .ref hs, .ref tr, .ref kn, .ref sp, .ref sl, .ref be, .int (nI fd), .int (nI sg)]), (ly, cI G 6 (rN O)), (tr, cI G 6 (rN T)), (kn, cI G 6 (rN K)), (hb, cO 0 [.ref hbd]), (hbd, cI G 36 (rN (flC (spr O T K fd B p 6))))]) := by
  refine CtN.of [(0, .ref h), (1, .ref hb), (2, .int (nI p))] (by decide +kernel) rfl rfl rfl rfl ?_
  intro x Ox Rt
  refine k_iconst Ox (v := nI 0) dX4_spread_0 rfl ?_
  refine k_istore_n Ox [(3, _), (0, _), (1, _), (2, _)] dX4_spread_1 rfl (by decide) rfl ?_
  refine k_iconst Ox (v := nI 0) dX4_spread_2 rfl ?_
  refine k_istore Ox [(4, _), (3, _), (0, _), (1, _), (2, _)] dX4_spread_3 (by decide) rfl ?_
  have L5 : ∀ (fuel : Nat) (i M : Nat), i ≤ 6 → 7 ≤ i + fuel → M < 64 → (∀ a, a < 6 → M.testBit a = (decide (a < i) && mayT O B a p)) → V x G 5 0 0 5 [(0, .ref h), (1, .ref hb), (2, .int (nI p)), (3, .int (nI M)), (4, .int (nI i))] [] [(h, cO 4 [.ref d, .ref im, .ref pd, .ref wy, .ref tb, .ref gu, .ref ro]), (d, cO 1 [.ref ls, .ref gs, .ref ly, .ref hs, .ref tr, .ref kn, .ref sp, .ref sl, .ref be, .int (nI fd), .int (nI sg)]), (ly, cI G 6 (rN O)), (tr, cI G 6 (rN T)), (kn, cI G 6 (rN K)), (hb, cO 0 [.ref hbd]), (hbd, cI G 36 (rN (flC B)))] := by
    intro fuel
    induction fuel with
    | zero => intro i M hi hfuel hM hbt; exact absurd hi (by omega)
    | succ fuel ih =>
      intro i M hi hfuel hM hbt
      refine k_iload Ox dX4_spread_5 4 rfl ?_
      refine k_bipush Ox (v := nI 6) dX4_spread_7 rfl ?_
      refine k_icmp_geN Ox 39 dX4_spread_9 rfl (by omega) (by omega) (fun c_9 => ?_) (fun c_9 => ?_)
      · obtain rfl : i = 6 := by omega
        refine k_iconst Ox (v := nI 0) dX4_spread_39 rfl ?_
        refine k_istore Ox [(4, _), (0, _), (1, _), (2, _), (3, _)] dX4_spread_40 (by decide) rfl ?_
        have L42 : ∀ (fuel : Nat) (i : Nat), i ≤ 6 → 7 ≤ i + fuel → V x G 5 0 0 42 [(0, .ref h), (1, .ref hb), (2, .int (nI p)), (3, .int (nI M)), (4, .int (nI i))] [] [(h, cO 4 [.ref d, .ref im, .ref pd, .ref wy, .ref tb, .ref gu, .ref ro]), (d, cO 1 [.ref ls, .ref gs, .ref ly, .ref hs, .ref tr, .ref kn, .ref sp, .ref sl, .ref be, .int (nI fd), .int (nI sg)]), (ly, cI G 6 (rN O)), (tr, cI G 6 (rN T)), (kn, cI G 6 (rN K)), (hb, cO 0 [.ref hbd]), (hbd, cI G 36 (rN (flC (spr O T K fd B p i))))] := by
          intro fuel
          induction fuel with
          | zero => intro i hi hfuel; exact absurd hi (by omega)
          | succ fuel ih2 =>
            intro i hi hfuel
            refine k_iload Ox dX4_spread_42 4 rfl ?_
            refine k_bipush Ox (v := nI 6) dX4_spread_44 rfl ?_
            refine k_icmp_geN Ox 73 dX4_spread_46 rfl (by omega) (by omega) (fun c_46 => ?_) (fun c_46 => ?_)
            · obtain rfl : i = 6 := by omega
              refine k_vret0 Ox Rt dX4_spread_73 (Nat.le_of_ble_eq_true rfl) (Nat.le_of_ble_eq_true rfl) rfl ?_
              exact ⟨⟨rfl, rfl⟩, rfl⟩
            · refine k_iload_n Ox dX4_spread_49 rfl 3 rfl ?_
              refine k_iload Ox dX4_spread_50 4 rfl ?_
              refine k_ishr Ox dX4_spread_52 ?_
              refine k_iconst Ox (v := nI 1) dX4_spread_53 rfl ?_
              refine k_iand Ox dX4_spread_54 ?_
              refine k_top _ (hasb M hM i (by omega)) ?_
              refine k_iconst Ox (v := nI 1) dX4_spread_55 rfl ?_
              refine k_icmp_ne Ox 67 dX4_spread_56 rfl (fun c_56 => ?_) (fun c_56 => ?_)
              · have hm : M.testBit i = mayT O B i p := by rw [hbt i (by omega)]; simp; omega
                refine k_iincN Ox (k := 4) (m := 1) [(4, _), (0, _), (1, _), (2, _), (3, _)] dX4_spread_67 rfl rfl (by decide) rfl ?_
                refine k_goto Ox 42 dX4_spread_70 rfl ?_
                refine k_sub [1, 2, 3, 4, 0] [(0, _), (1, _), (2, _), (3, _), (4, _)] rfl ?_
                first | (have e := spr_t (T := T) (K := K) (fd := fd) hm c_56; rw [← e]; exact ih2 (i + 1) (by omega) (by omega)) | (have e := spr_f (T := T) (K := K) (fd := fd) hm c_56; rw [← e]; exact ih2 (i + 1) (by omega) (by omega))
              · have hm : M.testBit i = mayT O B i p := by rw [hbt i (by omega)]; simp; omega
                refine k_aload_n Ox dX4_spread_59 rfl 0 rfl ?_
                refine k_aload_n Ox dX4_spread_60 rfl 1 rfl ?_
                refine k_iload Ox dX4_spread_61 4 rfl ?_
                refine k_iload_n Ox dX4_spread_63 rfl 2 rfl ?_
                refine k_callV Ox [0, 1, 2, 3, 4, 5, 6] (c_X4_tellToAll G _ _ _ _ _ _ _ _ _ _ _ _ _ _ _ _ _ _ _ _ _ _ _ _ _ _ _ (hO) (hT) (hK) (spr_ok hB hfd hp i (by omega)) (hfd) (by omega) (hp)) 3 rfl rfl rfl ⟨rfl, rfl⟩ rfl rfl gX4_spread_X4_tellToAll rfl 0 rfl ⟨rfl, (by decide +kernel), (by decide +kernel), (by decide +kernel)⟩ rfl dX4_spread_64 (Nat.le_of_ble_eq_true rfl) rfl ⟨Nat.le_of_ble_eq_true rfl, Nat.le_of_ble_eq_true rfl⟩ (fun r wa wb hp => ?_)
                obtain ⟨⟨rfl, rfl⟩, rfl⟩ := hp
                show V x G _ _ _ _ _ _ [_, _, _, _, _, _, _]
                refine k_iincN Ox (k := 4) (m := 1) [(4, _), (0, _), (1, _), (2, _), (3, _)] dX4_spread_67 rfl rfl (by decide) rfl ?_
                refine k_goto Ox 42 dX4_spread_70 rfl ?_
                refine k_sub [1, 2, 3, 4, 0] [(0, _), (1, _), (2, _), (3, _), (4, _)] rfl ?_
                first | (have e := spr_t (T := T) (K := K) (fd := fd) hm c_56; rw [← e]; exact ih2 (i + 1) (by omega) (by omega)) | (have e := spr_f (T := T) (K := K) (fd := fd) hm c_56; rw [← e]; exact ih2 (i + 1) (by omega) (by omega))
        refine k_sub [1, 2, 3, 4, 0] [(0, _), (1, _), (2, _), (3, _), (4, _)] rfl ?_
        exact L42 7 0 (by omega) (by omega)
      · refine k_aload_n Ox dX4_spread_12 rfl 0 rfl ?_
        refine k_get Ox 0 rfl rfl hin_X4_spread_X4 0 rfl lk_X4_spread_f10 rfl rfl dX4_spread_13 ?_
        refine k_aload_n Ox dX4_spread_16 rfl 1 rfl ?_
        refine k_iload Ox dX4_spread_17 4 rfl ?_
        refine k_iload_n Ox dX4_spread_19 rfl 2 rfl ?_
        refine k_callV Ox [1, 2, 5, 6] (c_X1_mayTell G _ _ _ _ _ _ _ _ _ _ _ _ _ _ _ _ _ _ (hO) (hB) (by omega) (hp)) 3 rfl rfl rfl ⟨rfl, rfl⟩ rfl rfl gX4_spread_X1_mayTell rfl 1 rfl ⟨rfl, (by decide +kernel), (by decide +kernel), (by decide +kernel)⟩ rfl dX4_spread_20 (Nat.le_of_ble_eq_true rfl) rfl ⟨Nat.le_of_ble_eq_true rfl, Nat.le_of_ble_eq_true rfl⟩ (fun r wa wb hp => ?_)
        obtain ⟨⟨rfl, rfl⟩, rfl⟩ := hp
        show V x G _ _ _ _ _ (.int _ :: _) [_, _, _, _, _, _, _]
        refine k_if_eqB Ox 33 dX4_spread_23 rfl (fun c_23 => ?_) (fun c_23 => ?_)
        · refine k_iincN Ox (k := 4) (m := 1) [(4, _), (0, _), (1, _), (2, _), (3, _)] dX4_spread_33 rfl rfl (by decide) rfl ?_
          refine k_goto Ox 5 dX4_spread_36 rfl ?_
          refine k_sub [1, 2, 3, 4, 0] [(0, _), (1, _), (2, _), (3, _), (4, _)] rfl ?_
          first | exact ih (i + 1) _ (by omega) (by omega) (setb_lt M hM i (by omega) true) (msk_up hM (by omega) hbt c_23) | exact ih (i + 1) _ (by omega) (by omega) hM (msk_no hbt c_23)
        · refine k_iload_n Ox dX4_spread_26 rfl 3 rfl ?_
          refine k_iconst Ox (v := nI 1) dX4_spread_27 rfl ?_
          refine k_iload Ox dX4_spread_28 4 rfl ?_
          refine k_ishl Ox dX4_spread_30 ?_
          refine k_top _ (shl1 i (by omega)) ?_
          refine k_ior Ox dX4_spread_31 ?_
          refine k_top _ (orb1 M hM i (by omega)) ?_
          refine k_istore_n Ox [(3, _), (0, _), (1, _), (2, _), (4, _)] dX4_spread_32 rfl (by decide) rfl ?_
          refine k_iincN Ox (k := 4) (m := 1) [(4, _), (3, _), (0, _), (1, _), (2, _)] dX4_spread_33 rfl rfl (by decide) rfl ?_
          refine k_goto Ox 5 dX4_spread_36 rfl ?_
          refine k_sub [2, 3, 4, 1, 0] [(0, _), (1, _), (2, _), (3, _), (4, _)] rfl ?_
          first | exact ih (i + 1) _ (by omega) (by omega) (setb_lt M hM i (by omega) true) (msk_up hM (by omega) hbt c_23) | exact ih (i + 1) _ (by omega) (by omega) hM (msk_no hbt c_23)
  refine k_sub [2, 3, 4, 1, 0] [(0, _), (1, _), (2, _), (3, _), (4, _)] rfl ?_
  exact L5 7 0 0 (by omega) (by omega) (by decide) (fun a ha => by simp)
theorem lk_X4_word_f37 : Cond.fieldLink RX4 37 "LieBridges" "trial" "LLieBridges$Beliefs;" ∈ wsX4_word := List.mem_of_getElem? (i := 1) rfl
theorem hin_X4_word_X4 : ∀ w ∈ u_ws RX4 TX4 7, w ∈ wsX4_word := fun _ h => List.mem_cons_of_mem _ (List.mem_append_left _ (List.mem_append_left _ (List.mem_append_right _ h)))
theorem lk_X4_word_f10 : Cond.fieldLink RX4 10 "LieBridges" "now" "LLieBridges$Delta;" ∈ wsX4_word := List.mem_of_getElem? (i := 2) rfl
theorem lk_X4_word_f72 : Cond.fieldLink RX4 72 "LieBridges$Delta" "beliefs" "LLieBridges$Beliefs;" ∈ wsX4_word := List.mem_of_getElem? (i := 3) rfl
theorem hin_X4_word_X1 : ∀ w ∈ u_ws RX1 TX1 11, w ∈ wsX4_word := fun _ h => List.mem_cons_of_mem _ (List.mem_append_left _ (List.mem_append_right _ h))
set_option maxHeartbeats 400000 in
set_option maxRecDepth 4000 in
theorem c_X4_word (G : Gx) (h d im pd wy tb gu ro ls gs ly hs tr kn sp sl be bd tbd : Nat) (T : Nat → Nat) (B : Nat → Nat → Nat) (fd : Nat) (sg : Nat) (g : Nat → Int32) (x1 : Int32) (hT : okM T) (hB : okB B) : Ct G yX4_word wsX4_word { frames := 4, cells := 0, slots := 0, locals := 95 } [.ref h, .int x1] [(h, cO 4 [.ref d, .ref im, .ref pd, .ref wy, .ref tb, .ref gu, .ref ro]), (d, cO 1 [.ref ls, .ref gs, .ref ly, .ref hs, .ref tr, .ref kn, .ref sp, .ref sl, .ref be, .int (nI fd), .int (nI sg)]), (tr, cI G 6 (rN T)), (be, cO 0 [.ref bd]), (bd, cI G 36 (rN (flC B))), (tb, cO 0 [.ref tbd]), (tbd, cI G 36 g)] (fun r wa => r = some (.int (wdR T B x1)) ∧ ∃ g9 : Nat → Int32, wa = [(h, cO 4 [.ref d, .ref im, .ref pd, .ref wy, .ref tb, .ref gu, .ref ro]), (d, cO 1 [.ref ls, .ref gs, .ref ly, .ref hs, .ref tr, .ref kn, .ref sp, .ref sl, .ref be, .int (nI fd), .int (nI sg)]), (tr, cI G 6 (rN T)), (be, cO 0 [.ref bd]), (bd, cI G 36 (rN (flC B))), (tb, cO 0 [.ref tbd]), (tbd, cI G 36 g9)]) := by
  refine CtN.of [(0, .ref h), (1, .int x1)] (by decide +kernel) rfl rfl rfl rfl ?_
  intro x Ox Rt
  refine k_iload_n Ox dX4_word_0 rfl 1 rfl ?_
  refine k_callS Ox [] (c_X4_isChoice G _ ) 1 rfl rfl rfl ⟨rfl, rfl⟩ rfl rfl gX4_word_X4_isChoice ⟨(by decide +kernel), (by decide +kernel), (by decide +kernel)⟩ rfl dX4_word_1 (Nat.le_of_ble_eq_true rfl) rfl ⟨Nat.le_of_ble_eq_true rfl, Nat.le_of_ble_eq_true rfl⟩ (fun r wa wb hp => ?_)
  obtain ⟨⟨rfl, rfl⟩, rfl⟩ := hp
  show V x G _ _ _ _ _ (.int _ :: _) [_, _, _, _, _, _, _]
  refine k_if_neB Ox 10 dX4_word_4 rfl (fun c_4 => ?_) (fun c_4 => ?_)
  · refine k_iconst Ox (v := nI 0) dX4_word_10 rfl ?_
    refine k_istore_n Ox [(2, _), (0, _), (1, _)] dX4_word_11 rfl (by decide) rfl ?_
    refine k_iconst Ox (v := nI 0) dX4_word_12 rfl ?_
    refine k_istore_n Ox [(3, _), (2, _), (0, _), (1, _)] dX4_word_13 rfl (by decide) rfl ?_
    refine k_iconst Ox (v := nI 0) dX4_word_14 rfl ?_
    refine k_istore Ox [(4, _), (3, _), (2, _), (0, _), (1, _)] dX4_word_15 (by decide) rfl ?_
    have L17 : ∀ (fuel : Nat) (a f m : Nat) (g : Nat → Int32), a ≤ 6 → 7 ≤ a + fuel → (f, m) = wd T B (a * 6) → V x G 7 0 0 17 [(0, .ref h), (1, .int x1), (2, .int (nI f)), (3, .int (nI m)), (4, .int (nI a))] [] [(h, cO 4 [.ref d, .ref im, .ref pd, .ref wy, .ref tb, .ref gu, .ref ro]), (d, cO 1 [.ref ls, .ref gs, .ref ly, .ref hs, .ref tr, .ref kn, .ref sp, .ref sl, .ref be, .int (nI fd), .int (nI sg)]), (tr, cI G 6 (rN T)), (be, cO 0 [.ref bd]), (bd, cI G 36 (rN (flC B))), (tb, cO 0 [.ref tbd]), (tbd, cI G 36 g)] := by
      intro fuel
      induction fuel with
      | zero => intro a f m g ha hfuel hfm; exact absurd ha (by omega)
      | succ fuel ih =>
        intro a f m g ha hfuel hfm
        refine k_iload Ox dX4_word_17 4 rfl ?_
        refine k_bipush Ox (v := nI 6) dX4_word_19 rfl ?_
        refine k_icmp_geN Ox 92 dX4_word_21 rfl (by omega) (by omega) (fun c_21 => ?_) (fun c_21 => ?_)
        · obtain rfl : a = 6 := by omega
          refine k_iload_n Ox dX4_word_92 rfl 1 rfl ?_
          refine k_if_ne Ox 100 dX4_word_93 rfl (fun c_93 => ?_) (fun c_93 => ?_)
          · refine k_iload_n Ox dX4_word_100 rfl 3 rfl ?_
            refine k_iret0 Ox Rt dX4_word_101 (Nat.le_of_ble_eq_true rfl) (Nat.le_of_ble_eq_true rfl) rfl ?_
            exact ⟨⟨by rw [wdR, pick_t c_4, ← hfm]; first | rw [if_pos c_93] | rw [if_neg c_93], _, rfl⟩, rfl⟩
          · refine k_iload_n Ox dX4_word_96 rfl 2 rfl ?_
            refine k_goto Ox 101 dX4_word_97 rfl ?_
            refine k_iret0 Ox Rt dX4_word_101 (Nat.le_of_ble_eq_true rfl) (Nat.le_of_ble_eq_true rfl) rfl ?_
            exact ⟨⟨by rw [wdR, pick_t c_4, ← hfm]; first | rw [if_pos c_93] | rw [if_neg c_93], _, rfl⟩, rfl⟩
        · refine k_iconst Ox (v := nI 0) dX4_word_24 rfl ?_
          refine k_istore Ox [(5, _), (0, _), (1, _), (2, _), (3, _), (4, _)] dX4_word_25 (by decide) rfl ?_
          have L27 : ∀ (fuel : Nat) (p f m : Nat) (g : Nat → Int32), p ≤ 6 → 7 ≤ p + fuel → (f, m) = wd T B (a * 6 + p) → V x G 7 0 0 27 [(0, .ref h), (1, .int x1), (2, .int (nI f)), (3, .int (nI m)), (4, .int (nI a)), (5, .int (nI p))] [] [(h, cO 4 [.ref d, .ref im, .ref pd, .ref wy, .ref tb, .ref gu, .ref ro]), (d, cO 1 [.ref ls, .ref gs, .ref ly, .ref hs, .ref tr, .ref kn, .ref sp, .ref sl, .ref be, .int (nI fd), .int (nI sg)]), (tr, cI G 6 (rN T)), (be, cO 0 [.ref bd]), (bd, cI G 36 (rN (flC B))), (tb, cO 0 [.ref tbd]), (tbd, cI G 36 g)] := by
            intro fuel
            induction fuel with
            | zero => intro p f m g hp hfuel hfm2; exact absurd hp (by omega)
            | succ fuel ih2 =>
              intro p f m g hp hfuel hfm2
              refine k_iload Ox dX4_word_27 5 rfl ?_
              refine k_bipush Ox (v := nI 6) dX4_word_29 rfl ?_
              refine k_icmp_geN Ox 86 dX4_word_31 rfl (by omega) (by omega) (fun c_31 => ?_) (fun c_31 => ?_)
              · obtain rfl : p = 6 := by omega
                refine k_iincN Ox (k := 4) (m := 1) [(4, _), (0, _), (1, _), (2, _), (3, _), (5, _)] dX4_word_86 rfl rfl (by decide) rfl ?_
                refine k_goto Ox 17 dX4_word_89 rfl ?_
                refine k_sub [1, 2, 3, 4, 0] [(0, _), (1, _), (2, _), (3, _), (4, _)] rfl ?_
                exact ih (a + 1) _ _ _ (by omega) (by omega) (by rw [hfm2, show (a + 1) * 6 = a * 6 + 6 by omega])
              · refine k_aload_n Ox dX4_word_34 rfl 0 rfl ?_
                refine k_get Ox 0 rfl rfl hin_X4_word_X4 4 rfl lk_X4_word_f37 rfl rfl dX4_word_35 ?_
                refine k_aload_n Ox dX4_word_38 rfl 0 rfl ?_
                refine k_get Ox 0 rfl rfl hin_X4_word_X4 0 rfl lk_X4_word_f10 rfl rfl dX4_word_39 ?_
                refine k_get Ox 1 rfl rfl hin_X4_word_X1 8 rfl lk_X4_word_f72 rfl rfl dX4_word_42 ?_
                refine k_callV Ox [5, 6, 3, 4] (c_X0_become G _ _ _ _ _ _ ) 1 rfl rfl rfl ⟨rfl, rfl⟩ rfl rfl gX4_word_X0_become rfl 5 rfl ⟨rfl, (by decide +kernel), (by decide +kernel), (by decide +kernel)⟩ rfl dX4_word_45 (Nat.le_of_ble_eq_true rfl) rfl ⟨Nat.le_of_ble_eq_true rfl, Nat.le_of_ble_eq_true rfl⟩ (fun r wa wb hp => ?_)
                obtain ⟨⟨rfl, rfl⟩, rfl⟩ := hp
                show V x G _ _ _ _ _ _ [_, _, _, _, _, _, _]
                refine k_aload_n Ox dX4_word_48 rfl 0 rfl ?_
                refine k_aload_n Ox dX4_word_49 rfl 0 rfl ?_
                refine k_get Ox 0 rfl rfl hin_X4_word_X4 4 rfl lk_X4_word_f37 rfl rfl dX4_word_50 ?_
                refine k_iload Ox dX4_word_53 4 rfl ?_
                refine k_iload Ox dX4_word_55 5 rfl ?_
                refine k_callV Ox [0, 1, 2, 5, 6] (c_X4_denyToAll G _ _ _ _ _ _ _ _ _ _ _ _ _ _ _ _ _ _ _ _ _ _ _ _ _ (hT) (hB) (by omega) (by omega)) 3 rfl rfl rfl ⟨rfl, rfl⟩ rfl rfl gX4_word_X4_denyToAll rfl 0 rfl ⟨rfl, (by decide +kernel), (by decide +kernel), (by decide +kernel)⟩ rfl dX4_word_57 (Nat.le_of_ble_eq_true rfl) rfl ⟨Nat.le_of_ble_eq_true rfl, Nat.le_of_ble_eq_true rfl⟩ (fun r wa wb hp => ?_)
                obtain ⟨⟨rfl, rfl⟩, rfl⟩ := hp
                show V x G _ _ _ _ _ (.int _ :: _) [_, _, _, _, _, _, _]
                refine k_istore Ox [(6, _), (0, _), (1, _), (2, _), (3, _), (4, _), (5, _)] dX4_word_60 (by decide) rfl ?_
                have hd6 := dCnt_le T B a p 6
                have hm6 := wd_le hfm2
                refine k_iload Ox dX4_word_62 0 rfl ?_
                refine k_iload_n Ox dX4_word_64 rfl 4 rfl ?_
                refine k_icmp_leN Ox 80 dX4_word_65 rfl (by omega) (by omega) (fun c_65 => ?_) (fun c_65 => ?_)
                · refine k_iincN Ox (k := 6) (m := 1) [(5, _), (6, _), (0, _), (1, _), (2, _), (3, _), (4, _)] dX4_word_80 rfl rfl (by decide) rfl ?_
                  refine k_goto Ox 27 dX4_word_83 rfl ?_
                  refine k_sub [2, 3, 4, 5, 6, 0] [(0, _), (1, _), (2, _), (3, _), (4, _), (5, _)] rfl ?_
                  exact ih2 (p + 1) _ _ _ (by omega) (by omega) (wd_step hfm2 (by omega) (by first | exact Or.inl ⟨c_65, rfl⟩ | exact Or.inr ⟨c_65, rfl⟩))
                · refine k_iload Ox dX4_word_68 0 rfl ?_
                  refine k_istore_n Ox [(3, _), (6, _), (0, _), (1, _), (2, _), (4, _), (5, _)] dX4_word_70 rfl (by decide) rfl ?_
                  refine k_bipush Ox (v := nI 10) dX4_word_71 rfl ?_
                  refine k_iload Ox dX4_word_73 5 rfl ?_
                  refine k_imulN Ox dX4_word_75 ?_
                  refine k_iload Ox dX4_word_76 6 rfl ?_
                  refine k_iaddN Ox dX4_word_78 ?_
                  refine k_istore_n Ox [(2, _), (3, _), (6, _), (0, _), (1, _), (4, _), (5, _)] dX4_word_79 rfl (by decide) rfl ?_
                  refine k_iincN Ox (k := 6) (m := 1) [(5, _), (2, _), (3, _), (6, _), (0, _), (1, _), (4, _)] dX4_word_80 rfl rfl (by decide) rfl ?_
                  refine k_goto Ox 27 dX4_word_83 rfl ?_
                  refine k_sub [4, 5, 1, 2, 6, 0] [(0, _), (1, _), (2, _), (3, _), (4, _), (5, _)] rfl ?_
                  exact ih2 (p + 1) _ _ _ (by omega) (by omega) (wd_step hfm2 (by omega) (by first | exact Or.inl ⟨c_65, rfl⟩ | exact Or.inr ⟨c_65, rfl⟩))
          refine k_sub [1, 2, 3, 4, 5, 0] [(0, _), (1, _), (2, _), (3, _), (4, _), (5, _)] rfl ?_
          exact L27 7 0 _ _ _ (by omega) (by omega) hfm
    refine k_sub [3, 4, 2, 1, 0] [(0, _), (1, _), (2, _), (3, _), (4, _)] rfl ?_
    exact L17 7 0 0 0 g (by omega) (by omega) rfl
  · refine k_bipush Ox (v := -2) dX4_word_7 (by decide) ?_
    refine k_iret0 Ox Rt dX4_word_9 (Nat.le_of_ble_eq_true rfl) (Nat.le_of_ble_eq_true rfl) rfl ?_
    exact ⟨⟨by rw [wdR, pick_f c_4], _, rfl⟩, rfl⟩
theorem lk_X4_rumour_f37 : Cond.fieldLink RX4 37 "LieBridges" "trial" "LLieBridges$Beliefs;" ∈ wsX4_rumour := List.mem_of_getElem? (i := 1) rfl
theorem hin_X4_rumour_X4 : ∀ w ∈ u_ws RX4 TX4 7, w ∈ wsX4_rumour := fun _ h => List.mem_cons_of_mem _ (List.mem_append_left _ (List.mem_append_left _ (List.mem_append_right _ h)))
theorem lk_X4_rumour_f10 : Cond.fieldLink RX4 10 "LieBridges" "now" "LLieBridges$Delta;" ∈ wsX4_rumour := List.mem_of_getElem? (i := 2) rfl
theorem lk_X4_rumour_f72 : Cond.fieldLink RX4 72 "LieBridges$Delta" "beliefs" "LLieBridges$Beliefs;" ∈ wsX4_rumour := List.mem_of_getElem? (i := 3) rfl
theorem hin_X4_rumour_X1 : ∀ w ∈ u_ws RX1 TX1 11, w ∈ wsX4_rumour := fun _ h => List.mem_cons_of_mem _ (List.mem_append_left _ (List.mem_append_right _ h))
set_option maxHeartbeats 400000 in
set_option maxRecDepth 4000 in
theorem c_X4_rumour (G : Gx) (h d im pd wy tb gu ro ls gs ly hs tr kn sp sl be bd tbd : Nat) (O : Nat → Nat) (T : Nat → Nat) (K : Nat → Nat) (B : Nat → Nat → Nat) (fd : Nat) (sg : Nat) (g : Nat → Int32) (x1 x2 : Int32) (hO : okP O) (hT : okM T) (hK : okM K) (hB : okB B) (hfd : fd < 10) : Ct G yX4_rumour wsX4_rumour { frames := 5, cells := 0, slots := 0, locals := 119 } [.ref h, .int x1, .int x2] [(h, cO 4 [.ref d, .ref im, .ref pd, .ref wy, .ref tb, .ref gu, .ref ro]), (d, cO 1 [.ref ls, .ref gs, .ref ly, .ref hs, .ref tr, .ref kn, .ref sp, .ref sl, .ref be, .int (nI fd), .int (nI sg)]), (ly, cI G 6 (rN O)), (tr, cI G 6 (rN T)), (kn, cI G 6 (rN K)), (be, cO 0 [.ref bd]), (bd, cI G 36 (rN (flC B))), (tb, cO 0 [.ref tbd]), (tbd, cI G 36 g)] (fun r wa => r = some (.int (ruR O T K fd B x1 x2)) ∧ ∃ g9 : Nat → Int32, wa = [(h, cO 4 [.ref d, .ref im, .ref pd, .ref wy, .ref tb, .ref gu, .ref ro]), (d, cO 1 [.ref ls, .ref gs, .ref ly, .ref hs, .ref tr, .ref kn, .ref sp, .ref sl, .ref be, .int (nI fd), .int (nI sg)]), (ly, cI G 6 (rN O)), (tr, cI G 6 (rN T)), (kn, cI G 6 (rN K)), (be, cO 0 [.ref bd]), (bd, cI G 36 (rN (flC B))), (tb, cO 0 [.ref tbd]), (tbd, cI G 36 g9)]) := by
  refine CtN.of [(0, .ref h), (1, .int x1), (2, .int x2)] (by decide +kernel) rfl rfl rfl rfl ?_
  intro x Ox Rt
  refine k_iload_n Ox dX4_rumour_0 rfl 1 rfl ?_
  refine k_callS Ox [] (c_X4_isPlank G _ ) 1 rfl rfl rfl ⟨rfl, rfl⟩ rfl rfl gX4_rumour_X4_isPlank ⟨(by decide +kernel), (by decide +kernel), (by decide +kernel)⟩ rfl dX4_rumour_1 (Nat.le_of_ble_eq_true rfl) rfl ⟨Nat.le_of_ble_eq_true rfl, Nat.le_of_ble_eq_true rfl⟩ (fun r wa wb hp => ?_)
  obtain ⟨⟨rfl, rfl⟩, rfl⟩ := hp
  show V x G _ _ _ _ _ (.int _ :: _) [_, _, _, _, _, _, _, _, _]
  refine k_if_neB Ox 9 dX4_rumour_4 rfl (fun c_4 => ?_) (fun c_4 => ?_)
  · refine k_iload_n Ox dX4_rumour_9 rfl 2 rfl ?_
    refine k_callS Ox [] (c_X4_isParty G _ ) 1 rfl rfl rfl ⟨rfl, rfl⟩ rfl rfl gX4_rumour_X4_isParty ⟨(by decide +kernel), (by decide +kernel), (by decide +kernel)⟩ rfl dX4_rumour_10 (Nat.le_of_ble_eq_true rfl) rfl ⟨Nat.le_of_ble_eq_true rfl, Nat.le_of_ble_eq_true rfl⟩ (fun r wa wb hp => ?_)
    obtain ⟨⟨rfl, rfl⟩, rfl⟩ := hp
    show V x G _ _ _ _ _ (.int _ :: _) [_, _, _, _, _, _, _, _, _]
    refine k_if_neB Ox 19 dX4_rumour_13 rfl (fun c_13 => ?_) (fun c_13 => ?_)
    · obtain ⟨j1, hj1, rfl⟩ := in6_of c_4
      obtain ⟨j2, hj0, hj2, rfl⟩ := inR_of' (lo := 1) (k := 6) rfl rfl (by decide) c_13
      refine k_aload_n Ox dX4_rumour_19 rfl 0 rfl ?_
      refine k_get Ox 0 rfl rfl hin_X4_rumour_X4 4 rfl lk_X4_rumour_f37 rfl rfl dX4_rumour_20 ?_
      refine k_aload_n Ox dX4_rumour_23 rfl 0 rfl ?_
      refine k_get Ox 0 rfl rfl hin_X4_rumour_X4 0 rfl lk_X4_rumour_f10 rfl rfl dX4_rumour_24 ?_
      refine k_get Ox 1 rfl rfl hin_X4_rumour_X1 8 rfl lk_X4_rumour_f72 rfl rfl dX4_rumour_27 ?_
      refine k_callV Ox [7, 8, 5, 6] (c_X0_become G _ _ _ _ _ _ ) 1 rfl rfl rfl ⟨rfl, rfl⟩ rfl rfl gX4_rumour_X0_become rfl 7 rfl ⟨rfl, (by decide +kernel), (by decide +kernel), (by decide +kernel)⟩ rfl dX4_rumour_30 (Nat.le_of_ble_eq_true rfl) rfl ⟨Nat.le_of_ble_eq_true rfl, Nat.le_of_ble_eq_true rfl⟩ (fun r wa wb hp => ?_)
      obtain ⟨⟨rfl, rfl⟩, rfl⟩ := hp
      show V x G _ _ _ _ _ _ [_, _, _, _, _, _, _, _, _]
      refine k_aload_n Ox dX4_rumour_33 rfl 0 rfl ?_
      refine k_get Ox 0 rfl rfl hin_X4_rumour_X4 4 rfl lk_X4_rumour_f37 rfl rfl dX4_rumour_34 ?_
      refine k_iload_n Ox dX4_rumour_37 rfl 1 rfl ?_
      refine k_iconst Ox (v := nI 0) dX4_rumour_38 rfl ?_
      refine k_callV Ox [7, 8] (c_X0_load G _ _ _ _ _ (hj1) (by omega) (hB)) 2 rfl rfl rfl ⟨rfl, rfl⟩ rfl rfl gX4_rumour_X0_load rfl 7 rfl ⟨rfl, (by decide +kernel), (by decide +kernel), (by decide +kernel)⟩ rfl dX4_rumour_39 (Nat.le_of_ble_eq_true rfl) rfl ⟨Nat.le_of_ble_eq_true rfl, Nat.le_of_ble_eq_true rfl⟩ (fun r wa wb hp => ?_)
      obtain ⟨⟨rfl, rfl⟩, rfl⟩ := hp
      show V x G _ _ _ _ _ (.int _ :: _) [_, _, _, _, _, _, _, _, _]
      have hl := ld_le B j1 0
      refine k_iload_n Ox dX4_rumour_42 rfl 2 rfl ?_
      refine k_icmp_ltN Ox 48 dX4_rumour_43 rfl (by omega) (by omega) (fun c_43 => ?_) (fun c_43 => ?_)
      · refine k_iconst Ox (v := nI 1) dX4_rumour_48 rfl ?_
        refine k_istore_n Ox [(3, _), (0, _), (1, _), (2, _)] dX4_rumour_49 rfl (by decide) rfl ?_
        have L50 : ∀ (fuel : Nat) (i : Nat), i ≤ 30 → 31 ≤ i + fuel → (∀ j, j < i → ruQ O T K fd B j1 j2 j = false) → V x G 4 0 0 50 [(0, .ref h), (1, .int (nI j1)), (2, .int (nI j2)), (3, .int (nI (1 + i)))] [] [(h, cO 4 [.ref d, .ref im, .ref pd, .ref wy, .ref tb, .ref gu, .ref ro]), (d, cO 1 [.ref ls, .ref gs, .ref ly, .ref hs, .ref tr, .ref kn, .ref sp, .ref sl, .ref be, .int (nI fd), .int (nI sg)]), (ly, cI G 6 (rN O)), (tr, cI G 6 (rN T)), (kn, cI G 6 (rN K)), (be, cO 0 [.ref bd]), (bd, cI G 36 (rN (flC B))), (tb, cO 0 [.ref tbd]), (tbd, cI G 36 (rN (flC (ruB O T K fd B j1 i))))] := by
          intro fuel
          induction fuel with
          | zero => intro i hi hfuel hq; exact absurd hi (by omega)
          | succ fuel ih =>
            intro i hi hfuel hq
            refine k_iload_n Ox dX4_rumour_50 rfl 3 rfl ?_
            refine k_bipush Ox (v := nI 30) dX4_rumour_51 rfl ?_
            refine k_icmp_gtN Ox 93 dX4_rumour_53 rfl (by omega) (by omega) (fun c_53 => ?_) (fun c_53 => ?_)
            · refine k_bipush Ox (v := -6) dX4_rumour_93 (by decide) ?_
              refine k_iret0 Ox Rt dX4_rumour_95 (Nat.le_of_ble_eq_true rfl) (Nat.le_of_ble_eq_true rfl) rfl ?_
              exact ⟨⟨by rw [ruR, pick_t c_4, pick_t c_13, nn_nI (by omega), nn_nI (by omega), if_neg (by omega), ru_none (fun j hj => hq j (by omega))], _, rfl⟩, rfl⟩
            · have hru := ruB_ok (O := O) (T := T) (K := K) hB hfd hj1 i
              have hsp := spr_ok (O := O) (T := T) (K := K) hru hfd hj1 6 (by omega)
              have hl := ld_le (spr O T K fd (ruB O T K fd B j1 i) j1 6) j1 0
              refine k_aload_n Ox dX4_rumour_56 rfl 0 rfl ?_
              refine k_aload_n Ox dX4_rumour_57 rfl 0 rfl ?_
              refine k_get Ox 0 rfl rfl hin_X4_rumour_X4 4 rfl lk_X4_rumour_f37 rfl rfl dX4_rumour_58 ?_
              refine k_iload_n Ox dX4_rumour_61 rfl 1 rfl ?_
              refine k_callV Ox [0, 1, 2, 3, 4, 7, 8] (c_X4_spread G _ _ _ _ _ _ _ _ _ _ _ _ _ _ _ _ _ _ _ _ _ _ _ _ _ _ (hO) (hT) (hK) (hru) (hfd) (hj1)) 2 rfl rfl rfl ⟨rfl, rfl⟩ rfl rfl gX4_rumour_X4_spread rfl 0 rfl ⟨rfl, (by decide +kernel), (by decide +kernel), (by decide +kernel)⟩ rfl dX4_rumour_62 (Nat.le_of_ble_eq_true rfl) rfl ⟨Nat.le_of_ble_eq_true rfl, Nat.le_of_ble_eq_true rfl⟩ (fun r wa wb hp => ?_)
              obtain ⟨⟨rfl, rfl⟩, rfl⟩ := hp
              show V x G _ _ _ _ _ _ [_, _, _, _, _, _, _, _, _]
              refine k_aload_n Ox dX4_rumour_65 rfl 0 rfl ?_
              refine k_get Ox 0 rfl rfl hin_X4_rumour_X4 4 rfl lk_X4_rumour_f37 rfl rfl dX4_rumour_66 ?_
              refine k_iload_n Ox dX4_rumour_69 rfl 1 rfl ?_
              refine k_iconst Ox (v := nI 0) dX4_rumour_70 rfl ?_
              refine k_callV Ox [7, 8] (c_X0_load G _ _ _ _ _ (hj1) (by omega) (hsp)) 2 rfl rfl rfl ⟨rfl, rfl⟩ rfl rfl gX4_rumour_X0_load rfl 7 rfl ⟨rfl, (by decide +kernel), (by decide +kernel), (by decide +kernel)⟩ rfl dX4_rumour_71 (Nat.le_of_ble_eq_true rfl) rfl ⟨Nat.le_of_ble_eq_true rfl, Nat.le_of_ble_eq_true rfl⟩ (fun r wa wb hp => ?_)
              obtain ⟨⟨rfl, rfl⟩, rfl⟩ := hp
              show V x G _ _ _ _ _ (.int _ :: _) [_, _, _, _, _, _, _, _, _]
              refine k_iload_n Ox dX4_rumour_74 rfl 2 rfl ?_
              refine k_icmp_ltN Ox 80 dX4_rumour_75 rfl (by omega) (by omega) (fun c_75 => ?_) (fun c_75 => ?_)
              · refine k_aload_n Ox dX4_rumour_80 rfl 0 rfl ?_
                refine k_get Ox 0 rfl rfl hin_X4_rumour_X4 4 rfl lk_X4_rumour_f37 rfl rfl dX4_rumour_81 ?_
                refine k_callV Ox [7, 8] (c_X0_fadeADay G _ _ _ (hsp)) 0 rfl rfl rfl ⟨rfl, rfl⟩ rfl rfl gX4_rumour_X0_fadeADay rfl 7 rfl ⟨rfl, (by decide +kernel), (by decide +kernel), (by decide +kernel)⟩ rfl dX4_rumour_84 (Nat.le_of_ble_eq_true rfl) rfl ⟨Nat.le_of_ble_eq_true rfl, Nat.le_of_ble_eq_true rfl⟩ (fun r wa wb hp => ?_)
                obtain ⟨⟨rfl, rfl⟩, rfl⟩ := hp
                show V x G _ _ _ _ _ _ [_, _, _, _, _, _, _, _, _]
                refine k_iincN Ox (k := 3) (m := 1) [(3, _), (0, _), (1, _), (2, _)] dX4_rumour_87 rfl rfl (by decide) rfl ?_
                refine k_goto Ox 50 dX4_rumour_90 rfl ?_
                refine k_sub [1, 2, 3, 0] [(0, _), (1, _), (2, _), (3, _)] rfl ?_
                exact ih (i + 1) (by omega) (by omega) (ruQ_next hq c_75)
              · refine k_iload_n Ox dX4_rumour_78 rfl 3 rfl ?_
                refine k_iret0 Ox Rt dX4_rumour_79 (Nat.le_of_ble_eq_true rfl) (Nat.le_of_ble_eq_true rfl) rfl ?_
                exact ⟨⟨by rw [ruR, pick_t c_4, pick_t c_13, nn_nI (by omega), nn_nI (by omega), if_neg (by omega), ru_hit hq (by omega) c_75], _, rfl⟩, rfl⟩
        refine k_sub [1, 2, 3, 0] [(0, _), (1, _), (2, _), (3, _)] rfl ?_
        exact L50 31 0 (by omega) (by omega) (fun j hj => absurd hj (by omega))
      · refine k_iconst Ox (v := nI 0) dX4_rumour_46 rfl ?_
        refine k_iret0 Ox Rt dX4_rumour_47 (Nat.le_of_ble_eq_true rfl) (Nat.le_of_ble_eq_true rfl) rfl ?_
        exact ⟨⟨by rw [ruR, pick_t c_4, pick_t c_13, nn_nI (by omega), nn_nI (by omega), if_pos c_43], _, rfl⟩, rfl⟩
    · refine k_bipush Ox (v := -2) dX4_rumour_16 (by decide) ?_
      refine k_iret0 Ox Rt dX4_rumour_18 (Nat.le_of_ble_eq_true rfl) (Nat.le_of_ble_eq_true rfl) rfl ?_
      exact ⟨⟨by rw [ruR, pick_t c_4, pick_f c_13], _, rfl⟩, rfl⟩
  · refine k_iconst Ox (v := -1) dX4_rumour_7 (by decide) ?_
    refine k_iret0 Ox Rt dX4_rumour_8 (Nat.le_of_ble_eq_true rfl) (Nat.le_of_ble_eq_true rfl) rfl ?_
    exact ⟨⟨by rw [ruR, pick_f c_4], _, rfl⟩, rfl⟩
theorem lk_X4_odds_f37 : Cond.fieldLink RX4 37 "LieBridges" "trial" "LLieBridges$Beliefs;" ∈ wsX4_odds := List.mem_of_getElem? (i := 1) rfl
theorem hin_X4_odds_X4 : ∀ w ∈ u_ws RX4 TX4 7, w ∈ wsX4_odds := fun _ h => List.mem_cons_of_mem _ (List.mem_append_left _ (List.mem_append_left _ (List.mem_append_right _ h)))
theorem lk_X4_odds_f10 : Cond.fieldLink RX4 10 "LieBridges" "now" "LLieBridges$Delta;" ∈ wsX4_odds := List.mem_of_getElem? (i := 2) rfl
theorem lk_X4_odds_f72 : Cond.fieldLink RX4 72 "LieBridges$Delta" "beliefs" "LLieBridges$Beliefs;" ∈ wsX4_odds := List.mem_of_getElem? (i := 3) rfl
theorem hin_X4_odds_X1 : ∀ w ∈ u_ws RX1 TX1 11, w ∈ wsX4_odds := fun _ h => List.mem_cons_of_mem _ (List.mem_append_left _ (List.mem_append_right _ h))
set_option maxHeartbeats 400000 in
set_option maxRecDepth 4000 in
theorem c_X4_odds (G : Gx) (h d im pd wy tb gu ro ls gs ly hs tr kn sp sl be bd tbd : Nat) (O : Nat → Nat) (T : Nat → Nat) (K : Nat → Nat) (B : Nat → Nat → Nat) (fd : Nat) (sg : Nat) (g : Nat → Int32) (x1 x2 x3 x4 : Int32) (hO : okP O) (hT : okM T) (hK : okM K) (hB : okB B) (hfd : fd < 10) : Ct G yX4_odds wsX4_odds { frames := 4, cells := 0, slots := 0, locals := 95 } [.ref h, .int x1, .int x2, .int x3, .int x4] [(h, cO 4 [.ref d, .ref im, .ref pd, .ref wy, .ref tb, .ref gu, .ref ro]), (d, cO 1 [.ref ls, .ref gs, .ref ly, .ref hs, .ref tr, .ref kn, .ref sp, .ref sl, .ref be, .int (nI fd), .int (nI sg)]), (ly, cI G 6 (rN O)), (tr, cI G 6 (rN T)), (kn, cI G 6 (rN K)), (be, cO 0 [.ref bd]), (bd, cI G 36 (rN (flC B))), (tb, cO 0 [.ref tbd]), (tbd, cI G 36 g)] (fun r wa => r = some (.int (odR O T K fd B x1 x2 x3 x4)) ∧ ∃ g9 : Nat → Int32, wa = [(h, cO 4 [.ref d, .ref im, .ref pd, .ref wy, .ref tb, .ref gu, .ref ro]), (d, cO 1 [.ref ls, .ref gs, .ref ly, .ref hs, .ref tr, .ref kn, .ref sp, .ref sl, .ref be, .int (nI fd), .int (nI sg)]), (ly, cI G 6 (rN O)), (tr, cI G 6 (rN T)), (kn, cI G 6 (rN K)), (be, cO 0 [.ref bd]), (bd, cI G 36 (rN (flC B))), (tb, cO 0 [.ref tbd]), (tbd, cI G 36 g9)]) := by
  refine CtN.of [(0, .ref h), (1, .int x1), (2, .int x2), (3, .int x3), (4, .int x4)] (by decide +kernel) rfl rfl rfl rfl ?_
  intro x Ox Rt
  refine k_iload_n Ox dX4_odds_0 rfl 1 rfl ?_
  refine k_callS Ox [] (c_X4_isPlank G _ ) 1 rfl rfl rfl ⟨rfl, rfl⟩ rfl rfl gX4_odds_X4_isPlank ⟨(by decide +kernel), (by decide +kernel), (by decide +kernel)⟩ rfl dX4_odds_1 (Nat.le_of_ble_eq_true rfl) rfl ⟨Nat.le_of_ble_eq_true rfl, Nat.le_of_ble_eq_true rfl⟩ (fun r wa wb hp => ?_)
  obtain ⟨⟨rfl, rfl⟩, rfl⟩ := hp
  show V x G _ _ _ _ _ (.int _ :: _) [_, _, _, _, _, _, _, _, _]
  refine k_if_eqB Ox 26 dX4_odds_4 rfl (fun c_4 => ?_) (fun c_4 => ?_)
  · have hf : okOd x1 x2 x3 = false := by simp [okOd, c_4]
    refine k_iconst Ox (v := -1) dX4_odds_26 (by decide) ?_
    refine k_iret0 Ox Rt dX4_odds_27 (Nat.le_of_ble_eq_true rfl) (Nat.le_of_ble_eq_true rfl) rfl ?_
    exact ⟨⟨by rw [odR, pick_f hf], _, rfl⟩, rfl⟩
  · refine k_iload_n Ox dX4_odds_7 rfl 2 rfl ?_
    refine k_callS Ox [] (c_X4_isPerson G _ ) 1 rfl rfl rfl ⟨rfl, rfl⟩ rfl rfl gX4_odds_X4_isPerson ⟨(by decide +kernel), (by decide +kernel), (by decide +kernel)⟩ rfl dX4_odds_8 (Nat.le_of_ble_eq_true rfl) rfl ⟨Nat.le_of_ble_eq_true rfl, Nat.le_of_ble_eq_true rfl⟩ (fun r wa wb hp => ?_)
    obtain ⟨⟨rfl, rfl⟩, rfl⟩ := hp
    show V x G _ _ _ _ _ (.int _ :: _) [_, _, _, _, _, _, _, _, _]
    refine k_if_eqB Ox 26 dX4_odds_11 rfl (fun c_11 => ?_) (fun c_11 => ?_)
    · have hf : okOd x1 x2 x3 = false := by simp [okOd, c_11, c_4]
      refine k_iconst Ox (v := -1) dX4_odds_26 (by decide) ?_
      refine k_iret0 Ox Rt dX4_odds_27 (Nat.le_of_ble_eq_true rfl) (Nat.le_of_ble_eq_true rfl) rfl ?_
      exact ⟨⟨by rw [odR, pick_f hf], _, rfl⟩, rfl⟩
    · refine k_iload_n Ox dX4_odds_14 rfl 3 rfl ?_
      refine k_callS Ox [] (c_X4_isPerson G _ ) 1 rfl rfl rfl ⟨rfl, rfl⟩ rfl rfl gX4_odds_X4_isPerson ⟨(by decide +kernel), (by decide +kernel), (by decide +kernel)⟩ rfl dX4_odds_15 (Nat.le_of_ble_eq_true rfl) rfl ⟨Nat.le_of_ble_eq_true rfl, Nat.le_of_ble_eq_true rfl⟩ (fun r wa wb hp => ?_)
      obtain ⟨⟨rfl, rfl⟩, rfl⟩ := hp
      show V x G _ _ _ _ _ (.int _ :: _) [_, _, _, _, _, _, _, _, _]
      refine k_if_eqB Ox 26 dX4_odds_18 rfl (fun c_18 => ?_) (fun c_18 => ?_)
      · have hf : okOd x1 x2 x3 = false := by simp [okOd, c_18, c_4, c_11]
        refine k_iconst Ox (v := -1) dX4_odds_26 (by decide) ?_
        refine k_iret0 Ox Rt dX4_odds_27 (Nat.le_of_ble_eq_true rfl) (Nat.le_of_ble_eq_true rfl) rfl ?_
        exact ⟨⟨by rw [odR, pick_f hf], _, rfl⟩, rfl⟩
      · refine k_iload_n Ox dX4_odds_21 rfl 2 rfl ?_
        refine k_iload_n Ox dX4_odds_22 rfl 3 rfl ?_
        refine k_icmp_ne Ox 28 dX4_odds_23 rfl (fun c_23 => ?_) (fun c_23 => ?_)
        · refine k_iload Ox dX4_odds_28 4 rfl ?_
          refine k_callS Ox [] (c_X4_isChoice G _ ) 1 rfl rfl rfl ⟨rfl, rfl⟩ rfl rfl gX4_odds_X4_isChoice ⟨(by decide +kernel), (by decide +kernel), (by decide +kernel)⟩ rfl dX4_odds_30 (Nat.le_of_ble_eq_true rfl) rfl ⟨Nat.le_of_ble_eq_true rfl, Nat.le_of_ble_eq_true rfl⟩ (fun r wa wb hp => ?_)
          obtain ⟨⟨rfl, rfl⟩, rfl⟩ := hp
          show V x G _ _ _ _ _ (.int _ :: _) [_, _, _, _, _, _, _, _, _]
          refine k_if_neB Ox 39 dX4_odds_33 rfl (fun c_33 => ?_) (fun c_33 => ?_)
          · have hok : okOd x1 x2 x3 = true := by simp [okOd, c_4, c_11, c_18, c_23]
            obtain ⟨j1, hj1, rfl⟩ := in6_of c_4
            obtain ⟨j2, hj2, rfl⟩ := in6_of c_11
            obtain ⟨j3, hj3, rfl⟩ := in6_of c_18
            refine k_aload_n Ox dX4_odds_39 rfl 0 rfl ?_
            refine k_get Ox 0 rfl rfl hin_X4_odds_X4 4 rfl lk_X4_odds_f37 rfl rfl dX4_odds_40 ?_
            refine k_aload_n Ox dX4_odds_43 rfl 0 rfl ?_
            refine k_get Ox 0 rfl rfl hin_X4_odds_X4 0 rfl lk_X4_odds_f10 rfl rfl dX4_odds_44 ?_
            refine k_get Ox 1 rfl rfl hin_X4_odds_X1 8 rfl lk_X4_odds_f72 rfl rfl dX4_odds_47 ?_
            refine k_callV Ox [7, 8, 5, 6] (c_X0_become G _ _ _ _ _ _ ) 1 rfl rfl rfl ⟨rfl, rfl⟩ rfl rfl gX4_odds_X0_become rfl 7 rfl ⟨rfl, (by decide +kernel), (by decide +kernel), (by decide +kernel)⟩ rfl dX4_odds_50 (Nat.le_of_ble_eq_true rfl) rfl ⟨Nat.le_of_ble_eq_true rfl, Nat.le_of_ble_eq_true rfl⟩ (fun r wa wb hp => ?_)
            obtain ⟨⟨rfl, rfl⟩, rfl⟩ := hp
            show V x G _ _ _ _ _ _ [_, _, _, _, _, _, _, _, _]
            refine k_iload Ox dX4_odds_53 4 rfl ?_
            refine k_if_ne Ox 82 dX4_odds_55 rfl (fun c_55 => ?_) (fun c_55 => ?_)
            · refine k_aload_n Ox dX4_odds_82 rfl 0 rfl ?_
              refine k_aload_n Ox dX4_odds_83 rfl 0 rfl ?_
              refine k_get Ox 0 rfl rfl hin_X4_odds_X4 4 rfl lk_X4_odds_f37 rfl rfl dX4_odds_84 ?_
              refine k_iload_n Ox dX4_odds_87 rfl 3 rfl ?_
              refine k_iload_n Ox dX4_odds_88 rfl 1 rfl ?_
              refine k_callV Ox [0, 1, 3, 7, 8] (c_X4_denyToAll G _ _ _ _ _ _ _ _ _ _ _ _ _ _ _ _ _ _ _ _ _ _ _ _ _ (hT) (hB) (hj3) (hj1)) 3 rfl rfl rfl ⟨rfl, rfl⟩ rfl rfl gX4_odds_X4_denyToAll rfl 0 rfl ⟨rfl, (by decide +kernel), (by decide +kernel), (by decide +kernel)⟩ rfl dX4_odds_89 (Nat.le_of_ble_eq_true rfl) rfl ⟨Nat.le_of_ble_eq_true rfl, Nat.le_of_ble_eq_true rfl⟩ (fun r wa wb hp => ?_)
              obtain ⟨⟨rfl, rfl⟩, rfl⟩ := hp
              show V x G _ _ _ _ _ (.int _ :: _) [_, _, _, _, _, _, _, _, _]
              refine k_pop Ox dX4_odds_92 rfl ?_
              refine k_aload_n Ox dX4_odds_93 rfl 0 rfl ?_
              refine k_aload_n Ox dX4_odds_94 rfl 0 rfl ?_
              refine k_get Ox 0 rfl rfl hin_X4_odds_X4 4 rfl lk_X4_odds_f37 rfl rfl dX4_odds_95 ?_
              refine k_iload_n Ox dX4_odds_98 rfl 2 rfl ?_
              refine k_iload_n Ox dX4_odds_99 rfl 1 rfl ?_
              refine k_callV Ox [0, 1, 2, 3, 4, 7, 8] (c_X4_tellToAll G _ _ _ _ _ _ _ _ _ _ _ _ _ _ _ _ _ _ _ _ _ _ _ _ _ _ _ (hO) (hT) (hK) (dAll_ok hB 6) (hfd) (hj2) (hj1)) 3 rfl rfl rfl ⟨rfl, rfl⟩ rfl rfl gX4_odds_X4_tellToAll rfl 0 rfl ⟨rfl, (by decide +kernel), (by decide +kernel), (by decide +kernel)⟩ rfl dX4_odds_100 (Nat.le_of_ble_eq_true rfl) rfl ⟨Nat.le_of_ble_eq_true rfl, Nat.le_of_ble_eq_true rfl⟩ (fun r wa wb hp => ?_)
              obtain ⟨⟨rfl, rfl⟩, rfl⟩ := hp
              show V x G _ _ _ _ _ _ [_, _, _, _, _, _, _, _, _]
              refine k_aload_n Ox dX4_odds_103 rfl 0 rfl ?_
              refine k_get Ox 0 rfl rfl hin_X4_odds_X4 4 rfl lk_X4_odds_f37 rfl rfl dX4_odds_104 ?_
              refine k_iload_n Ox dX4_odds_107 rfl 1 rfl ?_
              refine k_iconst Ox (v := nI 0) dX4_odds_108 rfl ?_
              refine k_callV Ox [7, 8] (c_X0_load G _ _ _ _ _ (hj1) (by omega) (by first | exact dAll_ok (tAll_ok hB hfd hj1 6 (by omega)) 6 | exact tAll_ok (dAll_ok hB 6) hfd hj1 6 (by omega))) 2 rfl rfl rfl ⟨rfl, rfl⟩ rfl rfl gX4_odds_X0_load rfl 7 rfl ⟨rfl, (by decide +kernel), (by decide +kernel), (by decide +kernel)⟩ rfl dX4_odds_109 (Nat.le_of_ble_eq_true rfl) rfl ⟨Nat.le_of_ble_eq_true rfl, Nat.le_of_ble_eq_true rfl⟩ (fun r wa wb hp => ?_)
              obtain ⟨⟨rfl, rfl⟩, rfl⟩ := hp
              show V x G _ _ _ _ _ (.int _ :: _) [_, _, _, _, _, _, _, _, _]
              refine k_iret0 Ox Rt dX4_odds_112 (Nat.le_of_ble_eq_true rfl) (Nat.le_of_ble_eq_true rfl) rfl ?_
              exact ⟨⟨by rw [odR, pick_t hok, pick_t c_33, nn_nI (by omega), nn_nI (by omega), nn_nI (by omega)]; first | rw [if_pos c_55] | rw [if_neg c_55], _, rfl⟩, rfl⟩
            · refine k_aload_n Ox dX4_odds_58 rfl 0 rfl ?_
              refine k_aload_n Ox dX4_odds_59 rfl 0 rfl ?_
              refine k_get Ox 0 rfl rfl hin_X4_odds_X4 4 rfl lk_X4_odds_f37 rfl rfl dX4_odds_60 ?_
              refine k_iload_n Ox dX4_odds_63 rfl 2 rfl ?_
              refine k_iload_n Ox dX4_odds_64 rfl 1 rfl ?_
              refine k_callV Ox [0, 1, 2, 3, 4, 7, 8] (c_X4_tellToAll G _ _ _ _ _ _ _ _ _ _ _ _ _ _ _ _ _ _ _ _ _ _ _ _ _ _ _ (hO) (hT) (hK) (hB) (hfd) (hj2) (hj1)) 3 rfl rfl rfl ⟨rfl, rfl⟩ rfl rfl gX4_odds_X4_tellToAll rfl 0 rfl ⟨rfl, (by decide +kernel), (by decide +kernel), (by decide +kernel)⟩ rfl dX4_odds_65 (Nat.le_of_ble_eq_true rfl) rfl ⟨Nat.le_of_ble_eq_true rfl, Nat.le_of_ble_eq_true rfl⟩ (fun r wa wb hp => ?_)
              obtain ⟨⟨rfl, rfl⟩, rfl⟩ := hp
              show V x G _ _ _ _ _ _ [_, _, _, _, _, _, _, _, _]
              refine k_aload_n Ox dX4_odds_68 rfl 0 rfl ?_
              refine k_aload_n Ox dX4_odds_69 rfl 0 rfl ?_
              refine k_get Ox 0 rfl rfl hin_X4_odds_X4 4 rfl lk_X4_odds_f37 rfl rfl dX4_odds_70 ?_
              refine k_iload_n Ox dX4_odds_73 rfl 3 rfl ?_
              refine k_iload_n Ox dX4_odds_74 rfl 1 rfl ?_
              refine k_callV Ox [0, 1, 3, 7, 8] (c_X4_denyToAll G _ _ _ _ _ _ _ _ _ _ _ _ _ _ _ _ _ _ _ _ _ _ _ _ _ (hT) (tAll_ok hB hfd hj1 6 (by omega)) (hj3) (hj1)) 3 rfl rfl rfl ⟨rfl, rfl⟩ rfl rfl gX4_odds_X4_denyToAll rfl 0 rfl ⟨rfl, (by decide +kernel), (by decide +kernel), (by decide +kernel)⟩ rfl dX4_odds_75 (Nat.le_of_ble_eq_true rfl) rfl ⟨Nat.le_of_ble_eq_true rfl, Nat.le_of_ble_eq_true rfl⟩ (fun r wa wb hp => ?_)
              obtain ⟨⟨rfl, rfl⟩, rfl⟩ := hp
              show V x G _ _ _ _ _ (.int _ :: _) [_, _, _, _, _, _, _, _, _]
              refine k_pop Ox dX4_odds_78 rfl ?_
              refine k_goto Ox 103 dX4_odds_79 rfl ?_
              refine k_aload_n Ox dX4_odds_103 rfl 0 rfl ?_
              refine k_get Ox 0 rfl rfl hin_X4_odds_X4 4 rfl lk_X4_odds_f37 rfl rfl dX4_odds_104 ?_
              refine k_iload_n Ox dX4_odds_107 rfl 1 rfl ?_
              refine k_iconst Ox (v := nI 0) dX4_odds_108 rfl ?_
              refine k_callV Ox [7, 8] (c_X0_load G _ _ _ _ _ (hj1) (by omega) (by first | exact dAll_ok (tAll_ok hB hfd hj1 6 (by omega)) 6 | exact tAll_ok (dAll_ok hB 6) hfd hj1 6 (by omega))) 2 rfl rfl rfl ⟨rfl, rfl⟩ rfl rfl gX4_odds_X0_load rfl 7 rfl ⟨rfl, (by decide +kernel), (by decide +kernel), (by decide +kernel)⟩ rfl dX4_odds_109 (Nat.le_of_ble_eq_true rfl) rfl ⟨Nat.le_of_ble_eq_true rfl, Nat.le_of_ble_eq_true rfl⟩ (fun r wa wb hp => ?_)
              obtain ⟨⟨rfl, rfl⟩, rfl⟩ := hp
              show V x G _ _ _ _ _ (.int _ :: _) [_, _, _, _, _, _, _, _, _]
              refine k_iret0 Ox Rt dX4_odds_112 (Nat.le_of_ble_eq_true rfl) (Nat.le_of_ble_eq_true rfl) rfl ?_
              exact ⟨⟨by rw [odR, pick_t hok, pick_t c_33, nn_nI (by omega), nn_nI (by omega), nn_nI (by omega)]; first | rw [if_pos c_55] | rw [if_neg c_55], _, rfl⟩, rfl⟩
          · refine k_bipush Ox (v := -2) dX4_odds_36 (by decide) ?_
            refine k_iret0 Ox Rt dX4_odds_38 (Nat.le_of_ble_eq_true rfl) (Nat.le_of_ble_eq_true rfl) rfl ?_
            have hok : okOd x1 x2 x3 = true := by simp [okOd, c_4, c_11, c_18, c_23]
            exact ⟨⟨by rw [odR, pick_t hok, pick_f c_33], _, rfl⟩, rfl⟩
        · have hf : okOd x1 x2 x3 = false := by simp [okOd, c_23, c_4, c_11, c_18]
          refine k_iconst Ox (v := -1) dX4_odds_26 (by decide) ?_
          refine k_iret0 Ox Rt dX4_odds_27 (Nat.le_of_ble_eq_true rfl) (Nat.le_of_ble_eq_true rfl) rfl ?_
          exact ⟨⟨by rw [odR, pick_f hf], _, rfl⟩, rfl⟩
