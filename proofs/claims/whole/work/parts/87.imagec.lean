theorem lk_X4_image_f16 : Cond.fieldLink RX4 16 "LieBridges" "images" "[LLieBridges$Delta;" ∈ wsX4_image := List.mem_of_getElem? (i := 1) rfl
theorem hin_X4_image_X4 : ∀ w ∈ u_ws RX4 TX4 7, w ∈ wsX4_image := fun _ h => List.mem_cons_of_mem _ (List.mem_append_left _ (List.mem_append_left _ (List.mem_append_right _ h)))
set_option maxHeartbeats 400000 in
set_option maxRecDepth 4000 in
theorem c_X4_image_x (G : Gx) (h d im pd wy tb gu ro : Nat) (fi : Nat → Option Nat) (x1 : Int32) (ho : inR 0 1 x1 = false) : Ct G yX4_image wsX4_image { frames := 0, cells := 0, slots := 0, locals := 0 } [.ref h, .int x1] [(h, cO 4 [.ref d, .ref im, .ref pd, .ref wy, .ref tb, .ref gu, .ref ro]), (im, cQ G 2 fi)] (fun r wa => r = some (.int (-2)) ∧ wa = [(h, cO 4 [.ref d, .ref im, .ref pd, .ref wy, .ref tb, .ref gu, .ref ro]), (im, cQ G 2 fi)]) := by
  refine CtN.of [(0, .ref h), (1, .int x1)] (by decide +kernel) rfl rfl rfl rfl ?_
  intro x Ox Rt
  refine k_iload_n Ox dX4_image_0 rfl 1 rfl ?_
  refine k_if_lt Ox 13 dX4_image_1 rfl (fun c_1 => ?_) (fun c_1 => ?_)
  · refine k_bipush Ox (v := -2) dX4_image_13 (by decide) ?_
    refine k_iret0 Ox Rt dX4_image_15 (Nat.le_of_ble_eq_true rfl) (Nat.le_of_ble_eq_true rfl) rfl ?_
    exact ⟨⟨rfl, rfl⟩, rfl⟩
  · refine k_iload_n Ox dX4_image_4 rfl 1 rfl ?_
    refine k_aload_n Ox dX4_image_5 rfl 0 rfl ?_
    refine k_get Ox 0 rfl rfl hin_X4_image_X4 1 rfl lk_X4_image_f16 rfl rfl dX4_image_6 ?_
    refine k_alen Ox 1 2 rfl rfl dX4_image_9 ?_
    refine k_icmp_lt Ox 16 dX4_image_10 rfl (fun c_10 => ?_) (fun c_10 => ?_)
    · exfalso; exact im_dead ho c_1 c_10
    · refine k_bipush Ox (v := -2) dX4_image_13 (by decide) ?_
      refine k_iret0 Ox Rt dX4_image_15 (Nat.le_of_ble_eq_true rfl) (Nat.le_of_ble_eq_true rfl) rfl ?_
      exact ⟨⟨rfl, rfl⟩, rfl⟩
theorem lk_X4_restore_f16 : Cond.fieldLink RX4 16 "LieBridges" "images" "[LLieBridges$Delta;" ∈ wsX4_restore := List.mem_of_getElem? (i := 1) rfl
theorem hin_X4_restore_X4 : ∀ w ∈ u_ws RX4 TX4 7, w ∈ wsX4_restore := fun _ h => List.mem_cons_of_mem _ (List.mem_append_left _ (List.mem_append_left _ (List.mem_append_right _ h)))
set_option maxHeartbeats 400000 in
set_option maxRecDepth 4000 in
theorem c_X4_restore_x (G : Gx) (h d im pd wy tb gu ro : Nat) (fi : Nat → Option Nat) (x1 : Int32) (ho : inR 0 1 x1 = false) : Ct G yX4_restore wsX4_restore { frames := 0, cells := 0, slots := 0, locals := 0 } [.ref h, .int x1] [(h, cO 4 [.ref d, .ref im, .ref pd, .ref wy, .ref tb, .ref gu, .ref ro]), (im, cQ G 2 fi)] (fun r wa => r = some (.int (-2)) ∧ wa = [(h, cO 4 [.ref d, .ref im, .ref pd, .ref wy, .ref tb, .ref gu, .ref ro]), (im, cQ G 2 fi)]) := by
  refine CtN.of [(0, .ref h), (1, .int x1)] (by decide +kernel) rfl rfl rfl rfl ?_
  intro x Ox Rt
  refine k_iload_n Ox dX4_restore_0 rfl 1 rfl ?_
  refine k_if_lt Ox 13 dX4_restore_1 rfl (fun c_1 => ?_) (fun c_1 => ?_)
  · refine k_bipush Ox (v := -2) dX4_restore_13 (by decide) ?_
    refine k_iret0 Ox Rt dX4_restore_15 (Nat.le_of_ble_eq_true rfl) (Nat.le_of_ble_eq_true rfl) rfl ?_
    exact ⟨⟨rfl, rfl⟩, rfl⟩
  · refine k_iload_n Ox dX4_restore_4 rfl 1 rfl ?_
    refine k_aload_n Ox dX4_restore_5 rfl 0 rfl ?_
    refine k_get Ox 0 rfl rfl hin_X4_restore_X4 1 rfl lk_X4_restore_f16 rfl rfl dX4_restore_6 ?_
    refine k_alen Ox 1 2 rfl rfl dX4_restore_9 ?_
    refine k_icmp_lt Ox 16 dX4_restore_10 rfl (fun c_10 => ?_) (fun c_10 => ?_)
    · exfalso; exact im_dead ho c_1 c_10
    · refine k_bipush Ox (v := -2) dX4_restore_13 (by decide) ?_
      refine k_iret0 Ox Rt dX4_restore_15 (Nat.le_of_ble_eq_true rfl) (Nat.le_of_ble_eq_true rfl) rfl ?_
      exact ⟨⟨rfl, rfl⟩, rfl⟩
set_option maxHeartbeats 400000 in
set_option maxRecDepth 4000 in
theorem c_X4_restore_s (G : Gx) (h d im pd wy tb gu ro : Nat) (fi : Nat → Option Nat) (n : Nat) (hn : n < 2) (hf : fi n = none) : Ct G yX4_restore wsX4_restore { frames := 0, cells := 0, slots := 0, locals := 0 } [.ref h, .int (nI n)] [(h, cO 4 [.ref d, .ref im, .ref pd, .ref wy, .ref tb, .ref gu, .ref ro]), (im, cQ G 2 fi)] (fun r wa => r = some (.int (-3)) ∧ wa = [(h, cO 4 [.ref d, .ref im, .ref pd, .ref wy, .ref tb, .ref gu, .ref ro]), (im, cQ G 2 fi)]) := by
  refine CtN.of [(0, .ref h), (1, .int (nI n))] (by decide +kernel) rfl rfl rfl rfl ?_
  intro x Ox Rt
  refine k_iload_n Ox dX4_restore_0 rfl 1 rfl ?_
  refine k_if_ltN Ox 13 dX4_restore_1 rfl (by omega) ?_
  refine k_iload_n Ox dX4_restore_4 rfl 1 rfl ?_
  refine k_aload_n Ox dX4_restore_5 rfl 0 rfl ?_
  refine k_get Ox 0 rfl rfl hin_X4_restore_X4 1 rfl lk_X4_restore_f16 rfl rfl dX4_restore_6 ?_
  refine k_alen Ox 1 2 rfl rfl dX4_restore_9 ?_
  refine k_icmp_ltN Ox 16 dX4_restore_10 rfl (by omega) (by omega) (fun c_10 => ?_) (fun c_10 => ?_)
  · refine k_aload_n Ox dX4_restore_16 rfl 0 rfl ?_
    refine k_get Ox 0 rfl rfl hin_X4_restore_X4 1 rfl lk_X4_restore_f16 rfl rfl dX4_restore_17 ?_
    refine k_iload_n Ox dX4_restore_20 rfl 1 rfl ?_
    refine k_aald Ox 1 rfl (by omega) (by first | decide | omega) dX4_restore_21 ?_
    rw [hf]
    refine k_astore_nN Ox [(2, _), (0, _), (1, _)] dX4_restore_22 rfl (by decide) rfl ?_
    refine k_aload_nN Ox dX4_restore_23 rfl 0 rfl ?_
    refine k_ifnonnullN Ox dX4_restore_24 ?_
    refine k_bipush Ox (v := -3) dX4_restore_27 (by decide) ?_
    refine k_iret0 Ox Rt dX4_restore_29 (Nat.le_of_ble_eq_true rfl) (Nat.le_of_ble_eq_true rfl) rfl ?_
    exact ⟨⟨rfl, rfl⟩, rfl⟩
  · exfalso; omega
theorem lk_X4_restore_f10 : Cond.fieldLink RX4 10 "LieBridges" "now" "LLieBridges$Delta;" ∈ wsX4_restore := List.mem_of_getElem? (i := 2) rfl
set_option maxHeartbeats 400000 in
set_option maxRecDepth 4000 in
theorem c_X4_restore_k (G : Gx) (h d im pd wy tb gu ro ls gs ly hs tr kn sp sl be bd : Nat) (L : Nat → Nat) (Gr : Nat → Nat) (O : Nat → Nat) (S : Nat → Nat) (T : Nat → Nat) (K : Nat → Nat) (SP : Nat → Nat) (SL : Nat → Nat) (B : Nat → Nat → Nat) (fd : Nat) (sg : Nat) (fi : Nat → Option Nat) (d2 ls2 gs2 ly2 hs2 tr2 kn2 sp2 sl2 be2 bd2 : Nat) (L2 G2 O2 T2 K2 S2 : Nat → Nat) (B2 : Nat → Nat → Nat) (SP2 SL2 : Nat → Nat) (fd2 sg2 : Nat) (n : Nat) (hn : n < 2) (hf : fi n = some d2) : Ct G yX4_restore wsX4_restore { frames := 4, cells := 0, slots := 0, locals := 85 } [.ref h, .int (nI n)] [(h, cO 4 [.ref d, .ref im, .ref pd, .ref wy, .ref tb, .ref gu, .ref ro]), (d, cO 1 [.ref ls, .ref gs, .ref ly, .ref hs, .ref tr, .ref kn, .ref sp, .ref sl, .ref be, .int (nI fd), .int (nI sg)]), (ls, cI G 6 (rN L)), (gs, cI G 6 (rN Gr)), (ly, cI G 6 (rN O)), (hs, cI G 6 (rN S)), (tr, cI G 6 (rN T)), (kn, cI G 6 (rN K)), (sp, cI G 6 (rN SP)), (sl, cI G 6 (rN SL)), (be, cO 0 [.ref bd]), (bd, cI G 36 (rN (flC B))), (im, cQ G 2 fi), (d2, cO 1 [.ref ls2, .ref gs2, .ref ly2, .ref hs2, .ref tr2, .ref kn2, .ref sp2, .ref sl2, .ref be2, .int (nI fd2), .int (nI sg2)]), (ls2, cI G 6 (rN L2)), (gs2, cI G 6 (rN G2)), (ly2, cI G 6 (rN O2)), (hs2, cI G 6 (rN S2)), (tr2, cI G 6 (rN T2)), (kn2, cI G 6 (rN K2)), (sp2, cI G 6 (rN SP2)), (sl2, cI G 6 (rN SL2)), (be2, cO 0 [.ref bd2]), (bd2, cI G 36 (rN (flC B2)))] (fun r wa => r = some (.int (nI 1)) ∧ wa = [(h, cO 4 [.ref d, .ref im, .ref pd, .ref wy, .ref tb, .ref gu, .ref ro]), (d, cO 1 [.ref ls, .ref gs, .ref ly, .ref hs, .ref tr, .ref kn, .ref sp, .ref sl, .ref be, .int (nI fd2), .int (nI sg2)]), (ls, cI G 6 (rN L2)), (gs, cI G 6 (rN G2)), (ly, cI G 6 (rN O2)), (hs, cI G 6 (rN S2)), (tr, cI G 6 (rN T2)), (kn, cI G 6 (rN K2)), (sp, cI G 6 (rN SP2)), (sl, cI G 6 (rN SL2)), (be, cO 0 [.ref bd]), (bd, cI G 36 (rN (flC B2))), (im, cQ G 2 fi), (d2, cO 1 [.ref ls2, .ref gs2, .ref ly2, .ref hs2, .ref tr2, .ref kn2, .ref sp2, .ref sl2, .ref be2, .int (nI fd2), .int (nI sg2)]), (ls2, cI G 6 (rN L2)), (gs2, cI G 6 (rN G2)), (ly2, cI G 6 (rN O2)), (hs2, cI G 6 (rN S2)), (tr2, cI G 6 (rN T2)), (kn2, cI G 6 (rN K2)), (sp2, cI G 6 (rN SP2)), (sl2, cI G 6 (rN SL2)), (be2, cO 0 [.ref bd2]), (bd2, cI G 36 (rN (flC B2)))]) := by
  refine CtN.of [(0, .ref h), (1, .int (nI n))] (by decide +kernel) rfl rfl rfl rfl ?_
  intro x Ox Rt
  refine k_iload_n Ox dX4_restore_0 rfl 1 rfl ?_
  refine k_if_ltN Ox 13 dX4_restore_1 rfl (by omega) ?_
  refine k_iload_n Ox dX4_restore_4 rfl 1 rfl ?_
  refine k_aload_n Ox dX4_restore_5 rfl 0 rfl ?_
  refine k_get Ox 0 rfl rfl hin_X4_restore_X4 1 rfl lk_X4_restore_f16 rfl rfl dX4_restore_6 ?_
  refine k_alen Ox 12 2 rfl rfl dX4_restore_9 ?_
  refine k_icmp_ltN Ox 16 dX4_restore_10 rfl (by omega) (by omega) (fun c_10 => ?_) (fun c_10 => ?_)
  · refine k_aload_n Ox dX4_restore_16 rfl 0 rfl ?_
    refine k_get Ox 0 rfl rfl hin_X4_restore_X4 1 rfl lk_X4_restore_f16 rfl rfl dX4_restore_17 ?_
    refine k_iload_n Ox dX4_restore_20 rfl 1 rfl ?_
    refine k_aald Ox 12 rfl (by omega) (by first | decide | omega) dX4_restore_21 ?_
    rw [hf]
    refine k_astore_n Ox [(2, _), (0, _), (1, _)] dX4_restore_22 rfl (by decide) rfl ?_
    refine k_aload_n Ox dX4_restore_23 rfl 0 rfl ?_
    refine k_ifnonnull Ox 30 dX4_restore_24 rfl ?_
    refine k_aload_n Ox dX4_restore_30 rfl 1 rfl ?_
    refine k_get Ox 0 rfl rfl hin_X4_restore_X4 0 rfl lk_X4_restore_f10 rfl rfl dX4_restore_31 ?_
    refine k_aload_n Ox dX4_restore_34 rfl 0 rfl ?_
    refine k_callV Ox [1, 2, 3, 4, 5, 6, 7, 8, 9, 10, 11, 13, 14, 15, 16, 17, 18, 19, 20, 21, 22, 23] (c_X1_become G _ _ _ _ _ _ _ _ _ _ _ _ _ _ _ _ _ _ _ _ _ _ _ _ _ _ _ _ _ _ _ _ _ _ _ _ _ _ _ _ _ _ _ _ ) 1 rfl rfl rfl ⟨rfl, rfl⟩ rfl rfl gX4_restore_X1_become rfl 1 rfl ⟨rfl, (by decide +kernel), (by decide +kernel), (by decide +kernel)⟩ rfl dX4_restore_35 (Nat.le_of_ble_eq_true rfl) rfl ⟨Nat.le_of_ble_eq_true rfl, Nat.le_of_ble_eq_true rfl⟩ (fun r wa wb hp => ?_)
    obtain ⟨⟨rfl, rfl⟩, rfl⟩ := hp
    simp only [repl_cons, repl_nil, List.set_cons_zero, List.set_cons_succ, List.append_nil]
    show V x G _ _ _ _ _ _ [_, _, _, _, _, _, _, _, _, _, _, _, _, _, _, _, _, _, _, _, _, _, _, _]
    refine k_iconst Ox (v := nI 1) dX4_restore_38 rfl ?_
    refine k_iret0 Ox Rt dX4_restore_39 (Nat.le_of_ble_eq_true rfl) (Nat.le_of_ble_eq_true rfl) rfl ?_
    exact ⟨⟨rfl, rfl⟩, rfl⟩
  · exfalso; omega
theorem lk_X4_image_f10 : Cond.fieldLink RX4 10 "LieBridges" "now" "LLieBridges$Delta;" ∈ wsX4_image := List.mem_of_getElem? (i := 5) rfl
set_option maxHeartbeats 400000 in
set_option maxRecDepth 4000 in
theorem c_X4_image_k (G : Gx) (h d im pd wy tb gu ro ls gs ly hs tr kn sp sl be bd : Nat) (L : Nat → Nat) (Gr : Nat → Nat) (O : Nat → Nat) (S : Nat → Nat) (T : Nat → Nat) (K : Nat → Nat) (SP : Nat → Nat) (SL : Nat → Nat) (B : Nat → Nat → Nat) (fd : Nat) (sg : Nat) (fi : Nat → Option Nat) (d2 ls2 gs2 ly2 hs2 tr2 kn2 sp2 sl2 be2 bd2 : Nat) (L2 G2 O2 T2 K2 S2 : Nat → Nat) (B2 : Nat → Nat → Nat) (SP2 SL2 : Nat → Nat) (fd2 sg2 : Nat) (n : Nat) (hn : n < 2) (hf : fi n = some d2) : Ct G yX4_image wsX4_image { frames := 4, cells := 0, slots := 0, locals := 85 } [.ref h, .int (nI n)] [(h, cO 4 [.ref d, .ref im, .ref pd, .ref wy, .ref tb, .ref gu, .ref ro]), (d, cO 1 [.ref ls, .ref gs, .ref ly, .ref hs, .ref tr, .ref kn, .ref sp, .ref sl, .ref be, .int (nI fd), .int (nI sg)]), (ls, cI G 6 (rN L)), (gs, cI G 6 (rN Gr)), (ly, cI G 6 (rN O)), (hs, cI G 6 (rN S)), (tr, cI G 6 (rN T)), (kn, cI G 6 (rN K)), (sp, cI G 6 (rN SP)), (sl, cI G 6 (rN SL)), (be, cO 0 [.ref bd]), (bd, cI G 36 (rN (flC B))), (im, cQ G 2 fi), (d2, cO 1 [.ref ls2, .ref gs2, .ref ly2, .ref hs2, .ref tr2, .ref kn2, .ref sp2, .ref sl2, .ref be2, .int (nI fd2), .int (nI sg2)]), (ls2, cI G 6 (rN L2)), (gs2, cI G 6 (rN G2)), (ly2, cI G 6 (rN O2)), (hs2, cI G 6 (rN S2)), (tr2, cI G 6 (rN T2)), (kn2, cI G 6 (rN K2)), (sp2, cI G 6 (rN SP2)), (sl2, cI G 6 (rN SL2)), (be2, cO 0 [.ref bd2]), (bd2, cI G 36 (rN (flC B2)))] (fun r wa => r = some (.int (nI 1)) ∧ wa = [(h, cO 4 [.ref d, .ref im, .ref pd, .ref wy, .ref tb, .ref gu, .ref ro]), (d, cO 1 [.ref ls, .ref gs, .ref ly, .ref hs, .ref tr, .ref kn, .ref sp, .ref sl, .ref be, .int (nI fd), .int (nI sg)]), (ls, cI G 6 (rN L)), (gs, cI G 6 (rN Gr)), (ly, cI G 6 (rN O)), (hs, cI G 6 (rN S)), (tr, cI G 6 (rN T)), (kn, cI G 6 (rN K)), (sp, cI G 6 (rN SP)), (sl, cI G 6 (rN SL)), (be, cO 0 [.ref bd]), (bd, cI G 36 (rN (flC B))), (im, cQ G 2 fi), (d2, cO 1 [.ref ls2, .ref gs2, .ref ly2, .ref hs2, .ref tr2, .ref kn2, .ref sp2, .ref sl2, .ref be2, .int (nI fd), .int (nI sg)]), (ls2, cI G 6 (rN L)), (gs2, cI G 6 (rN Gr)), (ly2, cI G 6 (rN O)), (hs2, cI G 6 (rN S)), (tr2, cI G 6 (rN T)), (kn2, cI G 6 (rN K)), (sp2, cI G 6 (rN SP)), (sl2, cI G 6 (rN SL)), (be2, cO 0 [.ref bd2]), (bd2, cI G 36 (rN (flC B)))]) := by
  refine CtN.of [(0, .ref h), (1, .int (nI n))] (by decide +kernel) rfl rfl rfl rfl ?_
  intro x Ox Rt
  refine k_iload_n Ox dX4_image_0 rfl 1 rfl ?_
  refine k_if_ltN Ox 13 dX4_image_1 rfl (by omega) ?_
  refine k_iload_n Ox dX4_image_4 rfl 1 rfl ?_
  refine k_aload_n Ox dX4_image_5 rfl 0 rfl ?_
  refine k_get Ox 0 rfl rfl hin_X4_image_X4 1 rfl lk_X4_image_f16 rfl rfl dX4_image_6 ?_
  refine k_alen Ox 12 2 rfl rfl dX4_image_9 ?_
  refine k_icmp_ltN Ox 16 dX4_image_10 rfl (by omega) (by omega) (fun c_10 => ?_) (fun c_10 => ?_)
  · refine k_aload_n Ox dX4_image_16 rfl 0 rfl ?_
    refine k_get Ox 0 rfl rfl hin_X4_image_X4 1 rfl lk_X4_image_f16 rfl rfl dX4_image_17 ?_
    refine k_iload_n Ox dX4_image_20 rfl 1 rfl ?_
    refine k_aald Ox 12 rfl (by omega) (by first | decide | omega) dX4_image_21 ?_
    rw [hf]
    refine k_astore_n Ox [(2, _), (0, _), (1, _)] dX4_image_22 rfl (by decide) rfl ?_
    refine k_aload_n Ox dX4_image_23 rfl 0 rfl ?_
    refine k_ifnonnull Ox 42 dX4_image_24 rfl ?_
    refine k_aload_n Ox dX4_image_42 rfl 0 rfl ?_
    refine k_aload_n Ox dX4_image_43 rfl 1 rfl ?_
    refine k_get Ox 0 rfl rfl hin_X4_image_X4 0 rfl lk_X4_image_f10 rfl rfl dX4_image_44 ?_
    refine k_callV Ox [13, 14, 15, 16, 17, 18, 19, 20, 21, 22, 23, 1, 2, 3, 4, 5, 6, 7, 8, 9, 10, 11] (c_X1_become G _ _ _ _ _ _ _ _ _ _ _ _ _ _ _ _ _ _ _ _ _ _ _ _ _ _ _ _ _ _ _ _ _ _ _ _ _ _ _ _ _ _ _ _ ) 1 rfl rfl rfl ⟨rfl, rfl⟩ rfl rfl gX4_image_X1_become rfl 13 rfl ⟨rfl, (by decide +kernel), (by decide +kernel), (by decide +kernel)⟩ rfl dX4_image_47 (Nat.le_of_ble_eq_true rfl) rfl ⟨Nat.le_of_ble_eq_true rfl, Nat.le_of_ble_eq_true rfl⟩ (fun r wa wb hp => ?_)
    obtain ⟨⟨rfl, rfl⟩, rfl⟩ := hp
    simp only [repl_cons, repl_nil, List.set_cons_zero, List.set_cons_succ, List.append_nil]
    show V x G _ _ _ _ _ _ [_, _, _, _, _, _, _, _, _, _, _, _, _, _, _, _, _, _, _, _, _, _, _, _]
    refine k_iconst Ox (v := nI 1) dX4_image_50 rfl ?_
    refine k_iret0 Ox Rt dX4_image_51 (Nat.le_of_ble_eq_true rfl) (Nat.le_of_ble_eq_true rfl) rfl ?_
    exact ⟨⟨rfl, rfl⟩, rfl⟩
  · exfalso; omega
theorem hin_X4_image_X1 : ∀ w ∈ u_ws RX1 TX1 11, w ∈ wsX4_image := fun _ h => List.mem_cons_of_mem _ (List.mem_append_left _ (List.mem_append_right _ h))
theorem lk_X4_image_c7 : Cond.classLink RX4 7 RX1 ∈ wsX4_image := List.mem_of_getElem? (i := 2) rfl
theorem lk_X4_image_iX1 : Cond.instantiable RX1 11 ∈ wsX4_image := List.mem_of_getElem? (i := 3) rfl
theorem lk_X4_image_tX1 : Cond.initialized RX1 ∈ wsX4_image := List.mem_of_getElem? (i := 4) rfl
theorem lk_X4_image_m9 : Cond.methodLink RX4 9 yX1_init ∈ wsX4_image := List.mem_of_getElem? (i := 6) rfl
theorem lk_X4_image_nX1 : Cond.instanceMethod yX1_init ∈ wsX4_image := List.mem_of_getElem? (i := 7) rfl
set_option maxHeartbeats 400000 in
set_option maxRecDepth 4000 in
theorem c_X4_image_n (G : Gx) (h d im pd wy tb gu ro ls gs ly hs tr kn sp sl be bd : Nat) (L : Nat → Nat) (Gr : Nat → Nat) (O : Nat → Nat) (S : Nat → Nat) (T : Nat → Nat) (K : Nat → Nat) (SP : Nat → Nat) (SL : Nat → Nat) (B : Nat → Nat → Nat) (fd : Nat) (sg : Nat) (fi : Nat → Option Nat) (n : Nat) (hn : n < 2) (hf : fi n = none) : CtN G yX4_image wsX4_image { frames := 4, cells := 11, slots := 96, locals := 92 } [.ref h, .int (nI n)] [(h, cO 4 [.ref d, .ref im, .ref pd, .ref wy, .ref tb, .ref gu, .ref ro]), (d, cO 1 [.ref ls, .ref gs, .ref ly, .ref hs, .ref tr, .ref kn, .ref sp, .ref sl, .ref be, .int (nI fd), .int (nI sg)]), (ls, cI G 6 (rN L)), (gs, cI G 6 (rN Gr)), (ly, cI G 6 (rN O)), (hs, cI G 6 (rN S)), (tr, cI G 6 (rN T)), (kn, cI G 6 (rN K)), (sp, cI G 6 (rN SP)), (sl, cI G 6 (rN SL)), (be, cO 0 [.ref bd]), (bd, cI G 36 (rN (flC B))), (im, cQ G 2 fi)] (fun r wa wb => r = some (.int (nI 1)) ∧ ∃ d2 ls2 gs2 ly2 hs2 tr2 kn2 sp2 sl2 be2 bd2 : Nat, wa = [(h, cO 4 [.ref d, .ref im, .ref pd, .ref wy, .ref tb, .ref gu, .ref ro]), (d, cO 1 [.ref ls, .ref gs, .ref ly, .ref hs, .ref tr, .ref kn, .ref sp, .ref sl, .ref be, .int (nI fd), .int (nI sg)]), (ls, cI G 6 (rN L)), (gs, cI G 6 (rN Gr)), (ly, cI G 6 (rN O)), (hs, cI G 6 (rN S)), (tr, cI G 6 (rN T)), (kn, cI G 6 (rN K)), (sp, cI G 6 (rN SP)), (sl, cI G 6 (rN SL)), (be, cO 0 [.ref bd]), (bd, cI G 36 (rN (flC B))), (im, cQ G 2 (va_up fi n (some d2)))] ∧ wb = [(d2, cO 1 [.ref ls2, .ref gs2, .ref ly2, .ref hs2, .ref tr2, .ref kn2, .ref sp2, .ref sl2, .ref be2, .int (nI fd), .int (nI sg)]), (ls2, cI G 6 (rN L)), (gs2, cI G 6 (rN Gr)), (ly2, cI G 6 (rN O)), (hs2, cI G 6 (rN S)), (tr2, cI G 6 (rN T)), (kn2, cI G 6 (rN K)), (sp2, cI G 6 (rN SP)), (sl2, cI G 6 (rN SL)), (be2, cO 0 [.ref bd2]), (bd2, cI G 36 (rN (flC B)))]) 11 96 := by
  refine CtN.of [(0, .ref h), (1, .int (nI n))] (by decide +kernel) rfl rfl rfl rfl ?_
  intro x Ox Rt
  refine k_iload_n Ox dX4_image_0 rfl 1 rfl ?_
  refine k_if_ltN Ox 13 dX4_image_1 rfl (by omega) ?_
  refine k_iload_n Ox dX4_image_4 rfl 1 rfl ?_
  refine k_aload_n Ox dX4_image_5 rfl 0 rfl ?_
  refine k_get Ox 0 rfl rfl hin_X4_image_X4 1 rfl lk_X4_image_f16 rfl rfl dX4_image_6 ?_
  refine k_alen Ox 12 2 rfl rfl dX4_image_9 ?_
  refine k_icmp_ltN Ox 16 dX4_image_10 rfl (by omega) (by omega) (fun c_10 => ?_) (fun c_10 => ?_)
  · refine k_aload_n Ox dX4_image_16 rfl 0 rfl ?_
    refine k_get Ox 0 rfl rfl hin_X4_image_X4 1 rfl lk_X4_image_f16 rfl rfl dX4_image_17 ?_
    refine k_iload_n Ox dX4_image_20 rfl 1 rfl ?_
    refine k_aald Ox 12 rfl (by omega) (by first | decide | omega) dX4_image_21 ?_
    rw [hf]
    refine k_astore_nN Ox [(2, _), (0, _), (1, _)] dX4_image_22 rfl (by decide) rfl ?_
    refine k_aload_nN Ox dX4_image_23 rfl 0 rfl ?_
    refine k_ifnonnullN Ox dX4_image_24 ?_
    refine k_new Ox (ci := 1) rfl hin_X4_image_X1 tyX1 tyX1_ok lk_X4_image_c7 lk_X4_image_iX1 lk_X4_image_tX1 [.null, .null, .null, .null, .null, .null, .null, .null, .null, .int 0, .int 0] (fun j hj => by rcases (show j = 0 ∨ j = 1 ∨ j = 2 ∨ j = 3 ∨ j = 4 ∨ j = 5 ∨ j = 6 ∨ j = 7 ∨ j = 8 ∨ j = 9 ∨ j = 10 by omega) with rfl | rfl | rfl | rfl | rfl | rfl | rfl | rfl | rfl | rfl | rfl <;> rfl) ⟨Nat.le_of_ble_eq_true rfl, Nat.le_of_ble_eq_true rfl⟩ dX4_image_27 (fun q27 => ?_)
    show V x G _ 1 11 _ _ _ [_, _, _, _, _, _, _, _, _, _, _, _, _, _]
    refine k_dup Ox dX4_image_30 rfl ?_
    refine k_callI Ox [13] (c_X1_init G _ ) 0 rfl rfl rfl ⟨rfl, rfl⟩ rfl rfl gX4_image_X1_init lk_X4_image_tX1 lk_X4_image_m9 lk_X4_image_nX1 rfl rfl ⟨(by decide +kernel), (by decide +kernel), (by decide +kernel)⟩ rfl dX4_image_31 (Nat.le_of_ble_eq_true rfl) rfl ⟨Nat.le_of_ble_eq_true rfl, Nat.le_of_ble_eq_true rfl⟩ (fun r wa wb hp => ?_)
    obtain ⟨rfl, ls31, gs31, ly31, hs31, tr31, kn31, sp31, sl31, be31, bd31, rfl, rfl⟩ := hp
    show V x G _ _ _ _ _ _ [_, _, _, _, _, _, _, _, _, _, _, _, _, _, _, _, _, _, _, _, _, _, _, _]
    refine k_astore_n Ox [(2, _), (0, _), (1, _)] dX4_image_34 rfl (by decide) rfl ?_
    refine k_aload_n Ox dX4_image_35 rfl 1 rfl ?_
    refine k_get Ox 0 rfl rfl hin_X4_image_X4 1 rfl lk_X4_image_f16 rfl rfl dX4_image_36 ?_
    refine k_iload_n Ox dX4_image_39 rfl 2 rfl ?_
    refine k_aload_n Ox dX4_image_40 rfl 0 rfl ?_
    refine k_aast Ox 12 13 rfl rfl (by omega) (by first | decide | omega) [_, _, _, _, _, _, _, _, _, _, _, _, _, _, _, _, _, _, _, _, _, _, _, _] rfl dX4_image_41 ?_
    refine k_aload_n Ox dX4_image_42 rfl 0 rfl ?_
    refine k_aload_n Ox dX4_image_43 rfl 1 rfl ?_
    refine k_get Ox 0 rfl rfl hin_X4_image_X4 0 rfl lk_X4_image_f10 rfl rfl dX4_image_44 ?_
    refine k_callV Ox [13, 14, 15, 16, 17, 18, 19, 20, 21, 22, 23, 1, 2, 3, 4, 5, 6, 7, 8, 9, 10, 11] (c_X1_become G _ _ _ _ _ _ _ _ _ _ _ _ _ _ _ _ _ _ _ _ _ _ _ _ _ _ _ _ _ _ _ _ _ _ _ _ _ _ _ _ _ _ _ _ ) 1 rfl rfl rfl ⟨rfl, rfl⟩ rfl rfl gX4_image_X1_become rfl 13 rfl ⟨rfl, (by decide +kernel), (by decide +kernel), (by decide +kernel)⟩ rfl dX4_image_47 (Nat.le_of_ble_eq_true rfl) rfl ⟨Nat.le_of_ble_eq_true rfl, Nat.le_of_ble_eq_true rfl⟩ (fun r wa wb hp => ?_)
    obtain ⟨⟨rfl, rfl⟩, rfl⟩ := hp
    simp only [repl_cons, repl_nil, List.set_cons_zero, List.set_cons_succ, List.append_nil]
    show V x G _ _ _ _ _ _ [_, _, _, _, _, _, _, _, _, _, _, _, _, _, _, _, _, _, _, _, _, _, _, _]
    refine k_iconst Ox (v := nI 1) dX4_image_50 rfl ?_
    refine k_iret (ws := [_, _, _, _, _, _, _, _, _, _, _, _, _]) (wb := [_, _, _, _, _, _, _, _, _, _, _]) Ox Rt dX4_image_51 (Nat.le_of_ble_eq_true rfl) (Nat.le_of_ble_eq_true rfl) rfl ?_
    exact ⟨rfl, _, _, _, _, _, _, _, _, _, _, _, rfl, rfl⟩
  · exfalso; omega
