theorem lk_X4_plank_f10 : Cond.fieldLink RX4 10 "LieBridges" "now" "LLieBridges$Delta;" ∈ wsX4_plank := List.mem_of_getElem? (i := 1) rfl
theorem hin_X4_plank_X4 : ∀ w ∈ u_ws RX4 TX4 7, w ∈ wsX4_plank := fun _ h => List.mem_cons_of_mem _ (List.mem_append_left _ (List.mem_append_left _ (List.mem_append_right _ h)))
set_option maxHeartbeats 400000 in
set_option maxRecDepth 4000 in
theorem c_X4_plank (G : Gx) (h d im pd wy tb gu ro ls gs ly hs tr kn sp sl be bd : Nat) (L : Nat → Nat) (Gr : Nat → Nat) (O : Nat → Nat) (K : Nat → Nat) (B : Nat → Nat → Nat) (fd : Nat) (sg : Nat) (x1 x2 x3 x4 : Int32) (hK : okM K) : Ct G yX4_plank wsX4_plank { frames := 3, cells := 0, slots := 0, locals := 71 } [.ref h, .int x1, .int x2, .int x3, .int x4] [(h, cO 4 [.ref d, .ref im, .ref pd, .ref wy, .ref tb, .ref gu, .ref ro]), (d, cO 1 [.ref ls, .ref gs, .ref ly, .ref hs, .ref tr, .ref kn, .ref sp, .ref sl, .ref be, .int (nI fd), .int (nI sg)]), (ls, cI G 6 (rN L)), (gs, cI G 6 (rN Gr)), (ly, cI G 6 (rN O)), (kn, cI G 6 (rN K)), (be, cO 0 [.ref bd]), (bd, cI G 36 (rN (flC B)))] (fun r wa => r = some (.int (pick (okPl x1 x2 x3 x4) (nI 1) (-1))) ∧ wa = [(h, cO 4 [.ref d, .ref im, .ref pd, .ref wy, .ref tb, .ref gu, .ref ro]), (d, cO 1 [.ref ls, .ref gs, .ref ly, .ref hs, .ref tr, .ref kn, .ref sp, .ref sl, .ref be, .int (nI fd), .int (nI sg)]), (ls, cI G 6 (rN (plL x1 x2 x3 x4 L))), (gs, cI G 6 (rN (plG x1 x2 x3 x4 Gr))), (ly, cI G 6 (rN (plO x1 x2 x3 x4 O))), (kn, cI G 6 (rN (plK x1 x2 x3 x4 K))), (be, cO 0 [.ref bd]), (bd, cI G 36 (rN (flC (plB x1 x2 x3 x4 B))))]) := by
  refine CtN.of [(0, .ref h), (1, .int x1), (2, .int x2), (3, .int x3), (4, .int x4)] (by decide +kernel) rfl rfl rfl rfl ?_
  intro x Ox Rt
  refine k_iload_n Ox dX4_plank_0 rfl 1 rfl ?_
  refine k_callS Ox [] (c_X4_isPlank G _ ) 1 rfl rfl rfl ⟨rfl, rfl⟩ rfl rfl gX4_plank_X4_isPlank ⟨(by decide +kernel), (by decide +kernel), (by decide +kernel)⟩ rfl dX4_plank_1 (Nat.le_of_ble_eq_true rfl) rfl ⟨Nat.le_of_ble_eq_true rfl, Nat.le_of_ble_eq_true rfl⟩ (fun r wa wb hp => ?_)
  obtain ⟨⟨rfl, rfl⟩, rfl⟩ := hp
  show V x G _ _ _ _ _ (.int _ :: _) [_, _, _, _, _, _, _, _]
  refine k_if_eqB Ox 34 dX4_plank_4 rfl (fun c_4 => ?_) (fun c_4 => ?_)
  · have hf : okPl x1 x2 x3 x4 = false := by simp [okPl, c_4]
    refine k_iconst Ox (v := -1) dX4_plank_34 (by decide) ?_
    refine k_iret0 Ox Rt dX4_plank_35 (Nat.le_of_ble_eq_true rfl) (Nat.le_of_ble_eq_true rfl) rfl ?_
    have hn : ¬ _ = true := (by rw [hf]; decide : ¬ okPl x1 x2 x3 x4 = true)
    refine ⟨⟨by rw [pick_f hf], ?_⟩, rfl⟩
    simp only [plL, plG, plO, plK, plB, if_neg hn]
  · refine k_iload_n Ox dX4_plank_7 rfl 2 rfl ?_
    refine k_callS Ox [] (c_X4_isIsland G _ ) 1 rfl rfl rfl ⟨rfl, rfl⟩ rfl rfl gX4_plank_X4_isIsland ⟨(by decide +kernel), (by decide +kernel), (by decide +kernel)⟩ rfl dX4_plank_8 (Nat.le_of_ble_eq_true rfl) rfl ⟨Nat.le_of_ble_eq_true rfl, Nat.le_of_ble_eq_true rfl⟩ (fun r wa wb hp => ?_)
    obtain ⟨⟨rfl, rfl⟩, rfl⟩ := hp
    show V x G _ _ _ _ _ (.int _ :: _) [_, _, _, _, _, _, _, _]
    refine k_if_eqB Ox 34 dX4_plank_11 rfl (fun c_11 => ?_) (fun c_11 => ?_)
    · have hf : okPl x1 x2 x3 x4 = false := by simp [okPl, c_11, c_4]
      refine k_iconst Ox (v := -1) dX4_plank_34 (by decide) ?_
      refine k_iret0 Ox Rt dX4_plank_35 (Nat.le_of_ble_eq_true rfl) (Nat.le_of_ble_eq_true rfl) rfl ?_
      have hn : ¬ _ = true := (by rw [hf]; decide : ¬ okPl x1 x2 x3 x4 = true)
      refine ⟨⟨by rw [pick_f hf], ?_⟩, rfl⟩
      simp only [plL, plG, plO, plK, plB, if_neg hn]
    · refine k_iload_n Ox dX4_plank_14 rfl 3 rfl ?_
      refine k_callS Ox [] (c_X4_isIsland G _ ) 1 rfl rfl rfl ⟨rfl, rfl⟩ rfl rfl gX4_plank_X4_isIsland ⟨(by decide +kernel), (by decide +kernel), (by decide +kernel)⟩ rfl dX4_plank_15 (Nat.le_of_ble_eq_true rfl) rfl ⟨Nat.le_of_ble_eq_true rfl, Nat.le_of_ble_eq_true rfl⟩ (fun r wa wb hp => ?_)
      obtain ⟨⟨rfl, rfl⟩, rfl⟩ := hp
      show V x G _ _ _ _ _ (.int _ :: _) [_, _, _, _, _, _, _, _]
      refine k_if_eqB Ox 34 dX4_plank_18 rfl (fun c_18 => ?_) (fun c_18 => ?_)
      · have hf : okPl x1 x2 x3 x4 = false := by simp [okPl, c_18, c_4, c_11]
        refine k_iconst Ox (v := -1) dX4_plank_34 (by decide) ?_
        refine k_iret0 Ox Rt dX4_plank_35 (Nat.le_of_ble_eq_true rfl) (Nat.le_of_ble_eq_true rfl) rfl ?_
        have hn : ¬ _ = true := (by rw [hf]; decide : ¬ okPl x1 x2 x3 x4 = true)
        refine ⟨⟨by rw [pick_f hf], ?_⟩, rfl⟩
        simp only [plL, plG, plO, plK, plB, if_neg hn]
      · refine k_iload Ox dX4_plank_21 4 rfl ?_
        refine k_callS Ox [] (c_X4_isPerson G _ ) 1 rfl rfl rfl ⟨rfl, rfl⟩ rfl rfl gX4_plank_X4_isPerson ⟨(by decide +kernel), (by decide +kernel), (by decide +kernel)⟩ rfl dX4_plank_23 (Nat.le_of_ble_eq_true rfl) rfl ⟨Nat.le_of_ble_eq_true rfl, Nat.le_of_ble_eq_true rfl⟩ (fun r wa wb hp => ?_)
        obtain ⟨⟨rfl, rfl⟩, rfl⟩ := hp
        show V x G _ _ _ _ _ (.int _ :: _) [_, _, _, _, _, _, _, _]
        refine k_if_eqB Ox 34 dX4_plank_26 rfl (fun c_26 => ?_) (fun c_26 => ?_)
        · have hf : okPl x1 x2 x3 x4 = false := by simp [okPl, c_26, c_4, c_11, c_18]
          refine k_iconst Ox (v := -1) dX4_plank_34 (by decide) ?_
          refine k_iret0 Ox Rt dX4_plank_35 (Nat.le_of_ble_eq_true rfl) (Nat.le_of_ble_eq_true rfl) rfl ?_
          have hn : ¬ _ = true := (by rw [hf]; decide : ¬ okPl x1 x2 x3 x4 = true)
          refine ⟨⟨by rw [pick_f hf], ?_⟩, rfl⟩
          simp only [plL, plG, plO, plK, plB, if_neg hn]
        · refine k_iload_n Ox dX4_plank_29 rfl 2 rfl ?_
          refine k_iload_n Ox dX4_plank_30 rfl 3 rfl ?_
          refine k_icmp_ne Ox 36 dX4_plank_31 rfl (fun c_31 => ?_) (fun c_31 => ?_)
          · have hok : okPl x1 x2 x3 x4 = true := by simp [okPl, c_4, c_11, c_18, c_26, c_31]
            obtain ⟨j1, hj1, rfl⟩ := in6_of c_4
            obtain ⟨j2, hj2, rfl⟩ := in6_of c_11
            obtain ⟨j3, hj3, rfl⟩ := in6_of c_18
            obtain ⟨j4, hj4, rfl⟩ := in6_of c_26
            refine k_aload_n Ox dX4_plank_36 rfl 0 rfl ?_
            refine k_get Ox 0 rfl rfl hin_X4_plank_X4 0 rfl lk_X4_plank_f10 rfl rfl dX4_plank_37 ?_
            refine k_iload_n Ox dX4_plank_40 rfl 1 rfl ?_
            refine k_iload_n Ox dX4_plank_41 rfl 2 rfl ?_
            refine k_iload_n Ox dX4_plank_42 rfl 3 rfl ?_
            refine k_iload Ox dX4_plank_43 4 rfl ?_
            refine k_callV Ox [1, 2, 3, 4, 5, 6, 7] (c_X1_lay G _ _ _ _ _ _ _ _ _ _ _ _ _ _ _ _ _ _ _ _ _ _ (by assumption) (by omega) (by omega) (by omega) (by omega)) 4 rfl rfl rfl ⟨rfl, rfl⟩ rfl rfl gX4_plank_X1_lay rfl 1 rfl ⟨rfl, (by decide +kernel), (by decide +kernel), (by decide +kernel)⟩ rfl dX4_plank_45 (Nat.le_of_ble_eq_true rfl) rfl ⟨Nat.le_of_ble_eq_true rfl, Nat.le_of_ble_eq_true rfl⟩ (fun r wa wb hp => ?_)
            obtain ⟨⟨rfl, rfl⟩, rfl⟩ := hp
            show V x G _ _ _ _ _ _ [_, _, _, _, _, _, _, _]
            refine k_iconst Ox (v := nI 1) dX4_plank_48 rfl ?_
            refine k_iret0 Ox Rt dX4_plank_49 (Nat.le_of_ble_eq_true rfl) (Nat.le_of_ble_eq_true rfl) rfl ?_
            refine ⟨⟨by rw [pick_t hok], ?_⟩, rfl⟩
            simp only [plL, plG, plO, plK, plB, if_pos hok, nn_nI (show j1 < 1000000 by omega), nn_nI (show j2 < 1000000 by omega), nn_nI (show j3 < 1000000 by omega), nn_nI (show j4 < 1000000 by omega)]
          · have hf : okPl x1 x2 x3 x4 = false := by simp [okPl, c_31, c_4, c_11, c_18, c_26]
            refine k_iconst Ox (v := -1) dX4_plank_34 (by decide) ?_
            refine k_iret0 Ox Rt dX4_plank_35 (Nat.le_of_ble_eq_true rfl) (Nat.le_of_ble_eq_true rfl) rfl ?_
            have hn : ¬ _ = true := (by rw [hf]; decide : ¬ okPl x1 x2 x3 x4 = true)
            refine ⟨⟨by rw [pick_f hf], ?_⟩, rfl⟩
            simp only [plL, plG, plO, plK, plB, if_neg hn]
theorem lk_X5_plank_f16 : Cond.fieldLink RX5 16 "LieBridgesModel" "owner" "[I" ∈ wsX5_plank := List.mem_of_getElem? (i := 3) rfl
theorem hin_X5_plank_X5 : ∀ w ∈ u_ws RX5 TX5 22, w ∈ wsX5_plank := fun _ h => List.mem_cons_of_mem _ (List.mem_append_right _ h)
theorem lk_X5_plank_f25 : Cond.fieldLink RX5 25 "LieBridgesModel" "days" "[I" ∈ wsX5_plank := List.mem_of_getElem? (i := 4) rfl
theorem lk_X5_plank_f22 : Cond.fieldLink RX5 22 "LieBridgesModel" "knows" "[I" ∈ wsX5_plank := List.mem_of_getElem? (i := 5) rfl
theorem lk_X5_plank_f13 : Cond.fieldLink RX5 13 "LieBridgesModel" "two" "[I" ∈ wsX5_plank := List.mem_of_getElem? (i := 2) rfl
theorem lk_X5_plank_f7 : Cond.fieldLink RX5 7 "LieBridgesModel" "one" "[I" ∈ wsX5_plank := List.mem_of_getElem? (i := 1) rfl
set_option maxHeartbeats 1000000 in
set_option maxRecDepth 4000 in
theorem c_X5_plank (G : Gx) (m a1 a2 a3 a4 a5 a6 a7 a8 a9 a10 a11 a12 a13 : Nat) (fd sg mn : Nat) (w1 w2 w3 w4 w5 w6 : Int32) (L Gr O K : Nat → Nat) (B : Nat → Nat → Nat) (x1 x2 x3 x4 : Int32) (hK : okM K) : Ct G yX5_plank wsX5_plank { frames := 2, cells := 0, slots := 0, locals := 42 } [.ref m, .int x1, .int x2, .int x3, .int x4] [(m, cO 5 [.ref a1, .ref a2, .ref a3, .ref a4, .ref a5, .ref a6, .ref a7, .int (nI fd), .int (nI sg), .ref a8, .int (nI mn), .ref a9, .ref a10, .int w1, .int w2, .ref a11, .int w3, .int w4, .int w5, .int w6, .ref a12, .ref a13]), (a1, cI G 6 (rN L)), (a2, cI G 6 (rN Gr)), (a3, cI G 6 (rN O)), (a5, cI G 6 (rN K)), (a6, cI G 36 (rN (flM B)))] (fun r wa => r = some (.int (pick (okPl x1 x2 x3 x4) (nI 1) (-1))) ∧ wa = [(m, cO 5 [.ref a1, .ref a2, .ref a3, .ref a4, .ref a5, .ref a6, .ref a7, .int (nI fd), .int (nI sg), .ref a8, .int (nI mn), .ref a9, .ref a10, .int w1, .int w2, .ref a11, .int w3, .int w4, .int w5, .int w6, .ref a12, .ref a13]), (a1, cI G 6 (rN (plL x1 x2 x3 x4 L))), (a2, cI G 6 (rN (plG x1 x2 x3 x4 Gr))), (a3, cI G 6 (rN (plO x1 x2 x3 x4 O))), (a5, cI G 6 (rN (plK x1 x2 x3 x4 K))), (a6, cI G 36 (rN (flM (plB x1 x2 x3 x4 B))))]) := by
  refine CtN.of [(0, .ref m), (1, .int x1), (2, .int x2), (3, .int x3), (4, .int x4)] (by decide +kernel) rfl rfl rfl rfl ?_
  intro x Ox Rt
  refine k_iload_n Ox dX5_plank_0 rfl 1 rfl ?_
  refine k_callS Ox [] (c_X5_is6 G _ ) 1 rfl rfl rfl ⟨rfl, rfl⟩ rfl rfl gX5_plank_X5_is6 ⟨(by decide +kernel), (by decide +kernel), (by decide +kernel)⟩ rfl dX5_plank_1 (Nat.le_of_ble_eq_true rfl) rfl ⟨Nat.le_of_ble_eq_true rfl, Nat.le_of_ble_eq_true rfl⟩ (fun r wa wb hp => ?_)
  obtain ⟨⟨rfl, rfl⟩, rfl⟩ := hp
  show V x G _ _ _ _ _ (.int _ :: _) [_, _, _, _, _, _]
  refine k_if_eqB Ox 34 dX5_plank_4 rfl (fun c_4 => ?_) (fun c_4 => ?_)
  · have hf : okPl x1 x2 x3 x4 = false := by simp [okPl, c_4]
    refine k_iconst Ox (v := -1) dX5_plank_34 (by decide) ?_
    refine k_iret0 Ox Rt dX5_plank_35 (Nat.le_of_ble_eq_true rfl) (Nat.le_of_ble_eq_true rfl) rfl ?_
    have hn : ¬ _ = true := (by rw [hf]; decide : ¬ okPl x1 x2 x3 x4 = true)
    refine ⟨⟨by rw [pick_f hf], ?_⟩, rfl⟩
    simp only [plL, plG, plO, plK, plB, if_neg hn]
  · refine k_iload_n Ox dX5_plank_7 rfl 2 rfl ?_
    refine k_callS Ox [] (c_X5_is6 G _ ) 1 rfl rfl rfl ⟨rfl, rfl⟩ rfl rfl gX5_plank_X5_is6 ⟨(by decide +kernel), (by decide +kernel), (by decide +kernel)⟩ rfl dX5_plank_8 (Nat.le_of_ble_eq_true rfl) rfl ⟨Nat.le_of_ble_eq_true rfl, Nat.le_of_ble_eq_true rfl⟩ (fun r wa wb hp => ?_)
    obtain ⟨⟨rfl, rfl⟩, rfl⟩ := hp
    show V x G _ _ _ _ _ (.int _ :: _) [_, _, _, _, _, _]
    refine k_if_eqB Ox 34 dX5_plank_11 rfl (fun c_11 => ?_) (fun c_11 => ?_)
    · have hf : okPl x1 x2 x3 x4 = false := by simp [okPl, c_11, c_4]
      refine k_iconst Ox (v := -1) dX5_plank_34 (by decide) ?_
      refine k_iret0 Ox Rt dX5_plank_35 (Nat.le_of_ble_eq_true rfl) (Nat.le_of_ble_eq_true rfl) rfl ?_
      have hn : ¬ _ = true := (by rw [hf]; decide : ¬ okPl x1 x2 x3 x4 = true)
      refine ⟨⟨by rw [pick_f hf], ?_⟩, rfl⟩
      simp only [plL, plG, plO, plK, plB, if_neg hn]
    · refine k_iload_n Ox dX5_plank_14 rfl 3 rfl ?_
      refine k_callS Ox [] (c_X5_is6 G _ ) 1 rfl rfl rfl ⟨rfl, rfl⟩ rfl rfl gX5_plank_X5_is6 ⟨(by decide +kernel), (by decide +kernel), (by decide +kernel)⟩ rfl dX5_plank_15 (Nat.le_of_ble_eq_true rfl) rfl ⟨Nat.le_of_ble_eq_true rfl, Nat.le_of_ble_eq_true rfl⟩ (fun r wa wb hp => ?_)
      obtain ⟨⟨rfl, rfl⟩, rfl⟩ := hp
      show V x G _ _ _ _ _ (.int _ :: _) [_, _, _, _, _, _]
      refine k_if_eqB Ox 34 dX5_plank_18 rfl (fun c_18 => ?_) (fun c_18 => ?_)
      · have hf : okPl x1 x2 x3 x4 = false := by simp [okPl, c_18, c_4, c_11]
        refine k_iconst Ox (v := -1) dX5_plank_34 (by decide) ?_
        refine k_iret0 Ox Rt dX5_plank_35 (Nat.le_of_ble_eq_true rfl) (Nat.le_of_ble_eq_true rfl) rfl ?_
        have hn : ¬ _ = true := (by rw [hf]; decide : ¬ okPl x1 x2 x3 x4 = true)
        refine ⟨⟨by rw [pick_f hf], ?_⟩, rfl⟩
        simp only [plL, plG, plO, plK, plB, if_neg hn]
      · refine k_iload_n Ox dX5_plank_21 rfl 2 rfl ?_
        refine k_iload_n Ox dX5_plank_22 rfl 3 rfl ?_
        refine k_icmp_eq Ox 34 dX5_plank_23 rfl (fun c_23 => ?_) (fun c_23 => ?_)
        · have hf : okPl x1 x2 x3 x4 = false := by simp [okPl, c_23]
          refine k_iconst Ox (v := -1) dX5_plank_34 (by decide) ?_
          refine k_iret0 Ox Rt dX5_plank_35 (Nat.le_of_ble_eq_true rfl) (Nat.le_of_ble_eq_true rfl) rfl ?_
          have hn : ¬ _ = true := (by rw [hf]; decide : ¬ okPl x1 x2 x3 x4 = true)
          refine ⟨⟨by rw [pick_f hf], ?_⟩, rfl⟩
          simp only [plL, plG, plO, plK, plB, if_neg hn]
        · refine k_iload Ox dX5_plank_26 4 rfl ?_
          refine k_callS Ox [] (c_X5_is6 G _ ) 1 rfl rfl rfl ⟨rfl, rfl⟩ rfl rfl gX5_plank_X5_is6 ⟨(by decide +kernel), (by decide +kernel), (by decide +kernel)⟩ rfl dX5_plank_28 (Nat.le_of_ble_eq_true rfl) rfl ⟨Nat.le_of_ble_eq_true rfl, Nat.le_of_ble_eq_true rfl⟩ (fun r wa wb hp => ?_)
          obtain ⟨⟨rfl, rfl⟩, rfl⟩ := hp
          show V x G _ _ _ _ _ (.int _ :: _) [_, _, _, _, _, _]
          refine k_if_neB Ox 36 dX5_plank_31 rfl (fun c_31 => ?_) (fun c_31 => ?_)
          · have hok : okPl x1 x2 x3 x4 = true := by simp [okPl, c_4, c_11, c_18, c_31, c_23]
            obtain ⟨j1, hj1, rfl⟩ := in6_of c_4
            obtain ⟨j2, hj2, rfl⟩ := in6_of c_11
            obtain ⟨j3, hj3, rfl⟩ := in6_of c_18
            obtain ⟨j4, hj4, rfl⟩ := in6_of c_31
            have L51 : ∀ (v : Nat), v = (if j2 < j3 then j2 else j3) → V x G 6 0 0 51 [(0, .ref m), (1, .int (nI j1)), (2, .int (nI j2)), (3, .int (nI j3)), (4, .int (nI j4))] [.int (nI v), .int (nI j1), .ref a1] [(m, cO 5 [.ref a1, .ref a2, .ref a3, .ref a4, .ref a5, .ref a6, .ref a7, .int (nI fd), .int (nI sg), .ref a8, .int (nI mn), .ref a9, .ref a10, .int w1, .int w2, .ref a11, .int w3, .int w4, .int w5, .int w6, .ref a12, .ref a13]), (a1, cI G 6 (rN L)), (a2, cI G 6 (rN Gr)), (a3, cI G 6 (rN O)), (a5, cI G 6 (rN K)), (a6, cI G 36 (rN (flM B)))] := by
              intro v hv
              refine k_iastN Ox 1 rfl (by omega) (by first | decide | omega) [_, _, _, _, _, _] rfl dX5_plank_51 ?_
              have L67 : ∀ (u : Nat), u = (if j2 < j3 then j3 else j2) → V x G 6 0 0 67 [(0, .ref m), (1, .int (nI j1)), (2, .int (nI j2)), (3, .int (nI j3)), (4, .int (nI j4))] [.int (nI u), .int (nI j1), .ref a2] [(m, cO 5 [.ref a1, .ref a2, .ref a3, .ref a4, .ref a5, .ref a6, .ref a7, .int (nI fd), .int (nI sg), .ref a8, .int (nI mn), .ref a9, .ref a10, .int w1, .int w2, .ref a11, .int w3, .int w4, .int w5, .int w6, .ref a12, .ref a13]), (a1, cI G 6 (rN (va_up L j1 v))), (a2, cI G 6 (rN Gr)), (a3, cI G 6 (rN O)), (a5, cI G 6 (rN K)), (a6, cI G 36 (rN (flM B)))] := by
                intro u hu
                refine k_iastN Ox 2 rfl (by omega) (by first | decide | omega) [_, _, _, _, _, _] rfl dX5_plank_67 ?_
                refine k_aload_n Ox dX5_plank_68 rfl 0 rfl ?_
                refine k_get Ox 0 rfl rfl hin_X5_plank_X5 2 rfl lk_X5_plank_f16 rfl rfl dX5_plank_69 ?_
                refine k_iload_n Ox dX5_plank_72 rfl 1 rfl ?_
                refine k_iload Ox dX5_plank_73 4 rfl ?_
                refine k_iastN Ox 3 rfl (by omega) (by first | decide | omega) [_, _, _, _, _, _] rfl dX5_plank_75 ?_
                refine k_iconst Ox (v := nI 0) dX5_plank_76 rfl ?_
                refine k_istore Ox [(5, _), (0, _), (1, _), (2, _), (3, _), (4, _)] dX5_plank_77 (by decide) rfl ?_
                have L79 : ∀ (fuel : Nat) (e : Nat) (K1 : Nat → Nat) (B1 : Nat → Nat → Nat), e ≤ 6 → 7 ≤ e + fuel → (∀ a, K1 a = if a < e then setb (K a) j1 false else K a) → (∀ a q, B1 a q = if q = j1 ∧ a < e then 0 else B a q) → V x G 6 0 0 79 [(0, .ref m), (1, .int (nI j1)), (2, .int (nI j2)), (3, .int (nI j3)), (4, .int (nI j4)), (5, .int (nI e))] [] [(m, cO 5 [.ref a1, .ref a2, .ref a3, .ref a4, .ref a5, .ref a6, .ref a7, .int (nI fd), .int (nI sg), .ref a8, .int (nI mn), .ref a9, .ref a10, .int w1, .int w2, .ref a11, .int w3, .int w4, .int w5, .int w6, .ref a12, .ref a13]), (a1, cI G 6 (rN (va_up L j1 v))), (a2, cI G 6 (rN (va_up Gr j1 u))), (a3, cI G 6 (rN (va_up O j1 j4))), (a5, cI G 6 (rN K1)), (a6, cI G 36 (rN (flM B1)))] := by
                  intro fuel
                  induction fuel with
                  | zero => intro e K1 B1 he hfuel h1 h2; exact absurd he (by omega)
                  | succ fuel ih =>
                    intro e K1 B1 he hfuel h1 h2
                    refine k_iload Ox dX5_plank_79 5 rfl ?_
                    refine k_bipush Ox (v := nI 6) dX5_plank_81 rfl ?_
                    refine k_icmp_geN Ox 120 dX5_plank_83 rfl (by omega) (by omega) (fun c_83 => ?_) (fun c_83 => ?_)
                    · subst hv
                      subst hu
                      refine k_cell 4 (rN (clrK K j1)) rfl (fun z hz => congrArg nI (by rw [h1 z, if_pos (by omega)]; rfl)) [_, _, _, _, _, _] rfl ?_
                      refine k_cell 5 (rN (flM (wipeB B j1))) rfl (fun z hz => congrArg nI (lay_WM h2 (by omega) hz)) [_, _, _, _, _, _] rfl ?_
                      refine k_iconst Ox (v := nI 1) dX5_plank_120 rfl ?_
                      refine k_iret0 Ox Rt dX5_plank_121 (Nat.le_of_ble_eq_true rfl) (Nat.le_of_ble_eq_true rfl) rfl ?_
                      refine ⟨⟨by rw [pick_t hok], ?_⟩, rfl⟩
                      simp only [plL, plG, plO, plK, plB, if_pos hok, nn_nI (show j1 < 1000000 by omega), nn_nI (show j2 < 1000000 by omega), nn_nI (show j3 < 1000000 by omega), nn_nI (show j4 < 1000000 by omega)]
                    · refine k_aload_n Ox dX5_plank_86 rfl 0 rfl ?_
                      refine k_get Ox 0 rfl rfl hin_X5_plank_X5 5 rfl lk_X5_plank_f25 rfl rfl dX5_plank_87 ?_
                      refine k_bipush Ox (v := nI 6) dX5_plank_90 rfl ?_
                      refine k_iload Ox dX5_plank_92 5 rfl ?_
                      refine k_imulN Ox dX5_plank_94 ?_
                      refine k_iload_n Ox dX5_plank_95 rfl 1 rfl ?_
                      refine k_iaddN Ox dX5_plank_96 ?_
                      refine k_iconst Ox (v := nI 0) dX5_plank_97 rfl ?_
                      refine k_iastN Ox 5 rfl (by omega) (by first | decide | omega) [_, _, _, _, _, _] rfl dX5_plank_98 ?_
                      rw [flM_up hj1]
                      have hk1 : K1 e < 64 := by rw [h1 e, if_neg (by omega)]; exact hK e (by omega)
                      refine k_aload_n Ox dX5_plank_99 rfl 0 rfl ?_
                      refine k_get Ox 0 rfl rfl hin_X5_plank_X5 4 rfl lk_X5_plank_f22 rfl rfl dX5_plank_100 ?_
                      refine k_iload Ox dX5_plank_103 5 rfl ?_
                      refine k_dup2 Ox dX5_plank_105 rfl rfl ?_
                      refine k_iald Ox 4 rfl (by omega) (by first | decide | omega) dX5_plank_106 ?_
                      refine k_iconst Ox (v := nI 1) dX5_plank_107 rfl ?_
                      refine k_iload_n Ox dX5_plank_108 rfl 1 rfl ?_
                      refine k_ishl Ox dX5_plank_109 ?_
                      refine k_top _ (shl1 j1 hj1) ?_
                      refine k_iconst Ox (v := -1) dX5_plank_110 (by decide) ?_
                      refine k_ixor Ox dX5_plank_111 ?_
                      refine k_iand Ox dX5_plank_112 ?_
                      refine k_top _ (clrb _ hk1 _ hj1) ?_
                      refine k_iastN Ox 4 rfl (by omega) (by first | decide | omega) [_, _, _, _, _, _] rfl dX5_plank_113 ?_
                      refine k_iincN Ox (k := 5) (m := 1) [(5, _), (0, _), (1, _), (2, _), (3, _), (4, _)] dX5_plank_114 rfl rfl (by decide) rfl ?_
                      refine k_goto Ox 79 dX5_plank_117 rfl ?_
                      refine k_sub [1, 2, 3, 4, 5, 0] [(0, _), (1, _), (2, _), (3, _), (4, _), (5, _)] rfl ?_
                      exact ih (e + 1) _ _ (by omega) (by omega) (lay_K h1) (lay_B h2)
                refine k_sub [1, 2, 3, 4, 5, 0] [(0, _), (1, _), (2, _), (3, _), (4, _), (5, _)] rfl ?_
                exact L79 7 0 K B (by omega) (by omega) (fun a => by rw [if_neg (by omega)]) (fun a q => by rw [if_neg (by omega)])
              refine k_aload_n Ox dX5_plank_52 rfl 0 rfl ?_
              refine k_get Ox 0 rfl rfl hin_X5_plank_X5 1 rfl lk_X5_plank_f13 rfl rfl dX5_plank_53 ?_
              refine k_iload_n Ox dX5_plank_56 rfl 1 rfl ?_
              refine k_iload_n Ox dX5_plank_57 rfl 2 rfl ?_
              refine k_iload_n Ox dX5_plank_58 rfl 3 rfl ?_
              refine k_icmp_geN Ox 66 dX5_plank_59 rfl (by omega) (by omega) (fun c_59 => ?_) (fun c_59 => ?_)
              · refine k_iload_n Ox dX5_plank_66 rfl 2 rfl ?_
                exact L67 _ (by split <;> omega)
              · refine k_iload_n Ox dX5_plank_62 rfl 3 rfl ?_
                refine k_goto Ox 67 dX5_plank_63 rfl ?_
                exact L67 _ (by split <;> omega)
            refine k_aload_n Ox dX5_plank_36 rfl 0 rfl ?_
            refine k_get Ox 0 rfl rfl hin_X5_plank_X5 0 rfl lk_X5_plank_f7 rfl rfl dX5_plank_37 ?_
            refine k_iload_n Ox dX5_plank_40 rfl 1 rfl ?_
            refine k_iload_n Ox dX5_plank_41 rfl 2 rfl ?_
            refine k_iload_n Ox dX5_plank_42 rfl 3 rfl ?_
            refine k_icmp_geN Ox 50 dX5_plank_43 rfl (by omega) (by omega) (fun c_43 => ?_) (fun c_43 => ?_)
            · refine k_iload_n Ox dX5_plank_50 rfl 3 rfl ?_
              exact L51 _ (by split <;> omega)
            · refine k_iload_n Ox dX5_plank_46 rfl 2 rfl ?_
              refine k_goto Ox 51 dX5_plank_47 rfl ?_
              exact L51 _ (by split <;> omega)
          · have hf : okPl x1 x2 x3 x4 = false := by simp [okPl, c_31]
            refine k_iconst Ox (v := -1) dX5_plank_34 (by decide) ?_
            refine k_iret0 Ox Rt dX5_plank_35 (Nat.le_of_ble_eq_true rfl) (Nat.le_of_ble_eq_true rfl) rfl ?_
            have hn : ¬ _ = true := (by rw [hf]; decide : ¬ okPl x1 x2 x3 x4 = true)
            refine ⟨⟨by rw [pick_f hf], ?_⟩, rfl⟩
            simp only [plL, plG, plO, plK, plB, if_neg hn]
theorem lk_X4_trust_f10 : Cond.fieldLink RX4 10 "LieBridges" "now" "LLieBridges$Delta;" ∈ wsX4_trust := List.mem_of_getElem? (i := 1) rfl
theorem hin_X4_trust_X4 : ∀ w ∈ u_ws RX4 TX4 7, w ∈ wsX4_trust := fun _ h => List.mem_cons_of_mem _ (List.mem_append_left _ (List.mem_append_right _ h))
theorem lk_X4_trust_f62 : Cond.fieldLink RX4 62 "LieBridges$Delta" "trusted" "[I" ∈ wsX4_trust := List.mem_of_getElem? (i := 2) rfl
theorem hin_X4_trust_X1 : ∀ w ∈ u_ws RX1 TX1 11, w ∈ wsX4_trust := fun _ h => List.mem_cons_of_mem _ (List.mem_append_right _ h)
set_option maxHeartbeats 400000 in
set_option maxRecDepth 4000 in
theorem c_X4_trust (G : Gx) (h d im pd wy tb gu ro ls gs ly hs tr kn sp sl be : Nat) (T : Nat → Nat) (fd : Nat) (sg : Nat) (x1 x2 : Int32) (on : Bool) (hT : okM T) : Ct G yX4_trust wsX4_trust { frames := 2, cells := 0, slots := 0, locals := 46 } [.ref h, .int x1, .int x2, .int (bI on)] [(h, cO 4 [.ref d, .ref im, .ref pd, .ref wy, .ref tb, .ref gu, .ref ro]), (d, cO 1 [.ref ls, .ref gs, .ref ly, .ref hs, .ref tr, .ref kn, .ref sp, .ref sl, .ref be, .int (nI fd), .int (nI sg)]), (tr, cI G 6 (rN T))] (fun r wa => r = some (.int (pick (okTr x1 x2) (nI 1) (-1))) ∧ wa = [(h, cO 4 [.ref d, .ref im, .ref pd, .ref wy, .ref tb, .ref gu, .ref ro]), (d, cO 1 [.ref ls, .ref gs, .ref ly, .ref hs, .ref tr, .ref kn, .ref sp, .ref sl, .ref be, .int (nI fd), .int (nI sg)]), (tr, cI G 6 (rN (trT x1 x2 on T)))]) := by
  refine CtN.of [(0, .ref h), (1, .int x1), (2, .int x2), (3, .int (bI on))] (by decide +kernel) rfl rfl rfl rfl ?_
  intro x Ox Rt
  refine k_iload_n Ox dX4_trust_0 rfl 1 rfl ?_
  refine k_callS Ox [] (c_X4_isPerson G _ ) 1 rfl rfl rfl ⟨rfl, rfl⟩ rfl rfl gX4_trust_X4_isPerson ⟨(by decide +kernel), (by decide +kernel), (by decide +kernel)⟩ rfl dX4_trust_1 (Nat.le_of_ble_eq_true rfl) rfl ⟨Nat.le_of_ble_eq_true rfl, Nat.le_of_ble_eq_true rfl⟩ (fun r wa wb hp => ?_)
  obtain ⟨⟨rfl, rfl⟩, rfl⟩ := hp
  show V x G _ _ _ _ _ (.int _ :: _) [_, _, _]
  refine k_if_eqB Ox 19 dX4_trust_4 rfl (fun c_4 => ?_) (fun c_4 => ?_)
  · have hf : okTr x1 x2 = false := by simp [okTr, c_4]
    refine k_iconst Ox (v := -1) dX4_trust_19 (by decide) ?_
    refine k_iret0 Ox Rt dX4_trust_20 (Nat.le_of_ble_eq_true rfl) (Nat.le_of_ble_eq_true rfl) rfl ?_
    have hn : ¬ _ = true := (by rw [hf]; decide : ¬ okTr x1 x2 = true)
    refine ⟨⟨by rw [pick_f hf], ?_⟩, rfl⟩
    simp only [trT, if_neg hn]
  · refine k_iload_n Ox dX4_trust_7 rfl 2 rfl ?_
    refine k_callS Ox [] (c_X4_isPerson G _ ) 1 rfl rfl rfl ⟨rfl, rfl⟩ rfl rfl gX4_trust_X4_isPerson ⟨(by decide +kernel), (by decide +kernel), (by decide +kernel)⟩ rfl dX4_trust_8 (Nat.le_of_ble_eq_true rfl) rfl ⟨Nat.le_of_ble_eq_true rfl, Nat.le_of_ble_eq_true rfl⟩ (fun r wa wb hp => ?_)
    obtain ⟨⟨rfl, rfl⟩, rfl⟩ := hp
    show V x G _ _ _ _ _ (.int _ :: _) [_, _, _]
    refine k_if_eqB Ox 19 dX4_trust_11 rfl (fun c_11 => ?_) (fun c_11 => ?_)
    · have hf : okTr x1 x2 = false := by simp [okTr, c_11, c_4]
      refine k_iconst Ox (v := -1) dX4_trust_19 (by decide) ?_
      refine k_iret0 Ox Rt dX4_trust_20 (Nat.le_of_ble_eq_true rfl) (Nat.le_of_ble_eq_true rfl) rfl ?_
      have hn : ¬ _ = true := (by rw [hf]; decide : ¬ okTr x1 x2 = true)
      refine ⟨⟨by rw [pick_f hf], ?_⟩, rfl⟩
      simp only [trT, if_neg hn]
    · refine k_iload_n Ox dX4_trust_14 rfl 1 rfl ?_
      refine k_iload_n Ox dX4_trust_15 rfl 2 rfl ?_
      refine k_icmp_ne Ox 21 dX4_trust_16 rfl (fun c_16 => ?_) (fun c_16 => ?_)
      · have hok : okTr x1 x2 = true := by simp [okTr, c_4, c_11, c_16]
        obtain ⟨j1, hj1, rfl⟩ := in6_of c_4
        obtain ⟨j2, hj2, rfl⟩ := in6_of c_11
        refine k_aload_n Ox dX4_trust_21 rfl 0 rfl ?_
        refine k_get Ox 0 rfl rfl hin_X4_trust_X4 0 rfl lk_X4_trust_f10 rfl rfl dX4_trust_22 ?_
        refine k_get Ox 1 rfl rfl hin_X4_trust_X1 4 rfl lk_X4_trust_f62 rfl rfl dX4_trust_25 ?_
        refine k_iload_n Ox dX4_trust_28 rfl 1 rfl ?_
        refine k_iload_n Ox dX4_trust_29 rfl 2 rfl ?_
        refine k_iload_n Ox dX4_trust_30 rfl 3 rfl ?_
        refine k_callS Ox [2] (c_X4_putBit G _ _ _ _ _ _ (by omega) (by decide) (hT _ (by omega)) (by omega)) 4 rfl rfl rfl ⟨rfl, rfl⟩ rfl rfl gX4_trust_X4_putBit ⟨(by decide +kernel), (by decide +kernel), (by decide +kernel)⟩ rfl dX4_trust_31 (Nat.le_of_ble_eq_true rfl) rfl ⟨Nat.le_of_ble_eq_true rfl, Nat.le_of_ble_eq_true rfl⟩ (fun r wa wb hp => ?_)
        obtain ⟨⟨rfl, rfl⟩, rfl⟩ := hp
        show V x G _ _ _ _ _ _ [_, _, _]
        refine k_iconst Ox (v := nI 1) dX4_trust_34 rfl ?_
        refine k_iret0 Ox Rt dX4_trust_35 (Nat.le_of_ble_eq_true rfl) (Nat.le_of_ble_eq_true rfl) rfl ?_
        refine ⟨⟨by rw [pick_t hok], ?_⟩, rfl⟩
        simp only [trT, if_pos hok, nn_nI (show j1 < 1000000 by omega), nn_nI (show j2 < 1000000 by omega)]
      · have hf : okTr x1 x2 = false := by simp [okTr, c_16, c_4, c_11]
        refine k_iconst Ox (v := -1) dX4_trust_19 (by decide) ?_
        refine k_iret0 Ox Rt dX4_trust_20 (Nat.le_of_ble_eq_true rfl) (Nat.le_of_ble_eq_true rfl) rfl ?_
        have hn : ¬ _ = true := (by rw [hf]; decide : ¬ okTr x1 x2 = true)
        refine ⟨⟨by rw [pick_f hf], ?_⟩, rfl⟩
        simp only [trT, if_neg hn]
theorem lk_X5_trust_f19 : Cond.fieldLink RX5 19 "LieBridgesModel" "trusts" "[I" ∈ wsX5_trust := List.mem_of_getElem? (i := 1) rfl
theorem hin_X5_trust_X5 : ∀ w ∈ u_ws RX5 TX5 22, w ∈ wsX5_trust := fun _ h => List.mem_cons_of_mem _ (List.mem_append_right _ h)
set_option maxHeartbeats 400000 in
set_option maxRecDepth 4000 in
theorem c_X5_trust (G : Gx) (m a1 a2 a3 a4 a5 a6 a7 a8 a9 a10 a11 a12 a13 : Nat) (fd sg mn : Nat) (w1 w2 w3 w4 w5 w6 : Int32) (T : Nat → Nat) (x1 x2 : Int32) (on : Bool) (hT : okM T) : Ct G yX5_trust wsX5_trust { frames := 2, cells := 0, slots := 0, locals := 42 } [.ref m, .int x1, .int x2, .int (bI on)] [(m, cO 5 [.ref a1, .ref a2, .ref a3, .ref a4, .ref a5, .ref a6, .ref a7, .int (nI fd), .int (nI sg), .ref a8, .int (nI mn), .ref a9, .ref a10, .int w1, .int w2, .ref a11, .int w3, .int w4, .int w5, .int w6, .ref a12, .ref a13]), (a4, cI G 6 (rN T))] (fun r wa => r = some (.int (pick (okTr x1 x2) (nI 1) (-1))) ∧ wa = [(m, cO 5 [.ref a1, .ref a2, .ref a3, .ref a4, .ref a5, .ref a6, .ref a7, .int (nI fd), .int (nI sg), .ref a8, .int (nI mn), .ref a9, .ref a10, .int w1, .int w2, .ref a11, .int w3, .int w4, .int w5, .int w6, .ref a12, .ref a13]), (a4, cI G 6 (rN (trT x1 x2 on T)))]) := by
  refine CtN.of [(0, .ref m), (1, .int x1), (2, .int x2), (3, .int (bI on))] (by decide +kernel) rfl rfl rfl rfl ?_
  intro x Ox Rt
  refine k_iload_n Ox dX5_trust_0 rfl 1 rfl ?_
  refine k_callS Ox [] (c_X5_is6 G _ ) 1 rfl rfl rfl ⟨rfl, rfl⟩ rfl rfl gX5_trust_X5_is6 ⟨(by decide +kernel), (by decide +kernel), (by decide +kernel)⟩ rfl dX5_trust_1 (Nat.le_of_ble_eq_true rfl) rfl ⟨Nat.le_of_ble_eq_true rfl, Nat.le_of_ble_eq_true rfl⟩ (fun r wa wb hp => ?_)
  obtain ⟨⟨rfl, rfl⟩, rfl⟩ := hp
  show V x G _ _ _ _ _ (.int _ :: _) [_, _]
  refine k_if_eqB Ox 19 dX5_trust_4 rfl (fun c_4 => ?_) (fun c_4 => ?_)
  · have hf : okTr x1 x2 = false := by simp [okTr, c_4]
    refine k_iconst Ox (v := -1) dX5_trust_19 (by decide) ?_
    refine k_iret0 Ox Rt dX5_trust_20 (Nat.le_of_ble_eq_true rfl) (Nat.le_of_ble_eq_true rfl) rfl ?_
    have hn : ¬ _ = true := (by rw [hf]; decide : ¬ okTr x1 x2 = true)
    refine ⟨⟨by rw [pick_f hf], ?_⟩, rfl⟩
    simp only [trT, if_neg hn]
  · refine k_iload_n Ox dX5_trust_7 rfl 2 rfl ?_
    refine k_callS Ox [] (c_X5_is6 G _ ) 1 rfl rfl rfl ⟨rfl, rfl⟩ rfl rfl gX5_trust_X5_is6 ⟨(by decide +kernel), (by decide +kernel), (by decide +kernel)⟩ rfl dX5_trust_8 (Nat.le_of_ble_eq_true rfl) rfl ⟨Nat.le_of_ble_eq_true rfl, Nat.le_of_ble_eq_true rfl⟩ (fun r wa wb hp => ?_)
    obtain ⟨⟨rfl, rfl⟩, rfl⟩ := hp
    show V x G _ _ _ _ _ (.int _ :: _) [_, _]
    refine k_if_eqB Ox 19 dX5_trust_11 rfl (fun c_11 => ?_) (fun c_11 => ?_)
    · have hf : okTr x1 x2 = false := by simp [okTr, c_11, c_4]
      refine k_iconst Ox (v := -1) dX5_trust_19 (by decide) ?_
      refine k_iret0 Ox Rt dX5_trust_20 (Nat.le_of_ble_eq_true rfl) (Nat.le_of_ble_eq_true rfl) rfl ?_
      have hn : ¬ _ = true := (by rw [hf]; decide : ¬ okTr x1 x2 = true)
      refine ⟨⟨by rw [pick_f hf], ?_⟩, rfl⟩
      simp only [trT, if_neg hn]
    · refine k_iload_n Ox dX5_trust_14 rfl 1 rfl ?_
      refine k_iload_n Ox dX5_trust_15 rfl 2 rfl ?_
      refine k_icmp_ne Ox 21 dX5_trust_16 rfl (fun c_16 => ?_) (fun c_16 => ?_)
      · have hok : okTr x1 x2 = true := by simp [okTr, c_4, c_11, c_16]
        obtain ⟨j1, hj1, rfl⟩ := in6_of c_4
        obtain ⟨j2, hj2, rfl⟩ := in6_of c_11
        have hk1 := hT j1 hj1
        refine k_aload_n Ox dX5_trust_21 rfl 0 rfl ?_
        refine k_get Ox 0 rfl rfl hin_X5_trust_X5 3 rfl lk_X5_trust_f19 rfl rfl dX5_trust_22 ?_
        refine k_iload_n Ox dX5_trust_25 rfl 1 rfl ?_
        refine k_iload_n Ox dX5_trust_26 rfl 3 rfl ?_
        refine k_if_eqB Ox 43 dX5_trust_27 rfl (fun c_27 => ?_) (fun c_27 => ?_)
        · refine k_aload_n Ox dX5_trust_43 rfl 0 rfl ?_
          refine k_get Ox 0 rfl rfl hin_X5_trust_X5 3 rfl lk_X5_trust_f19 rfl rfl dX5_trust_44 ?_
          refine k_iload_n Ox dX5_trust_47 rfl 1 rfl ?_
          refine k_iald Ox 1 rfl (by omega) (by first | decide | omega) dX5_trust_48 ?_
          refine k_iconst Ox (v := nI 1) dX5_trust_49 rfl ?_
          refine k_iload_n Ox dX5_trust_50 rfl 2 rfl ?_
          refine k_ishl Ox dX5_trust_51 ?_
          refine k_top _ (shl1 j2 hj2) ?_
          refine k_iconst Ox (v := -1) dX5_trust_52 (by decide) ?_
          refine k_ixor Ox dX5_trust_53 ?_
          refine k_iand Ox dX5_trust_54 ?_
          refine k_top _ (clrb _ hk1 _ hj2) ?_
          refine k_iastN Ox 1 rfl (by omega) (by first | decide | omega) [_, _] rfl dX5_trust_55 ?_
          refine k_iconst Ox (v := nI 1) dX5_trust_56 rfl ?_
          refine k_iret0 Ox Rt dX5_trust_57 (Nat.le_of_ble_eq_true rfl) (Nat.le_of_ble_eq_true rfl) rfl ?_
          subst c_27
          refine ⟨⟨by rw [pick_t hok], ?_⟩, rfl⟩
          simp only [trT, if_pos hok, nn_nI (show j1 < 1000000 by omega), nn_nI (show j2 < 1000000 by omega)]
        · refine k_aload_n Ox dX5_trust_30 rfl 0 rfl ?_
          refine k_get Ox 0 rfl rfl hin_X5_trust_X5 3 rfl lk_X5_trust_f19 rfl rfl dX5_trust_31 ?_
          refine k_iload_n Ox dX5_trust_34 rfl 1 rfl ?_
          refine k_iald Ox 1 rfl (by omega) (by first | decide | omega) dX5_trust_35 ?_
          refine k_iconst Ox (v := nI 1) dX5_trust_36 rfl ?_
          refine k_iload_n Ox dX5_trust_37 rfl 2 rfl ?_
          refine k_ishl Ox dX5_trust_38 ?_
          refine k_top _ (shl1 j2 hj2) ?_
          refine k_ior Ox dX5_trust_39 ?_
          refine k_top _ (orb1 _ hk1 _ hj2) ?_
          refine k_goto Ox 55 dX5_trust_40 rfl ?_
          refine k_iastN Ox 1 rfl (by omega) (by first | decide | omega) [_, _] rfl dX5_trust_55 ?_
          refine k_iconst Ox (v := nI 1) dX5_trust_56 rfl ?_
          refine k_iret0 Ox Rt dX5_trust_57 (Nat.le_of_ble_eq_true rfl) (Nat.le_of_ble_eq_true rfl) rfl ?_
          subst c_27
          refine ⟨⟨by rw [pick_t hok], ?_⟩, rfl⟩
          simp only [trT, if_pos hok, nn_nI (show j1 < 1000000 by omega), nn_nI (show j2 < 1000000 by omega)]
      · have hf : okTr x1 x2 = false := by simp [okTr, c_16, c_4, c_11]
        refine k_iconst Ox (v := -1) dX5_trust_19 (by decide) ?_
        refine k_iret0 Ox Rt dX5_trust_20 (Nat.le_of_ble_eq_true rfl) (Nat.le_of_ble_eq_true rfl) rfl ?_
        have hn : ¬ _ = true := (by rw [hf]; decide : ¬ okTr x1 x2 = true)
        refine ⟨⟨by rw [pick_f hf], ?_⟩, rfl⟩
        simp only [trT, if_neg hn]
theorem lk_X4_know_f10 : Cond.fieldLink RX4 10 "LieBridges" "now" "LLieBridges$Delta;" ∈ wsX4_know := List.mem_of_getElem? (i := 1) rfl
theorem hin_X4_know_X4 : ∀ w ∈ u_ws RX4 TX4 7, w ∈ wsX4_know := fun _ h => List.mem_cons_of_mem _ (List.mem_append_left _ (List.mem_append_left _ (List.mem_append_right _ h)))
theorem lk_X4_know_f69 : Cond.fieldLink RX4 69 "LieBridges$Delta" "known" "[I" ∈ wsX4_know := List.mem_of_getElem? (i := 2) rfl
theorem hin_X4_know_X1 : ∀ w ∈ u_ws RX1 TX1 11, w ∈ wsX4_know := fun _ h => List.mem_cons_of_mem _ (List.mem_append_left _ (List.mem_append_right _ h))
theorem lk_X4_know_f72 : Cond.fieldLink RX4 72 "LieBridges$Delta" "beliefs" "LLieBridges$Beliefs;" ∈ wsX4_know := List.mem_of_getElem? (i := 3) rfl
set_option maxHeartbeats 400000 in
set_option maxRecDepth 4000 in
theorem c_X4_know (G : Gx) (h d im pd wy tb gu ro ls gs ly hs tr kn sp sl be bd : Nat) (K : Nat → Nat) (B : Nat → Nat → Nat) (fd : Nat) (sg : Nat) (x1 x2 : Int32) (on : Bool) (hK : okM K) : Ct G yX4_know wsX4_know { frames := 2, cells := 0, slots := 0, locals := 46 } [.ref h, .int x1, .int x2, .int (bI on)] [(h, cO 4 [.ref d, .ref im, .ref pd, .ref wy, .ref tb, .ref gu, .ref ro]), (d, cO 1 [.ref ls, .ref gs, .ref ly, .ref hs, .ref tr, .ref kn, .ref sp, .ref sl, .ref be, .int (nI fd), .int (nI sg)]), (kn, cI G 6 (rN K)), (be, cO 0 [.ref bd]), (bd, cI G 36 (rN (flC B)))] (fun r wa => r = some (.int (pick (okKn x1 x2) (nI 1) (-1))) ∧ wa = [(h, cO 4 [.ref d, .ref im, .ref pd, .ref wy, .ref tb, .ref gu, .ref ro]), (d, cO 1 [.ref ls, .ref gs, .ref ly, .ref hs, .ref tr, .ref kn, .ref sp, .ref sl, .ref be, .int (nI fd), .int (nI sg)]), (kn, cI G 6 (rN (knK x1 x2 on K))), (be, cO 0 [.ref bd]), (bd, cI G 36 (rN (flC (knB x1 x2 on B))))]) := by
  refine CtN.of [(0, .ref h), (1, .int x1), (2, .int x2), (3, .int (bI on))] (by decide +kernel) rfl rfl rfl rfl ?_
  intro x Ox Rt
  refine k_iload_n Ox dX4_know_0 rfl 1 rfl ?_
  refine k_callS Ox [] (c_X4_isPerson G _ ) 1 rfl rfl rfl ⟨rfl, rfl⟩ rfl rfl gX4_know_X4_isPerson ⟨(by decide +kernel), (by decide +kernel), (by decide +kernel)⟩ rfl dX4_know_1 (Nat.le_of_ble_eq_true rfl) rfl ⟨Nat.le_of_ble_eq_true rfl, Nat.le_of_ble_eq_true rfl⟩ (fun r wa wb hp => ?_)
  obtain ⟨⟨rfl, rfl⟩, rfl⟩ := hp
  show V x G _ _ _ _ _ (.int _ :: _) [_, _, _, _, _]
  refine k_if_eqB Ox 14 dX4_know_4 rfl (fun c_4 => ?_) (fun c_4 => ?_)
  · have hf : okKn x1 x2 = false := by simp [okKn, c_4]
    refine k_iconst Ox (v := -1) dX4_know_14 (by decide) ?_
    refine k_iret0 Ox Rt dX4_know_15 (Nat.le_of_ble_eq_true rfl) (Nat.le_of_ble_eq_true rfl) rfl ?_
    have hn : ¬ _ = true := (by rw [hf]; decide : ¬ okKn x1 x2 = true)
    refine ⟨⟨by rw [pick_f hf], ?_⟩, rfl⟩
    simp only [knK, knB, if_neg hn]
  · refine k_iload_n Ox dX4_know_7 rfl 2 rfl ?_
    refine k_callS Ox [] (c_X4_isPlank G _ ) 1 rfl rfl rfl ⟨rfl, rfl⟩ rfl rfl gX4_know_X4_isPlank ⟨(by decide +kernel), (by decide +kernel), (by decide +kernel)⟩ rfl dX4_know_8 (Nat.le_of_ble_eq_true rfl) rfl ⟨Nat.le_of_ble_eq_true rfl, Nat.le_of_ble_eq_true rfl⟩ (fun r wa wb hp => ?_)
    obtain ⟨⟨rfl, rfl⟩, rfl⟩ := hp
    show V x G _ _ _ _ _ (.int _ :: _) [_, _, _, _, _]
    refine k_if_neB Ox 16 dX4_know_11 rfl (fun c_11 => ?_) (fun c_11 => ?_)
    · have hok : okKn x1 x2 = true := by simp [okKn, c_4, c_11]
      obtain ⟨j1, hj1, rfl⟩ := in6_of c_4
      obtain ⟨j2, hj2, rfl⟩ := in6_of c_11
      refine k_aload_n Ox dX4_know_16 rfl 0 rfl ?_
      refine k_get Ox 0 rfl rfl hin_X4_know_X4 0 rfl lk_X4_know_f10 rfl rfl dX4_know_17 ?_
      refine k_get Ox 1 rfl rfl hin_X4_know_X1 5 rfl lk_X4_know_f69 rfl rfl dX4_know_20 ?_
      refine k_iload_n Ox dX4_know_23 rfl 1 rfl ?_
      refine k_iload_n Ox dX4_know_24 rfl 2 rfl ?_
      refine k_iload_n Ox dX4_know_25 rfl 3 rfl ?_
      refine k_callS Ox [2] (c_X4_putBit G _ _ _ _ _ _ (by omega) (by decide) (hK _ (by omega)) (by omega)) 4 rfl rfl rfl ⟨rfl, rfl⟩ rfl rfl gX4_know_X4_putBit ⟨(by decide +kernel), (by decide +kernel), (by decide +kernel)⟩ rfl dX4_know_26 (Nat.le_of_ble_eq_true rfl) rfl ⟨Nat.le_of_ble_eq_true rfl, Nat.le_of_ble_eq_true rfl⟩ (fun r wa wb hp => ?_)
      obtain ⟨⟨rfl, rfl⟩, rfl⟩ := hp
      show V x G _ _ _ _ _ _ [_, _, _, _, _]
      refine k_iload_n Ox dX4_know_29 rfl 3 rfl ?_
      refine k_if_eqB Ox 46 dX4_know_30 rfl (fun c_30 => ?_) (fun c_30 => ?_)
      · refine k_iconst Ox (v := nI 1) dX4_know_46 rfl ?_
        refine k_iret0 Ox Rt dX4_know_47 (Nat.le_of_ble_eq_true rfl) (Nat.le_of_ble_eq_true rfl) rfl ?_
        subst c_30
        refine ⟨⟨by rw [pick_t hok], ?_⟩, rfl⟩
        simp only [knK, knB, Bool.false_eq_true, ↓reduceIte, if_pos hok, nn_nI (show j1 < 1000000 by omega), nn_nI (show j2 < 1000000 by omega)]
      · refine k_aload_n Ox dX4_know_33 rfl 0 rfl ?_
        refine k_get Ox 0 rfl rfl hin_X4_know_X4 0 rfl lk_X4_know_f10 rfl rfl dX4_know_34 ?_
        refine k_get Ox 1 rfl rfl hin_X4_know_X1 8 rfl lk_X4_know_f72 rfl rfl dX4_know_37 ?_
        refine k_iload_n Ox dX4_know_40 rfl 2 rfl ?_
        refine k_iload_n Ox dX4_know_41 rfl 1 rfl ?_
        refine k_iconst Ox (v := nI 0) dX4_know_42 rfl ?_
        refine k_callV Ox [3, 4] (c_X0_set G _ _ _ _ _ _ (by omega) (by omega)) 3 rfl rfl rfl ⟨rfl, rfl⟩ rfl rfl gX4_know_X0_set rfl 3 rfl ⟨rfl, (by decide +kernel), (by decide +kernel), (by decide +kernel)⟩ rfl dX4_know_43 (Nat.le_of_ble_eq_true rfl) rfl ⟨Nat.le_of_ble_eq_true rfl, Nat.le_of_ble_eq_true rfl⟩ (fun r wa wb hp => ?_)
        obtain ⟨⟨rfl, rfl⟩, rfl⟩ := hp
        show V x G _ _ _ _ _ _ [_, _, _, _, _]
        refine k_iconst Ox (v := nI 1) dX4_know_46 rfl ?_
        refine k_iret0 Ox Rt dX4_know_47 (Nat.le_of_ble_eq_true rfl) (Nat.le_of_ble_eq_true rfl) rfl ?_
        subst c_30
        refine ⟨⟨by rw [pick_t hok], ?_⟩, rfl⟩
        simp only [knK, knB, Bool.false_eq_true, ↓reduceIte, if_pos hok, nn_nI (show j1 < 1000000 by omega), nn_nI (show j2 < 1000000 by omega)]
    · have hf : okKn x1 x2 = false := by simp [okKn, c_11, c_4]
      refine k_iconst Ox (v := -1) dX4_know_14 (by decide) ?_
      refine k_iret0 Ox Rt dX4_know_15 (Nat.le_of_ble_eq_true rfl) (Nat.le_of_ble_eq_true rfl) rfl ?_
      have hn : ¬ _ = true := (by rw [hf]; decide : ¬ okKn x1 x2 = true)
      refine ⟨⟨by rw [pick_f hf], ?_⟩, rfl⟩
      simp only [knK, knB, if_neg hn]
theorem lk_X5_know_f22 : Cond.fieldLink RX5 22 "LieBridgesModel" "knows" "[I" ∈ wsX5_know := List.mem_of_getElem? (i := 1) rfl
theorem hin_X5_know_X5 : ∀ w ∈ u_ws RX5 TX5 22, w ∈ wsX5_know := fun _ h => List.mem_cons_of_mem _ (List.mem_append_right _ h)
theorem lk_X5_know_f25 : Cond.fieldLink RX5 25 "LieBridgesModel" "days" "[I" ∈ wsX5_know := List.mem_of_getElem? (i := 2) rfl
set_option maxHeartbeats 4000000 in
set_option maxRecDepth 4000 in
theorem c_X5_know (G : Gx) (m a1 a2 a3 a4 a5 a6 a7 a8 a9 a10 a11 a12 a13 : Nat) (fd sg mn : Nat) (w1 w2 w3 w4 w5 w6 : Int32) (K : Nat → Nat) (B : Nat → Nat → Nat) (x1 x2 : Int32) (on : Bool) (hK : okM K) : Ct G yX5_know wsX5_know { frames := 2, cells := 0, slots := 0, locals := 42 } [.ref m, .int x1, .int x2, .int (bI on)] [(m, cO 5 [.ref a1, .ref a2, .ref a3, .ref a4, .ref a5, .ref a6, .ref a7, .int (nI fd), .int (nI sg), .ref a8, .int (nI mn), .ref a9, .ref a10, .int w1, .int w2, .ref a11, .int w3, .int w4, .int w5, .int w6, .ref a12, .ref a13]), (a5, cI G 6 (rN K)), (a6, cI G 36 (rN (flM B)))] (fun r wa => r = some (.int (pick (okKn x1 x2) (nI 1) (-1))) ∧ wa = [(m, cO 5 [.ref a1, .ref a2, .ref a3, .ref a4, .ref a5, .ref a6, .ref a7, .int (nI fd), .int (nI sg), .ref a8, .int (nI mn), .ref a9, .ref a10, .int w1, .int w2, .ref a11, .int w3, .int w4, .int w5, .int w6, .ref a12, .ref a13]), (a5, cI G 6 (rN (knK x1 x2 on K))), (a6, cI G 36 (rN (flM (knB x1 x2 on B))))]) := by
  refine CtN.of [(0, .ref m), (1, .int x1), (2, .int x2), (3, .int (bI on))] (by decide +kernel) rfl rfl rfl rfl ?_
  intro x Ox Rt
  refine k_iload_n Ox dX5_know_0 rfl 1 rfl ?_
  refine k_callS Ox [] (c_X5_is6 G _ ) 1 rfl rfl rfl ⟨rfl, rfl⟩ rfl rfl gX5_know_X5_is6 ⟨(by decide +kernel), (by decide +kernel), (by decide +kernel)⟩ rfl dX5_know_1 (Nat.le_of_ble_eq_true rfl) rfl ⟨Nat.le_of_ble_eq_true rfl, Nat.le_of_ble_eq_true rfl⟩ (fun r wa wb hp => ?_)
  obtain ⟨⟨rfl, rfl⟩, rfl⟩ := hp
  show V x G _ _ _ _ _ (.int _ :: _) [_, _, _]
  refine k_if_eqB Ox 14 dX5_know_4 rfl (fun c_4 => ?_) (fun c_4 => ?_)
  · have hf : okKn x1 x2 = false := by simp [okKn, c_4]
    refine k_iconst Ox (v := -1) dX5_know_14 (by decide) ?_
    refine k_iret0 Ox Rt dX5_know_15 (Nat.le_of_ble_eq_true rfl) (Nat.le_of_ble_eq_true rfl) rfl ?_
    have hn : ¬ _ = true := (by rw [hf]; decide : ¬ okKn x1 x2 = true)
    refine ⟨⟨by rw [pick_f hf], ?_⟩, rfl⟩
    simp only [knK, knB, if_neg hn]
  · refine k_iload_n Ox dX5_know_7 rfl 2 rfl ?_
    refine k_callS Ox [] (c_X5_is6 G _ ) 1 rfl rfl rfl ⟨rfl, rfl⟩ rfl rfl gX5_know_X5_is6 ⟨(by decide +kernel), (by decide +kernel), (by decide +kernel)⟩ rfl dX5_know_8 (Nat.le_of_ble_eq_true rfl) rfl ⟨Nat.le_of_ble_eq_true rfl, Nat.le_of_ble_eq_true rfl⟩ (fun r wa wb hp => ?_)
    obtain ⟨⟨rfl, rfl⟩, rfl⟩ := hp
    show V x G _ _ _ _ _ (.int _ :: _) [_, _, _]
    refine k_if_neB Ox 16 dX5_know_11 rfl (fun c_11 => ?_) (fun c_11 => ?_)
    · have hok : okKn x1 x2 = true := by simp [okKn, c_4, c_11]
      obtain ⟨j1, hj1, rfl⟩ := in6_of c_4
      obtain ⟨j2, hj2, rfl⟩ := in6_of c_11
      have hk1 := hK j1 hj1
      refine k_aload_n Ox dX5_know_16 rfl 0 rfl ?_
      refine k_get Ox 0 rfl rfl hin_X5_know_X5 4 rfl lk_X5_know_f22 rfl rfl dX5_know_17 ?_
      refine k_iload_n Ox dX5_know_20 rfl 1 rfl ?_
      refine k_iload_n Ox dX5_know_21 rfl 3 rfl ?_
      refine k_if_eqB Ox 38 dX5_know_22 rfl (fun c_22 => ?_) (fun c_22 => ?_)
      · refine k_aload_n Ox dX5_know_38 rfl 0 rfl ?_
        refine k_get Ox 0 rfl rfl hin_X5_know_X5 4 rfl lk_X5_know_f22 rfl rfl dX5_know_39 ?_
        refine k_iload_n Ox dX5_know_42 rfl 1 rfl ?_
        refine k_iald Ox 1 rfl (by omega) (by first | decide | omega) dX5_know_43 ?_
        refine k_iconst Ox (v := nI 1) dX5_know_44 rfl ?_
        refine k_iload_n Ox dX5_know_45 rfl 2 rfl ?_
        refine k_ishl Ox dX5_know_46 ?_
        refine k_top _ (shl1 j2 hj2) ?_
        refine k_iconst Ox (v := -1) dX5_know_47 (by decide) ?_
        refine k_ixor Ox dX5_know_48 ?_
        refine k_iand Ox dX5_know_49 ?_
        refine k_top _ (clrb _ hk1 _ hj2) ?_
        refine k_iastN Ox 1 rfl (by omega) (by first | decide | omega) [_, _, _] rfl dX5_know_50 ?_
        refine k_aload_n Ox dX5_know_51 rfl 0 rfl ?_
        refine k_get Ox 0 rfl rfl hin_X5_know_X5 5 rfl lk_X5_know_f25 rfl rfl dX5_know_52 ?_
        refine k_bipush Ox (v := nI 6) dX5_know_55 rfl ?_
        refine k_iload_n Ox dX5_know_57 rfl 1 rfl ?_
        refine k_imulN Ox dX5_know_58 ?_
        refine k_iload_n Ox dX5_know_59 rfl 2 rfl ?_
        refine k_iaddN Ox dX5_know_60 ?_
        refine k_iload_n Ox dX5_know_61 rfl 3 rfl ?_
        refine k_if_eqB Ox 69 dX5_know_62 rfl (fun c_62 => ?_) (fun c_62 => ?_)
        · refine k_aload_n Ox dX5_know_69 rfl 0 rfl ?_
          refine k_get Ox 0 rfl rfl hin_X5_know_X5 5 rfl lk_X5_know_f25 rfl rfl dX5_know_70 ?_
          refine k_bipush Ox (v := nI 6) dX5_know_73 rfl ?_
          refine k_iload_n Ox dX5_know_75 rfl 1 rfl ?_
          refine k_imulN Ox dX5_know_76 ?_
          refine k_iload_n Ox dX5_know_77 rfl 2 rfl ?_
          refine k_iaddN Ox dX5_know_78 ?_
          refine k_iald Ox 2 rfl (by omega) (by first | decide | omega) dX5_know_79 ?_
          refine k_top (nI (B j1 j2)) (congrArg nI (flM_at hj2)) ?_
          refine k_iastN Ox 2 rfl (by omega) (by first | decide | omega) [_, _, _] rfl dX5_know_80 ?_
          rw [flM_up hj2]
          refine k_iconst Ox (v := nI 1) dX5_know_81 rfl ?_
          refine k_iret0 Ox Rt dX5_know_82 (Nat.le_of_ble_eq_true rfl) (Nat.le_of_ble_eq_true rfl) rfl ?_
          first | (exfalso; rw [c_22] at c_62; exact absurd c_62 (by decide)) | (subst c_22; refine ⟨⟨by rw [pick_t hok], ?_⟩, rfl⟩; simp only [knK, knB, if_pos hok, Bool.false_eq_true, ↓reduceIte, up2_same, nn_nI (show j1 < 1000000 by omega), nn_nI (show j2 < 1000000 by omega)])
        · refine k_iconst Ox (v := nI 0) dX5_know_65 rfl ?_
          refine k_goto Ox 80 dX5_know_66 rfl ?_
          refine k_iastN Ox 2 rfl (by omega) (by first | decide | omega) [_, _, _] rfl dX5_know_80 ?_
          rw [flM_up hj2]
          refine k_iconst Ox (v := nI 1) dX5_know_81 rfl ?_
          refine k_iret0 Ox Rt dX5_know_82 (Nat.le_of_ble_eq_true rfl) (Nat.le_of_ble_eq_true rfl) rfl ?_
          first | (exfalso; rw [c_22] at c_62; exact absurd c_62 (by decide)) | (subst c_22; refine ⟨⟨by rw [pick_t hok], ?_⟩, rfl⟩; simp only [knK, knB, if_pos hok, Bool.false_eq_true, ↓reduceIte, up2_same, nn_nI (show j1 < 1000000 by omega), nn_nI (show j2 < 1000000 by omega)])
      · refine k_aload_n Ox dX5_know_25 rfl 0 rfl ?_
        refine k_get Ox 0 rfl rfl hin_X5_know_X5 4 rfl lk_X5_know_f22 rfl rfl dX5_know_26 ?_
        refine k_iload_n Ox dX5_know_29 rfl 1 rfl ?_
        refine k_iald Ox 1 rfl (by omega) (by first | decide | omega) dX5_know_30 ?_
        refine k_iconst Ox (v := nI 1) dX5_know_31 rfl ?_
        refine k_iload_n Ox dX5_know_32 rfl 2 rfl ?_
        refine k_ishl Ox dX5_know_33 ?_
        refine k_top _ (shl1 j2 hj2) ?_
        refine k_ior Ox dX5_know_34 ?_
        refine k_top _ (orb1 _ hk1 _ hj2) ?_
        refine k_goto Ox 50 dX5_know_35 rfl ?_
        refine k_iastN Ox 1 rfl (by omega) (by first | decide | omega) [_, _, _] rfl dX5_know_50 ?_
        refine k_aload_n Ox dX5_know_51 rfl 0 rfl ?_
        refine k_get Ox 0 rfl rfl hin_X5_know_X5 5 rfl lk_X5_know_f25 rfl rfl dX5_know_52 ?_
        refine k_bipush Ox (v := nI 6) dX5_know_55 rfl ?_
        refine k_iload_n Ox dX5_know_57 rfl 1 rfl ?_
        refine k_imulN Ox dX5_know_58 ?_
        refine k_iload_n Ox dX5_know_59 rfl 2 rfl ?_
        refine k_iaddN Ox dX5_know_60 ?_
        refine k_iload_n Ox dX5_know_61 rfl 3 rfl ?_
        refine k_if_eqB Ox 69 dX5_know_62 rfl (fun c_62 => ?_) (fun c_62 => ?_)
        · refine k_aload_n Ox dX5_know_69 rfl 0 rfl ?_
          refine k_get Ox 0 rfl rfl hin_X5_know_X5 5 rfl lk_X5_know_f25 rfl rfl dX5_know_70 ?_
          refine k_bipush Ox (v := nI 6) dX5_know_73 rfl ?_
          refine k_iload_n Ox dX5_know_75 rfl 1 rfl ?_
          refine k_imulN Ox dX5_know_76 ?_
          refine k_iload_n Ox dX5_know_77 rfl 2 rfl ?_
          refine k_iaddN Ox dX5_know_78 ?_
          refine k_iald Ox 2 rfl (by omega) (by first | decide | omega) dX5_know_79 ?_
          refine k_top (nI (B j1 j2)) (congrArg nI (flM_at hj2)) ?_
          refine k_iastN Ox 2 rfl (by omega) (by first | decide | omega) [_, _, _] rfl dX5_know_80 ?_
          rw [flM_up hj2]
          refine k_iconst Ox (v := nI 1) dX5_know_81 rfl ?_
          refine k_iret0 Ox Rt dX5_know_82 (Nat.le_of_ble_eq_true rfl) (Nat.le_of_ble_eq_true rfl) rfl ?_
          first | (exfalso; rw [c_22] at c_62; exact absurd c_62 (by decide)) | (subst c_22; refine ⟨⟨by rw [pick_t hok], ?_⟩, rfl⟩; simp only [knK, knB, if_pos hok, Bool.false_eq_true, ↓reduceIte, up2_same, nn_nI (show j1 < 1000000 by omega), nn_nI (show j2 < 1000000 by omega)])
        · refine k_iconst Ox (v := nI 0) dX5_know_65 rfl ?_
          refine k_goto Ox 80 dX5_know_66 rfl ?_
          refine k_iastN Ox 2 rfl (by omega) (by first | decide | omega) [_, _, _] rfl dX5_know_80 ?_
          rw [flM_up hj2]
          refine k_iconst Ox (v := nI 1) dX5_know_81 rfl ?_
          refine k_iret0 Ox Rt dX5_know_82 (Nat.le_of_ble_eq_true rfl) (Nat.le_of_ble_eq_true rfl) rfl ?_
          first | (exfalso; rw [c_22] at c_62; exact absurd c_62 (by decide)) | (subst c_22; refine ⟨⟨by rw [pick_t hok], ?_⟩, rfl⟩; simp only [knK, knB, if_pos hok, Bool.false_eq_true, ↓reduceIte, up2_same, nn_nI (show j1 < 1000000 by omega), nn_nI (show j2 < 1000000 by omega)])
    · have hf : okKn x1 x2 = false := by simp [okKn, c_11, c_4]
      refine k_iconst Ox (v := -1) dX5_know_14 (by decide) ?_
      refine k_iret0 Ox Rt dX5_know_15 (Nat.le_of_ble_eq_true rfl) (Nat.le_of_ble_eq_true rfl) rfl ?_
      have hn : ¬ _ = true := (by rw [hf]; decide : ¬ okKn x1 x2 = true)
      refine ⟨⟨by rw [pick_f hf], ?_⟩, rfl⟩
      simp only [knK, knB, if_neg hn]
theorem lk_X4_fade_f10 : Cond.fieldLink RX4 10 "LieBridges" "now" "LLieBridges$Delta;" ∈ wsX4_fade := List.mem_of_getElem? (i := 1) rfl
theorem hin_X4_fade_X4 : ∀ w ∈ u_ws RX4 TX4 7, w ∈ wsX4_fade := fun _ h => List.mem_cons_of_mem _ (List.mem_append_left _ (List.mem_append_right _ h))
theorem lk_X4_fade_f83 : Cond.fieldLink RX4 83 "LieBridges$Delta" "fadeDays" "I" ∈ wsX4_fade := List.mem_of_getElem? (i := 2) rfl
theorem hin_X4_fade_X1 : ∀ w ∈ u_ws RX1 TX1 11, w ∈ wsX4_fade := fun _ h => List.mem_cons_of_mem _ (List.mem_append_right _ h)
set_option maxHeartbeats 400000 in
set_option maxRecDepth 4000 in
theorem c_X4_fade (G : Gx) (h d im pd wy tb gu ro ls gs ly hs tr kn sp sl be : Nat) (fd : Nat) (sg : Nat) (x1 : Int32) : Ct G yX4_fade wsX4_fade { frames := 1, cells := 0, slots := 0, locals := 22 } [.ref h, .int x1] [(h, cO 4 [.ref d, .ref im, .ref pd, .ref wy, .ref tb, .ref gu, .ref ro]), (d, cO 1 [.ref ls, .ref gs, .ref ly, .ref hs, .ref tr, .ref kn, .ref sp, .ref sl, .ref be, .int (nI fd), .int (nI sg)])] (fun r wa => r = some (.int (pick (inR 1 9 x1) (nI fd) (-2))) ∧ wa = [(h, cO 4 [.ref d, .ref im, .ref pd, .ref wy, .ref tb, .ref gu, .ref ro]), (d, cO 1 [.ref ls, .ref gs, .ref ly, .ref hs, .ref tr, .ref kn, .ref sp, .ref sl, .ref be, .int (nI (if inR 1 9 x1 then nn x1 else fd)), .int (nI sg)])]) := by
  refine CtN.of [(0, .ref h), (1, .int x1)] (by decide +kernel) rfl rfl rfl rfl ?_
  intro x Ox Rt
  refine k_iload_n Ox dX4_fade_0 rfl 1 rfl ?_
  refine k_iconst Ox (v := nI 1) dX4_fade_1 rfl ?_
  refine k_bipush Ox (v := nI 9) dX4_fade_2 rfl ?_
  refine k_callS Ox [] (c_X4_within G _ _ _ ) 3 rfl rfl rfl ⟨rfl, rfl⟩ rfl rfl gX4_fade_X4_within ⟨(by decide +kernel), (by decide +kernel), (by decide +kernel)⟩ rfl dX4_fade_4 (Nat.le_of_ble_eq_true rfl) rfl ⟨Nat.le_of_ble_eq_true rfl, Nat.le_of_ble_eq_true rfl⟩ (fun r wa wb hp => ?_)
  obtain ⟨⟨rfl, rfl⟩, rfl⟩ := hp
  show V x G _ _ _ _ _ (.int _ :: _) [_, _]
  change V x G _ _ _ _ _ (.int (bI (inR (1) (9) _)) :: _) _
  refine k_if_neB Ox 13 dX4_fade_7 rfl (fun c_7 => ?_) (fun c_7 => ?_)
  · obtain ⟨j1, hj0, hj1, rfl⟩ := inR_of' (lo := 1) (k := 9) rfl rfl (by decide) c_7
    refine k_aload_n Ox dX4_fade_13 rfl 0 rfl ?_
    refine k_get Ox 0 rfl rfl hin_X4_fade_X4 0 rfl lk_X4_fade_f10 rfl rfl dX4_fade_14 ?_
    refine k_get Ox 1 rfl rfl hin_X4_fade_X1 9 rfl lk_X4_fade_f83 rfl rfl dX4_fade_17 ?_
    refine k_istore_n Ox [(2, _), (0, _), (1, _)] dX4_fade_20 rfl (by decide) rfl ?_
    refine k_aload_n Ox dX4_fade_21 rfl 1 rfl ?_
    refine k_get Ox 0 rfl rfl hin_X4_fade_X4 0 rfl lk_X4_fade_f10 rfl rfl dX4_fade_22 ?_
    refine k_iload_n Ox dX4_fade_25 rfl 2 rfl ?_
    refine k_put Ox 1 rfl rfl hin_X4_fade_X1 9 rfl lk_X4_fade_f83 rfl tyX1 tyX1_ok nmX1 rfl  rfl rfl rfl [_, _, _, _, _, _, _, _, _, _, _] rfl [_, _] rfl dX4_fade_26 ?_
    refine k_iload_n Ox dX4_fade_29 rfl 0 rfl ?_
    refine k_iret0 Ox Rt dX4_fade_30 (Nat.le_of_ble_eq_true rfl) (Nat.le_of_ble_eq_true rfl) rfl ?_
    exact ⟨⟨by rw [pick_t c_7], by rw [if_pos c_7, nn_nI (by omega)]⟩, rfl⟩
  · refine k_bipush Ox (v := -2) dX4_fade_10 (by decide) ?_
    refine k_iret0 Ox Rt dX4_fade_12 (Nat.le_of_ble_eq_true rfl) (Nat.le_of_ble_eq_true rfl) rfl ?_
    exact ⟨⟨by rw [pick_f c_7], by rw [if_neg (by rw [c_7]; decide)]⟩, rfl⟩
theorem lk_X5_fade_f31 : Cond.fieldLink RX5 31 "LieBridgesModel" "fade" "I" ∈ wsX5_fade := List.mem_of_getElem? (i := 1) rfl
theorem hin_X5_fade_X5 : ∀ w ∈ u_ws RX5 TX5 22, w ∈ wsX5_fade := fun _ h => List.mem_cons_of_mem _ (List.mem_append_right _ h)
set_option maxHeartbeats 400000 in
set_option maxRecDepth 4000 in
theorem c_X5_fade (G : Gx) (m a1 a2 a3 a4 a5 a6 a7 a8 a9 a10 a11 a12 a13 : Nat) (fd sg mn : Nat) (w1 w2 w3 w4 w5 w6 : Int32) (x1 : Int32) : Ct G yX5_fade wsX5_fade { frames := 1, cells := 0, slots := 0, locals := 22 } [.ref m, .int x1] [(m, cO 5 [.ref a1, .ref a2, .ref a3, .ref a4, .ref a5, .ref a6, .ref a7, .int (nI fd), .int (nI sg), .ref a8, .int (nI mn), .ref a9, .ref a10, .int w1, .int w2, .ref a11, .int w3, .int w4, .int w5, .int w6, .ref a12, .ref a13])] (fun r wa => r = some (.int (pick (inR 1 9 x1) (nI fd) (-2))) ∧ wa = [(m, cO 5 [.ref a1, .ref a2, .ref a3, .ref a4, .ref a5, .ref a6, .ref a7, .int (nI (if inR 1 9 x1 then nn x1 else fd)), .int (nI sg), .ref a8, .int (nI mn), .ref a9, .ref a10, .int w1, .int w2, .ref a11, .int w3, .int w4, .int w5, .int w6, .ref a12, .ref a13])]) := by
  refine CtN.of [(0, .ref m), (1, .int x1)] (by decide +kernel) rfl rfl rfl rfl ?_
  intro x Ox Rt
  refine k_iload_n Ox dX5_fade_0 rfl 1 rfl ?_
  refine k_iconst Ox (v := nI 1) dX5_fade_1 rfl ?_
  refine k_bipush Ox (v := nI 9) dX5_fade_2 rfl ?_
  refine k_callS Ox [] (c_X5_in G _ _ _ ) 3 rfl rfl rfl ⟨rfl, rfl⟩ rfl rfl gX5_fade_X5_in ⟨(by decide +kernel), (by decide +kernel), (by decide +kernel)⟩ rfl dX5_fade_4 (Nat.le_of_ble_eq_true rfl) rfl ⟨Nat.le_of_ble_eq_true rfl, Nat.le_of_ble_eq_true rfl⟩ (fun r wa wb hp => ?_)
  obtain ⟨⟨rfl, rfl⟩, rfl⟩ := hp
  show V x G _ _ _ _ _ (.int _ :: _) [_]
  change V x G _ _ _ _ _ (.int (bI (inR (1) (9) _)) :: _) _
  refine k_if_neB Ox 13 dX5_fade_7 rfl (fun c_7 => ?_) (fun c_7 => ?_)
  · obtain ⟨j1, hj0, hj1, rfl⟩ := inR_of' (lo := 1) (k := 9) rfl rfl (by decide) c_7
    refine k_aload_n Ox dX5_fade_13 rfl 0 rfl ?_
    refine k_get Ox 0 rfl rfl hin_X5_fade_X5 7 rfl lk_X5_fade_f31 rfl rfl dX5_fade_14 ?_
    refine k_istore_n Ox [(2, _), (0, _), (1, _)] dX5_fade_17 rfl (by decide) rfl ?_
    refine k_aload_n Ox dX5_fade_18 rfl 1 rfl ?_
    refine k_iload_n Ox dX5_fade_19 rfl 2 rfl ?_
    refine k_put Ox 0 rfl rfl hin_X5_fade_X5 7 rfl lk_X5_fade_f31 rfl tyX5 tyX5_ok nmX5 rfl  rfl rfl rfl [_, _, _, _, _, _, _, _, _, _, _, _, _, _, _, _, _, _, _, _, _, _] rfl [_] rfl dX5_fade_20 ?_
    refine k_iload_n Ox dX5_fade_23 rfl 0 rfl ?_
    refine k_iret0 Ox Rt dX5_fade_24 (Nat.le_of_ble_eq_true rfl) (Nat.le_of_ble_eq_true rfl) rfl ?_
    exact ⟨⟨by rw [pick_t c_7], by rw [if_pos c_7, nn_nI (by omega)]⟩, rfl⟩
  · refine k_bipush Ox (v := -2) dX5_fade_10 (by decide) ?_
    refine k_iret0 Ox Rt dX5_fade_12 (Nat.le_of_ble_eq_true rfl) (Nat.le_of_ble_eq_true rfl) rfl ?_
    exact ⟨⟨by rw [pick_f c_7], by rw [if_neg (by rw [c_7]; decide)]⟩, rfl⟩
theorem lk_X4_say_f23 : Cond.fieldLink RX4 23 "LieBridges" "pad" "LLieBridges$Pad;" ∈ wsX4_say := List.mem_of_getElem? (i := 1) rfl
theorem hin_X4_say_X4 : ∀ w ∈ u_ws RX4 TX4 7, w ∈ wsX4_say := fun _ h => List.mem_cons_of_mem _ (List.mem_append_left _ (List.mem_append_right _ h))
theorem lk_X4_say_f90 : Cond.fieldLink RX4 90 "LieBridges$Pad" "many" "I" ∈ wsX4_say := List.mem_of_getElem? (i := 2) rfl
theorem hin_X4_say_X2 : ∀ w ∈ u_ws RX2 TX2 8, w ∈ wsX4_say := fun _ h => List.mem_cons_of_mem _ (List.mem_append_right _ h)
set_option maxHeartbeats 400000 in
set_option maxRecDepth 4000 in
theorem c_X4_say (G : Gx) (h d im pd wy tb gu ro s0 kd sk hr pk : Nat) (PS : Nat → Nat) (P : Ps) (mn : Nat) (x1 : Int32) (hmn : mn ≤ 60) : Ct G yX4_say wsX4_say { frames := 2, cells := 0, slots := 0, locals := 43 } [.ref h, .int x1] [(h, cO 4 [.ref d, .ref im, .ref pd, .ref wy, .ref tb, .ref gu, .ref ro]), (pd, cO 2 [.ref s0, .int (nI mn), .ref kd, .ref sk, .ref hr, .ref pk, .int (nI (pN P)), .int (nI (pA P))]), (s0, cI G 60 (rN PS))] (fun r wa => r = some (.int (sayR x1 mn)) ∧ wa = [(h, cO 4 [.ref d, .ref im, .ref pd, .ref wy, .ref tb, .ref gu, .ref ro]), (pd, cO 2 [.ref s0, .int (nI (sayM x1 mn)), .ref kd, .ref sk, .ref hr, .ref pk, .int (nI (pN P)), .int (nI (pA P))]), (s0, cI G 60 (rN (sayP x1 mn PS)))]) := by
  refine CtN.of [(0, .ref h), (1, .int x1)] (by decide +kernel) rfl rfl rfl rfl ?_
  intro x Ox Rt
  refine k_iload_n Ox dX4_say_0 rfl 1 rfl ?_
  refine k_bipush Ox (v := nI 33) dX4_say_1 rfl ?_
  refine k_bipush Ox (v := nI 126) dX4_say_3 rfl ?_
  refine k_callS Ox [] (c_X4_within G _ _ _ ) 3 rfl rfl rfl ⟨rfl, rfl⟩ rfl rfl gX4_say_X4_within ⟨(by decide +kernel), (by decide +kernel), (by decide +kernel)⟩ rfl dX4_say_5 (Nat.le_of_ble_eq_true rfl) rfl ⟨Nat.le_of_ble_eq_true rfl, Nat.le_of_ble_eq_true rfl⟩ (fun r wa wb hp => ?_)
  obtain ⟨⟨rfl, rfl⟩, rfl⟩ := hp
  show V x G _ _ _ _ _ (.int _ :: _) [_, _, _]
  change V x G _ _ _ _ _ (.int (bI (inR (33) (126) _)) :: _) _
  refine k_if_neB Ox 14 dX4_say_8 rfl (fun c_8 => ?_) (fun c_8 => ?_)
  · obtain ⟨j1, hj0, hj1, rfl⟩ := inR_of' (lo := 33) (k := 126) rfl rfl (by decide) c_8
    refine k_aload_n Ox dX4_say_14 rfl 0 rfl ?_
    refine k_get Ox 0 rfl rfl hin_X4_say_X4 2 rfl lk_X4_say_f23 rfl rfl dX4_say_15 ?_
    refine k_iload_n Ox dX4_say_18 rfl 1 rfl ?_
    refine k_callV Ox [1, 2] (c_X2_add G _ _ _ _ _ _ _ _ _ _ (by omega)) 1 rfl rfl rfl ⟨rfl, rfl⟩ rfl rfl gX4_say_X2_add rfl 1 rfl ⟨rfl, (by decide +kernel), (by decide +kernel), (by decide +kernel)⟩ rfl dX4_say_19 (Nat.le_of_ble_eq_true rfl) rfl ⟨Nat.le_of_ble_eq_true rfl, Nat.le_of_ble_eq_true rfl⟩ (fun r wa wb hp => ?_)
    obtain ⟨⟨rfl, rfl⟩, rfl⟩ := hp
    show V x G _ _ _ _ _ (.int _ :: _) [_, _, _]
    refine k_if_eqB Ox 35 dX4_say_22 rfl (fun c_22 => ?_) (fun c_22 => ?_)
    · refine k_bipush Ox (v := -4) dX4_say_35 (by decide) ?_
      refine k_iret0 Ox Rt dX4_say_37 (Nat.le_of_ble_eq_true rfl) (Nat.le_of_ble_eq_true rfl) rfl ?_
      first | (have hm : mn < 60 := of_decide_eq_true c_22; refine ⟨⟨by rw [sayR, pick_t c_8, pick_t c_22, if_pos hm], ?_⟩, rfl⟩; rw [sayM, sayP, if_pos hm, if_pos hm, if_pos ⟨c_8, hm⟩, if_pos ⟨c_8, hm⟩, nn_nI (by omega)]) | (have hm : ¬ mn < 60 := of_decide_eq_false c_22; refine ⟨⟨by rw [sayR, pick_t c_8, pick_f c_22], ?_⟩, rfl⟩; rw [sayM, sayP, if_neg hm, if_neg hm, if_neg (fun z => hm z.2), if_neg (fun z => hm z.2)])
    · refine k_aload_n Ox dX4_say_25 rfl 0 rfl ?_
      refine k_get Ox 0 rfl rfl hin_X4_say_X4 2 rfl lk_X4_say_f23 rfl rfl dX4_say_26 ?_
      refine k_get Ox 1 rfl rfl hin_X4_say_X2 1 rfl lk_X4_say_f90 rfl rfl dX4_say_29 ?_
      refine k_goto Ox 37 dX4_say_32 rfl ?_
      refine k_iret0 Ox Rt dX4_say_37 (Nat.le_of_ble_eq_true rfl) (Nat.le_of_ble_eq_true rfl) rfl ?_
      first | (have hm : mn < 60 := of_decide_eq_true c_22; refine ⟨⟨by rw [sayR, pick_t c_8, pick_t c_22, if_pos hm], ?_⟩, rfl⟩; rw [sayM, sayP, if_pos hm, if_pos hm, if_pos ⟨c_8, hm⟩, if_pos ⟨c_8, hm⟩, nn_nI (by omega)]) | (have hm : ¬ mn < 60 := of_decide_eq_false c_22; refine ⟨⟨by rw [sayR, pick_t c_8, pick_f c_22], ?_⟩, rfl⟩; rw [sayM, sayP, if_neg hm, if_neg hm, if_neg (fun z => hm z.2), if_neg (fun z => hm z.2)])
  · refine k_bipush Ox (v := -2) dX4_say_11 (by decide) ?_
    refine k_iret0 Ox Rt dX4_say_13 (Nat.le_of_ble_eq_true rfl) (Nat.le_of_ble_eq_true rfl) rfl ?_
    exact ⟨⟨by rw [sayR, pick_f c_8], by rw [sayM, sayP, if_neg (by rw [c_8]; simp), if_neg (by rw [c_8]; simp)]⟩, rfl⟩
theorem lk_X5_say_f62 : Cond.fieldLink RX5 62 "LieBridgesModel" "signs" "I" ∈ wsX5_say := List.mem_of_getElem? (i := 1) rfl
theorem hin_X5_say_X5 : ∀ w ∈ u_ws RX5 TX5 22, w ∈ wsX5_say := fun _ h => List.mem_cons_of_mem _ (List.mem_append_right _ h)
theorem lk_X5_say_f38 : Cond.fieldLink RX5 38 "LieBridgesModel" "pad" "[I" ∈ wsX5_say := List.mem_of_getElem? (i := 2) rfl
set_option maxHeartbeats 400000 in
set_option maxRecDepth 4000 in
theorem c_X5_say (G : Gx) (m a1 a2 a3 a4 a5 a6 a7 a8 a9 a10 a11 a12 a13 : Nat) (fd sg mn : Nat) (w1 w2 w3 w4 w5 w6 : Int32) (PS : Nat → Nat) (x1 : Int32) (hmn : mn ≤ 60) : Ct G yX5_say wsX5_say { frames := 1, cells := 0, slots := 0, locals := 22 } [.ref m, .int x1] [(m, cO 5 [.ref a1, .ref a2, .ref a3, .ref a4, .ref a5, .ref a6, .ref a7, .int (nI fd), .int (nI sg), .ref a8, .int (nI mn), .ref a9, .ref a10, .int w1, .int w2, .ref a11, .int w3, .int w4, .int w5, .int w6, .ref a12, .ref a13]), (a9, cI G 60 (rN PS))] (fun r wa => r = some (.int (sayR x1 mn)) ∧ wa = [(m, cO 5 [.ref a1, .ref a2, .ref a3, .ref a4, .ref a5, .ref a6, .ref a7, .int (nI fd), .int (nI sg), .ref a8, .int (nI (sayM x1 mn)), .ref a9, .ref a10, .int w1, .int w2, .ref a11, .int w3, .int w4, .int w5, .int w6, .ref a12, .ref a13]), (a9, cI G 60 (rN (sayP x1 mn PS)))]) := by
  refine CtN.of [(0, .ref m), (1, .int x1)] (by decide +kernel) rfl rfl rfl rfl ?_
  intro x Ox Rt
  refine k_iload_n Ox dX5_say_0 rfl 1 rfl ?_
  refine k_bipush Ox (v := nI 33) dX5_say_1 rfl ?_
  refine k_bipush Ox (v := nI 126) dX5_say_3 rfl ?_
  refine k_callS Ox [] (c_X5_in G _ _ _ ) 3 rfl rfl rfl ⟨rfl, rfl⟩ rfl rfl gX5_say_X5_in ⟨(by decide +kernel), (by decide +kernel), (by decide +kernel)⟩ rfl dX5_say_5 (Nat.le_of_ble_eq_true rfl) rfl ⟨Nat.le_of_ble_eq_true rfl, Nat.le_of_ble_eq_true rfl⟩ (fun r wa wb hp => ?_)
  obtain ⟨⟨rfl, rfl⟩, rfl⟩ := hp
  show V x G _ _ _ _ _ (.int _ :: _) [_, _]
  change V x G _ _ _ _ _ (.int (bI (inR (33) (126) _)) :: _) _
  refine k_if_neB Ox 14 dX5_say_8 rfl (fun c_8 => ?_) (fun c_8 => ?_)
  · obtain ⟨j1, hj0, hj1, rfl⟩ := inR_of' (lo := 33) (k := 126) rfl rfl (by decide) c_8
    refine k_aload_n Ox dX5_say_14 rfl 0 rfl ?_
    refine k_get Ox 0 rfl rfl hin_X5_say_X5 10 rfl lk_X5_say_f62 rfl rfl dX5_say_15 ?_
    refine k_bipush Ox (v := nI 60) dX5_say_18 rfl ?_
    refine k_icmp_neN Ox 26 dX5_say_20 rfl (by omega) (by omega) (fun c_20 => ?_) (fun c_20 => ?_)
    · refine k_aload_n Ox dX5_say_26 rfl 0 rfl ?_
      refine k_get Ox 0 rfl rfl hin_X5_say_X5 11 rfl lk_X5_say_f38 rfl rfl dX5_say_27 ?_
      refine k_aload_n Ox dX5_say_30 rfl 0 rfl ?_
      refine k_get Ox 0 rfl rfl hin_X5_say_X5 10 rfl lk_X5_say_f62 rfl rfl dX5_say_31 ?_
      refine k_iload_n Ox dX5_say_34 rfl 1 rfl ?_
      refine k_iastN Ox 1 rfl (by omega) (by first | decide | omega) [_, _] rfl dX5_say_35 ?_
      refine k_aload_n Ox dX5_say_36 rfl 0 rfl ?_
      refine k_dup Ox dX5_say_37 rfl ?_
      refine k_get Ox 0 rfl rfl hin_X5_say_X5 10 rfl lk_X5_say_f62 rfl rfl dX5_say_38 ?_
      refine k_iconst Ox (v := nI 1) dX5_say_41 rfl ?_
      refine k_iaddN Ox dX5_say_42 ?_
      refine k_put Ox 0 rfl rfl hin_X5_say_X5 10 rfl lk_X5_say_f62 rfl tyX5 tyX5_ok nmX5 rfl  rfl rfl rfl [_, _, _, _, _, _, _, _, _, _, _, _, _, _, _, _, _, _, _, _, _, _] rfl [_, _] rfl dX5_say_43 ?_
      refine k_aload_n Ox dX5_say_46 rfl 0 rfl ?_
      refine k_get Ox 0 rfl rfl hin_X5_say_X5 10 rfl lk_X5_say_f62 rfl rfl dX5_say_47 ?_
      refine k_iret0 Ox Rt dX5_say_50 (Nat.le_of_ble_eq_true rfl) (Nat.le_of_ble_eq_true rfl) rfl ?_
      have hm : mn < 60 := by omega
      refine ⟨⟨by rw [sayR, pick_t c_8, pick_t (decide_eq_true hm)], ?_⟩, rfl⟩
      rw [sayM, sayP, if_pos ⟨c_8, hm⟩, if_pos ⟨c_8, hm⟩, nn_nI (by omega)]
    · refine k_bipush Ox (v := -4) dX5_say_23 (by decide) ?_
      refine k_iret0 Ox Rt dX5_say_25 (Nat.le_of_ble_eq_true rfl) (Nat.le_of_ble_eq_true rfl) rfl ?_
      have hm : ¬ mn < 60 := by omega
      refine ⟨⟨by rw [sayR, pick_t c_8, pick_f (decide_eq_false hm)], ?_⟩, rfl⟩
      rw [sayM, sayP, if_neg (fun z => hm z.2), if_neg (fun z => hm z.2)]
  · refine k_bipush Ox (v := -2) dX5_say_11 (by decide) ?_
    refine k_iret0 Ox Rt dX5_say_13 (Nat.le_of_ble_eq_true rfl) (Nat.le_of_ble_eq_true rfl) rfl ?_
    exact ⟨⟨by rw [sayR, pick_f c_8], by rw [sayM, sayP, if_neg (by rw [c_8]; simp), if_neg (by rw [c_8]; simp)]⟩, rfl⟩
theorem lk_X4_wipe_f23 : Cond.fieldLink RX4 23 "LieBridges" "pad" "LLieBridges$Pad;" ∈ wsX4_wipe := List.mem_of_getElem? (i := 1) rfl
theorem hin_X4_wipe_X4 : ∀ w ∈ u_ws RX4 TX4 7, w ∈ wsX4_wipe := fun _ h => List.mem_cons_of_mem _ (List.mem_append_left _ (List.mem_append_right _ h))
theorem lk_X4_wipe_f90 : Cond.fieldLink RX4 90 "LieBridges$Pad" "many" "I" ∈ wsX4_wipe := List.mem_of_getElem? (i := 2) rfl
theorem hin_X4_wipe_X2 : ∀ w ∈ u_ws RX2 TX2 8, w ∈ wsX4_wipe := fun _ h => List.mem_cons_of_mem _ (List.mem_append_right _ h)
set_option maxHeartbeats 400000 in
set_option maxRecDepth 4000 in
theorem c_X4_wipe (G : Gx) (h d im pd wy tb gu ro s0 kd sk hr pk : Nat) (P : Ps) (mn : Nat) : Ct G yX4_wipe wsX4_wipe { frames := 1, cells := 0, slots := 0, locals := 20 } [.ref h] [(h, cO 4 [.ref d, .ref im, .ref pd, .ref wy, .ref tb, .ref gu, .ref ro]), (pd, cO 2 [.ref s0, .int (nI mn), .ref kd, .ref sk, .ref hr, .ref pk, .int (nI (pN P)), .int (nI (pA P))])] (fun r wa => r = some (.int (nI mn)) ∧ wa = [(h, cO 4 [.ref d, .ref im, .ref pd, .ref wy, .ref tb, .ref gu, .ref ro]), (pd, cO 2 [.ref s0, .int (nI 0), .ref kd, .ref sk, .ref hr, .ref pk, .int (nI (pN P)), .int (nI (pA P))])]) := by
  refine CtN.of [(0, .ref h)] (by decide +kernel) rfl rfl rfl rfl ?_
  intro x Ox Rt
  refine k_aload_n Ox dX4_wipe_0 rfl 0 rfl ?_
  refine k_get Ox 0 rfl rfl hin_X4_wipe_X4 2 rfl lk_X4_wipe_f23 rfl rfl dX4_wipe_1 ?_
  refine k_get Ox 1 rfl rfl hin_X4_wipe_X2 1 rfl lk_X4_wipe_f90 rfl rfl dX4_wipe_4 ?_
  refine k_istore_n Ox [(1, _), (0, _)] dX4_wipe_7 rfl (by decide) rfl ?_
  refine k_aload_n Ox dX4_wipe_8 rfl 1 rfl ?_
  refine k_get Ox 0 rfl rfl hin_X4_wipe_X4 2 rfl lk_X4_wipe_f23 rfl rfl dX4_wipe_9 ?_
  refine k_callV Ox [1] (c_X2_clear G _ _ _ _ _ _ _ _ ) 0 rfl rfl rfl ⟨rfl, rfl⟩ rfl rfl gX4_wipe_X2_clear rfl 1 rfl ⟨rfl, (by decide +kernel), (by decide +kernel), (by decide +kernel)⟩ rfl dX4_wipe_12 (Nat.le_of_ble_eq_true rfl) rfl ⟨Nat.le_of_ble_eq_true rfl, Nat.le_of_ble_eq_true rfl⟩ (fun r wa wb hp => ?_)
  obtain ⟨⟨rfl, rfl⟩, rfl⟩ := hp
  show V x G _ _ _ _ _ _ [_, _]
  refine k_iload_n Ox dX4_wipe_15 rfl 0 rfl ?_
  refine k_iret0 Ox Rt dX4_wipe_16 (Nat.le_of_ble_eq_true rfl) (Nat.le_of_ble_eq_true rfl) rfl ?_
  exact ⟨⟨rfl, rfl⟩, rfl⟩
theorem lk_X5_wipe_f62 : Cond.fieldLink RX5 62 "LieBridgesModel" "signs" "I" ∈ wsX5_wipe := List.mem_of_getElem? (i := 1) rfl
theorem hin_X5_wipe_X5 : ∀ w ∈ u_ws RX5 TX5 22, w ∈ wsX5_wipe := fun _ h => List.mem_cons_of_mem _ (List.mem_append_right _ h)
set_option maxHeartbeats 400000 in
set_option maxRecDepth 4000 in
theorem c_X5_wipe (G : Gx) (m a1 a2 a3 a4 a5 a6 a7 a8 a9 a10 a11 a12 a13 : Nat) (fd sg mn : Nat) (w1 w2 w3 w4 w5 w6 : Int32)  : Ct G yX5_wipe wsX5_wipe { frames := 0, cells := 0, slots := 0, locals := 0 } [.ref m] [(m, cO 5 [.ref a1, .ref a2, .ref a3, .ref a4, .ref a5, .ref a6, .ref a7, .int (nI fd), .int (nI sg), .ref a8, .int (nI mn), .ref a9, .ref a10, .int w1, .int w2, .ref a11, .int w3, .int w4, .int w5, .int w6, .ref a12, .ref a13])] (fun r wa => r = some (.int (nI mn)) ∧ wa = [(m, cO 5 [.ref a1, .ref a2, .ref a3, .ref a4, .ref a5, .ref a6, .ref a7, .int (nI fd), .int (nI sg), .ref a8, .int (nI 0), .ref a9, .ref a10, .int w1, .int w2, .ref a11, .int w3, .int w4, .int w5, .int w6, .ref a12, .ref a13])]) := by
  refine CtN.of [(0, .ref m)] (by decide +kernel) rfl rfl rfl rfl ?_
  intro x Ox Rt
  refine k_aload_n Ox dX5_wipe_0 rfl 0 rfl ?_
  refine k_get Ox 0 rfl rfl hin_X5_wipe_X5 10 rfl lk_X5_wipe_f62 rfl rfl dX5_wipe_1 ?_
  refine k_istore_n Ox [(1, _), (0, _)] dX5_wipe_4 rfl (by decide) rfl ?_
  refine k_aload_n Ox dX5_wipe_5 rfl 1 rfl ?_
  refine k_iconst Ox (v := nI 0) dX5_wipe_6 rfl ?_
  refine k_put Ox 0 rfl rfl hin_X5_wipe_X5 10 rfl lk_X5_wipe_f62 rfl tyX5 tyX5_ok nmX5 rfl  rfl rfl rfl [_, _, _, _, _, _, _, _, _, _, _, _, _, _, _, _, _, _, _, _, _, _] rfl [_] rfl dX5_wipe_7 ?_
  refine k_iload_n Ox dX5_wipe_10 rfl 0 rfl ?_
  refine k_iret0 Ox Rt dX5_wipe_11 (Nat.le_of_ble_eq_true rfl) (Nat.le_of_ble_eq_true rfl) rfl ?_
  exact ⟨⟨rfl, rfl⟩, rfl⟩
theorem lk_X4_fault_f23 : Cond.fieldLink RX4 23 "LieBridges" "pad" "LLieBridges$Pad;" ∈ wsX4_fault := List.mem_of_getElem? (i := 1) rfl
theorem hin_X4_fault_X4 : ∀ w ∈ u_ws RX4 TX4 7, w ∈ wsX4_fault := fun _ h => List.mem_cons_of_mem _ (List.mem_append_left _ (List.mem_append_right _ h))
set_option maxHeartbeats 400000 in
set_option maxRecDepth 4000 in
theorem c_X4_fault (G : Gx) (h d im pd wy tb gu ro s0 kd sk hr pk : Nat) (PS : Nat → Nat) (P : Ps) (mn : Nat) (hmn : mn ≤ 60) (hPS : ∀ i, i < mn → PS i < 128) : Ct G yX4_fault wsX4_fault { frames := 5, cells := 0, slots := 0, locals := 108 } [.ref h] [(h, cO 4 [.ref d, .ref im, .ref pd, .ref wy, .ref tb, .ref gu, .ref ro]), (pd, cO 2 [.ref s0, .int (nI mn), .ref kd, .ref sk, .ref hr, .ref pk, .int (nI (pN P)), .int (nI (pA P))]), (s0, cI G 60 (rN PS)), (kd, cI G 60 (rN (pK P))), (sk, cI G 60 (rN (pS P))), (hr, cI G 60 (rN (pH P))), (pk, cI G 60 (rN (pP P)))] (fun r wa => r = some (.int (rdv PS P mn)) ∧ wa = [(h, cO 4 [.ref d, .ref im, .ref pd, .ref wy, .ref tb, .ref gu, .ref ro]), (pd, cO 2 [.ref s0, .int (nI mn), .ref kd, .ref sk, .ref hr, .ref pk, .int (nI (pN (rdp PS P mn))), .int (nI (pA (rdp PS P mn)))]), (s0, cI G 60 (rN PS)), (kd, cI G 60 (rN (pK (rdp PS P mn)))), (sk, cI G 60 (rN (pS (rdp PS P mn)))), (hr, cI G 60 (rN (pH (rdp PS P mn)))), (pk, cI G 60 (rN (pP (rdp PS P mn))))]) := by
  refine CtN.of [(0, .ref h)] (by decide +kernel) rfl rfl rfl rfl ?_
  intro x Ox Rt
  refine k_aload_n Ox dX4_fault_0 rfl 0 rfl ?_
  refine k_get Ox 0 rfl rfl hin_X4_fault_X4 2 rfl lk_X4_fault_f23 rfl rfl dX4_fault_1 ?_
  refine k_callV Ox [1, 2, 3, 4, 5, 6] (c_X2_read G _ _ _ _ _ _ _ _ _ (by omega) (by assumption)) 0 rfl rfl rfl ⟨rfl, rfl⟩ rfl rfl gX4_fault_X2_read rfl 1 rfl ⟨rfl, (by decide +kernel), (by decide +kernel), (by decide +kernel)⟩ rfl dX4_fault_4 (Nat.le_of_ble_eq_true rfl) rfl ⟨Nat.le_of_ble_eq_true rfl, Nat.le_of_ble_eq_true rfl⟩ (fun r wa wb hp => ?_)
  obtain ⟨⟨rfl, rfl⟩, rfl⟩ := hp
  show V x G _ _ _ _ _ (.int _ :: _) [_, _, _, _, _, _, _]
  refine k_iret0 Ox Rt dX4_fault_7 (Nat.le_of_ble_eq_true rfl) (Nat.le_of_ble_eq_true rfl) rfl ?_
  exact ⟨⟨rfl, rfl⟩, rfl⟩
set_option maxHeartbeats 400000 in
set_option maxRecDepth 4000 in
theorem c_X4_beliefOrLoad (G : Gx) (h d : Nat) (B : Nat → Nat → Nat) (p : Nat) (a : Int32) (hB : okB B) (hp : p < 6) (ha : isPA a = true) : Ct G yX4_beliefOrLoad wsX4_beliefOrLoad { frames := 2, cells := 0, slots := 0, locals := 47 } [.ref h, .int (nI p), .int a] [(h, cO 0 [.ref d]), (d, cI G 36 (rN (flC B)))] (fun r wa => r = some (.int (blR B p a)) ∧ wa = [(h, cO 0 [.ref d]), (d, cI G 36 (rN (flC B)))]) := by
  refine CtN.of [(0, .ref h), (1, .int (nI p)), (2, .int a)] (by decide +kernel) rfl rfl rfl rfl ?_
  intro x Ox Rt
  refine k_iload_n Ox dX4_beliefOrLoad_0 rfl 2 rfl ?_
  refine k_iconst Ox (v := -1) dX4_beliefOrLoad_1 (by decide) ?_
  refine k_icmp_ne Ox 14 dX4_beliefOrLoad_2 rfl (fun c_2 => ?_) (fun c_2 => ?_)
  · obtain ⟨j, hj, rfl⟩ := isPA_ne ha c_2
    refine k_aload_n Ox dX4_beliefOrLoad_14 rfl 0 rfl ?_
    refine k_iload_n Ox dX4_beliefOrLoad_15 rfl 1 rfl ?_
    refine k_iload_n Ox dX4_beliefOrLoad_16 rfl 2 rfl ?_
    refine k_callV Ox [0, 1] (c_X0_of G _ _ _ _ _ (by omega) (by omega)) 2 rfl rfl rfl ⟨rfl, rfl⟩ rfl rfl gX4_beliefOrLoad_X0_of rfl 0 rfl ⟨rfl, (by decide +kernel), (by decide +kernel), (by decide +kernel)⟩ rfl dX4_beliefOrLoad_17 (Nat.le_of_ble_eq_true rfl) rfl ⟨Nat.le_of_ble_eq_true rfl, Nat.le_of_ble_eq_true rfl⟩ (fun r wa wb hp => ?_)
    obtain ⟨⟨rfl, rfl⟩, rfl⟩ := hp
    show V x G _ _ _ _ _ (.int _ :: _) [_, _]
    refine k_iret0 Ox Rt dX4_beliefOrLoad_20 (Nat.le_of_ble_eq_true rfl) (Nat.le_of_ble_eq_true rfl) rfl ?_
    first | exact ⟨⟨by rw [blR, if_pos c_2], rfl⟩, rfl⟩ | exact ⟨⟨by rw [blR, if_neg c_2, nn_nI (by omega)], rfl⟩, rfl⟩
  · refine k_aload_n Ox dX4_beliefOrLoad_5 rfl 0 rfl ?_
    refine k_iload_n Ox dX4_beliefOrLoad_6 rfl 1 rfl ?_
    refine k_iconst Ox (v := nI 0) dX4_beliefOrLoad_7 rfl ?_
    refine k_callV Ox [0, 1] (c_X0_load G _ _ _ _ _ (by omega) (by omega) (by assumption)) 2 rfl rfl rfl ⟨rfl, rfl⟩ rfl rfl gX4_beliefOrLoad_X0_load rfl 0 rfl ⟨rfl, (by decide +kernel), (by decide +kernel), (by decide +kernel)⟩ rfl dX4_beliefOrLoad_8 (Nat.le_of_ble_eq_true rfl) rfl ⟨Nat.le_of_ble_eq_true rfl, Nat.le_of_ble_eq_true rfl⟩ (fun r wa wb hp => ?_)
    obtain ⟨⟨rfl, rfl⟩, rfl⟩ := hp
    show V x G _ _ _ _ _ (.int _ :: _) [_, _]
    refine k_goto Ox 20 dX4_beliefOrLoad_11 rfl ?_
    refine k_iret0 Ox Rt dX4_beliefOrLoad_20 (Nat.le_of_ble_eq_true rfl) (Nat.le_of_ble_eq_true rfl) rfl ?_
    first | exact ⟨⟨by rw [blR, if_pos c_2], rfl⟩, rfl⟩ | exact ⟨⟨by rw [blR, if_neg c_2, nn_nI (by omega)], rfl⟩, rfl⟩
theorem lk_X4_bears_f10 : Cond.fieldLink RX4 10 "LieBridges" "now" "LLieBridges$Delta;" ∈ wsX4_bears := List.mem_of_getElem? (i := 1) rfl
theorem hin_X4_bears_X4 : ∀ w ∈ u_ws RX4 TX4 7, w ∈ wsX4_bears := fun _ h => List.mem_cons_of_mem _ (List.mem_append_left _ (List.mem_append_left _ (List.mem_append_right _ h)))
theorem lk_X4_bears_f72 : Cond.fieldLink RX4 72 "LieBridges$Delta" "beliefs" "LLieBridges$Beliefs;" ∈ wsX4_bears := List.mem_of_getElem? (i := 2) rfl
theorem hin_X4_bears_X1 : ∀ w ∈ u_ws RX1 TX1 11, w ∈ wsX4_bears := fun _ h => List.mem_cons_of_mem _ (List.mem_append_left _ (List.mem_append_right _ h))
set_option maxHeartbeats 400000 in
set_option maxRecDepth 4000 in
theorem c_X4_bears (G : Gx) (h d im pd wy tb gu ro ls gs ly hs tr kn sp sl be bd : Nat) (B : Nat → Nat → Nat) (fd : Nat) (sg : Nat) (x1 x2 : Int32) (hB : okB B) : Ct G yX4_bears wsX4_bears { frames := 3, cells := 0, slots := 0, locals := 69 } [.ref h, .int x1, .int x2] [(h, cO 4 [.ref d, .ref im, .ref pd, .ref wy, .ref tb, .ref gu, .ref ro]), (d, cO 1 [.ref ls, .ref gs, .ref ly, .ref hs, .ref tr, .ref kn, .ref sp, .ref sl, .ref be, .int (nI fd), .int (nI sg)]), (be, cO 0 [.ref bd]), (bd, cI G 36 (rN (flC B)))] (fun r wa => r = some (.int (beR B x1 x2)) ∧ wa = [(h, cO 4 [.ref d, .ref im, .ref pd, .ref wy, .ref tb, .ref gu, .ref ro]), (d, cO 1 [.ref ls, .ref gs, .ref ly, .ref hs, .ref tr, .ref kn, .ref sp, .ref sl, .ref be, .int (nI fd), .int (nI sg)]), (be, cO 0 [.ref bd]), (bd, cI G 36 (rN (flC B)))]) := by
  refine CtN.of [(0, .ref h), (1, .int x1), (2, .int x2)] (by decide +kernel) rfl rfl rfl rfl ?_
  intro x Ox Rt
  refine k_iload_n Ox dX4_bears_0 rfl 1 rfl ?_
  refine k_callS Ox [] (c_X4_isPlank G _ ) 1 rfl rfl rfl ⟨rfl, rfl⟩ rfl rfl gX4_bears_X4_isPlank ⟨(by decide +kernel), (by decide +kernel), (by decide +kernel)⟩ rfl dX4_bears_1 (Nat.le_of_ble_eq_true rfl) rfl ⟨Nat.le_of_ble_eq_true rfl, Nat.le_of_ble_eq_true rfl⟩ (fun r wa wb hp => ?_)
  obtain ⟨⟨rfl, rfl⟩, rfl⟩ := hp
  show V x G _ _ _ _ _ (.int _ :: _) [_, _, _, _]
  refine k_if_eqB Ox 14 dX4_bears_4 rfl (fun c_4 => ?_) (fun c_4 => ?_)
  · have hf : (inR 0 5 x1 && isPA x2) = false := by simp [c_4]
    refine k_iconst Ox (v := -1) dX4_bears_14 (by decide) ?_
    refine k_iret0 Ox Rt dX4_bears_15 (Nat.le_of_ble_eq_true rfl) (Nat.le_of_ble_eq_true rfl) rfl ?_
    exact ⟨⟨by rw [beR, pick_f hf], rfl⟩, rfl⟩
  · refine k_iload_n Ox dX4_bears_7 rfl 2 rfl ?_
    refine k_callS Ox [] (c_X4_isPersonOrAll G _ ) 1 rfl rfl rfl ⟨rfl, rfl⟩ rfl rfl gX4_bears_X4_isPersonOrAll ⟨(by decide +kernel), (by decide +kernel), (by decide +kernel)⟩ rfl dX4_bears_8 (Nat.le_of_ble_eq_true rfl) rfl ⟨Nat.le_of_ble_eq_true rfl, Nat.le_of_ble_eq_true rfl⟩ (fun r wa wb hp => ?_)
    obtain ⟨⟨rfl, rfl⟩, rfl⟩ := hp
    show V x G _ _ _ _ _ (.int _ :: _) [_, _, _, _]
    refine k_if_neB Ox 16 dX4_bears_11 rfl (fun c_11 => ?_) (fun c_11 => ?_)
    · have hok : (inR 0 5 x1 && isPA x2) = true := by rw [c_4]; exact c_11
      obtain ⟨j1, hj1, rfl⟩ := in6_of c_4
      refine k_aload_n Ox dX4_bears_16 rfl 0 rfl ?_
      refine k_get Ox 0 rfl rfl hin_X4_bears_X4 0 rfl lk_X4_bears_f10 rfl rfl dX4_bears_17 ?_
      refine k_get Ox 1 rfl rfl hin_X4_bears_X1 8 rfl lk_X4_bears_f72 rfl rfl dX4_bears_20 ?_
      refine k_iload_n Ox dX4_bears_23 rfl 1 rfl ?_
      refine k_iload_n Ox dX4_bears_24 rfl 2 rfl ?_
      refine k_callS Ox [2, 3] (c_X4_beliefOrLoad G _ _ _ _ _ (hB) (hj1) (c_11)) 3 rfl rfl rfl ⟨rfl, rfl⟩ rfl rfl gX4_bears_X4_beliefOrLoad ⟨(by decide +kernel), (by decide +kernel), (by decide +kernel)⟩ rfl dX4_bears_25 (Nat.le_of_ble_eq_true rfl) rfl ⟨Nat.le_of_ble_eq_true rfl, Nat.le_of_ble_eq_true rfl⟩ (fun r wa wb hp => ?_)
      obtain ⟨⟨rfl, rfl⟩, rfl⟩ := hp
      show V x G _ _ _ _ _ (.int _ :: _) [_, _, _, _]
      refine k_iret0 Ox Rt dX4_bears_28 (Nat.le_of_ble_eq_true rfl) (Nat.le_of_ble_eq_true rfl) rfl ?_
      exact ⟨⟨by rw [beR, pick_t hok, nn_nI (by omega)], rfl⟩, rfl⟩
    · have hf : (inR 0 5 x1 && isPA x2) = false := by simp [isPA]; intro _; simpa using c_11
      refine k_iconst Ox (v := -1) dX4_bears_14 (by decide) ?_
      refine k_iret0 Ox Rt dX4_bears_15 (Nat.le_of_ble_eq_true rfl) (Nat.le_of_ble_eq_true rfl) rfl ?_
      exact ⟨⟨by rw [beR, pick_f hf], rfl⟩, rfl⟩
set_option maxHeartbeats 400000 in
set_option maxRecDepth 4000 in
theorem c_X5_bears (G : Gx) (m a1 a2 a3 a4 a5 a6 a7 a8 a9 a10 a11 a12 a13 : Nat) (fd sg mn : Nat) (w1 w2 w3 w4 w5 w6 : Int32) (B : Nat → Nat → Nat) (g : Nat → Int32) (x1 x2 : Int32) (hB : okB B) : Ct G yX5_bears wsX5_bears { frames := 2, cells := 0, slots := 0, locals := 46 } [.ref m, .int x1, .int x2] [(m, cO 5 [.ref a1, .ref a2, .ref a3, .ref a4, .ref a5, .ref a6, .ref a7, .int (nI fd), .int (nI sg), .ref a8, .int (nI mn), .ref a9, .ref a10, .int w1, .int w2, .ref a11, .int w3, .int w4, .int w5, .int w6, .ref a12, .ref a13]), (a6, cI G 36 (rN (flM B))), (a10, cI G 36 g)] (fun r wa => r = some (.int (beR B x1 x2)) ∧ ∃ g9 : Nat → Int32, wa = [(m, cO 5 [.ref a1, .ref a2, .ref a3, .ref a4, .ref a5, .ref a6, .ref a7, .int (nI fd), .int (nI sg), .ref a8, .int (nI mn), .ref a9, .ref a10, .int w1, .int w2, .ref a11, .int w3, .int w4, .int w5, .int w6, .ref a12, .ref a13]), (a6, cI G 36 (rN (flM B))), (a10, cI G 36 g9)]) := by
  refine CtN.of [(0, .ref m), (1, .int x1), (2, .int x2)] (by decide +kernel) rfl rfl rfl rfl ?_
  intro x Ox Rt
  refine k_iload_n Ox dX5_bears_0 rfl 1 rfl ?_
  refine k_callS Ox [] (c_X5_is6 G _ ) 1 rfl rfl rfl ⟨rfl, rfl⟩ rfl rfl gX5_bears_X5_is6 ⟨(by decide +kernel), (by decide +kernel), (by decide +kernel)⟩ rfl dX5_bears_1 (Nat.le_of_ble_eq_true rfl) rfl ⟨Nat.le_of_ble_eq_true rfl, Nat.le_of_ble_eq_true rfl⟩ (fun r wa wb hp => ?_)
  obtain ⟨⟨rfl, rfl⟩, rfl⟩ := hp
  show V x G _ _ _ _ _ (.int _ :: _) [_, _, _]
  refine k_if_eqB Ox 16 dX5_bears_4 rfl (fun c_4 => ?_) (fun c_4 => ?_)
  · have hf : (inR 0 5 x1 && isPA x2) = false := by simp [c_4]
    refine k_iconst Ox (v := -1) dX5_bears_16 (by decide) ?_
    refine k_iret0 Ox Rt dX5_bears_17 (Nat.le_of_ble_eq_true rfl) (Nat.le_of_ble_eq_true rfl) rfl ?_
    exact ⟨⟨by rw [beR, pick_f hf], _, rfl⟩, rfl⟩
  · refine k_iload_n Ox dX5_bears_7 rfl 2 rfl ?_
    refine k_iconst Ox (v := -1) dX5_bears_8 (by decide) ?_
    refine k_iconst Ox (v := nI 5) dX5_bears_9 rfl ?_
    refine k_callS Ox [] (c_X5_in G _ _ _ ) 3 rfl rfl rfl ⟨rfl, rfl⟩ rfl rfl gX5_bears_X5_in ⟨(by decide +kernel), (by decide +kernel), (by decide +kernel)⟩ rfl dX5_bears_10 (Nat.le_of_ble_eq_true rfl) rfl ⟨Nat.le_of_ble_eq_true rfl, Nat.le_of_ble_eq_true rfl⟩ (fun r wa wb hp => ?_)
    obtain ⟨⟨rfl, rfl⟩, rfl⟩ := hp
    show V x G _ _ _ _ _ (.int _ :: _) [_, _, _]
    change V x G _ _ _ _ _ (.int (bI (inR (-1) (5) _)) :: _) _
    refine k_if_neB Ox 18 dX5_bears_13 rfl (fun c_13 => ?_) (fun c_13 => ?_)
    · have hpa : isPA x2 = true := isPA_in' x2 c_13
      have hok : (inR 0 5 x1 && isPA x2) = true := by rw [c_4, hpa]; rfl
      obtain ⟨j1, hj1, rfl⟩ := in6_of c_4
      refine k_aload_n Ox dX5_bears_18 rfl 0 rfl ?_
      refine k_callV Ox [0, 1, 2] (c_X5_asNow G _ _ _ _ _ _ _ _ _ _ _ _ _ _ _ _ _ _ _ _ _ _ _ _ _ ) 0 rfl rfl rfl ⟨rfl, rfl⟩ rfl rfl gX5_bears_X5_asNow rfl 0 rfl ⟨rfl, (by decide +kernel), (by decide +kernel), (by decide +kernel)⟩ rfl dX5_bears_19 (Nat.le_of_ble_eq_true rfl) rfl ⟨Nat.le_of_ble_eq_true rfl, Nat.le_of_ble_eq_true rfl⟩ (fun r wa wb hp => ?_)
      obtain ⟨⟨rfl, rfl⟩, rfl⟩ := hp
      show V x G _ _ _ _ _ _ [_, _, _]
      refine k_aload_n Ox dX5_bears_22 rfl 0 rfl ?_
      refine k_iload_n Ox dX5_bears_23 rfl 1 rfl ?_
      refine k_iload_n Ox dX5_bears_24 rfl 2 rfl ?_
      refine k_iconst Ox (v := -1) dX5_bears_25 (by decide) ?_
      refine k_callV Ox [0, 2] (c_X5_beliefOf G _ _ _ _ _ _ _ _ _ _ _ _ _ _ _ _ _ _ _ _ _ _ _ _ _ _ (hB) (hj1) (hpa)) 3 rfl rfl rfl ⟨rfl, rfl⟩ rfl rfl gX5_bears_X5_beliefOf rfl 0 rfl ⟨rfl, (by decide +kernel), (by decide +kernel), (by decide +kernel)⟩ rfl dX5_bears_26 (Nat.le_of_ble_eq_true rfl) rfl ⟨Nat.le_of_ble_eq_true rfl, Nat.le_of_ble_eq_true rfl⟩ (fun r wa wb hp => ?_)
      obtain ⟨⟨rfl, rfl⟩, rfl⟩ := hp
      show V x G _ _ _ _ _ (.int _ :: _) [_, _, _]
      refine k_iret0 Ox Rt dX5_bears_29 (Nat.le_of_ble_eq_true rfl) (Nat.le_of_ble_eq_true rfl) rfl ?_
      exact ⟨⟨by rw [beR, pick_t hok, nn_nI (by omega)], _, rfl⟩, rfl⟩
    · have hf : (inR 0 5 x1 && isPA x2) = false := by rw [isPA_in x2 c_13]; simp
      refine k_iconst Ox (v := -1) dX5_bears_16 (by decide) ?_
      refine k_iret0 Ox Rt dX5_bears_17 (Nat.le_of_ble_eq_true rfl) (Nat.le_of_ble_eq_true rfl) rfl ?_
      exact ⟨⟨by rw [beR, pick_f hf], _, rfl⟩, rfl⟩
theorem lk_X4_tenths_f10 : Cond.fieldLink RX4 10 "LieBridges" "now" "LLieBridges$Delta;" ∈ wsX4_tenths := List.mem_of_getElem? (i := 1) rfl
theorem hin_X4_tenths_X4 : ∀ w ∈ u_ws RX4 TX4 7, w ∈ wsX4_tenths := fun _ h => List.mem_cons_of_mem _ (List.mem_append_left _ (List.mem_append_right _ h))
theorem lk_X4_tenths_f186 : Cond.fieldLink RX4 186 "LieBridges$Delta" "holds" "[I" ∈ wsX4_tenths := List.mem_of_getElem? (i := 2) rfl
theorem hin_X4_tenths_X1 : ∀ w ∈ u_ws RX1 TX1 11, w ∈ wsX4_tenths := fun _ h => List.mem_cons_of_mem _ (List.mem_append_right _ h)
set_option maxHeartbeats 400000 in
set_option maxRecDepth 4000 in
theorem c_X4_tenths (G : Gx) (h d im pd wy tb gu ro ls gs ly hs tr kn sp sl be : Nat) (S : Nat → Nat) (fd : Nat) (sg : Nat) (x1 x2 : Int32) : Ct G yX4_tenths wsX4_tenths { frames := 2, cells := 0, slots := 0, locals := 42 } [.ref h, .int x1, .int x2] [(h, cO 4 [.ref d, .ref im, .ref pd, .ref wy, .ref tb, .ref gu, .ref ro]), (d, cO 1 [.ref ls, .ref gs, .ref ly, .ref hs, .ref tr, .ref kn, .ref sp, .ref sl, .ref be, .int (nI fd), .int (nI sg)]), (hs, cI G 6 (rN S))] (fun r wa => r = some (.int (tnR x1 x2 S)) ∧ wa = [(h, cO 4 [.ref d, .ref im, .ref pd, .ref wy, .ref tb, .ref gu, .ref ro]), (d, cO 1 [.ref ls, .ref gs, .ref ly, .ref hs, .ref tr, .ref kn, .ref sp, .ref sl, .ref be, .int (nI fd), .int (nI sg)]), (hs, cI G 6 (rN (tnS x1 x2 S)))]) := by
  refine CtN.of [(0, .ref h), (1, .int x1), (2, .int x2)] (by decide +kernel) rfl rfl rfl rfl ?_
  intro x Ox Rt
  refine k_iload_n Ox dX4_tenths_0 rfl 1 rfl ?_
  refine k_callS Ox [] (c_X4_isPlank G _ ) 1 rfl rfl rfl ⟨rfl, rfl⟩ rfl rfl gX4_tenths_X4_isPlank ⟨(by decide +kernel), (by decide +kernel), (by decide +kernel)⟩ rfl dX4_tenths_1 (Nat.le_of_ble_eq_true rfl) rfl ⟨Nat.le_of_ble_eq_true rfl, Nat.le_of_ble_eq_true rfl⟩ (fun r wa wb hp => ?_)
  obtain ⟨⟨rfl, rfl⟩, rfl⟩ := hp
  show V x G _ _ _ _ _ (.int _ :: _) [_, _, _]
  refine k_if_neB Ox 9 dX4_tenths_4 rfl (fun c_4 => ?_) (fun c_4 => ?_)
  · refine k_iload_n Ox dX4_tenths_9 rfl 2 rfl ?_
    refine k_iconst Ox (v := nI 0) dX4_tenths_10 rfl ?_
    refine k_bipush Ox (v := nI 10) dX4_tenths_11 rfl ?_
    refine k_callS Ox [] (c_X4_within G _ _ _ ) 3 rfl rfl rfl ⟨rfl, rfl⟩ rfl rfl gX4_tenths_X4_within ⟨(by decide +kernel), (by decide +kernel), (by decide +kernel)⟩ rfl dX4_tenths_13 (Nat.le_of_ble_eq_true rfl) rfl ⟨Nat.le_of_ble_eq_true rfl, Nat.le_of_ble_eq_true rfl⟩ (fun r wa wb hp => ?_)
    obtain ⟨⟨rfl, rfl⟩, rfl⟩ := hp
    show V x G _ _ _ _ _ (.int _ :: _) [_, _, _]
    change V x G _ _ _ _ _ (.int (bI (inR (0) (10) _)) :: _) _
    refine k_if_neB Ox 22 dX4_tenths_16 rfl (fun c_16 => ?_) (fun c_16 => ?_)
    · obtain ⟨j1, hj1, rfl⟩ := in6_of c_4
      obtain ⟨j2, hj2, rfl⟩ := inR_of (k := 10) rfl (by decide) c_16
      refine k_aload_n Ox dX4_tenths_22 rfl 0 rfl ?_
      refine k_get Ox 0 rfl rfl hin_X4_tenths_X4 0 rfl lk_X4_tenths_f10 rfl rfl dX4_tenths_23 ?_
      refine k_get Ox 1 rfl rfl hin_X4_tenths_X1 3 rfl lk_X4_tenths_f186 rfl rfl dX4_tenths_26 ?_
      refine k_iload_n Ox dX4_tenths_29 rfl 1 rfl ?_
      refine k_callS Ox [2] (c_X4_at G _ _ _ _ (by omega) (by decide)) 2 rfl rfl rfl ⟨rfl, rfl⟩ rfl rfl gX4_tenths_X4_at ⟨(by decide +kernel), (by decide +kernel), (by decide +kernel)⟩ rfl dX4_tenths_30 (Nat.le_of_ble_eq_true rfl) rfl ⟨Nat.le_of_ble_eq_true rfl, Nat.le_of_ble_eq_true rfl⟩ (fun r wa wb hp => ?_)
      obtain ⟨⟨rfl, rfl⟩, rfl⟩ := hp
      show V x G _ _ _ _ _ (.int _ :: _) [_, _, _]
      refine k_istore_n Ox [(3, _), (0, _), (1, _), (2, _)] dX4_tenths_33 rfl (by decide) rfl ?_
      refine k_aload_n Ox dX4_tenths_34 rfl 1 rfl ?_
      refine k_get Ox 0 rfl rfl hin_X4_tenths_X4 0 rfl lk_X4_tenths_f10 rfl rfl dX4_tenths_35 ?_
      refine k_get Ox 1 rfl rfl hin_X4_tenths_X1 3 rfl lk_X4_tenths_f186 rfl rfl dX4_tenths_38 ?_
      refine k_iload_n Ox dX4_tenths_41 rfl 2 rfl ?_
      refine k_iload_n Ox dX4_tenths_42 rfl 3 rfl ?_
      refine k_callS Ox [2] (c_X4_put G _ _ _ _ _ (by omega) (by decide)) 3 rfl rfl rfl ⟨rfl, rfl⟩ rfl rfl gX4_tenths_X4_put ⟨(by decide +kernel), (by decide +kernel), (by decide +kernel)⟩ rfl dX4_tenths_43 (Nat.le_of_ble_eq_true rfl) rfl ⟨Nat.le_of_ble_eq_true rfl, Nat.le_of_ble_eq_true rfl⟩ (fun r wa wb hp => ?_)
      obtain ⟨⟨rfl, rfl⟩, rfl⟩ := hp
      show V x G _ _ _ _ _ _ [_, _, _]
      rw [rN_upd]
      refine k_iload_n Ox dX4_tenths_46 rfl 0 rfl ?_
      refine k_iret0 Ox Rt dX4_tenths_47 (Nat.le_of_ble_eq_true rfl) (Nat.le_of_ble_eq_true rfl) rfl ?_
      exact ⟨⟨by rw [tnR, pick_t c_4, pick_t c_16, nn_nI (by omega)], by rw [tnS, if_pos (by rw [c_4, c_16]; rfl), nn_nI (by omega), nn_nI (by omega)]⟩, rfl⟩
    · refine k_bipush Ox (v := -2) dX4_tenths_19 (by decide) ?_
      refine k_iret0 Ox Rt dX4_tenths_21 (Nat.le_of_ble_eq_true rfl) (Nat.le_of_ble_eq_true rfl) rfl ?_
      exact ⟨⟨by rw [tnR, pick_t c_4, pick_f c_16], by rw [tnS, if_neg (by rw [c_16]; simp)]⟩, rfl⟩
  · refine k_iconst Ox (v := -1) dX4_tenths_7 (by decide) ?_
    refine k_iret0 Ox Rt dX4_tenths_8 (Nat.le_of_ble_eq_true rfl) (Nat.le_of_ble_eq_true rfl) rfl ?_
    exact ⟨⟨by rw [tnR, pick_f c_4], by rw [tnS, if_neg (by rw [c_4]; simp)]⟩, rfl⟩
theorem lk_X5_tenths_f28 : Cond.fieldLink RX5 28 "LieBridgesModel" "safety" "[I" ∈ wsX5_tenths := List.mem_of_getElem? (i := 1) rfl
theorem hin_X5_tenths_X5 : ∀ w ∈ u_ws RX5 TX5 22, w ∈ wsX5_tenths := fun _ h => List.mem_cons_of_mem _ (List.mem_append_right _ h)
set_option maxHeartbeats 400000 in
set_option maxRecDepth 4000 in
theorem c_X5_tenths (G : Gx) (m a1 a2 a3 a4 a5 a6 a7 a8 a9 a10 a11 a12 a13 : Nat) (fd sg mn : Nat) (w1 w2 w3 w4 w5 w6 : Int32) (S : Nat → Nat) (x1 x2 : Int32) : Ct G yX5_tenths wsX5_tenths { frames := 2, cells := 0, slots := 0, locals := 42 } [.ref m, .int x1, .int x2] [(m, cO 5 [.ref a1, .ref a2, .ref a3, .ref a4, .ref a5, .ref a6, .ref a7, .int (nI fd), .int (nI sg), .ref a8, .int (nI mn), .ref a9, .ref a10, .int w1, .int w2, .ref a11, .int w3, .int w4, .int w5, .int w6, .ref a12, .ref a13]), (a7, cI G 6 (rN S))] (fun r wa => r = some (.int (tnR x1 x2 S)) ∧ wa = [(m, cO 5 [.ref a1, .ref a2, .ref a3, .ref a4, .ref a5, .ref a6, .ref a7, .int (nI fd), .int (nI sg), .ref a8, .int (nI mn), .ref a9, .ref a10, .int w1, .int w2, .ref a11, .int w3, .int w4, .int w5, .int w6, .ref a12, .ref a13]), (a7, cI G 6 (rN (tnS x1 x2 S)))]) := by
  refine CtN.of [(0, .ref m), (1, .int x1), (2, .int x2)] (by decide +kernel) rfl rfl rfl rfl ?_
  intro x Ox Rt
  refine k_iload_n Ox dX5_tenths_0 rfl 1 rfl ?_
  refine k_callS Ox [] (c_X5_is6 G _ ) 1 rfl rfl rfl ⟨rfl, rfl⟩ rfl rfl gX5_tenths_X5_is6 ⟨(by decide +kernel), (by decide +kernel), (by decide +kernel)⟩ rfl dX5_tenths_1 (Nat.le_of_ble_eq_true rfl) rfl ⟨Nat.le_of_ble_eq_true rfl, Nat.le_of_ble_eq_true rfl⟩ (fun r wa wb hp => ?_)
  obtain ⟨⟨rfl, rfl⟩, rfl⟩ := hp
  show V x G _ _ _ _ _ (.int _ :: _) [_, _]
  refine k_if_neB Ox 9 dX5_tenths_4 rfl (fun c_4 => ?_) (fun c_4 => ?_)
  · refine k_iload_n Ox dX5_tenths_9 rfl 2 rfl ?_
    refine k_iconst Ox (v := nI 0) dX5_tenths_10 rfl ?_
    refine k_bipush Ox (v := nI 10) dX5_tenths_11 rfl ?_
    refine k_callS Ox [] (c_X5_in G _ _ _ ) 3 rfl rfl rfl ⟨rfl, rfl⟩ rfl rfl gX5_tenths_X5_in ⟨(by decide +kernel), (by decide +kernel), (by decide +kernel)⟩ rfl dX5_tenths_13 (Nat.le_of_ble_eq_true rfl) rfl ⟨Nat.le_of_ble_eq_true rfl, Nat.le_of_ble_eq_true rfl⟩ (fun r wa wb hp => ?_)
    obtain ⟨⟨rfl, rfl⟩, rfl⟩ := hp
    show V x G _ _ _ _ _ (.int _ :: _) [_, _]
    change V x G _ _ _ _ _ (.int (bI (inR (0) (10) _)) :: _) _
    refine k_if_neB Ox 22 dX5_tenths_16 rfl (fun c_16 => ?_) (fun c_16 => ?_)
    · obtain ⟨j1, hj1, rfl⟩ := in6_of c_4
      obtain ⟨j2, hj2, rfl⟩ := inR_of (k := 10) rfl (by decide) c_16
      refine k_aload_n Ox dX5_tenths_22 rfl 0 rfl ?_
      refine k_get Ox 0 rfl rfl hin_X5_tenths_X5 6 rfl lk_X5_tenths_f28 rfl rfl dX5_tenths_23 ?_
      refine k_iload_n Ox dX5_tenths_26 rfl 1 rfl ?_
      refine k_iald Ox 1 rfl (by omega) (by first | decide | omega) dX5_tenths_27 ?_
      refine k_istore_n Ox [(3, _), (0, _), (1, _), (2, _)] dX5_tenths_28 rfl (by decide) rfl ?_
      refine k_aload_n Ox dX5_tenths_29 rfl 1 rfl ?_
      refine k_get Ox 0 rfl rfl hin_X5_tenths_X5 6 rfl lk_X5_tenths_f28 rfl rfl dX5_tenths_30 ?_
      refine k_iload_n Ox dX5_tenths_33 rfl 2 rfl ?_
      refine k_iload_n Ox dX5_tenths_34 rfl 3 rfl ?_
      refine k_iastN Ox 1 rfl (by omega) (by first | decide | omega) [_, _] rfl dX5_tenths_35 ?_
      refine k_iload_n Ox dX5_tenths_36 rfl 0 rfl ?_
      refine k_iret0 Ox Rt dX5_tenths_37 (Nat.le_of_ble_eq_true rfl) (Nat.le_of_ble_eq_true rfl) rfl ?_
      exact ⟨⟨by rw [tnR, pick_t c_4, pick_t c_16, nn_nI (by omega)], by rw [tnS, if_pos (by rw [c_4, c_16]; rfl), nn_nI (by omega), nn_nI (by omega)]⟩, rfl⟩
    · refine k_bipush Ox (v := -2) dX5_tenths_19 (by decide) ?_
      refine k_iret0 Ox Rt dX5_tenths_21 (Nat.le_of_ble_eq_true rfl) (Nat.le_of_ble_eq_true rfl) rfl ?_
      exact ⟨⟨by rw [tnR, pick_t c_4, pick_f c_16], by rw [tnS, if_neg (by rw [c_16]; simp)]⟩, rfl⟩
  · refine k_iconst Ox (v := -1) dX5_tenths_7 (by decide) ?_
    refine k_iret0 Ox Rt dX5_tenths_8 (Nat.le_of_ble_eq_true rfl) (Nat.le_of_ble_eq_true rfl) rfl ?_
    exact ⟨⟨by rw [tnR, pick_f c_4], by rw [tnS, if_neg (by rw [c_4]; simp)]⟩, rfl⟩
theorem lk_X4_seen_f10 : Cond.fieldLink RX4 10 "LieBridges" "now" "LLieBridges$Delta;" ∈ wsX4_seen := List.mem_of_getElem? (i := 1) rfl
theorem hin_X4_seen_X4 : ∀ w ∈ u_ws RX4 TX4 7, w ∈ wsX4_seen := fun _ h => List.mem_cons_of_mem _ (List.mem_append_left _ (List.mem_append_right _ h))
theorem lk_X4_seen_f206 : Cond.fieldLink RX4 206 "LieBridges$Delta" "sights" "I" ∈ wsX4_seen := List.mem_of_getElem? (i := 2) rfl
theorem hin_X4_seen_X1 : ∀ w ∈ u_ws RX1 TX1 11, w ∈ wsX4_seen := fun _ h => List.mem_cons_of_mem _ (List.mem_append_right _ h)
theorem lk_X4_seen_f209 : Cond.fieldLink RX4 209 "LieBridges$Delta" "sightPlanks" "[I" ∈ wsX4_seen := List.mem_of_getElem? (i := 3) rfl
theorem lk_X4_seen_f212 : Cond.fieldLink RX4 212 "LieBridges$Delta" "sightLoads" "[I" ∈ wsX4_seen := List.mem_of_getElem? (i := 4) rfl
set_option maxHeartbeats 400000 in
set_option maxRecDepth 4000 in
theorem c_X4_seen (G : Gx) (h d im pd wy tb gu ro ls gs ly hs tr kn sp sl be : Nat) (SP : Nat → Nat) (SL : Nat → Nat) (fd : Nat) (sg : Nat) (x1 x2 : Int32) (hsg : sg ≤ 6) : Ct G yX4_seen wsX4_seen { frames := 2, cells := 0, slots := 0, locals := 42 } [.ref h, .int x1, .int x2] [(h, cO 4 [.ref d, .ref im, .ref pd, .ref wy, .ref tb, .ref gu, .ref ro]), (d, cO 1 [.ref ls, .ref gs, .ref ly, .ref hs, .ref tr, .ref kn, .ref sp, .ref sl, .ref be, .int (nI fd), .int (nI sg)]), (sp, cI G 6 (rN SP)), (sl, cI G 6 (rN SL))] (fun r wa => r = some (.int (snR x1 x2 sg)) ∧ wa = [(h, cO 4 [.ref d, .ref im, .ref pd, .ref wy, .ref tb, .ref gu, .ref ro]), (d, cO 1 [.ref ls, .ref gs, .ref ly, .ref hs, .ref tr, .ref kn, .ref sp, .ref sl, .ref be, .int (nI fd), .int (nI (snG x1 x2 sg))]), (sp, cI G 6 (rN (snP x1 x2 sg SP))), (sl, cI G 6 (rN (snL x1 x2 sg SL)))]) := by
  refine CtN.of [(0, .ref h), (1, .int x1), (2, .int x2)] (by decide +kernel) rfl rfl rfl rfl ?_
  intro x Ox Rt
  refine k_iload_n Ox dX4_seen_0 rfl 1 rfl ?_
  refine k_callS Ox [] (c_X4_isPlank G _ ) 1 rfl rfl rfl ⟨rfl, rfl⟩ rfl rfl gX4_seen_X4_isPlank ⟨(by decide +kernel), (by decide +kernel), (by decide +kernel)⟩ rfl dX4_seen_1 (Nat.le_of_ble_eq_true rfl) rfl ⟨Nat.le_of_ble_eq_true rfl, Nat.le_of_ble_eq_true rfl⟩ (fun r wa wb hp => ?_)
  obtain ⟨⟨rfl, rfl⟩, rfl⟩ := hp
  show V x G _ _ _ _ _ (.int _ :: _) [_, _, _, _]
  refine k_if_neB Ox 9 dX4_seen_4 rfl (fun c_4 => ?_) (fun c_4 => ?_)
  · refine k_iload_n Ox dX4_seen_9 rfl 2 rfl ?_
    refine k_iconst Ox (v := nI 0) dX4_seen_10 rfl ?_
    refine k_bipush Ox (v := nI 6) dX4_seen_11 rfl ?_
    refine k_callS Ox [] (c_X4_within G _ _ _ ) 3 rfl rfl rfl ⟨rfl, rfl⟩ rfl rfl gX4_seen_X4_within ⟨(by decide +kernel), (by decide +kernel), (by decide +kernel)⟩ rfl dX4_seen_13 (Nat.le_of_ble_eq_true rfl) rfl ⟨Nat.le_of_ble_eq_true rfl, Nat.le_of_ble_eq_true rfl⟩ (fun r wa wb hp => ?_)
    obtain ⟨⟨rfl, rfl⟩, rfl⟩ := hp
    show V x G _ _ _ _ _ (.int _ :: _) [_, _, _, _]
    change V x G _ _ _ _ _ (.int (bI (inR (0) (6) _)) :: _) _
    refine k_if_neB Ox 22 dX4_seen_16 rfl (fun c_16 => ?_) (fun c_16 => ?_)
    · refine k_aload_n Ox dX4_seen_22 rfl 0 rfl ?_
      refine k_get Ox 0 rfl rfl hin_X4_seen_X4 0 rfl lk_X4_seen_f10 rfl rfl dX4_seen_23 ?_
      refine k_get Ox 1 rfl rfl hin_X4_seen_X1 10 rfl lk_X4_seen_f206 rfl rfl dX4_seen_26 ?_
      refine k_bipush Ox (v := nI 6) dX4_seen_29 rfl ?_
      refine k_icmp_ltN Ox 37 dX4_seen_31 rfl (by omega) (by omega) (fun c_31 => ?_) (fun c_31 => ?_)
      · obtain ⟨j1, hj1, rfl⟩ := in6_of c_4
        obtain ⟨j2, hj2, rfl⟩ := inR_of (k := 6) rfl (by decide) c_16
        refine k_aload_n Ox dX4_seen_37 rfl 0 rfl ?_
        refine k_get Ox 0 rfl rfl hin_X4_seen_X4 0 rfl lk_X4_seen_f10 rfl rfl dX4_seen_38 ?_
        refine k_get Ox 1 rfl rfl hin_X4_seen_X1 6 rfl lk_X4_seen_f209 rfl rfl dX4_seen_41 ?_
        refine k_aload_n Ox dX4_seen_44 rfl 0 rfl ?_
        refine k_get Ox 0 rfl rfl hin_X4_seen_X4 0 rfl lk_X4_seen_f10 rfl rfl dX4_seen_45 ?_
        refine k_get Ox 1 rfl rfl hin_X4_seen_X1 10 rfl lk_X4_seen_f206 rfl rfl dX4_seen_48 ?_
        refine k_iload_n Ox dX4_seen_51 rfl 1 rfl ?_
        refine k_callS Ox [2] (c_X4_put G _ _ _ _ _ (by omega) (by decide)) 3 rfl rfl rfl ⟨rfl, rfl⟩ rfl rfl gX4_seen_X4_put ⟨(by decide +kernel), (by decide +kernel), (by decide +kernel)⟩ rfl dX4_seen_52 (Nat.le_of_ble_eq_true rfl) rfl ⟨Nat.le_of_ble_eq_true rfl, Nat.le_of_ble_eq_true rfl⟩ (fun r wa wb hp => ?_)
        obtain ⟨⟨rfl, rfl⟩, rfl⟩ := hp
        show V x G _ _ _ _ _ _ [_, _, _, _]
        rw [rN_upd]
        refine k_aload_n Ox dX4_seen_55 rfl 0 rfl ?_
        refine k_get Ox 0 rfl rfl hin_X4_seen_X4 0 rfl lk_X4_seen_f10 rfl rfl dX4_seen_56 ?_
        refine k_get Ox 1 rfl rfl hin_X4_seen_X1 7 rfl lk_X4_seen_f212 rfl rfl dX4_seen_59 ?_
        refine k_aload_n Ox dX4_seen_62 rfl 0 rfl ?_
        refine k_get Ox 0 rfl rfl hin_X4_seen_X4 0 rfl lk_X4_seen_f10 rfl rfl dX4_seen_63 ?_
        refine k_get Ox 1 rfl rfl hin_X4_seen_X1 10 rfl lk_X4_seen_f206 rfl rfl dX4_seen_66 ?_
        refine k_iload_n Ox dX4_seen_69 rfl 2 rfl ?_
        refine k_callS Ox [3] (c_X4_put G _ _ _ _ _ (by omega) (by decide)) 3 rfl rfl rfl ⟨rfl, rfl⟩ rfl rfl gX4_seen_X4_put ⟨(by decide +kernel), (by decide +kernel), (by decide +kernel)⟩ rfl dX4_seen_70 (Nat.le_of_ble_eq_true rfl) rfl ⟨Nat.le_of_ble_eq_true rfl, Nat.le_of_ble_eq_true rfl⟩ (fun r wa wb hp => ?_)
        obtain ⟨⟨rfl, rfl⟩, rfl⟩ := hp
        show V x G _ _ _ _ _ _ [_, _, _, _]
        rw [rN_upd]
        refine k_aload_n Ox dX4_seen_73 rfl 0 rfl ?_
        refine k_get Ox 0 rfl rfl hin_X4_seen_X4 0 rfl lk_X4_seen_f10 rfl rfl dX4_seen_74 ?_
        refine k_dup Ox dX4_seen_77 rfl ?_
        refine k_get Ox 1 rfl rfl hin_X4_seen_X1 10 rfl lk_X4_seen_f206 rfl rfl dX4_seen_78 ?_
        refine k_iconst Ox (v := nI 1) dX4_seen_81 rfl ?_
        refine k_iaddN Ox dX4_seen_82 ?_
        refine k_put Ox 1 rfl rfl hin_X4_seen_X1 10 rfl lk_X4_seen_f206 rfl tyX1 tyX1_ok nmX1 rfl  rfl rfl rfl [_, _, _, _, _, _, _, _, _, _, _] rfl [_, _, _, _] rfl dX4_seen_83 ?_
        refine k_aload_n Ox dX4_seen_86 rfl 0 rfl ?_
        refine k_get Ox 0 rfl rfl hin_X4_seen_X4 0 rfl lk_X4_seen_f10 rfl rfl dX4_seen_87 ?_
        refine k_get Ox 1 rfl rfl hin_X4_seen_X1 10 rfl lk_X4_seen_f206 rfl rfl dX4_seen_90 ?_
        refine k_iret0 Ox Rt dX4_seen_93 (Nat.le_of_ble_eq_true rfl) (Nat.le_of_ble_eq_true rfl) rfl ?_
        have hm : sg < 6 := by omega
        have hok : okSn (nI j1) (nI j2) sg = true := by rw [okSn, c_4, c_16, decide_eq_true hm]; rfl
        refine ⟨⟨by rw [snR, pick_t c_4, pick_t c_16, pick_t (decide_eq_true hm)], ?_⟩, rfl⟩
        simp only [snP, snL, snG, if_pos hok, nn_nI (show j1 < 1000000 by omega), nn_nI (show j2 < 1000000 by omega)]
      · refine k_bipush Ox (v := -4) dX4_seen_34 (by decide) ?_
        refine k_iret0 Ox Rt dX4_seen_36 (Nat.le_of_ble_eq_true rfl) (Nat.le_of_ble_eq_true rfl) rfl ?_
        have hm : ¬ sg < 6 := by omega
        have hn : ¬ okSn x1 x2 sg = true := by rw [okSn, decide_eq_false hm]; simp
        refine ⟨⟨by rw [snR, pick_t c_4, pick_t c_16, pick_f (decide_eq_false hm)], ?_⟩, rfl⟩
        simp only [snP, snL, snG, if_neg hn]
    · refine k_bipush Ox (v := -2) dX4_seen_19 (by decide) ?_
      refine k_iret0 Ox Rt dX4_seen_21 (Nat.le_of_ble_eq_true rfl) (Nat.le_of_ble_eq_true rfl) rfl ?_
      exact ⟨⟨by rw [snR, pick_t c_4, pick_f c_16], by simp [snP, snL, snG, okSn, c_16]⟩, rfl⟩
  · refine k_iconst Ox (v := -1) dX4_seen_7 (by decide) ?_
    refine k_iret0 Ox Rt dX4_seen_8 (Nat.le_of_ble_eq_true rfl) (Nat.le_of_ble_eq_true rfl) rfl ?_
    exact ⟨⟨by rw [snR, pick_f c_4], by simp [snP, snL, snG, okSn, c_4]⟩, rfl⟩
theorem lk_X5_seen_f152 : Cond.fieldLink RX5 152 "LieBridgesModel" "sights" "I" ∈ wsX5_seen := List.mem_of_getElem? (i := 1) rfl
theorem hin_X5_seen_X5 : ∀ w ∈ u_ws RX5 TX5 22, w ∈ wsX5_seen := fun _ h => List.mem_cons_of_mem _ (List.mem_append_right _ h)
theorem lk_X5_seen_f35 : Cond.fieldLink RX5 35 "LieBridgesModel" "sight" "[I" ∈ wsX5_seen := List.mem_of_getElem? (i := 2) rfl
set_option maxHeartbeats 400000 in
set_option maxRecDepth 4000 in
theorem c_X5_seen (G : Gx) (m a1 a2 a3 a4 a5 a6 a7 a8 a9 a10 a11 a12 a13 : Nat) (fd sg mn : Nat) (w1 w2 w3 w4 w5 w6 : Int32) (SP SL : Nat → Nat) (x1 x2 : Int32) (hsg : sg ≤ 6) : Ct G yX5_seen wsX5_seen { frames := 2, cells := 0, slots := 0, locals := 42 } [.ref m, .int x1, .int x2] [(m, cO 5 [.ref a1, .ref a2, .ref a3, .ref a4, .ref a5, .ref a6, .ref a7, .int (nI fd), .int (nI sg), .ref a8, .int (nI mn), .ref a9, .ref a10, .int w1, .int w2, .ref a11, .int w3, .int w4, .int w5, .int w6, .ref a12, .ref a13]), (a8, cI G 12 (rN (flS SP SL)))] (fun r wa => r = some (.int (snR x1 x2 sg)) ∧ wa = [(m, cO 5 [.ref a1, .ref a2, .ref a3, .ref a4, .ref a5, .ref a6, .ref a7, .int (nI fd), .int (nI (snG x1 x2 sg)), .ref a8, .int (nI mn), .ref a9, .ref a10, .int w1, .int w2, .ref a11, .int w3, .int w4, .int w5, .int w6, .ref a12, .ref a13]), (a8, cI G 12 (rN (flS (snP x1 x2 sg SP) (snL x1 x2 sg SL))))]) := by
  refine CtN.of [(0, .ref m), (1, .int x1), (2, .int x2)] (by decide +kernel) rfl rfl rfl rfl ?_
  intro x Ox Rt
  refine k_iload_n Ox dX5_seen_0 rfl 1 rfl ?_
  refine k_callS Ox [] (c_X5_is6 G _ ) 1 rfl rfl rfl ⟨rfl, rfl⟩ rfl rfl gX5_seen_X5_is6 ⟨(by decide +kernel), (by decide +kernel), (by decide +kernel)⟩ rfl dX5_seen_1 (Nat.le_of_ble_eq_true rfl) rfl ⟨Nat.le_of_ble_eq_true rfl, Nat.le_of_ble_eq_true rfl⟩ (fun r wa wb hp => ?_)
  obtain ⟨⟨rfl, rfl⟩, rfl⟩ := hp
  show V x G _ _ _ _ _ (.int _ :: _) [_, _]
  refine k_if_neB Ox 9 dX5_seen_4 rfl (fun c_4 => ?_) (fun c_4 => ?_)
  · refine k_iload_n Ox dX5_seen_9 rfl 2 rfl ?_
    refine k_iconst Ox (v := nI 0) dX5_seen_10 rfl ?_
    refine k_bipush Ox (v := nI 6) dX5_seen_11 rfl ?_
    refine k_callS Ox [] (c_X5_in G _ _ _ ) 3 rfl rfl rfl ⟨rfl, rfl⟩ rfl rfl gX5_seen_X5_in ⟨(by decide +kernel), (by decide +kernel), (by decide +kernel)⟩ rfl dX5_seen_13 (Nat.le_of_ble_eq_true rfl) rfl ⟨Nat.le_of_ble_eq_true rfl, Nat.le_of_ble_eq_true rfl⟩ (fun r wa wb hp => ?_)
    obtain ⟨⟨rfl, rfl⟩, rfl⟩ := hp
    show V x G _ _ _ _ _ (.int _ :: _) [_, _]
    change V x G _ _ _ _ _ (.int (bI (inR (0) (6) _)) :: _) _
    refine k_if_neB Ox 22 dX5_seen_16 rfl (fun c_16 => ?_) (fun c_16 => ?_)
    · refine k_aload_n Ox dX5_seen_22 rfl 0 rfl ?_
      refine k_get Ox 0 rfl rfl hin_X5_seen_X5 8 rfl lk_X5_seen_f152 rfl rfl dX5_seen_23 ?_
      refine k_bipush Ox (v := nI 6) dX5_seen_26 rfl ?_
      refine k_icmp_neN Ox 34 dX5_seen_28 rfl (by omega) (by omega) (fun c_28 => ?_) (fun c_28 => ?_)
      · obtain ⟨j1, hj1, rfl⟩ := in6_of c_4
        obtain ⟨j2, hj2, rfl⟩ := inR_of (k := 6) rfl (by decide) c_16
        refine k_aload_n Ox dX5_seen_34 rfl 0 rfl ?_
        refine k_get Ox 0 rfl rfl hin_X5_seen_X5 9 rfl lk_X5_seen_f35 rfl rfl dX5_seen_35 ?_
        refine k_iconst Ox (v := nI 2) dX5_seen_38 rfl ?_
        refine k_aload_n Ox dX5_seen_39 rfl 0 rfl ?_
        refine k_get Ox 0 rfl rfl hin_X5_seen_X5 8 rfl lk_X5_seen_f152 rfl rfl dX5_seen_40 ?_
        refine k_imulN Ox dX5_seen_43 ?_
        refine k_iload_n Ox dX5_seen_44 rfl 1 rfl ?_
        refine k_iastN Ox 1 rfl (by omega) (by first | decide | omega) [_, _] rfl dX5_seen_45 ?_
        refine k_aload_n Ox dX5_seen_46 rfl 0 rfl ?_
        refine k_get Ox 0 rfl rfl hin_X5_seen_X5 9 rfl lk_X5_seen_f35 rfl rfl dX5_seen_47 ?_
        refine k_iconst Ox (v := nI 2) dX5_seen_50 rfl ?_
        refine k_aload_n Ox dX5_seen_51 rfl 0 rfl ?_
        refine k_get Ox 0 rfl rfl hin_X5_seen_X5 8 rfl lk_X5_seen_f152 rfl rfl dX5_seen_52 ?_
        refine k_imulN Ox dX5_seen_55 ?_
        refine k_iconst Ox (v := nI 1) dX5_seen_56 rfl ?_
        refine k_iaddN Ox dX5_seen_57 ?_
        refine k_iload_n Ox dX5_seen_58 rfl 2 rfl ?_
        refine k_iastN Ox 1 rfl (by omega) (by first | decide | omega) [_, _] rfl dX5_seen_59 ?_
        rw [flS_up]
        refine k_aload_n Ox dX5_seen_60 rfl 0 rfl ?_
        refine k_dup Ox dX5_seen_61 rfl ?_
        refine k_get Ox 0 rfl rfl hin_X5_seen_X5 8 rfl lk_X5_seen_f152 rfl rfl dX5_seen_62 ?_
        refine k_iconst Ox (v := nI 1) dX5_seen_65 rfl ?_
        refine k_iaddN Ox dX5_seen_66 ?_
        refine k_put Ox 0 rfl rfl hin_X5_seen_X5 8 rfl lk_X5_seen_f152 rfl tyX5 tyX5_ok nmX5 rfl  rfl rfl rfl [_, _, _, _, _, _, _, _, _, _, _, _, _, _, _, _, _, _, _, _, _, _] rfl [_, _] rfl dX5_seen_67 ?_
        refine k_aload_n Ox dX5_seen_70 rfl 0 rfl ?_
        refine k_get Ox 0 rfl rfl hin_X5_seen_X5 8 rfl lk_X5_seen_f152 rfl rfl dX5_seen_71 ?_
        refine k_iret0 Ox Rt dX5_seen_74 (Nat.le_of_ble_eq_true rfl) (Nat.le_of_ble_eq_true rfl) rfl ?_
        have hm : sg < 6 := by omega
        have hok : okSn (nI j1) (nI j2) sg = true := by rw [okSn, c_4, c_16, decide_eq_true hm]; rfl
        refine ⟨⟨by rw [snR, pick_t c_4, pick_t c_16, pick_t (decide_eq_true hm)], ?_⟩, rfl⟩
        simp only [snP, snL, snG, if_pos hok, nn_nI (show j1 < 1000000 by omega), nn_nI (show j2 < 1000000 by omega)]
      · refine k_bipush Ox (v := -4) dX5_seen_31 (by decide) ?_
        refine k_iret0 Ox Rt dX5_seen_33 (Nat.le_of_ble_eq_true rfl) (Nat.le_of_ble_eq_true rfl) rfl ?_
        have hm : ¬ sg < 6 := by omega
        have hn : ¬ okSn x1 x2 sg = true := by rw [okSn, decide_eq_false hm]; simp
        refine ⟨⟨by rw [snR, pick_t c_4, pick_t c_16, pick_f (decide_eq_false hm)], ?_⟩, rfl⟩
        simp only [snP, snL, snG, if_neg hn]
    · refine k_bipush Ox (v := -2) dX5_seen_19 (by decide) ?_
      refine k_iret0 Ox Rt dX5_seen_21 (Nat.le_of_ble_eq_true rfl) (Nat.le_of_ble_eq_true rfl) rfl ?_
      exact ⟨⟨by rw [snR, pick_t c_4, pick_f c_16], by simp [snP, snL, snG, okSn, c_16]⟩, rfl⟩
  · refine k_iconst Ox (v := -1) dX5_seen_7 (by decide) ?_
    refine k_iret0 Ox Rt dX5_seen_8 (Nat.le_of_ble_eq_true rfl) (Nat.le_of_ble_eq_true rfl) rfl ?_
    exact ⟨⟨by rw [snR, pick_f c_4], by simp [snP, snL, snG, okSn, c_4]⟩, rfl⟩
theorem lk_X4_forget_f10 : Cond.fieldLink RX4 10 "LieBridges" "now" "LLieBridges$Delta;" ∈ wsX4_forget := List.mem_of_getElem? (i := 1) rfl
theorem hin_X4_forget_X4 : ∀ w ∈ u_ws RX4 TX4 7, w ∈ wsX4_forget := fun _ h => List.mem_cons_of_mem _ (List.mem_append_left _ (List.mem_append_right _ h))
theorem lk_X4_forget_f206 : Cond.fieldLink RX4 206 "LieBridges$Delta" "sights" "I" ∈ wsX4_forget := List.mem_of_getElem? (i := 2) rfl
theorem hin_X4_forget_X1 : ∀ w ∈ u_ws RX1 TX1 11, w ∈ wsX4_forget := fun _ h => List.mem_cons_of_mem _ (List.mem_append_right _ h)
set_option maxHeartbeats 400000 in
set_option maxRecDepth 4000 in
theorem c_X4_forget (G : Gx) (h d im pd wy tb gu ro ls gs ly hs tr kn sp sl be : Nat) (fd : Nat) (sg : Nat) : Ct G yX4_forget wsX4_forget { frames := 0, cells := 0, slots := 0, locals := 0 } [.ref h] [(h, cO 4 [.ref d, .ref im, .ref pd, .ref wy, .ref tb, .ref gu, .ref ro]), (d, cO 1 [.ref ls, .ref gs, .ref ly, .ref hs, .ref tr, .ref kn, .ref sp, .ref sl, .ref be, .int (nI fd), .int (nI sg)])] (fun r wa => r = some (.int (nI sg)) ∧ wa = [(h, cO 4 [.ref d, .ref im, .ref pd, .ref wy, .ref tb, .ref gu, .ref ro]), (d, cO 1 [.ref ls, .ref gs, .ref ly, .ref hs, .ref tr, .ref kn, .ref sp, .ref sl, .ref be, .int (nI fd), .int (nI 0)])]) := by
  refine CtN.of [(0, .ref h)] (by decide +kernel) rfl rfl rfl rfl ?_
  intro x Ox Rt
  refine k_aload_n Ox dX4_forget_0 rfl 0 rfl ?_
  refine k_get Ox 0 rfl rfl hin_X4_forget_X4 0 rfl lk_X4_forget_f10 rfl rfl dX4_forget_1 ?_
  refine k_get Ox 1 rfl rfl hin_X4_forget_X1 10 rfl lk_X4_forget_f206 rfl rfl dX4_forget_4 ?_
  refine k_istore_n Ox [(1, _), (0, _)] dX4_forget_7 rfl (by decide) rfl ?_
  refine k_aload_n Ox dX4_forget_8 rfl 1 rfl ?_
  refine k_get Ox 0 rfl rfl hin_X4_forget_X4 0 rfl lk_X4_forget_f10 rfl rfl dX4_forget_9 ?_
  refine k_iconst Ox (v := nI 0) dX4_forget_12 rfl ?_
  refine k_put Ox 1 rfl rfl hin_X4_forget_X1 10 rfl lk_X4_forget_f206 rfl tyX1 tyX1_ok nmX1 rfl  rfl rfl rfl [_, _, _, _, _, _, _, _, _, _, _] rfl [_, _] rfl dX4_forget_13 ?_
  refine k_iload_n Ox dX4_forget_16 rfl 0 rfl ?_
  refine k_iret0 Ox Rt dX4_forget_17 (Nat.le_of_ble_eq_true rfl) (Nat.le_of_ble_eq_true rfl) rfl ?_
  exact ⟨⟨rfl, rfl⟩, rfl⟩
theorem lk_X5_forget_f152 : Cond.fieldLink RX5 152 "LieBridgesModel" "sights" "I" ∈ wsX5_forget := List.mem_of_getElem? (i := 1) rfl
theorem hin_X5_forget_X5 : ∀ w ∈ u_ws RX5 TX5 22, w ∈ wsX5_forget := fun _ h => List.mem_cons_of_mem _ (List.mem_append_right _ h)
set_option maxHeartbeats 400000 in
set_option maxRecDepth 4000 in
theorem c_X5_forget (G : Gx) (m a1 a2 a3 a4 a5 a6 a7 a8 a9 a10 a11 a12 a13 : Nat) (fd sg mn : Nat) (w1 w2 w3 w4 w5 w6 : Int32)  : Ct G yX5_forget wsX5_forget { frames := 0, cells := 0, slots := 0, locals := 0 } [.ref m] [(m, cO 5 [.ref a1, .ref a2, .ref a3, .ref a4, .ref a5, .ref a6, .ref a7, .int (nI fd), .int (nI sg), .ref a8, .int (nI mn), .ref a9, .ref a10, .int w1, .int w2, .ref a11, .int w3, .int w4, .int w5, .int w6, .ref a12, .ref a13])] (fun r wa => r = some (.int (nI sg)) ∧ wa = [(m, cO 5 [.ref a1, .ref a2, .ref a3, .ref a4, .ref a5, .ref a6, .ref a7, .int (nI fd), .int (nI 0), .ref a8, .int (nI mn), .ref a9, .ref a10, .int w1, .int w2, .ref a11, .int w3, .int w4, .int w5, .int w6, .ref a12, .ref a13])]) := by
  refine CtN.of [(0, .ref m)] (by decide +kernel) rfl rfl rfl rfl ?_
  intro x Ox Rt
  refine k_aload_n Ox dX5_forget_0 rfl 0 rfl ?_
  refine k_get Ox 0 rfl rfl hin_X5_forget_X5 8 rfl lk_X5_forget_f152 rfl rfl dX5_forget_1 ?_
  refine k_istore_n Ox [(1, _), (0, _)] dX5_forget_4 rfl (by decide) rfl ?_
  refine k_aload_n Ox dX5_forget_5 rfl 1 rfl ?_
  refine k_iconst Ox (v := nI 0) dX5_forget_6 rfl ?_
  refine k_put Ox 0 rfl rfl hin_X5_forget_X5 8 rfl lk_X5_forget_f152 rfl tyX5 tyX5_ok nmX5 rfl  rfl rfl rfl [_, _, _, _, _, _, _, _, _, _, _, _, _, _, _, _, _, _, _, _, _, _] rfl [_] rfl dX5_forget_7 ?_
  refine k_iload_n Ox dX5_forget_10 rfl 0 rfl ?_
  refine k_iret0 Ox Rt dX5_forget_11 (Nat.le_of_ble_eq_true rfl) (Nat.le_of_ble_eq_true rfl) rfl ?_
  exact ⟨⟨rfl, rfl⟩, rfl⟩
theorem lk_X4_told_f10 : Cond.fieldLink RX4 10 "LieBridges" "now" "LLieBridges$Delta;" ∈ wsX4_told := List.mem_of_getElem? (i := 3) rfl
theorem hin_X4_told_X4 : ∀ w ∈ u_ws RX4 TX4 7, w ∈ wsX4_told := fun _ h => List.mem_cons_of_mem _ (List.mem_append_left _ (List.mem_append_left _ (List.mem_append_right _ h)))
theorem lk_X4_told_f62 : Cond.fieldLink RX4 62 "LieBridges$Delta" "trusted" "[I" ∈ wsX4_told := List.mem_of_getElem? (i := 6) rfl
theorem hin_X4_told_X1 : ∀ w ∈ u_ws RX1 TX1 11, w ∈ wsX4_told := fun _ h => List.mem_cons_of_mem _ (List.mem_append_right _ h)
theorem lk_X4_told_f69 : Cond.fieldLink RX4 69 "LieBridges$Delta" "known" "[I" ∈ wsX4_told := List.mem_of_getElem? (i := 7) rfl
theorem lk_X4_told_f233 : Cond.fieldLink RX4 233 "LieBridges$Delta" "layers" "[I" ∈ wsX4_told := List.mem_of_getElem? (i := 8) rfl
theorem lk_X4_told_f236 : Cond.fieldLink RX4 236 "LieBridges$Delta" "lessers" "[I" ∈ wsX4_told := List.mem_of_getElem? (i := 9) rfl
theorem lk_X4_told_f239 : Cond.fieldLink RX4 239 "LieBridges$Delta" "greaters" "[I" ∈ wsX4_told := List.mem_of_getElem? (i := 10) rfl
theorem lk_X4_told_f186 : Cond.fieldLink RX4 186 "LieBridges$Delta" "holds" "[I" ∈ wsX4_told := List.mem_of_getElem? (i := 11) rfl
theorem lk_X4_told_f206 : Cond.fieldLink RX4 206 "LieBridges$Delta" "sights" "I" ∈ wsX4_told := List.mem_of_getElem? (i := 5) rfl
theorem lk_X4_told_f83 : Cond.fieldLink RX4 83 "LieBridges$Delta" "fadeDays" "I" ∈ wsX4_told := List.mem_of_getElem? (i := 4) rfl
theorem lk_X4_told_f23 : Cond.fieldLink RX4 23 "LieBridges" "pad" "LLieBridges$Pad;" ∈ wsX4_told := List.mem_of_getElem? (i := 1) rfl
theorem lk_X4_told_f90 : Cond.fieldLink RX4 90 "LieBridges$Pad" "many" "I" ∈ wsX4_told := List.mem_of_getElem? (i := 2) rfl
theorem hin_X4_told_X2 : ∀ w ∈ u_ws RX2 TX2 8, w ∈ wsX4_told := fun _ h => List.mem_cons_of_mem _ (List.mem_append_left _ (List.mem_append_right _ h))
set_option maxHeartbeats 400000 in
set_option maxRecDepth 4000 in
theorem c_X4_told (G : Gx) (h d im pd wy tb gu ro ls gs ly hs tr kn sp sl be s0 kd sk hr pk : Nat) (L : Nat → Nat) (Gr : Nat → Nat) (O : Nat → Nat) (S : Nat → Nat) (T : Nat → Nat) (K : Nat → Nat) (P : Ps) (fd : Nat) (sg : Nat) (mn : Nat) (x1 : Int32) (hO : okP O) (hL : okP L) (hG : okP Gr) : Ct G yX4_told wsX4_told { frames := 1, cells := 0, slots := 0, locals := 21 } [.ref h, .int x1] [(h, cO 4 [.ref d, .ref im, .ref pd, .ref wy, .ref tb, .ref gu, .ref ro]), (d, cO 1 [.ref ls, .ref gs, .ref ly, .ref hs, .ref tr, .ref kn, .ref sp, .ref sl, .ref be, .int (nI fd), .int (nI sg)]), (pd, cO 2 [.ref s0, .int (nI mn), .ref kd, .ref sk, .ref hr, .ref pk, .int (nI (pN P)), .int (nI (pA P))]), (tr, cI G 6 (rN T)), (kn, cI G 6 (rN K)), (ly, cI G 6 (rN O)), (ls, cI G 6 (rN L)), (gs, cI G 6 (rN Gr)), (hs, cI G 6 (rN S))] (fun r wa => r = some (.int (tdR x1 mn fd sg T K O L Gr S)) ∧ wa = [(h, cO 4 [.ref d, .ref im, .ref pd, .ref wy, .ref tb, .ref gu, .ref ro]), (d, cO 1 [.ref ls, .ref gs, .ref ly, .ref hs, .ref tr, .ref kn, .ref sp, .ref sl, .ref be, .int (nI fd), .int (nI sg)]), (pd, cO 2 [.ref s0, .int (nI mn), .ref kd, .ref sk, .ref hr, .ref pk, .int (nI (pN P)), .int (nI (pA P))]), (tr, cI G 6 (rN T)), (kn, cI G 6 (rN K)), (ly, cI G 6 (rN O)), (ls, cI G 6 (rN L)), (gs, cI G 6 (rN Gr)), (hs, cI G 6 (rN S))]) := by
  refine CtN.of [(0, .ref h), (1, .int x1)] (by decide +kernel) rfl rfl rfl rfl ?_
  intro x Ox Rt
  refine k_iload_n Ox dX4_told_0 rfl 1 rfl ?_
  refine k_if_ne Ox 12 dX4_told_1 rfl (fun c_1 => ?_) (fun c_1 => ?_)
  · refine k_iload_n Ox dX4_told_12 rfl 1 rfl ?_
    refine k_iconst Ox (v := nI 1) dX4_told_13 rfl ?_
    refine k_icmp_ne Ox 25 dX4_told_14 rfl (fun c_14 => ?_) (fun c_14 => ?_)
    · refine k_iload_n Ox dX4_told_25 rfl 1 rfl ?_
      refine k_iconst Ox (v := nI 2) dX4_told_26 rfl ?_
      refine k_icmp_ne Ox 38 dX4_told_27 rfl (fun c_27 => ?_) (fun c_27 => ?_)
      · refine k_iload_n Ox dX4_told_38 rfl 1 rfl ?_
        refine k_bipush Ox (v := nI 10) dX4_told_39 rfl ?_
        refine k_irem Ox dX4_told_41 (by first | decide | assumption) ?_
        refine k_istore_n Ox [(2, _), (0, _), (1, _)] dX4_told_42 rfl (by decide) rfl ?_
        refine k_iload_n Ox dX4_told_43 rfl 2 rfl ?_
        refine k_bipush Ox (v := nI 10) dX4_told_44 rfl ?_
        refine k_icmp_lt Ox 55 dX4_told_46 rfl (fun c_46 => ?_) (fun c_46 => ?_)
        · refine k_bipush Ox (v := -2) dX4_told_55 (by decide) ?_
          refine k_iret0 Ox Rt dX4_told_57 (Nat.le_of_ble_eq_true rfl) (Nat.le_of_ble_eq_true rfl) rfl ?_
          exact ⟨⟨by first | rw [tdR, if_neg c_1, if_neg c_14, if_neg c_27, if_neg (td_no1 c_46)] | rw [tdR, if_neg c_1, if_neg c_14, if_neg c_27, if_neg (td_no2 ht c_52)], rfl⟩, rfl⟩
        · obtain ⟨t, ht0, ht, rfl⟩ := ge10_of c_46
          rw [pk_rem ht (by decide) (by decide)]
          refine k_iload_n Ox dX4_told_49 rfl 0 rfl ?_
          refine k_bipush Ox (v := nI 6) dX4_told_50 rfl ?_
          refine k_icmp_ltN Ox 58 dX4_told_52 rfl (by omega) (by omega) (fun c_52 => ?_) (fun c_52 => ?_)
          · have ho1 := hO (t % 10) c_52
            have hl1 := hL (t % 10) c_52
            have hg1 := hG (t % 10) c_52
            refine k_iload_n Ox dX4_told_58 rfl 2 rfl ?_
            refine k_bipush Ox (v := nI 10) dX4_told_59 rfl ?_
            refine k_idivN Ox dX4_told_61 (by omega) (by first | decide | omega) (by first | decide | omega) ?_
            rcases (show t / 10 = 1 ∨ t / 10 = 2 ∨ t / 10 = 3 ∨ t / 10 = 4 ∨ 4 < t / 10 by omega) with hd | hd | hd | hd | hd
            · rw [hd]
              refine k_tableIn Ox (off := 30) 92 dX4_told_62 (by decide) (by decide) (by decide) rfl ?_
              refine k_aload_n Ox dX4_told_92 rfl 1 rfl ?_
              refine k_get Ox 0 rfl rfl hin_X4_told_X4 0 rfl lk_X4_told_f10 rfl rfl dX4_told_93 ?_
              refine k_get Ox 1 rfl rfl hin_X4_told_X1 4 rfl lk_X4_told_f62 rfl rfl dX4_told_96 ?_
              refine k_iload_n Ox dX4_told_99 rfl 0 rfl ?_
              refine k_callS Ox [3] (c_X4_at G _ _ _ _ (by omega) (by decide)) 2 rfl rfl rfl ⟨rfl, rfl⟩ rfl rfl gX4_told_X4_at ⟨(by decide +kernel), (by decide +kernel), (by decide +kernel)⟩ rfl dX4_told_100 (Nat.le_of_ble_eq_true rfl) rfl ⟨Nat.le_of_ble_eq_true rfl, Nat.le_of_ble_eq_true rfl⟩ (fun r wa wb hp => ?_)
              obtain ⟨⟨rfl, rfl⟩, rfl⟩ := hp
              show V x G _ _ _ _ _ (.int _ :: _) [_, _, _, _, _, _, _, _, _]
              refine k_iret0 Ox Rt dX4_told_103 (Nat.le_of_ble_eq_true rfl) (Nat.le_of_ble_eq_true rfl) rfl ?_
              exact ⟨⟨td_v1 c_1 c_14 c_27 ht hd c_52, rfl⟩, rfl⟩
            · rw [hd]
              refine k_tableIn Ox (off := 42) 104 dX4_told_62 (by decide) (by decide) (by decide) rfl ?_
              refine k_aload_n Ox dX4_told_104 rfl 1 rfl ?_
              refine k_get Ox 0 rfl rfl hin_X4_told_X4 0 rfl lk_X4_told_f10 rfl rfl dX4_told_105 ?_
              refine k_get Ox 1 rfl rfl hin_X4_told_X1 5 rfl lk_X4_told_f69 rfl rfl dX4_told_108 ?_
              refine k_iload_n Ox dX4_told_111 rfl 0 rfl ?_
              refine k_callS Ox [4] (c_X4_at G _ _ _ _ (by omega) (by decide)) 2 rfl rfl rfl ⟨rfl, rfl⟩ rfl rfl gX4_told_X4_at ⟨(by decide +kernel), (by decide +kernel), (by decide +kernel)⟩ rfl dX4_told_112 (Nat.le_of_ble_eq_true rfl) rfl ⟨Nat.le_of_ble_eq_true rfl, Nat.le_of_ble_eq_true rfl⟩ (fun r wa wb hp => ?_)
              obtain ⟨⟨rfl, rfl⟩, rfl⟩ := hp
              show V x G _ _ _ _ _ (.int _ :: _) [_, _, _, _, _, _, _, _, _]
              refine k_iret0 Ox Rt dX4_told_115 (Nat.le_of_ble_eq_true rfl) (Nat.le_of_ble_eq_true rfl) rfl ?_
              exact ⟨⟨td_v2 c_1 c_14 c_27 ht hd c_52, rfl⟩, rfl⟩
            · rw [hd]
              refine k_tableIn Ox (off := 54) 116 dX4_told_62 (by decide) (by decide) (by decide) rfl ?_
              refine k_bipush Ox (v := nI 100) dX4_told_116 rfl ?_
              refine k_aload_n Ox dX4_told_118 rfl 1 rfl ?_
              refine k_get Ox 0 rfl rfl hin_X4_told_X4 0 rfl lk_X4_told_f10 rfl rfl dX4_told_119 ?_
              refine k_get Ox 1 rfl rfl hin_X4_told_X1 2 rfl lk_X4_told_f233 rfl rfl dX4_told_122 ?_
              refine k_iload_n Ox dX4_told_125 rfl 0 rfl ?_
              refine k_callS Ox [5] (c_X4_at G _ _ _ _ (by omega) (by decide)) 2 rfl rfl rfl ⟨rfl, rfl⟩ rfl rfl gX4_told_X4_at ⟨(by decide +kernel), (by decide +kernel), (by decide +kernel)⟩ rfl dX4_told_126 (Nat.le_of_ble_eq_true rfl) rfl ⟨Nat.le_of_ble_eq_true rfl, Nat.le_of_ble_eq_true rfl⟩ (fun r wa wb hp => ?_)
              obtain ⟨⟨rfl, rfl⟩, rfl⟩ := hp
              show V x G _ _ _ _ _ (.int _ :: _) [_, _, _, _, _, _, _, _, _]
              refine k_imulN Ox dX4_told_129 ?_
              refine k_bipush Ox (v := nI 10) dX4_told_130 rfl ?_
              refine k_aload_n Ox dX4_told_132 rfl 1 rfl ?_
              refine k_get Ox 0 rfl rfl hin_X4_told_X4 0 rfl lk_X4_told_f10 rfl rfl dX4_told_133 ?_
              refine k_get Ox 1 rfl rfl hin_X4_told_X1 0 rfl lk_X4_told_f236 rfl rfl dX4_told_136 ?_
              refine k_iload_n Ox dX4_told_139 rfl 0 rfl ?_
              refine k_callS Ox [6] (c_X4_at G _ _ _ _ (by omega) (by decide)) 2 rfl rfl rfl ⟨rfl, rfl⟩ rfl rfl gX4_told_X4_at ⟨(by decide +kernel), (by decide +kernel), (by decide +kernel)⟩ rfl dX4_told_140 (Nat.le_of_ble_eq_true rfl) rfl ⟨Nat.le_of_ble_eq_true rfl, Nat.le_of_ble_eq_true rfl⟩ (fun r wa wb hp => ?_)
              obtain ⟨⟨rfl, rfl⟩, rfl⟩ := hp
              show V x G _ _ _ _ _ (.int _ :: _) [_, _, _, _, _, _, _, _, _]
              refine k_imulN Ox dX4_told_143 ?_
              refine k_iaddN Ox dX4_told_144 ?_
              refine k_aload_n Ox dX4_told_145 rfl 1 rfl ?_
              refine k_get Ox 0 rfl rfl hin_X4_told_X4 0 rfl lk_X4_told_f10 rfl rfl dX4_told_146 ?_
              refine k_get Ox 1 rfl rfl hin_X4_told_X1 1 rfl lk_X4_told_f239 rfl rfl dX4_told_149 ?_
              refine k_iload_n Ox dX4_told_152 rfl 0 rfl ?_
              refine k_callS Ox [7] (c_X4_at G _ _ _ _ (by omega) (by decide)) 2 rfl rfl rfl ⟨rfl, rfl⟩ rfl rfl gX4_told_X4_at ⟨(by decide +kernel), (by decide +kernel), (by decide +kernel)⟩ rfl dX4_told_153 (Nat.le_of_ble_eq_true rfl) rfl ⟨Nat.le_of_ble_eq_true rfl, Nat.le_of_ble_eq_true rfl⟩ (fun r wa wb hp => ?_)
              obtain ⟨⟨rfl, rfl⟩, rfl⟩ := hp
              show V x G _ _ _ _ _ (.int _ :: _) [_, _, _, _, _, _, _, _, _]
              refine k_iaddN Ox dX4_told_156 ?_
              refine k_iret0 Ox Rt dX4_told_157 (Nat.le_of_ble_eq_true rfl) (Nat.le_of_ble_eq_true rfl) rfl ?_
              exact ⟨⟨td_v3 c_1 c_14 c_27 ht hd c_52, rfl⟩, rfl⟩
            · rw [hd]
              refine k_tableIn Ox (off := 96) 158 dX4_told_62 (by decide) (by decide) (by decide) rfl ?_
              refine k_aload_n Ox dX4_told_158 rfl 1 rfl ?_
              refine k_get Ox 0 rfl rfl hin_X4_told_X4 0 rfl lk_X4_told_f10 rfl rfl dX4_told_159 ?_
              refine k_get Ox 1 rfl rfl hin_X4_told_X1 3 rfl lk_X4_told_f186 rfl rfl dX4_told_162 ?_
              refine k_iload_n Ox dX4_told_165 rfl 0 rfl ?_
              refine k_callS Ox [8] (c_X4_at G _ _ _ _ (by omega) (by decide)) 2 rfl rfl rfl ⟨rfl, rfl⟩ rfl rfl gX4_told_X4_at ⟨(by decide +kernel), (by decide +kernel), (by decide +kernel)⟩ rfl dX4_told_166 (Nat.le_of_ble_eq_true rfl) rfl ⟨Nat.le_of_ble_eq_true rfl, Nat.le_of_ble_eq_true rfl⟩ (fun r wa wb hp => ?_)
              obtain ⟨⟨rfl, rfl⟩, rfl⟩ := hp
              show V x G _ _ _ _ _ (.int _ :: _) [_, _, _, _, _, _, _, _, _]
              refine k_iret0 Ox Rt dX4_told_169 (Nat.le_of_ble_eq_true rfl) (Nat.le_of_ble_eq_true rfl) rfl ?_
              exact ⟨⟨td_v4 c_1 c_14 c_27 ht hd c_52, rfl⟩, rfl⟩
            · refine k_tableOut Ox 170 dX4_told_62 (by rw [nI_tI (by omega)]; omega) rfl ?_
              refine k_bipush Ox (v := -2) dX4_told_170 (by decide) ?_
              refine k_iret0 Ox Rt dX4_told_172 (Nat.le_of_ble_eq_true rfl) (Nat.le_of_ble_eq_true rfl) rfl ?_
              exact ⟨⟨by rw [tdR, if_neg c_1, if_neg c_14, if_neg c_27, if_neg (td_no3 ht hd)], rfl⟩, rfl⟩
          · refine k_bipush Ox (v := -2) dX4_told_55 (by decide) ?_
            refine k_iret0 Ox Rt dX4_told_57 (Nat.le_of_ble_eq_true rfl) (Nat.le_of_ble_eq_true rfl) rfl ?_
            exact ⟨⟨by first | rw [tdR, if_neg c_1, if_neg c_14, if_neg c_27, if_neg (td_no1 c_46)] | rw [tdR, if_neg c_1, if_neg c_14, if_neg c_27, if_neg (td_no2 ht c_52)], rfl⟩, rfl⟩
      · refine k_aload_n Ox dX4_told_30 rfl 0 rfl ?_
        refine k_get Ox 0 rfl rfl hin_X4_told_X4 0 rfl lk_X4_told_f10 rfl rfl dX4_told_31 ?_
        refine k_get Ox 1 rfl rfl hin_X4_told_X1 10 rfl lk_X4_told_f206 rfl rfl dX4_told_34 ?_
        refine k_iret0 Ox Rt dX4_told_37 (Nat.le_of_ble_eq_true rfl) (Nat.le_of_ble_eq_true rfl) rfl ?_
        exact ⟨⟨by rw [tdR, if_neg c_1, if_neg c_14, if_pos c_27], rfl⟩, rfl⟩
    · refine k_aload_n Ox dX4_told_17 rfl 0 rfl ?_
      refine k_get Ox 0 rfl rfl hin_X4_told_X4 0 rfl lk_X4_told_f10 rfl rfl dX4_told_18 ?_
      refine k_get Ox 1 rfl rfl hin_X4_told_X1 9 rfl lk_X4_told_f83 rfl rfl dX4_told_21 ?_
      refine k_iret0 Ox Rt dX4_told_24 (Nat.le_of_ble_eq_true rfl) (Nat.le_of_ble_eq_true rfl) rfl ?_
      exact ⟨⟨by rw [tdR, if_neg c_1, if_pos c_14], rfl⟩, rfl⟩
  · refine k_aload_n Ox dX4_told_4 rfl 0 rfl ?_
    refine k_get Ox 0 rfl rfl hin_X4_told_X4 2 rfl lk_X4_told_f23 rfl rfl dX4_told_5 ?_
    refine k_get Ox 2 rfl rfl hin_X4_told_X2 1 rfl lk_X4_told_f90 rfl rfl dX4_told_8 ?_
    refine k_iret0 Ox Rt dX4_told_11 (Nat.le_of_ble_eq_true rfl) (Nat.le_of_ble_eq_true rfl) rfl ?_
    exact ⟨⟨by rw [tdR, if_pos c_1], rfl⟩, rfl⟩
theorem lk_X5_told_f152 : Cond.fieldLink RX5 152 "LieBridgesModel" "sights" "I" ∈ wsX5_told := List.mem_of_getElem? (i := 9) rfl
theorem hin_X5_told_X5 : ∀ w ∈ u_ws RX5 TX5 22, w ∈ wsX5_told := fun _ h => List.mem_cons_of_mem _ (List.mem_append_right _ h)
theorem lk_X5_told_f31 : Cond.fieldLink RX5 31 "LieBridgesModel" "fade" "I" ∈ wsX5_told := List.mem_of_getElem? (i := 8) rfl
theorem lk_X5_told_f62 : Cond.fieldLink RX5 62 "LieBridgesModel" "signs" "I" ∈ wsX5_told := List.mem_of_getElem? (i := 7) rfl
theorem lk_X5_told_f19 : Cond.fieldLink RX5 19 "LieBridgesModel" "trusts" "[I" ∈ wsX5_told := List.mem_of_getElem? (i := 1) rfl
theorem lk_X5_told_f22 : Cond.fieldLink RX5 22 "LieBridgesModel" "knows" "[I" ∈ wsX5_told := List.mem_of_getElem? (i := 2) rfl
theorem lk_X5_told_f16 : Cond.fieldLink RX5 16 "LieBridgesModel" "owner" "[I" ∈ wsX5_told := List.mem_of_getElem? (i := 3) rfl
theorem lk_X5_told_f7 : Cond.fieldLink RX5 7 "LieBridgesModel" "one" "[I" ∈ wsX5_told := List.mem_of_getElem? (i := 4) rfl
theorem lk_X5_told_f13 : Cond.fieldLink RX5 13 "LieBridgesModel" "two" "[I" ∈ wsX5_told := List.mem_of_getElem? (i := 5) rfl
theorem lk_X5_told_f28 : Cond.fieldLink RX5 28 "LieBridgesModel" "safety" "[I" ∈ wsX5_told := List.mem_of_getElem? (i := 6) rfl
set_option maxHeartbeats 400000 in
set_option maxRecDepth 4000 in
theorem c_X5_told (G : Gx) (m a1 a2 a3 a4 a5 a6 a7 a8 a9 a10 a11 a12 a13 : Nat) (fd sg mn : Nat) (w1 w2 w3 w4 w5 w6 : Int32) (T K O L Gr S : Nat → Nat) (x1 : Int32) (hO : okP O) (hL : okP L) (hG : okP Gr) : Ct G yX5_told wsX5_told { frames := 2, cells := 0, slots := 0, locals := 42 } [.ref m, .int x1] [(m, cO 5 [.ref a1, .ref a2, .ref a3, .ref a4, .ref a5, .ref a6, .ref a7, .int (nI fd), .int (nI sg), .ref a8, .int (nI mn), .ref a9, .ref a10, .int w1, .int w2, .ref a11, .int w3, .int w4, .int w5, .int w6, .ref a12, .ref a13]), (a4, cI G 6 (rN T)), (a5, cI G 6 (rN K)), (a3, cI G 6 (rN O)), (a1, cI G 6 (rN L)), (a2, cI G 6 (rN Gr)), (a7, cI G 6 (rN S))] (fun r wa => r = some (.int (tdR x1 mn fd sg T K O L Gr S)) ∧ wa = [(m, cO 5 [.ref a1, .ref a2, .ref a3, .ref a4, .ref a5, .ref a6, .ref a7, .int (nI fd), .int (nI sg), .ref a8, .int (nI mn), .ref a9, .ref a10, .int w1, .int w2, .ref a11, .int w3, .int w4, .int w5, .int w6, .ref a12, .ref a13]), (a4, cI G 6 (rN T)), (a5, cI G 6 (rN K)), (a3, cI G 6 (rN O)), (a1, cI G 6 (rN L)), (a2, cI G 6 (rN Gr)), (a7, cI G 6 (rN S))]) := by
  refine CtN.of [(0, .ref m), (1, .int x1)] (by decide +kernel) rfl rfl rfl rfl ?_
  intro x Ox Rt
  refine k_iload_n Ox dX5_told_0 rfl 1 rfl ?_
  refine k_bipush Ox (v := nI 10) dX5_told_1 rfl ?_
  refine k_irem Ox dX5_told_3 (by first | decide | assumption) ?_
  refine k_istore_n Ox [(2, _), (0, _), (1, _)] dX5_told_4 rfl (by decide) rfl ?_
  refine k_iload_n Ox dX5_told_5 rfl 2 rfl ?_
  refine k_bipush Ox (v := nI 10) dX5_told_6 rfl ?_
  refine k_icmp_lt Ox 104 dX5_told_8 rfl (fun c_8 => ?_) (fun c_8 => ?_)
  · refine k_iload_n Ox dX5_told_104 rfl 2 rfl ?_
    refine k_if_ne Ox 115 dX5_told_105 rfl (fun c_105 => ?_) (fun c_105 => ?_)
    · refine k_iload_n Ox dX5_told_115 rfl 2 rfl ?_
      refine k_iconst Ox (v := nI 1) dX5_told_116 rfl ?_
      refine k_icmp_ne Ox 127 dX5_told_117 rfl (fun c_117 => ?_) (fun c_117 => ?_)
      · refine k_iload_n Ox dX5_told_127 rfl 2 rfl ?_
        refine k_iconst Ox (v := nI 2) dX5_told_128 rfl ?_
        refine k_icmp_ne Ox 139 dX5_told_129 rfl (fun c_129 => ?_) (fun c_129 => ?_)
        · refine k_bipush Ox (v := -2) dX5_told_139 (by decide) ?_
          refine k_iret0 Ox Rt dX5_told_141 (Nat.le_of_ble_eq_true rfl) (Nat.le_of_ble_eq_true rfl) rfl ?_
          first | exact ⟨⟨by rw [tdR, if_pos c_105], rfl⟩, rfl⟩ | exact ⟨⟨by rw [tdR, if_neg c_105, if_pos c_117], rfl⟩, rfl⟩ | exact ⟨⟨by rw [tdR, if_neg c_105, if_neg c_117, if_pos c_129], rfl⟩, rfl⟩ | exact ⟨⟨by rw [tdR, if_neg c_105, if_neg c_117, if_neg c_129, if_neg (td_no1 c_8)], rfl⟩, rfl⟩
        · refine k_aload_n Ox dX5_told_132 rfl 1 rfl ?_
          refine k_get Ox 0 rfl rfl hin_X5_told_X5 8 rfl lk_X5_told_f152 rfl rfl dX5_told_133 ?_
          refine k_goto Ox 141 dX5_told_136 rfl ?_
          refine k_iret0 Ox Rt dX5_told_141 (Nat.le_of_ble_eq_true rfl) (Nat.le_of_ble_eq_true rfl) rfl ?_
          first | exact ⟨⟨by rw [tdR, if_pos c_105], rfl⟩, rfl⟩ | exact ⟨⟨by rw [tdR, if_neg c_105, if_pos c_117], rfl⟩, rfl⟩ | exact ⟨⟨by rw [tdR, if_neg c_105, if_neg c_117, if_pos c_129], rfl⟩, rfl⟩ | exact ⟨⟨by rw [tdR, if_neg c_105, if_neg c_117, if_neg c_129, if_neg (td_no1 c_8)], rfl⟩, rfl⟩
      · refine k_aload_n Ox dX5_told_120 rfl 1 rfl ?_
        refine k_get Ox 0 rfl rfl hin_X5_told_X5 7 rfl lk_X5_told_f31 rfl rfl dX5_told_121 ?_
        refine k_goto Ox 141 dX5_told_124 rfl ?_
        refine k_iret0 Ox Rt dX5_told_141 (Nat.le_of_ble_eq_true rfl) (Nat.le_of_ble_eq_true rfl) rfl ?_
        first | exact ⟨⟨by rw [tdR, if_pos c_105], rfl⟩, rfl⟩ | exact ⟨⟨by rw [tdR, if_neg c_105, if_pos c_117], rfl⟩, rfl⟩ | exact ⟨⟨by rw [tdR, if_neg c_105, if_neg c_117, if_pos c_129], rfl⟩, rfl⟩ | exact ⟨⟨by rw [tdR, if_neg c_105, if_neg c_117, if_neg c_129, if_neg (td_no1 c_8)], rfl⟩, rfl⟩
    · refine k_aload_n Ox dX5_told_108 rfl 1 rfl ?_
      refine k_get Ox 0 rfl rfl hin_X5_told_X5 10 rfl lk_X5_told_f62 rfl rfl dX5_told_109 ?_
      refine k_goto Ox 141 dX5_told_112 rfl ?_
      refine k_iret0 Ox Rt dX5_told_141 (Nat.le_of_ble_eq_true rfl) (Nat.le_of_ble_eq_true rfl) rfl ?_
      first | exact ⟨⟨by rw [tdR, if_pos c_105], rfl⟩, rfl⟩ | exact ⟨⟨by rw [tdR, if_neg c_105, if_pos c_117], rfl⟩, rfl⟩ | exact ⟨⟨by rw [tdR, if_neg c_105, if_neg c_117, if_pos c_129], rfl⟩, rfl⟩ | exact ⟨⟨by rw [tdR, if_neg c_105, if_neg c_117, if_neg c_129, if_neg (td_no1 c_8)], rfl⟩, rfl⟩
  · refine k_iload_n Ox dX5_told_11 rfl 2 rfl ?_
    refine k_bipush Ox (v := nI 49) dX5_told_12 rfl ?_
    refine k_icmp_gt Ox 24 dX5_told_14 rfl (fun c_14 => ?_) (fun c_14 => ?_)
    · refine k_bipush Ox (v := -2) dX5_told_24 (by decide) ?_
      refine k_iret0 Ox Rt dX5_told_26 (Nat.le_of_ble_eq_true rfl) (Nat.le_of_ble_eq_true rfl) rfl ?_
      first | exact ⟨⟨td_hi c_8 c_14, rfl⟩, rfl⟩ | exact ⟨⟨td_r6 ht0 ht c_21, rfl⟩, rfl⟩
    · obtain ⟨t, ht0, ht, rfl⟩ := ge10_of c_8
      have ht49 : t ≤ 49 := le49_of ht c_14
      rw [pk_rem ht (by decide) (by decide)]
      refine k_iload_n Ox dX5_told_17 rfl 0 rfl ?_
      refine k_callS Ox [] (c_X5_is6 G _ ) 1 rfl rfl rfl ⟨rfl, rfl⟩ rfl rfl gX5_told_X5_is6 ⟨(by decide +kernel), (by decide +kernel), (by decide +kernel)⟩ rfl dX5_told_18 (Nat.le_of_ble_eq_true rfl) rfl ⟨Nat.le_of_ble_eq_true rfl, Nat.le_of_ble_eq_true rfl⟩ (fun r wa wb hp => ?_)
      obtain ⟨⟨rfl, rfl⟩, rfl⟩ := hp
      show V x G _ _ _ _ _ (.int _ :: _) [_, _, _, _, _, _, _]
      refine k_if_neB Ox 27 dX5_told_21 rfl (fun c_21 => ?_) (fun c_21 => ?_)
      · have c_52 := in6_lt c_21 (by omega)
        have ho1 := hO (t % 10) c_52
        have hl1 := hL (t % 10) c_52
        have hg1 := hG (t % 10) c_52
        have e0 := t10_ne0 ht0 ht
        have e1 := t10_ne1 ht0 ht
        have e2 := t10_ne2 ht0 ht
        refine k_iload_n Ox dX5_told_27 rfl 2 rfl ?_
        refine k_bipush Ox (v := nI 10) dX5_told_28 rfl ?_
        refine k_idivN Ox dX5_told_30 (by omega) (by first | decide | omega) (by first | decide | omega) ?_
        rcases (show t / 10 = 1 ∨ t / 10 = 2 ∨ t / 10 = 3 ∨ t / 10 = 4 by omega) with hd | hd | hd | hd
        · rw [hd]
          refine k_tableIn Ox (off := 25) 56 dX5_told_31 (by decide) (by decide) (by decide) rfl ?_
          refine k_aload_n Ox dX5_told_56 rfl 1 rfl ?_
          refine k_get Ox 0 rfl rfl hin_X5_told_X5 3 rfl lk_X5_told_f19 rfl rfl dX5_told_57 ?_
          refine k_iload_n Ox dX5_told_60 rfl 0 rfl ?_
          refine k_iald Ox 1 rfl (by omega) (by first | decide | omega) dX5_told_61 ?_
          refine k_iret0 Ox Rt dX5_told_62 (Nat.le_of_ble_eq_true rfl) (Nat.le_of_ble_eq_true rfl) rfl ?_
          exact ⟨⟨td_v1 e0 e1 e2 ht hd c_52, rfl⟩, rfl⟩
        · rw [hd]
          refine k_tableIn Ox (off := 32) 63 dX5_told_31 (by decide) (by decide) (by decide) rfl ?_
          refine k_aload_n Ox dX5_told_63 rfl 1 rfl ?_
          refine k_get Ox 0 rfl rfl hin_X5_told_X5 4 rfl lk_X5_told_f22 rfl rfl dX5_told_64 ?_
          refine k_iload_n Ox dX5_told_67 rfl 0 rfl ?_
          refine k_iald Ox 2 rfl (by omega) (by first | decide | omega) dX5_told_68 ?_
          refine k_iret0 Ox Rt dX5_told_69 (Nat.le_of_ble_eq_true rfl) (Nat.le_of_ble_eq_true rfl) rfl ?_
          exact ⟨⟨td_v2 e0 e1 e2 ht hd c_52, rfl⟩, rfl⟩
        · rw [hd]
          refine k_tableIn Ox (off := 39) 70 dX5_told_31 (by decide) (by decide) (by decide) rfl ?_
          refine k_bipush Ox (v := nI 100) dX5_told_70 rfl ?_
          refine k_aload_n Ox dX5_told_72 rfl 1 rfl ?_
          refine k_get Ox 0 rfl rfl hin_X5_told_X5 2 rfl lk_X5_told_f16 rfl rfl dX5_told_73 ?_
          refine k_iload_n Ox dX5_told_76 rfl 0 rfl ?_
          refine k_iald Ox 3 rfl (by omega) (by first | decide | omega) dX5_told_77 ?_
          refine k_imulN Ox dX5_told_78 ?_
          refine k_bipush Ox (v := nI 10) dX5_told_79 rfl ?_
          refine k_aload_n Ox dX5_told_81 rfl 1 rfl ?_
          refine k_get Ox 0 rfl rfl hin_X5_told_X5 0 rfl lk_X5_told_f7 rfl rfl dX5_told_82 ?_
          refine k_iload_n Ox dX5_told_85 rfl 0 rfl ?_
          refine k_iald Ox 4 rfl (by omega) (by first | decide | omega) dX5_told_86 ?_
          refine k_imulN Ox dX5_told_87 ?_
          refine k_iaddN Ox dX5_told_88 ?_
          refine k_aload_n Ox dX5_told_89 rfl 1 rfl ?_
          refine k_get Ox 0 rfl rfl hin_X5_told_X5 1 rfl lk_X5_told_f13 rfl rfl dX5_told_90 ?_
          refine k_iload_n Ox dX5_told_93 rfl 0 rfl ?_
          refine k_iald Ox 5 rfl (by omega) (by first | decide | omega) dX5_told_94 ?_
          refine k_iaddN Ox dX5_told_95 ?_
          refine k_iret0 Ox Rt dX5_told_96 (Nat.le_of_ble_eq_true rfl) (Nat.le_of_ble_eq_true rfl) rfl ?_
          exact ⟨⟨td_v3 e0 e1 e2 ht hd c_52, rfl⟩, rfl⟩
        · rw [hd]
          refine k_tableOut Ox 97 dX5_told_31 (by decide) rfl ?_
          refine k_aload_n Ox dX5_told_97 rfl 1 rfl ?_
          refine k_get Ox 0 rfl rfl hin_X5_told_X5 6 rfl lk_X5_told_f28 rfl rfl dX5_told_98 ?_
          refine k_iload_n Ox dX5_told_101 rfl 0 rfl ?_
          refine k_iald Ox 6 rfl (by omega) (by first | decide | omega) dX5_told_102 ?_
          refine k_iret0 Ox Rt dX5_told_103 (Nat.le_of_ble_eq_true rfl) (Nat.le_of_ble_eq_true rfl) rfl ?_
          exact ⟨⟨td_v4 e0 e1 e2 ht hd c_52, rfl⟩, rfl⟩
      · refine k_bipush Ox (v := -2) dX5_told_24 (by decide) ?_
        refine k_iret0 Ox Rt dX5_told_26 (Nat.le_of_ble_eq_true rfl) (Nat.le_of_ble_eq_true rfl) rfl ?_
        first | exact ⟨⟨td_hi c_8 c_14, rfl⟩, rfl⟩ | exact ⟨⟨td_r6 ht0 ht c_21, rfl⟩, rfl⟩
