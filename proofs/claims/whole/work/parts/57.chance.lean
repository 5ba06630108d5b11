set_option maxHeartbeats 400000 in
set_option maxRecDepth 4000 in
theorem c_X4_sharedDivisor (G : Gx) (a b : Nat) (ha : a ≤ 1000000) (h0 : 0 < a) (hb : b ≤ a) : Ct G yX4_sharedDivisor wsX4_sharedDivisor { frames := 0, cells := 0, slots := 0, locals := 0 } [.long (lI (a : Int)), .long (lI (b : Int))] [] (fun r wa => r = some (.long (lI (Nat.gcd a b : Nat))) ∧ wa = []) := by
  refine CtN.of [(0, .long (lI (a : Int))), (2, .long (lI (b : Int)))] (by decide +kernel) rfl rfl rfl rfl ?_
  intro x Ox Rt
  refine k_lload_n Ox dX4_sharedDivisor_0 rfl 0 rfl ?_
  refine k_lstore Ox [(4, _), (0, _), (2, _)] dX4_sharedDivisor_1 (by decide) rfl ?_
  refine k_lload_n Ox dX4_sharedDivisor_3 rfl 2 rfl ?_
  refine k_lstore Ox [(6, _), (4, _), (0, _), (2, _)] dX4_sharedDivisor_4 (by decide) rfl ?_
  refine k_iconst Ox (v := nI 0) dX4_sharedDivisor_6 rfl ?_
  refine k_istore Ox [(8, _), (6, _), (4, _), (0, _), (2, _)] dX4_sharedDivisor_7 (by decide) rfl ?_
  have L9 : ∀ (fuel : Nat) (t x1 y : Nat), t ≤ 100 → 101 ≤ t + fuel → y ≤ x1 → 0 < x1 → x1 ≤ 1000000 → x1 * y * 2 ^ t ≤ 1000000000000 → Nat.gcd x1 y = Nat.gcd a b → V x G 11 0 0 9 [(0, .long (lI (a : Int))), (2, .long (lI (b : Int))), (4, .long (lI (x1 : Int))), (6, .long (lI (y : Int))), (8, .int (nI t))] [] [] := by
    intro fuel
    induction fuel with
    | zero => intro t x1 y ht hfuel hyx hx0 hx1 hm hg; exact absurd ht (by omega)
    | succ fuel ih =>
      intro t x1 y ht hfuel hyx hx0 hx1 hm hg
      refine k_iload Ox dX4_sharedDivisor_9 4 rfl ?_
      refine k_bipush Ox (v := nI 100) dX4_sharedDivisor_11 rfl ?_
      refine k_icmp_geN Ox 44 dX4_sharedDivisor_13 rfl (by omega) (by omega) (fun c_13 => ?_) (fun c_13 => ?_)
      · obtain rfl : t = 100 := by omega
        have hy : y = 0 := sd_100 hx0 hm
        refine k_lload Ox dX4_sharedDivisor_44 2 rfl ?_
        refine k_lret0 Ox Rt dX4_sharedDivisor_46 (Nat.le_of_ble_eq_true rfl) (Nat.le_of_ble_eq_true rfl) rfl ?_
        exact ⟨⟨by rw [← hg, hy, Nat.gcd_zero_right], rfl⟩, rfl⟩
      · refine k_lload Ox dX4_sharedDivisor_16 3 rfl ?_
        refine k_lconst Ox (v := 0) dX4_sharedDivisor_18 rfl ?_
        refine k_lcmp Ox dX4_sharedDivisor_19 ?_
        refine k_if_eq Ox 44 dX4_sharedDivisor_20 rfl (fun c_20 => ?_) (fun c_20 => ?_)
        · have hy : y = 0 := sd_z (by omega) c_20
          refine k_lload Ox dX4_sharedDivisor_44 2 rfl ?_
          refine k_lret0 Ox Rt dX4_sharedDivisor_46 (Nat.le_of_ble_eq_true rfl) (Nat.le_of_ble_eq_true rfl) rfl ?_
          exact ⟨⟨by rw [← hg, hy, Nat.gcd_zero_right], rfl⟩, rfl⟩
        · have hy0 : 0 < y := sd_nz (by omega) c_20
          refine k_lload Ox dX4_sharedDivisor_23 2 rfl ?_
          refine k_lload Ox dX4_sharedDivisor_25 3 rfl ?_
          refine k_lrem Ox dX4_sharedDivisor_27 (sd_ne (by omega) hy0) ?_
          rw [sd_rem (by omega) (by omega) hy0]
          refine k_lstore Ox [(9, _), (0, _), (2, _), (4, _), (6, _), (8, _)] dX4_sharedDivisor_28 (by decide) rfl ?_
          refine k_lload Ox dX4_sharedDivisor_30 4 rfl ?_
          refine k_lstore Ox [(4, _), (9, _), (0, _), (2, _), (6, _), (8, _)] dX4_sharedDivisor_32 (by decide) rfl ?_
          refine k_lload Ox dX4_sharedDivisor_34 1 rfl ?_
          refine k_lstore Ox [(6, _), (4, _), (9, _), (0, _), (2, _), (8, _)] dX4_sharedDivisor_36 (by decide) rfl ?_
          refine k_iincN Ox (k := 5) (m := 1) [(8, _), (6, _), (4, _), (9, _), (0, _), (2, _)] dX4_sharedDivisor_38 rfl rfl (by decide) rfl ?_
          refine k_goto Ox 9 dX4_sharedDivisor_41 rfl ?_
          refine k_sub [4, 5, 2, 1, 0] [(0, _), (2, _), (4, _), (6, _), (8, _)] rfl ?_
          exact ih (t + 1) _ _ (by omega) (by omega) (by have := Nat.mod_lt x1 hy0; omega) hy0 (by omega) (sd_m hyx hy0 hm) (by rw [← hg]; exact sd_g x1 y)
  refine k_sub [3, 4, 2, 1, 0] [(0, _), (2, _), (4, _), (6, _), (8, _)] rfl ?_
  exact L9 101 0 a b (by omega) (by omega) hb h0 ha (sd_0 ha hb) rfl
theorem lk_X4_chance_k196 : Cond.constantLong RX4 196 (-1000000000000000001) ∈ wsX4_chance := List.mem_of_getElem? (i := 1) rfl
theorem lk_X4_chance_f30 : Cond.fieldLink RX4 30 "LieBridges" "ways" "LLieBridges$Ways;" ∈ wsX4_chance := List.mem_of_getElem? (i := 3) rfl
theorem hin_X4_chance_X4 : ∀ w ∈ u_ws RX4 TX4 7, w ∈ wsX4_chance := fun _ h => List.mem_cons_of_mem _ (List.mem_append_left _ (List.mem_append_left _ (List.mem_append_right _ h)))
theorem lk_X4_chance_k200 : Cond.constantLong RX4 200 (1000000) ∈ wsX4_chance := List.mem_of_getElem? (i := 5) rfl
theorem lk_X4_chance_f160 : Cond.fieldLink RX4 160 "LieBridges$Ways" "worth" "J" ∈ wsX4_chance := List.mem_of_getElem? (i := 4) rfl
theorem hin_X4_chance_X3 : ∀ w ∈ u_ws RX3 TX3 7, w ∈ wsX4_chance := fun _ h => List.mem_cons_of_mem _ (List.mem_append_left _ (List.mem_append_right _ h))
theorem lk_X4_chance_k198 : Cond.constantLong RX4 198 (-1000000000000000002) ∈ wsX4_chance := List.mem_of_getElem? (i := 2) rfl
set_option maxHeartbeats 400000 in
set_option maxRecDepth 4000 in
theorem c_X4_chance (G : Gx) (h d im pd wy tb gu ro ls gs ly hs tr kn sp sl be wt td bs : Nat) (L : Nat → Nat) (Gr : Nat → Nat) (S : Nat → Nat) (fd : Nat) (sg : Nat) (z1 : Int32) (z2 : Int32) (W : Nat → Option Nat) (s : Ws) (x1 x2 x3 : Int32) (hL : okP L) (hG : okP Gr) (hws : okWs s) (hww : okWt W) (hS : okS S) : Ct G yX4_chance wsX4_chance { frames := 17, cells := 0, slots := 0, locals := 454 } [.ref h, .int x1, .int x2, .int x3] [(h, cO 4 [.ref d, .ref im, .ref pd, .ref wy, .ref tb, .ref gu, .ref ro]), (d, cO 1 [.ref ls, .ref gs, .ref ly, .ref hs, .ref tr, .ref kn, .ref sp, .ref sl, .ref be, .int (nI fd), .int (nI sg)]), (ls, cI G 6 (rN L)), (gs, cI G 6 (rN Gr)), (hs, cI G 6 (rN S)), (wy, cO 3 [.ref wt, .ref td, .ref bs, .int z1, .int z2, .int (lnI (wL s)), .long (lI (wV s))]), (wt, cI G 6 (rW W)), (td, cI G 6 (rN (wT s))), (bs, cI G 6 (rN (wB s)))] (fun r wa => r = some (.long (caR L Gr S s x1 x2 x3)) ∧ ∃ W9 : Nat → Option Nat, ∃ s9 : Ws, ∃ z91 : Int32, ∃ z92 : Int32, okWs s9 ∧ okWt W9 ∧ wa = [(h, cO 4 [.ref d, .ref im, .ref pd, .ref wy, .ref tb, .ref gu, .ref ro]), (d, cO 1 [.ref ls, .ref gs, .ref ly, .ref hs, .ref tr, .ref kn, .ref sp, .ref sl, .ref be, .int (nI fd), .int (nI sg)]), (ls, cI G 6 (rN L)), (gs, cI G 6 (rN Gr)), (hs, cI G 6 (rN S)), (wy, cO 3 [.ref wt, .ref td, .ref bs, .int z91, .int z92, .int (lnI (wL s9)), .long (lI (wV s9))]), (wt, cI G 6 (rW W9)), (td, cI G 6 (rN (wT s9))), (bs, cI G 6 (rN (wB s9)))]) := by
  refine CtN.of [(0, .ref h), (1, .int x1), (2, .int x2), (3, .int x3)] (by decide +kernel) rfl rfl rfl rfl ?_
  intro x Ox Rt
  refine k_iload_n Ox dX4_chance_0 rfl 1 rfl ?_
  refine k_callS Ox [] (c_X4_isIsland G _ ) 1 rfl rfl rfl ⟨rfl, rfl⟩ rfl rfl gX4_chance_X4_isIsland ⟨(by decide +kernel), (by decide +kernel), (by decide +kernel)⟩ rfl dX4_chance_1 (Nat.le_of_ble_eq_true rfl) rfl ⟨Nat.le_of_ble_eq_true rfl, Nat.le_of_ble_eq_true rfl⟩ (fun r wa wb hp => ?_)
  obtain ⟨⟨rfl, rfl⟩, rfl⟩ := hp
  show V x G _ _ _ _ _ (.int _ :: _) [_, _, _, _, _, _, _, _, _]
  refine k_if_eqB Ox 14 dX4_chance_4 rfl (fun c_4 => ?_) (fun c_4 => ?_)
  · have hf : (inR 0 5 x1 && inR 0 5 x2) = false := by rw [c_4]; rfl
    refine k_ldc2 Ox (-1000000000000000001) dX4_chance_14 lk_X4_chance_k196 ?_
    refine k_lret0 Ox Rt dX4_chance_17 (Nat.le_of_ble_eq_true rfl) (Nat.le_of_ble_eq_true rfl) rfl ?_
    exact ⟨⟨by rw [caR, if_neg (by rw [hf]; decide)], _, _, _, _, hws, hww, rfl⟩, rfl⟩
  · refine k_iload_n Ox dX4_chance_7 rfl 2 rfl ?_
    refine k_callS Ox [] (c_X4_isIsland G _ ) 1 rfl rfl rfl ⟨rfl, rfl⟩ rfl rfl gX4_chance_X4_isIsland ⟨(by decide +kernel), (by decide +kernel), (by decide +kernel)⟩ rfl dX4_chance_8 (Nat.le_of_ble_eq_true rfl) rfl ⟨Nat.le_of_ble_eq_true rfl, Nat.le_of_ble_eq_true rfl⟩ (fun r wa wb hp => ?_)
    obtain ⟨⟨rfl, rfl⟩, rfl⟩ := hp
    show V x G _ _ _ _ _ (.int _ :: _) [_, _, _, _, _, _, _, _, _]
    refine k_if_neB Ox 18 dX4_chance_11 rfl (fun c_11 => ?_) (fun c_11 => ?_)
    · refine k_iload_n Ox dX4_chance_18 rfl 3 rfl ?_
      refine k_callS Ox [] (c_X4_isChoice G _ ) 1 rfl rfl rfl ⟨rfl, rfl⟩ rfl rfl gX4_chance_X4_isChoice ⟨(by decide +kernel), (by decide +kernel), (by decide +kernel)⟩ rfl dX4_chance_19 (Nat.le_of_ble_eq_true rfl) rfl ⟨Nat.le_of_ble_eq_true rfl, Nat.le_of_ble_eq_true rfl⟩ (fun r wa wb hp => ?_)
      obtain ⟨⟨rfl, rfl⟩, rfl⟩ := hp
      show V x G _ _ _ _ _ (.int _ :: _) [_, _, _, _, _, _, _, _, _]
      refine k_if_neB Ox 29 dX4_chance_22 rfl (fun c_22 => ?_) (fun c_22 => ?_)
      · obtain ⟨j1, hj1, rfl⟩ := in6_of c_4
        obtain ⟨j2, hj2, rfl⟩ := in6_of c_11
        have hwt := sS_ok hS
        have hsz := wkF_ok (L := L) (Gr := Gr) (lk := true) (go := j2) hwt 5 (by omega) j1 (2 ^ j1) 1000000 (wT s, wB s, none, 0) vOK_t0 ⟨⟨by show (-1000 : Int) ≤ 0; omega, by show (0 : Int) ≤ 1000000; omega⟩, fun l hl => by cases hl⟩
        have hnn := wkF_nn (L := L) (Gr := Gr) (go := j2) hwt 5 (by omega) j1 (2 ^ j1) 1000000 (wT s, wB s, none, 0) vOK_t0 (show (0 : Int) ≤ 0 by omega)
        obtain ⟨u, hu, hu2⟩ := ca_u hsz hnn
        refine k_aload_n Ox dX4_chance_29 rfl 0 rfl ?_
        refine k_iload_n Ox dX4_chance_30 rfl 1 rfl ?_
        refine k_iload_n Ox dX4_chance_31 rfl 2 rfl ?_
        refine k_callV Ox [0, 1, 2, 3, 4, 5, 6, 7, 8] (c_X4_findSafest G _ _ _ _ _ _ _ _ _ _ _ _ _ _ _ _ _ _ _ _ _ _ _ _ _ _ _ _ _ _ _ (hL) (hG) (hS) (hj1) (hj2)) 2 rfl rfl rfl ⟨rfl, rfl⟩ rfl rfl gX4_chance_X4_findSafest rfl 0 rfl ⟨rfl, (by decide +kernel), (by decide +kernel), (by decide +kernel)⟩ rfl dX4_chance_32 (Nat.le_of_ble_eq_true rfl) rfl ⟨Nat.le_of_ble_eq_true rfl, Nat.le_of_ble_eq_true rfl⟩ (fun r wa wb hp => ?_)
        obtain ⟨⟨rfl, rfl⟩, rfl⟩ := hp
        show V x G _ _ _ _ _ _ [_, _, _, _, _, _, _, _, _]
        refine k_aload_n Ox dX4_chance_35 rfl 0 rfl ?_
        refine k_get Ox 0 rfl rfl hin_X4_chance_X4 3 rfl lk_X4_chance_f30 rfl rfl dX4_chance_36 ?_
        refine k_callV Ox [5] (c_X3_foundR G _ _ _ _ _ _ _ (hsz)) 0 rfl rfl rfl ⟨rfl, rfl⟩ rfl rfl gX4_chance_X3_found rfl 5 rfl ⟨rfl, (by decide +kernel), (by decide +kernel), (by decide +kernel)⟩ rfl dX4_chance_39 (Nat.le_of_ble_eq_true rfl) rfl ⟨Nat.le_of_ble_eq_true rfl, Nat.le_of_ble_eq_true rfl⟩ (fun r wa wb hp => ?_)
        obtain ⟨⟨rfl, rfl⟩, rfl⟩ := hp
        show V x G _ _ _ _ _ (.int _ :: _) [_, _, _, _, _, _, _, _, _]
        refine k_if_eqB Ox 55 dX4_chance_42 rfl (fun c_42 => ?_) (fun c_42 => ?_)
        · have hun : u = 0 := ca_no hu c_42
          refine k_lconst Ox (v := 0) dX4_chance_55 rfl ?_
          first | refine k_topl (lI (u : Int)) (by rw [hun]; rfl) ?_ | skip
          refine k_lstore Ox [(4, _), (0, _), (1, _), (2, _), (3, _)] dX4_chance_56 (by decide) rfl ?_
          have hg0 : 0 < Nat.gcd 1000000 u := Nat.gcd_pos_of_pos_left _ (by decide)
          have hg1 : Nat.gcd 1000000 u ≤ 1000000 := Nat.le_of_dvd (by decide) (Nat.gcd_dvd_left _ _)
          refine k_ldc2 Ox (1000000) dX4_chance_58 lk_X4_chance_k200 ?_
          refine k_lload Ox dX4_chance_61 0 rfl ?_
          refine k_callS Ox [] (c_X4_sharedDivisor G 1000000 u (by decide) (by decide) (by omega)) 2 rfl rfl rfl ⟨rfl, rfl⟩ rfl rfl gX4_chance_X4_sharedDivisor ⟨(by decide +kernel), (by decide +kernel), (by decide +kernel)⟩ rfl dX4_chance_63 (Nat.le_of_ble_eq_true rfl) rfl ⟨Nat.le_of_ble_eq_true rfl, Nat.le_of_ble_eq_true rfl⟩ (fun r wa wb hp => ?_)
          obtain ⟨⟨rfl, rfl⟩, rfl⟩ := hp
          show V x G _ _ _ _ _ (.long _ :: _) [_, _, _, _, _, _, _, _, _]
          refine k_lstore Ox [(6, _), (4, _), (0, _), (1, _), (2, _), (3, _)] dX4_chance_66 (by decide) rfl ?_
          refine k_lload Ox dX4_chance_68 0 rfl ?_
          refine k_lconst Ox (v := 0) dX4_chance_70 rfl ?_
          refine k_lcmp Ox dX4_chance_71 ?_
          refine k_if_gt Ox 77 dX4_chance_72 rfl (fun c_72 => ?_) (fun c_72 => ?_)
          · refine k_iload_n Ox dX4_chance_77 rfl 5 rfl ?_
            refine k_if_ne Ox 89 dX4_chance_78 rfl (fun c_78 => ?_) (fun c_78 => ?_)
            · refine k_ldc2 Ox (1000000) dX4_chance_89 lk_X4_chance_k200 ?_
              refine k_lload Ox dX4_chance_92 0 rfl ?_
              refine k_ldiv Ox dX4_chance_94 (sd_ne (by omega) hg0) ?_
              refine k_lret0 Ox Rt dX4_chance_95 (Nat.le_of_ble_eq_true rfl) (Nat.le_of_ble_eq_true rfl) rfl ?_
              first | exact ⟨⟨by rw [caR, if_pos (and_tt c_4 c_11), if_pos c_22, nn_nI (by omega), nn_nI (by omega), hu, if_pos c_78, ca_d1 hg0 hg1 hu2], _, _, _, _, hsz, hwt, rfl⟩, rfl⟩ | exact ⟨⟨by rw [caR, if_pos (and_tt c_4 c_11), if_pos c_22, nn_nI (by omega), nn_nI (by omega), hu, if_neg c_78, ca_d2 hg0 hg1], _, _, _, _, hsz, hwt, rfl⟩, rfl⟩
            · refine k_lload Ox dX4_chance_81 1 rfl ?_
              refine k_lload Ox dX4_chance_83 0 rfl ?_
              refine k_ldiv Ox dX4_chance_85 (sd_ne (by omega) hg0) ?_
              refine k_goto Ox 95 dX4_chance_86 rfl ?_
              refine k_lret0 Ox Rt dX4_chance_95 (Nat.le_of_ble_eq_true rfl) (Nat.le_of_ble_eq_true rfl) rfl ?_
              first | exact ⟨⟨by rw [caR, if_pos (and_tt c_4 c_11), if_pos c_22, nn_nI (by omega), nn_nI (by omega), hu, if_pos c_78, ca_d1 hg0 hg1 hu2], _, _, _, _, hsz, hwt, rfl⟩, rfl⟩ | exact ⟨⟨by rw [caR, if_pos (and_tt c_4 c_11), if_pos c_22, nn_nI (by omega), nn_nI (by omega), hu, if_neg c_78, ca_d2 hg0 hg1], _, _, _, _, hsz, hwt, rfl⟩, rfl⟩
          · exfalso; exact ca_pos hg0 hg1 c_72
        · have huw := ca_yes hnn hu c_42
          refine k_aload_n Ox dX4_chance_45 rfl 0 rfl ?_
          refine k_get Ox 0 rfl rfl hin_X4_chance_X4 3 rfl lk_X4_chance_f30 rfl rfl dX4_chance_46 ?_
          refine k_get Ox 5 rfl rfl hin_X4_chance_X3 6 rfl lk_X4_chance_f160 rfl rfl dX4_chance_49 ?_
          refine k_topl (lI (u : Int)) (by rw [huw]) ?_
          refine k_goto Ox 56 dX4_chance_52 rfl ?_
          first | refine k_topl (lI (u : Int)) (by rw [hun]; rfl) ?_ | skip
          refine k_lstore Ox [(4, _), (0, _), (1, _), (2, _), (3, _)] dX4_chance_56 (by decide) rfl ?_
          have hg0 : 0 < Nat.gcd 1000000 u := Nat.gcd_pos_of_pos_left _ (by decide)
          have hg1 : Nat.gcd 1000000 u ≤ 1000000 := Nat.le_of_dvd (by decide) (Nat.gcd_dvd_left _ _)
          refine k_ldc2 Ox (1000000) dX4_chance_58 lk_X4_chance_k200 ?_
          refine k_lload Ox dX4_chance_61 0 rfl ?_
          refine k_callS Ox [] (c_X4_sharedDivisor G 1000000 u (by decide) (by decide) (by omega)) 2 rfl rfl rfl ⟨rfl, rfl⟩ rfl rfl gX4_chance_X4_sharedDivisor ⟨(by decide +kernel), (by decide +kernel), (by decide +kernel)⟩ rfl dX4_chance_63 (Nat.le_of_ble_eq_true rfl) rfl ⟨Nat.le_of_ble_eq_true rfl, Nat.le_of_ble_eq_true rfl⟩ (fun r wa wb hp => ?_)
          obtain ⟨⟨rfl, rfl⟩, rfl⟩ := hp
          show V x G _ _ _ _ _ (.long _ :: _) [_, _, _, _, _, _, _, _, _]
          refine k_lstore Ox [(6, _), (4, _), (0, _), (1, _), (2, _), (3, _)] dX4_chance_66 (by decide) rfl ?_
          refine k_lload Ox dX4_chance_68 0 rfl ?_
          refine k_lconst Ox (v := 0) dX4_chance_70 rfl ?_
          refine k_lcmp Ox dX4_chance_71 ?_
          refine k_if_gt Ox 77 dX4_chance_72 rfl (fun c_72 => ?_) (fun c_72 => ?_)
          · refine k_iload_n Ox dX4_chance_77 rfl 5 rfl ?_
            refine k_if_ne Ox 89 dX4_chance_78 rfl (fun c_78 => ?_) (fun c_78 => ?_)
            · refine k_ldc2 Ox (1000000) dX4_chance_89 lk_X4_chance_k200 ?_
              refine k_lload Ox dX4_chance_92 0 rfl ?_
              refine k_ldiv Ox dX4_chance_94 (sd_ne (by omega) hg0) ?_
              refine k_lret0 Ox Rt dX4_chance_95 (Nat.le_of_ble_eq_true rfl) (Nat.le_of_ble_eq_true rfl) rfl ?_
              first | exact ⟨⟨by rw [caR, if_pos (and_tt c_4 c_11), if_pos c_22, nn_nI (by omega), nn_nI (by omega), hu, if_pos c_78, ca_d1 hg0 hg1 hu2], _, _, _, _, hsz, hwt, rfl⟩, rfl⟩ | exact ⟨⟨by rw [caR, if_pos (and_tt c_4 c_11), if_pos c_22, nn_nI (by omega), nn_nI (by omega), hu, if_neg c_78, ca_d2 hg0 hg1], _, _, _, _, hsz, hwt, rfl⟩, rfl⟩
            · refine k_lload Ox dX4_chance_81 1 rfl ?_
              refine k_lload Ox dX4_chance_83 0 rfl ?_
              refine k_ldiv Ox dX4_chance_85 (sd_ne (by omega) hg0) ?_
              refine k_goto Ox 95 dX4_chance_86 rfl ?_
              refine k_lret0 Ox Rt dX4_chance_95 (Nat.le_of_ble_eq_true rfl) (Nat.le_of_ble_eq_true rfl) rfl ?_
              first | exact ⟨⟨by rw [caR, if_pos (and_tt c_4 c_11), if_pos c_22, nn_nI (by omega), nn_nI (by omega), hu, if_pos c_78, ca_d1 hg0 hg1 hu2], _, _, _, _, hsz, hwt, rfl⟩, rfl⟩ | exact ⟨⟨by rw [caR, if_pos (and_tt c_4 c_11), if_pos c_22, nn_nI (by omega), nn_nI (by omega), hu, if_neg c_78, ca_d2 hg0 hg1], _, _, _, _, hsz, hwt, rfl⟩, rfl⟩
          · exfalso; exact ca_pos hg0 hg1 c_72
      · refine k_ldc2 Ox (-1000000000000000002) dX4_chance_25 lk_X4_chance_k198 ?_
        refine k_lret0 Ox Rt dX4_chance_28 (Nat.le_of_ble_eq_true rfl) (Nat.le_of_ble_eq_true rfl) rfl ?_
        exact ⟨⟨by rw [caR, if_pos (and_tt c_4 c_11), if_neg (by rw [c_22]; decide)], _, _, _, _, hws, hww, rfl⟩, rfl⟩
    · have hf : (inR 0 5 x1 && inR 0 5 x2) = false := by rw [c_11]; simp
      refine k_ldc2 Ox (-1000000000000000001) dX4_chance_14 lk_X4_chance_k196 ?_
      refine k_lret0 Ox Rt dX4_chance_17 (Nat.le_of_ble_eq_true rfl) (Nat.le_of_ble_eq_true rfl) rfl ?_
      exact ⟨⟨by rw [caR, if_neg (by rw [hf]; decide)], _, _, _, _, hws, hww, rfl⟩, rfl⟩
