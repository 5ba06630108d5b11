theorem lk_X4_splitRoute_f45 : Cond.fieldLink RX4 45 "LieBridges" "route" "[I" ∈ wsX4_splitRoute := List.mem_of_getElem? (i := 1) rfl
theorem hin_X4_splitRoute_X4 : ∀ w ∈ u_ws RX4 TX4 7, w ∈ wsX4_splitRoute := fun _ h => List.mem_cons_of_mem _ (List.mem_append_right _ h)
set_option maxHeartbeats 400000 in
set_option maxRecDepth 4000 in
theorem c_X4_splitRoute (G : Gx) (h d im pd wy tb gu ro : Nat) (RO : Nat → Nat) (x : Int32) (m : Nat) (hm : m ≤ 6) : Ct G yX4_splitRoute wsX4_splitRoute { frames := 1, cells := 0, slots := 0, locals := 22 } [.ref h, .int x, .int (nI m)] [(h, cO 4 [.ref d, .ref im, .ref pd, .ref wy, .ref tb, .ref gu, .ref ro]), (ro, cI G 6 (rN RO))] (fun r wa => r = some (.int (bI (rtOK x m))) ∧ ∃ RO9 : Nat → Nat, (0 ≤ x.toInt → ∀ j, j < m → RO9 j = dg (nn x) m j) ∧ wa = [(h, cO 4 [.ref d, .ref im, .ref pd, .ref wy, .ref tb, .ref gu, .ref ro]), (ro, cI G 6 (rN RO9))]) := by
  refine CtN.of [(0, .ref h), (1, .int x), (2, .int (nI m))] (by decide +kernel) rfl rfl rfl rfl ?_
  intro x Ox Rt
  refine k_iload_n Ox dX4_splitRoute_0 rfl 1 rfl ?_
  refine k_if_ge Ox 6 dX4_splitRoute_1 rfl (fun c_1 => ?_) (fun c_1 => ?_)
  · obtain ⟨t, ht, rfl⟩ := nat_of c_1
    refine k_iload_n Ox dX4_splitRoute_6 rfl 1 rfl ?_
    refine k_istore_n Ox [(3, _), (0, _), (1, _), (2, _)] dX4_splitRoute_7 rfl (by decide) rfl ?_
    refine k_iload_n Ox dX4_splitRoute_8 rfl 3 rfl ?_
    refine k_iconst Ox (v := nI 1) dX4_splitRoute_9 rfl ?_
    refine k_isub Ox dX4_splitRoute_10 ?_
    refine k_istore Ox [(4, _), (3, _), (0, _), (1, _), (2, _)] dX4_splitRoute_11 (by decide) rfl ?_
    have L13 : ∀ (fuel : Nat) (k : Nat) (R1 : Nat → Nat), k ≤ m → k < fuel → (∀ j, k ≤ j → j < m → R1 j = dg t m j) → V x G 5 0 0 13 [(0, .ref h), (1, .int (nI t)), (2, .int (nI m)), (3, .int (nI (t / 10 ^ (m - k)))), (4, .int (nI k - nI 1))] [] [(h, cO 4 [.ref d, .ref im, .ref pd, .ref wy, .ref tb, .ref gu, .ref ro]), (ro, cI G 6 (rN R1))] := by
      intro fuel
      induction fuel with
      | zero => intro k R1 hk hfuel hR; exact absurd hk (by omega)
      | succ fuel ih =>
        intro k R1 hk hfuel hR
        refine k_iload Ox dX4_splitRoute_13 4 rfl ?_
        refine k_if_lt Ox 42 dX4_splitRoute_15 rfl (fun c_15 => ?_) (fun c_15 => ?_)
        · obtain rfl := gs_zero (by omega) c_15
          have htd : t / 10 ^ m < 2147483648 := Nat.lt_of_le_of_lt (Nat.div_le_self _ _) ht
          rw [Nat.sub_zero]
          refine k_iload_n Ox dX4_splitRoute_42 rfl 3 rfl ?_
          refine k_if_neN Ox 50 dX4_splitRoute_43 rfl (by omega) (fun c_43 => ?_) (fun c_43 => ?_)
          · refine k_iconst Ox (v := nI 0) dX4_splitRoute_50 rfl ?_
            refine k_zret0 Ox Rt dX4_splitRoute_51 (by first | exact bI_nar _ | decide) (Nat.le_of_ble_eq_true rfl) (Nat.le_of_ble_eq_true rfl) rfl ?_
            first | exact ⟨⟨by rw [rt_end ht, decide_eq_true c_43]; rfl, _, fun _ j hj => by rw [nn_big ht]; exact hR j (by omega) hj, rfl⟩, rfl⟩ | exact ⟨⟨by rw [rt_end ht, decide_eq_false (by omega)]; rfl, _, fun _ j hj => by rw [nn_big ht]; exact hR j (by omega) hj, rfl⟩, rfl⟩
          · refine k_iconst Ox (v := nI 1) dX4_splitRoute_46 rfl ?_
            refine k_goto Ox 51 dX4_splitRoute_47 rfl ?_
            refine k_zret0 Ox Rt dX4_splitRoute_51 (by first | exact bI_nar _ | decide) (Nat.le_of_ble_eq_true rfl) (Nat.le_of_ble_eq_true rfl) rfl ?_
            first | exact ⟨⟨by rw [rt_end ht, decide_eq_true c_43]; rfl, _, fun _ j hj => by rw [nn_big ht]; exact hR j (by omega) hj, rfl⟩, rfl⟩ | exact ⟨⟨by rw [rt_end ht, decide_eq_false (by omega)]; rfl, _, fun _ j hj => by rw [nn_big ht]; exact hR j (by omega) hj, rfl⟩, rfl⟩
        · have hk0 := gs_pos (by omega) c_15
          obtain ⟨k2, rfl⟩ : ∃ k2, k = k2 + 1 := ⟨k - 1, by omega⟩
          rw [gs_eq k2]
          have htd : t / 10 ^ (m - (k2 + 1)) < 2147483648 := Nat.lt_of_le_of_lt (Nat.div_le_self _ _) ht
          refine k_aload_n Ox dX4_splitRoute_18 rfl 0 rfl ?_
          refine k_get Ox 0 rfl rfl hin_X4_splitRoute_X4 6 rfl lk_X4_splitRoute_f45 rfl rfl dX4_splitRoute_19 ?_
          refine k_iload Ox dX4_splitRoute_22 4 rfl ?_
          refine k_iload_n Ox dX4_splitRoute_24 rfl 3 rfl ?_
          refine k_bipush Ox (v := nI 10) dX4_splitRoute_25 rfl ?_
          refine k_iremN Ox dX4_splitRoute_27 (by omega) (by first | decide | omega) (by first | decide | omega) ?_
          refine k_callS Ox [1] (c_X4_put G _ _ _ _ _ (by omega) (by decide)) 3 rfl rfl rfl ⟨rfl, rfl⟩ rfl rfl gX4_splitRoute_X4_put ⟨(by decide +kernel), (by decide +kernel), (by decide +kernel)⟩ rfl dX4_splitRoute_28 (Nat.le_of_ble_eq_true rfl) rfl ⟨Nat.le_of_ble_eq_true rfl, Nat.le_of_ble_eq_true rfl⟩ (fun r wa wb hp => ?_)
          obtain ⟨⟨rfl, rfl⟩, rfl⟩ := hp
          show V x G _ _ _ _ _ _ [_, _]
          rw [rN_upd]
          refine k_iload_n Ox dX4_splitRoute_31 rfl 3 rfl ?_
          refine k_bipush Ox (v := nI 10) dX4_splitRoute_32 rfl ?_
          refine k_idivN Ox dX4_splitRoute_34 (by omega) (by first | decide | omega) (by first | decide | omega) ?_
          refine k_istore_n Ox [(3, _), (0, _), (1, _), (2, _), (4, _)] dX4_splitRoute_35 rfl (by decide) rfl ?_
          refine k_iinc Ox (k := 4) [(4, _), (3, _), (0, _), (1, _), (2, _)] dX4_splitRoute_36 rfl (gs_dec k2) (by decide) rfl ?_
          refine k_goto Ox 13 dX4_splitRoute_39 rfl ?_
          refine k_sub [2, 3, 4, 1, 0] [(0, _), (1, _), (2, _), (3, _), (4, _)] rfl ?_
          rw [rt_step (by omega)]
          exact ih k2 _ (by omega) (by omega) (rt_up hR (by omega))
    refine k_sub [2, 3, 4, 1, 0] [(0, _), (1, _), (2, _), (3, _), (4, _)] rfl ?_
    have h0 := L13 (m + 1) m RO (by omega) (by omega) (fun j h1 h2 => absurd h2 (by omega))
    rw [show t / 10 ^ (m - m) = t by rw [Nat.sub_self]; simp] at h0
    exact h0
  · refine k_iconst Ox (v := nI 0) dX4_splitRoute_4 rfl ?_
    refine k_zret0 Ox Rt dX4_splitRoute_5 (by first | exact bI_nar _ | decide) (Nat.le_of_ble_eq_true rfl) (Nat.le_of_ble_eq_true rfl) rfl ?_
    exact ⟨⟨by rw [rt_no c_1]; rfl, _, fun z => by omega, rfl⟩, rfl⟩
theorem lk_X4_falls_f45 : Cond.fieldLink RX4 45 "LieBridges" "route" "[I" ∈ wsX4_falls := List.mem_of_getElem? (i := 1) rfl
theorem hin_X4_falls_X4 : ∀ w ∈ u_ws RX4 TX4 7, w ∈ wsX4_falls := fun _ h => List.mem_cons_of_mem _ (List.mem_append_left _ (List.mem_append_left _ (List.mem_append_right _ h)))
theorem lk_X4_falls_f10 : Cond.fieldLink RX4 10 "LieBridges" "now" "LLieBridges$Delta;" ∈ wsX4_falls := List.mem_of_getElem? (i := 2) rfl
theorem lk_X4_falls_f72 : Cond.fieldLink RX4 72 "LieBridges$Delta" "beliefs" "LLieBridges$Beliefs;" ∈ wsX4_falls := List.mem_of_getElem? (i := 3) rfl
theorem hin_X4_falls_X1 : ∀ w ∈ u_ws RX1 TX1 11, w ∈ wsX4_falls := fun _ h => List.mem_cons_of_mem _ (List.mem_append_left _ (List.mem_append_right _ h))
set_option maxHeartbeats 1000000 in
set_option maxRecDepth 4000 in
theorem c_X4_falls (G : Gx) (h d im pd wy tb gu ro ls gs ly hs tr kn sp sl be bd : Nat) (L : Nat → Nat) (Gr : Nat → Nat) (RO : Nat → Nat) (B : Nat → Nat → Nat) (fd : Nat) (sg : Nat) (x1 x2 x3 x4 x5 : Int32) (hL : okP L) (hG : okP Gr) (hB : okB B) : Ct G yX4_falls wsX4_falls { frames := 2, cells := 0, slots := 0, locals := 47 } [.ref h, .int x1, .int x2, .int x3, .int x4, .int x5] [(h, cO 4 [.ref d, .ref im, .ref pd, .ref wy, .ref tb, .ref gu, .ref ro]), (d, cO 1 [.ref ls, .ref gs, .ref ly, .ref hs, .ref tr, .ref kn, .ref sp, .ref sl, .ref be, .int (nI fd), .int (nI sg)]), (ls, cI G 6 (rN L)), (gs, cI G 6 (rN Gr)), (be, cO 0 [.ref bd]), (bd, cI G 36 (rN (flC B))), (ro, cI G 6 (rN RO))] (fun r wa => r = some (.int (flR L Gr B x1 x2 x3 x4 x5)) ∧ ∃ RO9 : Nat → Nat, wa = [(h, cO 4 [.ref d, .ref im, .ref pd, .ref wy, .ref tb, .ref gu, .ref ro]), (d, cO 1 [.ref ls, .ref gs, .ref ly, .ref hs, .ref tr, .ref kn, .ref sp, .ref sl, .ref be, .int (nI fd), .int (nI sg)]), (ls, cI G 6 (rN L)), (gs, cI G 6 (rN Gr)), (be, cO 0 [.ref bd]), (bd, cI G 36 (rN (flC B))), (ro, cI G 6 (rN RO9))]) := by
  refine CtN.of [(0, .ref h), (1, .int x1), (2, .int x2), (3, .int x3), (4, .int x4), (5, .int x5)] (by decide +kernel) rfl rfl rfl rfl ?_
  intro x Ox Rt
  refine k_iload_n Ox dX4_falls_0 rfl 1 rfl ?_
  refine k_callS Ox [] (c_X4_isIsland G _ ) 1 rfl rfl rfl ⟨rfl, rfl⟩ rfl rfl gX4_falls_X4_isIsland ⟨(by decide +kernel), (by decide +kernel), (by decide +kernel)⟩ rfl dX4_falls_1 (Nat.le_of_ble_eq_true rfl) rfl ⟨Nat.le_of_ble_eq_true rfl, Nat.le_of_ble_eq_true rfl⟩ (fun r wa wb hp => ?_)
  obtain ⟨⟨rfl, rfl⟩, rfl⟩ := hp
  show V x G _ _ _ _ _ (.int _ :: _) [_, _, _, _, _, _, _]
  refine k_if_neB Ox 9 dX4_falls_4 rfl (fun c_4 => ?_) (fun c_4 => ?_)
  · refine k_iload Ox dX4_falls_9 4 rfl ?_
    refine k_callS Ox [] (c_X4_isParty G _ ) 1 rfl rfl rfl ⟨rfl, rfl⟩ rfl rfl gX4_falls_X4_isParty ⟨(by decide +kernel), (by decide +kernel), (by decide +kernel)⟩ rfl dX4_falls_11 (Nat.le_of_ble_eq_true rfl) rfl ⟨Nat.le_of_ble_eq_true rfl, Nat.le_of_ble_eq_true rfl⟩ (fun r wa wb hp => ?_)
    obtain ⟨⟨rfl, rfl⟩, rfl⟩ := hp
    show V x G _ _ _ _ _ (.int _ :: _) [_, _, _, _, _, _, _]
    refine k_if_eqB Ox 44 dX4_falls_14 rfl (fun c_14 => ?_) (fun c_14 => ?_)
    · have hf : (inR 1 6 x4 && (decide (x5 = 0) || decide (x5 = 1)) && inR 0 6 x3 && rtOK x2 (nn x3)) = false := by rw [c_14]; rfl
      refine k_bipush Ox (v := -2) dX4_falls_44 (by decide) ?_
      refine k_iret0 Ox Rt dX4_falls_46 (Nat.le_of_ble_eq_true rfl) (Nat.le_of_ble_eq_true rfl) rfl ?_
      first | exact ⟨⟨by rw [flR, pick_t c_4, pick_f hf], _, rfl⟩, rfl⟩
    · refine k_iload Ox dX4_falls_17 5 rfl ?_
      refine k_callS Ox [] (c_X4_isChoice G _ ) 1 rfl rfl rfl ⟨rfl, rfl⟩ rfl rfl gX4_falls_X4_isChoice ⟨(by decide +kernel), (by decide +kernel), (by decide +kernel)⟩ rfl dX4_falls_19 (Nat.le_of_ble_eq_true rfl) rfl ⟨Nat.le_of_ble_eq_true rfl, Nat.le_of_ble_eq_true rfl⟩ (fun r wa wb hp => ?_)
      obtain ⟨⟨rfl, rfl⟩, rfl⟩ := hp
      show V x G _ _ _ _ _ (.int _ :: _) [_, _, _, _, _, _, _]
      refine k_if_eqB Ox 44 dX4_falls_22 rfl (fun c_22 => ?_) (fun c_22 => ?_)
      · have hf : (inR 1 6 x4 && (decide (x5 = 0) || decide (x5 = 1)) && inR 0 6 x3 && rtOK x2 (nn x3)) = false := by rw [c_14, c_22]; rfl
        refine k_bipush Ox (v := -2) dX4_falls_44 (by decide) ?_
        refine k_iret0 Ox Rt dX4_falls_46 (Nat.le_of_ble_eq_true rfl) (Nat.le_of_ble_eq_true rfl) rfl ?_
        first | exact ⟨⟨by rw [flR, pick_t c_4, pick_f hf], _, rfl⟩, rfl⟩
      · refine k_iload_n Ox dX4_falls_25 rfl 3 rfl ?_
        refine k_iconst Ox (v := nI 0) dX4_falls_26 rfl ?_
        refine k_bipush Ox (v := nI 6) dX4_falls_27 rfl ?_
        refine k_callS Ox [] (c_X4_within G _ _ _ ) 3 rfl rfl rfl ⟨rfl, rfl⟩ rfl rfl gX4_falls_X4_within ⟨(by decide +kernel), (by decide +kernel), (by decide +kernel)⟩ rfl dX4_falls_29 (Nat.le_of_ble_eq_true rfl) rfl ⟨Nat.le_of_ble_eq_true rfl, Nat.le_of_ble_eq_true rfl⟩ (fun r wa wb hp => ?_)
        obtain ⟨⟨rfl, rfl⟩, rfl⟩ := hp
        show V x G _ _ _ _ _ (.int _ :: _) [_, _, _, _, _, _, _]
        change V x G _ _ _ _ _ (.int (bI (inR (0) (6) _)) :: _) _
        refine k_if_eqB Ox 44 dX4_falls_32 rfl (fun c_32 => ?_) (fun c_32 => ?_)
        · have hf : (inR 1 6 x4 && (decide (x5 = 0) || decide (x5 = 1)) && inR 0 6 x3 && rtOK x2 (nn x3)) = false := by rw [c_14, c_22, c_32]; rfl
          refine k_bipush Ox (v := -2) dX4_falls_44 (by decide) ?_
          refine k_iret0 Ox Rt dX4_falls_46 (Nat.le_of_ble_eq_true rfl) (Nat.le_of_ble_eq_true rfl) rfl ?_
          first | exact ⟨⟨by rw [flR, pick_t c_4, pick_f hf], _, rfl⟩, rfl⟩
        · obtain ⟨m, hm, rfl⟩ := inR_of (k := 6) rfl (by decide) c_32
          obtain ⟨j1, hj1, rfl⟩ := in6_of c_4
          obtain ⟨n, hn0, hn6, rfl⟩ := inR_of' (lo := 1) (k := 6) rfl rfl (by decide) c_14
          refine k_aload_n Ox dX4_falls_35 rfl 0 rfl ?_
          refine k_iload_n Ox dX4_falls_36 rfl 2 rfl ?_
          refine k_iload_n Ox dX4_falls_37 rfl 3 rfl ?_
          refine k_callV Ox [0, 6] (c_X4_splitRoute G _ _ _ _ _ _ _ _ _ _ _ (by omega)) 2 rfl rfl rfl ⟨rfl, rfl⟩ rfl rfl gX4_falls_X4_splitRoute rfl 0 rfl ⟨rfl, (by decide +kernel), (by decide +kernel), (by decide +kernel)⟩ rfl dX4_falls_38 (Nat.le_of_ble_eq_true rfl) rfl ⟨Nat.le_of_ble_eq_true rfl, Nat.le_of_ble_eq_true rfl⟩ (fun r wa wb hp => ?_)
          obtain ⟨⟨rfl, RO938, hro38, rfl⟩, rfl⟩ := hp
          show V x G _ _ _ _ _ (.int _ :: _) [_, _, _, _, _, _, _]
          refine k_if_neB Ox 47 dX4_falls_41 rfl (fun c_41 => ?_) (fun c_41 => ?_)
          · have hok : (inR 1 6 (nI n) && (decide (x5 = 0) || decide (x5 = 1)) && inR 0 6 (nI m) && rtOK x2 (nn (nI m))) = true := by rw [c_14, c_22, c_32, nn_nI (by omega), c_41]; rfl
            obtain ⟨t, ht, rfl⟩ := nat_of (of_decide_eq_true c_41).1
            have hro := hro38 (by rw [nI_tI ht]; omega)
            rw [nn_big ht] at hro
            refine k_iload_n Ox dX4_falls_47 rfl 1 rfl ?_
            refine k_istore Ox [(6, _), (0, _), (1, _), (2, _), (3, _), (4, _), (5, _)] dX4_falls_48 (by decide) rfl ?_
            refine k_bipush Ox (v := -6) dX4_falls_50 (by decide) ?_
            refine k_istore Ox [(7, _), (6, _), (0, _), (1, _), (2, _), (3, _), (4, _), (5, _)] dX4_falls_52 (by decide) rfl ?_
            refine k_iload_n Ox dX4_falls_54 rfl 3 rfl ?_
            refine k_istore Ox [(8, _), (7, _), (6, _), (0, _), (1, _), (2, _), (3, _), (4, _), (5, _)] dX4_falls_55 (by decide) rfl ?_
            refine k_iconst Ox (v := nI 0) dX4_falls_57 rfl ?_
            refine k_istore Ox [(9, _), (8, _), (7, _), (6, _), (0, _), (1, _), (2, _), (3, _), (4, _), (5, _)] dX4_falls_58 (by decide) rfl ?_
            have L60 : ∀ (fuel : Nat) (k hh re : Nat) (pl : Option Nat), k ≤ m → m + 1 ≤ k + fuel → hh < 6 → re < 6 → (∀ q, pl = some q → q < 6) → flS_ L Gr B t m n j1 k = some (hh, pl, re) → V x G 12 0 0 60 [(0, .ref h), (1, .int (nI j1)), (2, .int (nI t)), (3, .int (nI m)), (4, .int (nI n)), (5, .int x5), (6, .int (nI hh)), (7, .int (flP pl)), (8, .int (nI re)), (9, .int (nI k))] [] [(h, cO 4 [.ref d, .ref im, .ref pd, .ref wy, .ref tb, .ref gu, .ref ro]), (d, cO 1 [.ref ls, .ref gs, .ref ly, .ref hs, .ref tr, .ref kn, .ref sp, .ref sl, .ref be, .int (nI fd), .int (nI sg)]), (ls, cI G 6 (rN L)), (gs, cI G 6 (rN Gr)), (be, cO 0 [.ref bd]), (bd, cI G 36 (rN (flC B))), (ro, cI G 6 (rN RO938))] := by
              intro fuel
              induction fuel with
              | zero => intro k hh re pl hk hfuel hh6 hre hpl he; exact absurd hk (by omega)
              | succ fuel ih =>
                intro k hh re pl hk hfuel hh6 hre hpl he
                refine k_iload Ox dX4_falls_60 9 rfl ?_
                refine k_iload_n Ox dX4_falls_62 rfl 3 rfl ?_
                refine k_icmp_geN Ox 154 dX4_falls_63 rfl (by omega) (by omega) (fun c_63 => ?_) (fun c_63 => ?_)
                · obtain rfl : k = m := by omega
                  refine k_iload Ox dX4_falls_154 5 rfl ?_
                  refine k_if_ne Ox 164 dX4_falls_156 rfl (fun c_156 => ?_) (fun c_156 => ?_)
                  · refine k_iload Ox dX4_falls_164 8 rfl ?_
                    refine k_iret0 Ox Rt dX4_falls_166 (Nat.le_of_ble_eq_true rfl) (Nat.le_of_ble_eq_true rfl) rfl ?_
                    exact ⟨⟨by rw [flR, pick_t c_4, pick_t hok, nn_big ht, nn_nI (by omega), nn_nI (by omega), nn_nI (by omega), he]; first | (simp only []; rw [if_pos c_156]) | (simp only []; rw [if_neg c_156]), _, rfl⟩, rfl⟩
                  · refine k_iload Ox dX4_falls_159 7 rfl ?_
                    refine k_goto Ox 166 dX4_falls_161 rfl ?_
                    refine k_iret0 Ox Rt dX4_falls_166 (Nat.le_of_ble_eq_true rfl) (Nat.le_of_ble_eq_true rfl) rfl ?_
                    exact ⟨⟨by rw [flR, pick_t c_4, pick_t hok, nn_big ht, nn_nI (by omega), nn_nI (by omega), nn_nI (by omega), he]; first | (simp only []; rw [if_pos c_156]) | (simp only []; rw [if_neg c_156]), _, rfl⟩, rfl⟩
                · have hd9 : dg t m k < 10 := Nat.mod_lt _ (by decide)
                  refine k_aload_n Ox dX4_falls_66 rfl 0 rfl ?_
                  refine k_get Ox 0 rfl rfl hin_X4_falls_X4 6 rfl lk_X4_falls_f45 rfl rfl dX4_falls_67 ?_
                  refine k_iload Ox dX4_falls_70 9 rfl ?_
                  refine k_callS Ox [6] (c_X4_at G _ _ _ _ (by omega) (by decide)) 2 rfl rfl rfl ⟨rfl, rfl⟩ rfl rfl gX4_falls_X4_at ⟨(by decide +kernel), (by decide +kernel), (by decide +kernel)⟩ rfl dX4_falls_72 (Nat.le_of_ble_eq_true rfl) rfl ⟨Nat.le_of_ble_eq_true rfl, Nat.le_of_ble_eq_true rfl⟩ (fun r wa wb hp => ?_)
                  obtain ⟨⟨rfl, rfl⟩, rfl⟩ := hp
                  show V x G _ _ _ _ _ (.int _ :: _) [_, _, _, _, _, _, _]
                  refine k_top (nI (dg t m k)) (congrArg nI (hro k c_63)) ?_
                  refine k_istore Ox [(10, _), (0, _), (1, _), (2, _), (3, _), (4, _), (5, _), (6, _), (7, _), (8, _), (9, _)] dX4_falls_75 (by decide) rfl ?_
                  refine k_aload_n Ox dX4_falls_77 rfl 1 rfl ?_
                  refine k_get Ox 0 rfl rfl hin_X4_falls_X4 0 rfl lk_X4_falls_f10 rfl rfl dX4_falls_78 ?_
                  refine k_iload Ox dX4_falls_81 0 rfl ?_
                  refine k_iload Ox dX4_falls_83 7 rfl ?_
                  refine k_callV Ox [1, 2, 3] (c_X1_across G _ _ _ _ _ _ _ _ _ _ _ _ _ _ _ _ (hL) (hG) (by omega) (hh6)) 2 rfl rfl rfl ⟨rfl, rfl⟩ rfl rfl gX4_falls_X1_across rfl 1 rfl ⟨rfl, (by decide +kernel), (by decide +kernel), (by decide +kernel)⟩ rfl dX4_falls_85 (Nat.le_of_ble_eq_true rfl) rfl ⟨Nat.le_of_ble_eq_true rfl, Nat.le_of_ble_eq_true rfl⟩ (fun r wa wb hp => ?_)
                  obtain ⟨⟨rfl, rfl⟩, rfl⟩ := hp
                  show V x G _ _ _ _ _ (.int _ :: _) [_, _, _, _, _, _, _]
                  refine k_istore Ox [(11, _), (10, _), (0, _), (1, _), (2, _), (3, _), (4, _), (5, _), (6, _), (7, _), (8, _), (9, _)] dX4_falls_88 (by decide) rfl ?_
                  refine k_iload Ox dX4_falls_90 0 rfl ?_
                  refine k_iconst Ox (v := -1) dX4_falls_92 (by decide) ?_
                  refine k_icmp_ne Ox 99 dX4_falls_93 rfl (fun c_93 => ?_) (fun c_93 => ?_)
                  · obtain ⟨j, hj, h6, e1, hn⟩ := acr_some hL hG c_93
                    rw [e1]
                    have hl1 := ld_le B (dg t m k) 0
                    refine k_iload Ox dX4_falls_99 9 rfl ?_
                    refine k_bipush Ox (v := -6) dX4_falls_101 (by decide) ?_
                    refine k_icmp_ne Ox 128 dX4_falls_103 rfl (fun c_103 => ?_) (fun c_103 => ?_)
                    · refine k_iload Ox dX4_falls_128 9 rfl ?_
                      refine k_bipush Ox (v := -6) dX4_falls_130 (by decide) ?_
                      refine k_icmp_ne Ox 140 dX4_falls_132 rfl (fun c_132 => ?_) (fun c_132 => ?_)
                      · refine k_iload Ox dX4_falls_140 10 rfl ?_
                        refine k_istore Ox [(8, _), (11, _), (10, _), (0, _), (1, _), (2, _), (3, _), (4, _), (5, _), (6, _), (7, _), (9, _)] dX4_falls_142 (by decide) rfl ?_
                        refine k_iload Ox dX4_falls_144 1 rfl ?_
                        refine k_istore Ox [(6, _), (8, _), (11, _), (10, _), (0, _), (1, _), (2, _), (3, _), (4, _), (5, _), (7, _), (9, _)] dX4_falls_146 (by decide) rfl ?_
                        refine k_iincN Ox (k := 11) (m := 1) [(9, _), (6, _), (8, _), (11, _), (10, _), (0, _), (1, _), (2, _), (3, _), (4, _), (5, _), (7, _)] dX4_falls_148 rfl rfl (by decide) rfl ?_
                        refine k_goto Ox 60 dX4_falls_151 rfl ?_
                        refine k_sub [5, 6, 7, 8, 9, 10, 1, 11, 2, 0] [(0, _), (1, _), (2, _), (3, _), (4, _), (5, _), (6, _), (7, _), (8, _), (9, _)] rfl ?_
                        first | (exfalso; exact c_103 c_132) | (exfalso; exact c_132 c_103) | (exfalso; exact nI_n6 (show k < 100 by omega) c_132) | (obtain ⟨q, rfl⟩ := flP_ne (fun q z => by have := hpl q z; omega) c_103; exact ih (k + 1) _ _ (some q) (by omega) (by omega) hj hre hpl (fl_some he h6 hn)) | (obtain rfl := flP_eq (fun q z => by have := hpl q z; omega) c_103; first | exact ih (k + 1) _ _ none (by omega) (by omega) hj hj hpl (fl_hold he h6 hn c_121) | exact ih (k + 1) _ _ (some k) (by omega) (by omega) hj hre (fun q z => by cases z; omega) (fl_fall he h6 hn c_121))
                      · refine k_iload Ox dX4_falls_135 0 rfl ?_
                        refine k_goto Ox 142 dX4_falls_137 rfl ?_
                        refine k_istore Ox [(8, _), (11, _), (10, _), (0, _), (1, _), (2, _), (3, _), (4, _), (5, _), (6, _), (7, _), (9, _)] dX4_falls_142 (by decide) rfl ?_
                        refine k_iload Ox dX4_falls_144 1 rfl ?_
                        refine k_istore Ox [(6, _), (8, _), (11, _), (10, _), (0, _), (1, _), (2, _), (3, _), (4, _), (5, _), (7, _), (9, _)] dX4_falls_146 (by decide) rfl ?_
                        refine k_iincN Ox (k := 11) (m := 1) [(9, _), (6, _), (8, _), (11, _), (10, _), (0, _), (1, _), (2, _), (3, _), (4, _), (5, _), (7, _)] dX4_falls_148 rfl rfl (by decide) rfl ?_
                        refine k_goto Ox 60 dX4_falls_151 rfl ?_
                        refine k_sub [5, 6, 7, 8, 9, 10, 1, 11, 2, 0] [(0, _), (1, _), (2, _), (3, _), (4, _), (5, _), (6, _), (7, _), (8, _), (9, _)] rfl ?_
                        first | (exfalso; exact c_103 c_132) | (exfalso; exact c_132 c_103) | (exfalso; exact nI_n6 (show k < 100 by omega) c_132) | (obtain ⟨q, rfl⟩ := flP_ne (fun q z => by have := hpl q z; omega) c_103; exact ih (k + 1) _ _ (some q) (by omega) (by omega) hj hre hpl (fl_some he h6 hn)) | (obtain rfl := flP_eq (fun q z => by have := hpl q z; omega) c_103; first | exact ih (k + 1) _ _ none (by omega) (by omega) hj hj hpl (fl_hold he h6 hn c_121) | exact ih (k + 1) _ _ (some k) (by omega) (by omega) hj hre (fun q z => by cases z; omega) (fl_fall he h6 hn c_121))
                    · refine k_aload_n Ox dX4_falls_106 rfl 2 rfl ?_
                      refine k_get Ox 0 rfl rfl hin_X4_falls_X4 0 rfl lk_X4_falls_f10 rfl rfl dX4_falls_107 ?_
                      refine k_get Ox 1 rfl rfl hin_X4_falls_X1 8 rfl lk_X4_falls_f72 rfl rfl dX4_falls_110 ?_
                      refine k_iload Ox dX4_falls_113 1 rfl ?_
                      refine k_iconst Ox (v := nI 0) dX4_falls_115 rfl ?_
                      refine k_callV Ox [4, 5] (c_X0_load G _ _ _ _ _ (h6) (by omega) (hB)) 2 rfl rfl rfl ⟨rfl, rfl⟩ rfl rfl gX4_falls_X0_load rfl 4 rfl ⟨rfl, (by decide +kernel), (by decide +kernel), (by decide +kernel)⟩ rfl dX4_falls_116 (Nat.le_of_ble_eq_true rfl) rfl ⟨Nat.le_of_ble_eq_true rfl, Nat.le_of_ble_eq_true rfl⟩ (fun r wa wb hp => ?_)
                      obtain ⟨⟨rfl, rfl⟩, rfl⟩ := hp
                      show V x G _ _ _ _ _ (.int _ :: _) [_, _, _, _, _, _, _]
                      refine k_iload Ox dX4_falls_119 6 rfl ?_
                      refine k_icmp_geN Ox 128 dX4_falls_121 rfl (by omega) (by omega) (fun c_121 => ?_) (fun c_121 => ?_)
                      · refine k_iload Ox dX4_falls_128 9 rfl ?_
                        refine k_bipush Ox (v := -6) dX4_falls_130 (by decide) ?_
                        refine k_icmp_ne Ox 140 dX4_falls_132 rfl (fun c_132 => ?_) (fun c_132 => ?_)
                        · refine k_iload Ox dX4_falls_140 10 rfl ?_
                          refine k_istore Ox [(8, _), (11, _), (10, _), (0, _), (1, _), (2, _), (3, _), (4, _), (5, _), (6, _), (7, _), (9, _)] dX4_falls_142 (by decide) rfl ?_
                          refine k_iload Ox dX4_falls_144 1 rfl ?_
                          refine k_istore Ox [(6, _), (8, _), (11, _), (10, _), (0, _), (1, _), (2, _), (3, _), (4, _), (5, _), (7, _), (9, _)] dX4_falls_146 (by decide) rfl ?_
                          refine k_iincN Ox (k := 11) (m := 1) [(9, _), (6, _), (8, _), (11, _), (10, _), (0, _), (1, _), (2, _), (3, _), (4, _), (5, _), (7, _)] dX4_falls_148 rfl rfl (by decide) rfl ?_
                          refine k_goto Ox 60 dX4_falls_151 rfl ?_
                          refine k_sub [5, 6, 7, 8, 9, 10, 1, 11, 2, 0] [(0, _), (1, _), (2, _), (3, _), (4, _), (5, _), (6, _), (7, _), (8, _), (9, _)] rfl ?_
                          first | (exfalso; exact c_103 c_132) | (exfalso; exact c_132 c_103) | (exfalso; exact nI_n6 (show k < 100 by omega) c_132) | (obtain ⟨q, rfl⟩ := flP_ne (fun q z => by have := hpl q z; omega) c_103; exact ih (k + 1) _ _ (some q) (by omega) (by omega) hj hre hpl (fl_some he h6 hn)) | (obtain rfl := flP_eq (fun q z => by have := hpl q z; omega) c_103; first | exact ih (k + 1) _ _ none (by omega) (by omega) hj hj hpl (fl_hold he h6 hn c_121) | exact ih (k + 1) _ _ (some k) (by omega) (by omega) hj hre (fun q z => by cases z; omega) (fl_fall he h6 hn c_121))
                        · refine k_iload Ox dX4_falls_135 0 rfl ?_
                          refine k_goto Ox 142 dX4_falls_137 rfl ?_
                          refine k_istore Ox [(8, _), (11, _), (10, _), (0, _), (1, _), (2, _), (3, _), (4, _), (5, _), (6, _), (7, _), (9, _)] dX4_falls_142 (by decide) rfl ?_
                          refine k_iload Ox dX4_falls_144 1 rfl ?_
                          refine k_istore Ox [(6, _), (8, _), (11, _), (10, _), (0, _), (1, _), (2, _), (3, _), (4, _), (5, _), (7, _), (9, _)] dX4_falls_146 (by decide) rfl ?_
                          refine k_iincN Ox (k := 11) (m := 1) [(9, _), (6, _), (8, _), (11, _), (10, _), (0, _), (1, _), (2, _), (3, _), (4, _), (5, _), (7, _)] dX4_falls_148 rfl rfl (by decide) rfl ?_
                          refine k_goto Ox 60 dX4_falls_151 rfl ?_
                          refine k_sub [5, 6, 7, 8, 9, 10, 1, 11, 2, 0] [(0, _), (1, _), (2, _), (3, _), (4, _), (5, _), (6, _), (7, _), (8, _), (9, _)] rfl ?_
                          first | (exfalso; exact c_103 c_132) | (exfalso; exact c_132 c_103) | (exfalso; exact nI_n6 (show k < 100 by omega) c_132) | (obtain ⟨q, rfl⟩ := flP_ne (fun q z => by have := hpl q z; omega) c_103; exact ih (k + 1) _ _ (some q) (by omega) (by omega) hj hre hpl (fl_some he h6 hn)) | (obtain rfl := flP_eq (fun q z => by have := hpl q z; omega) c_103; first | exact ih (k + 1) _ _ none (by omega) (by omega) hj hj hpl (fl_hold he h6 hn c_121) | exact ih (k + 1) _ _ (some k) (by omega) (by omega) hj hre (fun q z => by cases z; omega) (fl_fall he h6 hn c_121))
                      · refine k_iload Ox dX4_falls_124 11 rfl ?_
                        refine k_istore Ox [(7, _), (11, _), (10, _), (0, _), (1, _), (2, _), (3, _), (4, _), (5, _), (6, _), (8, _), (9, _)] dX4_falls_126 (by decide) rfl ?_
                        refine k_iload Ox dX4_falls_128 0 rfl ?_
                        refine k_bipush Ox (v := -6) dX4_falls_130 (by decide) ?_
                        refine k_icmp_ne Ox 140 dX4_falls_132 rfl (fun c_132 => ?_) (fun c_132 => ?_)
                        · refine k_iload Ox dX4_falls_140 10 rfl ?_
                          refine k_istore Ox [(8, _), (7, _), (11, _), (10, _), (0, _), (1, _), (2, _), (3, _), (4, _), (5, _), (6, _), (9, _)] dX4_falls_142 (by decide) rfl ?_
                          refine k_iload Ox dX4_falls_144 2 rfl ?_
                          refine k_istore Ox [(6, _), (8, _), (7, _), (11, _), (10, _), (0, _), (1, _), (2, _), (3, _), (4, _), (5, _), (9, _)] dX4_falls_146 (by decide) rfl ?_
                          refine k_iincN Ox (k := 11) (m := 1) [(9, _), (6, _), (8, _), (7, _), (11, _), (10, _), (0, _), (1, _), (2, _), (3, _), (4, _), (5, _)] dX4_falls_148 rfl rfl (by decide) rfl ?_
                          refine k_goto Ox 60 dX4_falls_151 rfl ?_
                          refine k_sub [6, 7, 8, 9, 10, 11, 1, 3, 2, 0] [(0, _), (1, _), (2, _), (3, _), (4, _), (5, _), (6, _), (7, _), (8, _), (9, _)] rfl ?_
                          first | (exfalso; exact c_103 c_132) | (exfalso; exact c_132 c_103) | (exfalso; exact nI_n6 (show k < 100 by omega) c_132) | (obtain ⟨q, rfl⟩ := flP_ne (fun q z => by have := hpl q z; omega) c_103; exact ih (k + 1) _ _ (some q) (by omega) (by omega) hj hre hpl (fl_some he h6 hn)) | (obtain rfl := flP_eq (fun q z => by have := hpl q z; omega) c_103; first | exact ih (k + 1) _ _ none (by omega) (by omega) hj hj hpl (fl_hold he h6 hn c_121) | exact ih (k + 1) _ _ (some k) (by omega) (by omega) hj hre (fun q z => by cases z; omega) (fl_fall he h6 hn c_121))
                        · refine k_iload Ox dX4_falls_135 1 rfl ?_
                          refine k_goto Ox 142 dX4_falls_137 rfl ?_
                          refine k_istore Ox [(8, _), (7, _), (11, _), (10, _), (0, _), (1, _), (2, _), (3, _), (4, _), (5, _), (6, _), (9, _)] dX4_falls_142 (by decide) rfl ?_
                          refine k_iload Ox dX4_falls_144 2 rfl ?_
                          refine k_istore Ox [(6, _), (8, _), (7, _), (11, _), (10, _), (0, _), (1, _), (2, _), (3, _), (4, _), (5, _), (9, _)] dX4_falls_146 (by decide) rfl ?_
                          refine k_iincN Ox (k := 11) (m := 1) [(9, _), (6, _), (8, _), (7, _), (11, _), (10, _), (0, _), (1, _), (2, _), (3, _), (4, _), (5, _)] dX4_falls_148 rfl rfl (by decide) rfl ?_
                          refine k_goto Ox 60 dX4_falls_151 rfl ?_
                          refine k_sub [6, 7, 8, 9, 10, 11, 1, 3, 2, 0] [(0, _), (1, _), (2, _), (3, _), (4, _), (5, _), (6, _), (7, _), (8, _), (9, _)] rfl ?_
                          first | (exfalso; exact c_103 c_132) | (exfalso; exact c_132 c_103) | (exfalso; exact nI_n6 (show k < 100 by omega) c_132) | (obtain ⟨q, rfl⟩ := flP_ne (fun q z => by have := hpl q z; omega) c_103; exact ih (k + 1) _ _ (some q) (by omega) (by omega) hj hre hpl (fl_some he h6 hn)) | (obtain rfl := flP_eq (fun q z => by have := hpl q z; omega) c_103; first | exact ih (k + 1) _ _ none (by omega) (by omega) hj hj hpl (fl_hold he h6 hn c_121) | exact ih (k + 1) _ _ (some k) (by omega) (by omega) hj hre (fun q z => by cases z; omega) (fl_fall he h6 hn c_121))
                  · have hno := fl_end c_63 (fl_no he (fun z => acr_none hL hG c_93 z))
                    refine k_bipush Ox (v := -5) dX4_falls_96 (by decide) ?_
                    refine k_iret0 Ox Rt dX4_falls_98 (Nat.le_of_ble_eq_true rfl) (Nat.le_of_ble_eq_true rfl) rfl ?_
                    exact ⟨⟨by rw [flR, pick_t c_4, pick_t hok, nn_big ht, nn_nI (by omega), nn_nI (by omega), nn_nI (by omega), hno], _, rfl⟩, rfl⟩
            refine k_sub [4, 5, 6, 7, 8, 9, 3, 2, 1, 0] [(0, _), (1, _), (2, _), (3, _), (4, _), (5, _), (6, _), (7, _), (8, _), (9, _)] rfl ?_
            exact L60 (m + 1) 0 j1 j1 none (by omega) (by omega) hj1 hj1 (fun q z => by cases z) rfl
          · have hf : (inR 1 6 (nI n) && (decide (x5 = 0) || decide (x5 = 1)) && inR 0 6 (nI m) && rtOK x2 (nn (nI m))) = false := by rw [c_14, c_22, c_32, nn_nI (by omega), c_41]; rfl
            refine k_bipush Ox (v := -2) dX4_falls_44 (by decide) ?_
            refine k_iret0 Ox Rt dX4_falls_46 (Nat.le_of_ble_eq_true rfl) (Nat.le_of_ble_eq_true rfl) rfl ?_
            first | exact ⟨⟨by rw [flR, pick_t c_4, pick_f hf], _, rfl⟩, rfl⟩
  · refine k_iconst Ox (v := -1) dX4_falls_7 (by decide) ?_
    refine k_iret0 Ox Rt dX4_falls_8 (Nat.le_of_ble_eq_true rfl) (Nat.le_of_ble_eq_true rfl) rfl ?_
    exact ⟨⟨by rw [flR, pick_f c_4], _, rfl⟩, rfl⟩
