theorem lk_X5_safe_f119 : Cond.fieldLink RX5 119 "LieBridgesModel" "bestMany" "I" ∈ wsX5_safe := List.mem_of_getElem? (i := 1) rfl
theorem hin_X5_safe_X5 : ∀ w ∈ u_ws RX5 TX5 22, w ∈ wsX5_safe := fun _ h => List.mem_cons_of_mem _ (List.mem_append_right _ h)
theorem lk_X5_safe_f122 : Cond.fieldLink RX5 122 "LieBridgesModel" "bestCode" "I" ∈ wsX5_safe := List.mem_of_getElem? (i := 2) rfl
set_option maxHeartbeats 1000000 in
set_option maxRecDepth 4000 in
theorem c_X5_safe (G : Gx) (m a1 a2 a3 a4 a5 a6 a7 a8 a9 a10 a11 a12 a13 : Nat) (fd sg mn : Nat) (w1 w2 w3 w4 w5 w6 : Int32) (L Gr S : Nat → Nat) (x1 x2 x3 : Int32) (hL : okP L) (hG : okP Gr) (hS : okS S) : Ct G yX5_safe wsX5_safe { frames := 3, cells := 0, slots := 0, locals := 75 } [.ref m, .int x1, .int x2, .int x3] [(m, cO 5 [.ref a1, .ref a2, .ref a3, .ref a4, .ref a5, .ref a6, .ref a7, .int (nI fd), .int (nI sg), .ref a8, .int (nI mn), .ref a9, .ref a10, .int w1, .int w2, .ref a11, .int w3, .int w4, .int w5, .int w6, .ref a12, .ref a13]), (a1, cI G 6 (rN L)), (a2, cI G 6 (rN Gr)), (a7, cI G 6 (rN S))] (fun r wa => r = some (.int (sfM L Gr S x1 x2 x3)) ∧ ∃ w93 : Int32, ∃ w94 : Int32, ∃ w96 : Int32, wa = [(m, cO 5 [.ref a1, .ref a2, .ref a3, .ref a4, .ref a5, .ref a6, .ref a7, .int (nI fd), .int (nI sg), .ref a8, .int (nI mn), .ref a9, .ref a10, .int w1, .int w2, .ref a11, .int w93, .int w94, .int w5, .int w96, .ref a12, .ref a13]), (a1, cI G 6 (rN L)), (a2, cI G 6 (rN Gr)), (a7, cI G 6 (rN S))]) := by
  refine CtN.of [(0, .ref m), (1, .int x1), (2, .int x2), (3, .int x3)] (by decide +kernel) rfl rfl rfl rfl ?_
  intro x Ox Rt
  refine k_iload_n Ox dX5_safe_0 rfl 1 rfl ?_
  refine k_callS Ox [] (c_X5_is6 G _ ) 1 rfl rfl rfl ⟨rfl, rfl⟩ rfl rfl gX5_safe_X5_is6 ⟨(by decide +kernel), (by decide +kernel), (by decide +kernel)⟩ rfl dX5_safe_1 (Nat.le_of_ble_eq_true rfl) rfl ⟨Nat.le_of_ble_eq_true rfl, Nat.le_of_ble_eq_true rfl⟩ (fun r wa wb hp => ?_)
  obtain ⟨⟨rfl, rfl⟩, rfl⟩ := hp
  show V x G _ _ _ _ _ (.int _ :: _) [_, _, _, _]
  refine k_if_eqB Ox 14 dX5_safe_4 rfl (fun c_4 => ?_) (fun c_4 => ?_)
  · have hf : (inR 0 5 x1 && inR 0 5 x2) = false := by rw [c_4]; rfl
    refine k_iconst Ox (v := -1) dX5_safe_14 (by decide) ?_
    refine k_iret0 Ox Rt dX5_safe_15 (Nat.le_of_ble_eq_true rfl) (Nat.le_of_ble_eq_true rfl) rfl ?_
    exact ⟨⟨by rw [sfM, pick_f hf], _, _, _, rfl⟩, rfl⟩
  · refine k_iload_n Ox dX5_safe_7 rfl 2 rfl ?_
    refine k_callS Ox [] (c_X5_is6 G _ ) 1 rfl rfl rfl ⟨rfl, rfl⟩ rfl rfl gX5_safe_X5_is6 ⟨(by decide +kernel), (by decide +kernel), (by decide +kernel)⟩ rfl dX5_safe_8 (Nat.le_of_ble_eq_true rfl) rfl ⟨Nat.le_of_ble_eq_true rfl, Nat.le_of_ble_eq_true rfl⟩ (fun r wa wb hp => ?_)
    obtain ⟨⟨rfl, rfl⟩, rfl⟩ := hp
    show V x G _ _ _ _ _ (.int _ :: _) [_, _, _, _]
    refine k_if_neB Ox 16 dX5_safe_11 rfl (fun c_11 => ?_) (fun c_11 => ?_)
    · obtain ⟨j1, hj1, rfl⟩ := in6_of c_4
      obtain ⟨j2, hj2, rfl⟩ := in6_of c_11
      refine k_aload_n Ox dX5_safe_16 rfl 0 rfl ?_
      refine k_iload_n Ox dX5_safe_17 rfl 1 rfl ?_
      refine k_iload_n Ox dX5_safe_18 rfl 2 rfl ?_
      refine k_callV Ox [0, 1, 2, 3] (c_X5_laySafe G _ _ _ _ _ _ _ _ _ _ _ _ _ _ _ _ _ _ _ _ _ _ _ _ _ _ _ _ (hL) (hG) (hS) (hj1) (hj2)) 2 rfl rfl rfl ⟨rfl, rfl⟩ rfl rfl gX5_safe_X5_laySafe rfl 0 rfl ⟨rfl, (by decide +kernel), (by decide +kernel), (by decide +kernel)⟩ rfl dX5_safe_19 (Nat.le_of_ble_eq_true rfl) rfl ⟨Nat.le_of_ble_eq_true rfl, Nat.le_of_ble_eq_true rfl⟩ (fun r wa wb hp => ?_)
      obtain ⟨⟨rfl, rfl⟩, rfl⟩ := hp
      show V x G _ _ _ _ _ (.int _ :: _) [_, _, _, _]
      refine k_if_eqB Ox 55 dX5_safe_22 rfl (fun c_22 => ?_) (fun c_22 => ?_)
      · refine k_bipush Ox (v := -6) dX5_safe_55 (by decide) ?_
        refine k_iret0 Ox Rt dX5_safe_57 (Nat.le_of_ble_eq_true rfl) (Nat.le_of_ble_eq_true rfl) rfl ?_
        first | exact ⟨⟨by rw [sfM, pick_t (and_tt c_4 c_11), nn_nI (by omega), nn_nI (by omega), sw_no (es_none c_22)], _, _, _, rfl⟩, rfl⟩ | exact ⟨⟨by rw [sfM, pick_t (and_tt c_4 c_11), nn_nI (by omega), nn_nI (by omega), sw_out hq hio], _, _, _, rfl⟩, rfl⟩ | exact ⟨⟨by rw [sfM, pick_t (and_tt c_4 c_11), nn_nI (by omega), nn_nI (by omega), sw_in hq hi hin.1], _, _, _, rfl⟩, rfl⟩
      · obtain ⟨q, hq⟩ := es_some c_22
        have hin := sfS_in hS hq
        refine k_iload_n Ox dX5_safe_25 rfl 3 rfl ?_
        refine k_iconst Ox (v := nI 0) dX5_safe_26 rfl ?_
        refine k_aload_n Ox dX5_safe_27 rfl 0 rfl ?_
        refine k_get Ox 0 rfl rfl hin_X5_safe_X5 16 rfl lk_X5_safe_f119 rfl rfl dX5_safe_28 ?_
        refine k_top (nI q.2.1) (congrArg (fun z => smI z w3) hq) ?_
        refine k_iconst Ox (v := nI 1) dX5_safe_31 rfl ?_
        refine k_isub Ox dX5_safe_32 ?_
        refine k_callS Ox [] (c_X5_in G _ _ _ ) 3 rfl rfl rfl ⟨rfl, rfl⟩ rfl rfl gX5_safe_X5_in ⟨(by decide +kernel), (by decide +kernel), (by decide +kernel)⟩ rfl dX5_safe_33 (Nat.le_of_ble_eq_true rfl) rfl ⟨Nat.le_of_ble_eq_true rfl, Nat.le_of_ble_eq_true rfl⟩ (fun r wa wb hp => ?_)
        obtain ⟨⟨rfl, rfl⟩, rfl⟩ := hp
        show V x G _ _ _ _ _ (.int _ :: _) [_, _, _, _]
        refine k_if_eqB Ox 55 dX5_safe_36 rfl (fun c_36 => ?_) (fun c_36 => ?_)
        · have hio := bm_out (Nat.le_of_lt_succ hin.1) c_36
          refine k_bipush Ox (v := -6) dX5_safe_55 (by decide) ?_
          refine k_iret0 Ox Rt dX5_safe_57 (Nat.le_of_ble_eq_true rfl) (Nat.le_of_ble_eq_true rfl) rfl ?_
          first | exact ⟨⟨by rw [sfM, pick_t (and_tt c_4 c_11), nn_nI (by omega), nn_nI (by omega), sw_no (es_none c_22)], _, _, _, rfl⟩, rfl⟩ | exact ⟨⟨by rw [sfM, pick_t (and_tt c_4 c_11), nn_nI (by omega), nn_nI (by omega), sw_out hq hio], _, _, _, rfl⟩, rfl⟩ | exact ⟨⟨by rw [sfM, pick_t (and_tt c_4 c_11), nn_nI (by omega), nn_nI (by omega), sw_in hq hi hin.1], _, _, _, rfl⟩, rfl⟩
        · obtain ⟨i, hi, rfl⟩ := bm_in (Nat.le_of_lt_succ hin.1) c_36
          refine k_aload_n Ox dX5_safe_39 rfl 0 rfl ?_
          refine k_aload_n Ox dX5_safe_40 rfl 0 rfl ?_
          refine k_get Ox 0 rfl rfl hin_X5_safe_X5 17 rfl lk_X5_safe_f122 rfl rfl dX5_safe_41 ?_
          refine k_top (nI q.2.2) (congrArg (fun z => skI z w4) hq) ?_
          refine k_aload_n Ox dX5_safe_44 rfl 0 rfl ?_
          refine k_get Ox 0 rfl rfl hin_X5_safe_X5 16 rfl lk_X5_safe_f119 rfl rfl dX5_safe_45 ?_
          refine k_top (nI q.2.1) (congrArg (fun z => smI z w3) hq) ?_
          refine k_iload_n Ox dX5_safe_48 rfl 3 rfl ?_
          refine k_callV Ox [0] (c_X5_plankOf G _ _ _ _ _ _ _ _ _ _ _ _ _ _ _ _ _ _ _ _ _ _ _ _ _ _ (Nat.lt_trans hin.2.2.2 (by decide)) (Nat.le_of_lt hin.1) (hi)) 3 rfl rfl rfl ⟨rfl, rfl⟩ rfl rfl gX5_safe_X5_plankOf rfl 0 rfl ⟨rfl, (by decide +kernel), (by decide +kernel), (by decide +kernel)⟩ rfl dX5_safe_49 (Nat.le_of_ble_eq_true rfl) rfl ⟨Nat.le_of_ble_eq_true rfl, Nat.le_of_ble_eq_true rfl⟩ (fun r wa wb hp => ?_)
          obtain ⟨⟨rfl, rfl⟩, rfl⟩ := hp
          show V x G _ _ _ _ _ (.int _ :: _) [_, _, _, _]
          refine k_goto Ox 57 dX5_safe_52 rfl ?_
          refine k_iret0 Ox Rt dX5_safe_57 (Nat.le_of_ble_eq_true rfl) (Nat.le_of_ble_eq_true rfl) rfl ?_
          first | exact ⟨⟨by rw [sfM, pick_t (and_tt c_4 c_11), nn_nI (by omega), nn_nI (by omega), sw_no (es_none c_22)], _, _, _, rfl⟩, rfl⟩ | exact ⟨⟨by rw [sfM, pick_t (and_tt c_4 c_11), nn_nI (by omega), nn_nI (by omega), sw_out hq hio], _, _, _, rfl⟩, rfl⟩ | exact ⟨⟨by rw [sfM, pick_t (and_tt c_4 c_11), nn_nI (by omega), nn_nI (by omega), sw_in hq hi hin.1], _, _, _, rfl⟩, rfl⟩
    · have hf : (inR 0 5 x1 && inR 0 5 x2) = false := by rw [c_11]; simp
      refine k_iconst Ox (v := -1) dX5_safe_14 (by decide) ?_
      refine k_iret0 Ox Rt dX5_safe_15 (Nat.le_of_ble_eq_true rfl) (Nat.le_of_ble_eq_true rfl) rfl ?_
      exact ⟨⟨by rw [sfM, pick_f hf], _, _, _, rfl⟩, rfl⟩
theorem lk_X5_chance_k148 : Cond.constantLong RX5 148 (-1000000000000000001) ∈ wsX5_chance := List.mem_of_getElem? (i := 1) rfl
theorem lk_X5_chance_f119 : Cond.fieldLink RX5 119 "LieBridgesModel" "bestMany" "I" ∈ wsX5_chance := List.mem_of_getElem? (i := 4) rfl
theorem hin_X5_chance_X5 : ∀ w ∈ u_ws RX5 TX5 22, w ∈ wsX5_chance := fun _ h => List.mem_cons_of_mem _ (List.mem_append_right _ h)
theorem lk_X5_chance_f142 : Cond.fieldLink RX5 142 "LieBridgesModel" "safeUp" "I" ∈ wsX5_chance := List.mem_of_getElem? (i := 3) rfl
theorem lk_X5_chance_k150 : Cond.constantLong RX5 150 (-1000000000000000002) ∈ wsX5_chance := List.mem_of_getElem? (i := 2) rfl
set_option maxHeartbeats 1000000 in
set_option maxRecDepth 4000 in
theorem c_X5_chance (G : Gx) (m a1 a2 a3 a4 a5 a6 a7 a8 a9 a10 a11 a12 a13 : Nat) (fd sg mn : Nat) (w1 w2 w3 w4 w5 w6 : Int32) (L Gr S : Nat → Nat) (x1 x2 x3 : Int32) (hL : okP L) (hG : okP Gr) (hS : okS S) : Ct G yX5_chance wsX5_chance { frames := 3, cells := 0, slots := 0, locals := 75 } [.ref m, .int x1, .int x2, .int x3] [(m, cO 5 [.ref a1, .ref a2, .ref a3, .ref a4, .ref a5, .ref a6, .ref a7, .int (nI fd), .int (nI sg), .ref a8, .int (nI mn), .ref a9, .ref a10, .int w1, .int w2, .ref a11, .int w3, .int w4, .int w5, .int w6, .ref a12, .ref a13]), (a1, cI G 6 (rN L)), (a2, cI G 6 (rN Gr)), (a7, cI G 6 (rN S))] (fun r wa => r = some (.long (caM L Gr S x1 x2 x3)) ∧ ∃ w93 : Int32, ∃ w94 : Int32, ∃ w96 : Int32, wa = [(m, cO 5 [.ref a1, .ref a2, .ref a3, .ref a4, .ref a5, .ref a6, .ref a7, .int (nI fd), .int (nI sg), .ref a8, .int (nI mn), .ref a9, .ref a10, .int w1, .int w2, .ref a11, .int w93, .int w94, .int w5, .int w96, .ref a12, .ref a13]), (a1, cI G 6 (rN L)), (a2, cI G 6 (rN Gr)), (a7, cI G 6 (rN S))]) := by
  refine CtN.of [(0, .ref m), (1, .int x1), (2, .int x2), (3, .int x3)] (by decide +kernel) rfl rfl rfl rfl ?_
  intro x Ox Rt
  refine k_iload_n Ox dX5_chance_0 rfl 1 rfl ?_
  refine k_callS Ox [] (c_X5_is6 G _ ) 1 rfl rfl rfl ⟨rfl, rfl⟩ rfl rfl gX5_chance_X5_is6 ⟨(by decide +kernel), (by decide +kernel), (by decide +kernel)⟩ rfl dX5_chance_1 (Nat.le_of_ble_eq_true rfl) rfl ⟨Nat.le_of_ble_eq_true rfl, Nat.le_of_ble_eq_true rfl⟩ (fun r wa wb hp => ?_)
  obtain ⟨⟨rfl, rfl⟩, rfl⟩ := hp
  show V x G _ _ _ _ _ (.int _ :: _) [_, _, _, _]
  refine k_if_eqB Ox 14 dX5_chance_4 rfl (fun c_4 => ?_) (fun c_4 => ?_)
  · have hf : (inR 0 5 x1 && inR 0 5 x2) = false := by rw [c_4]; rfl
    refine k_ldc2 Ox (-1000000000000000001) dX5_chance_14 lk_X5_chance_k148 ?_
    refine k_lret0 Ox Rt dX5_chance_17 (Nat.le_of_ble_eq_true rfl) (Nat.le_of_ble_eq_true rfl) rfl ?_
    exact ⟨⟨by rw [caM, if_neg (by rw [hf]; decide)], _, _, _, rfl⟩, rfl⟩
  · refine k_iload_n Ox dX5_chance_7 rfl 2 rfl ?_
    refine k_callS Ox [] (c_X5_is6 G _ ) 1 rfl rfl rfl ⟨rfl, rfl⟩ rfl rfl gX5_chance_X5_is6 ⟨(by decide +kernel), (by decide +kernel), (by decide +kernel)⟩ rfl dX5_chance_8 (Nat.le_of_ble_eq_true rfl) rfl ⟨Nat.le_of_ble_eq_true rfl, Nat.le_of_ble_eq_true rfl⟩ (fun r wa wb hp => ?_)
    obtain ⟨⟨rfl, rfl⟩, rfl⟩ := hp
    show V x G _ _ _ _ _ (.int _ :: _) [_, _, _, _]
    refine k_if_neB Ox 18 dX5_chance_11 rfl (fun c_11 => ?_) (fun c_11 => ?_)
    · refine k_iload_n Ox dX5_chance_18 rfl 3 rfl ?_
      refine k_iconst Ox (v := nI 0) dX5_chance_19 rfl ?_
      refine k_iconst Ox (v := nI 1) dX5_chance_20 rfl ?_
      refine k_callS Ox [] (c_X5_in G _ _ _ ) 3 rfl rfl rfl ⟨rfl, rfl⟩ rfl rfl gX5_chance_X5_in ⟨(by decide +kernel), (by decide +kernel), (by decide +kernel)⟩ rfl dX5_chance_21 (Nat.le_of_ble_eq_true rfl) rfl ⟨Nat.le_of_ble_eq_true rfl, Nat.le_of_ble_eq_true rfl⟩ (fun r wa wb hp => ?_)
      obtain ⟨⟨rfl, rfl⟩, rfl⟩ := hp
      show V x G _ _ _ _ _ (.int _ :: _) [_, _, _, _]
      change V x G _ _ _ _ _ (.int (bI (inR (0) (1) _)) :: _) _
      refine k_if_neB Ox 31 dX5_chance_24 rfl (fun c_24 => ?_) (fun c_24 => ?_)
      · obtain ⟨j1, hj1, rfl⟩ := in6_of c_4
        obtain ⟨j2, hj2, rfl⟩ := in6_of c_11
        refine k_aload_n Ox dX5_chance_31 rfl 0 rfl ?_
        refine k_iload_n Ox dX5_chance_32 rfl 1 rfl ?_
        refine k_iload_n Ox dX5_chance_33 rfl 2 rfl ?_
        refine k_callV Ox [0, 1, 2, 3] (c_X5_laySafe G _ _ _ _ _ _ _ _ _ _ _ _ _ _ _ _ _ _ _ _ _ _ _ _ _ _ _ _ (hL) (hG) (hS) (hj1) (hj2)) 2 rfl rfl rfl ⟨rfl, rfl⟩ rfl rfl gX5_chance_X5_laySafe rfl 0 rfl ⟨rfl, (by decide +kernel), (by decide +kernel), (by decide +kernel)⟩ rfl dX5_chance_34 (Nat.le_of_ble_eq_true rfl) rfl ⟨Nat.le_of_ble_eq_true rfl, Nat.le_of_ble_eq_true rfl⟩ (fun r wa wb hp => ?_)
        obtain ⟨⟨rfl, rfl⟩, rfl⟩ := hp
        show V x G _ _ _ _ _ (.int _ :: _) [_, _, _, _]
        refine k_istore Ox [(4, _), (0, _), (1, _), (2, _), (3, _)] dX5_chance_37 (by decide) rfl ?_
        have L52 : ∀ (u : Nat), u = caU (sfS L Gr S j2 j1) → V x G 10 0 0 52 [(0, .ref m), (1, .int (nI j1)), (2, .int (nI j2)), (3, .int x3), (4, .int (bI (sfS L Gr S j2 j1).isSome))] [.int (nI u)] [(m, cO 5 [.ref a1, .ref a2, .ref a3, .ref a4, .ref a5, .ref a6, .ref a7, .int (nI fd), .int (nI sg), .ref a8, .int (nI mn), .ref a9, .ref a10, .int w1, .int w2, .ref a11, .int (smI (sfS L Gr S j2 j1) w3), .int (skI (sfS L Gr S j2 j1) w4), .int w5, .int (suI (sfS L Gr S j2 j1) w6), .ref a12, .ref a13]), (a1, cI G 6 (rN L)), (a2, cI G 6 (rN Gr)), (a7, cI G 6 (rN S))] := by
          intro u hu
          refine k_istore Ox [(5, _), (0, _), (1, _), (2, _), (3, _), (4, _)] dX5_chance_52 (by decide) rfl ?_
          have L72 : ∀ (l : Nat), l = caL (sfS L Gr S j2 j1) → V x G 10 0 0 72 [(0, .ref m), (1, .int (nI j1)), (2, .int (nI j2)), (3, .int x3), (4, .int (bI (sfS L Gr S j2 j1).isSome)), (5, .int (nI u))] [.int (nI l)] [(m, cO 5 [.ref a1, .ref a2, .ref a3, .ref a4, .ref a5, .ref a6, .ref a7, .int (nI fd), .int (nI sg), .ref a8, .int (nI mn), .ref a9, .ref a10, .int w1, .int w2, .ref a11, .int (smI (sfS L Gr S j2 j1) w3), .int (skI (sfS L Gr S j2 j1) w4), .int w5, .int (suI (sfS L Gr S j2 j1) w6), .ref a12, .ref a13]), (a1, cI G 6 (rN L)), (a2, cI G 6 (rN Gr)), (a7, cI G 6 (rN S))] := by
            intro l hl
            refine k_istore Ox [(6, _), (0, _), (1, _), (2, _), (3, _), (4, _), (5, _)] dX5_chance_72 (by decide) rfl ?_
            have hbd := ca_bd (L := L) (Gr := Gr) (b := j2) (a := j1) hS
            rw [← hu, ← hl] at hbd
            refine k_iload Ox dX5_chance_74 6 rfl ?_
            refine k_istore Ox [(7, _), (6, _), (0, _), (1, _), (2, _), (3, _), (4, _), (5, _)] dX5_chance_76 (by decide) rfl ?_
            refine k_iload Ox dX5_chance_78 1 rfl ?_
            refine k_istore Ox [(8, _), (7, _), (6, _), (0, _), (1, _), (2, _), (3, _), (4, _), (5, _)] dX5_chance_80 (by decide) rfl ?_
            have L82 : ∀ (fuel : Nat) (x1 y : Nat), y + 1 ≤ fuel → x1 ≤ 100000 → y ≤ 100000 → Nat.gcd x1 y = Nat.gcd u l → V x G 10 0 0 82 [(0, .ref m), (1, .int (nI j1)), (2, .int (nI j2)), (3, .int x3), (4, .int (bI (sfS L Gr S j2 j1).isSome)), (5, .int (nI u)), (6, .int (nI l)), (7, .int (nI x1)), (8, .int (nI y))] [] [(m, cO 5 [.ref a1, .ref a2, .ref a3, .ref a4, .ref a5, .ref a6, .ref a7, .int (nI fd), .int (nI sg), .ref a8, .int (nI mn), .ref a9, .ref a10, .int w1, .int w2, .ref a11, .int (smI (sfS L Gr S j2 j1) w3), .int (skI (sfS L Gr S j2 j1) w4), .int w5, .int (suI (sfS L Gr S j2 j1) w6), .ref a12, .ref a13]), (a1, cI G 6 (rN L)), (a2, cI G 6 (rN Gr)), (a7, cI G 6 (rN S))] := by
              intro fuel
              induction fuel with
              | zero => intro x1 y hfuel hx1 hy1 hg; exact absurd hfuel (by omega)
              | succ fuel ih =>
                intro x1 y hfuel hx1 hy1 hg
                refine k_iload Ox dX5_chance_82 8 rfl ?_
                refine k_if_eqN Ox 105 dX5_chance_84 rfl (by omega) (fun c_84 => ?_) (fun c_84 => ?_)
                · have hxg : x1 = Nat.gcd u l := ch_loop hg c_84
                  have hg0 : 0 < Nat.gcd u l := Nat.gcd_pos_of_pos_right _ (by omega)
                  subst hxg
                  refine k_iload_n Ox dX5_chance_105 rfl 3 rfl ?_
                  refine k_if_ne Ox 118 dX5_chance_106 rfl (fun c_106 => ?_) (fun c_106 => ?_)
                  · refine k_iload Ox dX5_chance_118 6 rfl ?_
                    refine k_iload Ox dX5_chance_120 7 rfl ?_
                    refine k_idivN Ox dX5_chance_122 (by omega) (by first | decide | omega) (by first | decide | omega) ?_
                    refine k_i2l Ox dX5_chance_123 rfl ?_
                    refine k_lret0 Ox Rt dX5_chance_124 (Nat.le_of_ble_eq_true rfl) (Nat.le_of_ble_eq_true rfl) rfl ?_
                    first | exact ⟨⟨by rw [caM, if_pos (and_tt c_4 c_11), if_pos (ch01t c_24), nn_nI (by omega), nn_nI (by omega), ← hu, ← hl, if_pos c_106, lI_of_nI (Nat.lt_of_le_of_lt (Nat.div_le_self _ _) (by omega))], _, _, _, rfl⟩, rfl⟩ | exact ⟨⟨by rw [caM, if_pos (and_tt c_4 c_11), if_pos (ch01t c_24), nn_nI (by omega), nn_nI (by omega), ← hu, ← hl, if_neg c_106, lI_of_nI (Nat.lt_of_le_of_lt (Nat.div_le_self _ _) (by omega))], _, _, _, rfl⟩, rfl⟩
                  · refine k_iload Ox dX5_chance_109 5 rfl ?_
                    refine k_iload Ox dX5_chance_111 7 rfl ?_
                    refine k_idivN Ox dX5_chance_113 (by omega) (by first | decide | omega) (by first | decide | omega) ?_
                    refine k_i2l Ox dX5_chance_114 rfl ?_
                    refine k_goto Ox 124 dX5_chance_115 rfl ?_
                    refine k_lret0 Ox Rt dX5_chance_124 (Nat.le_of_ble_eq_true rfl) (Nat.le_of_ble_eq_true rfl) rfl ?_
                    first | exact ⟨⟨by rw [caM, if_pos (and_tt c_4 c_11), if_pos (ch01t c_24), nn_nI (by omega), nn_nI (by omega), ← hu, ← hl, if_pos c_106, lI_of_nI (Nat.lt_of_le_of_lt (Nat.div_le_self _ _) (by omega))], _, _, _, rfl⟩, rfl⟩ | exact ⟨⟨by rw [caM, if_pos (and_tt c_4 c_11), if_pos (ch01t c_24), nn_nI (by omega), nn_nI (by omega), ← hu, ← hl, if_neg c_106, lI_of_nI (Nat.lt_of_le_of_lt (Nat.div_le_self _ _) (by omega))], _, _, _, rfl⟩, rfl⟩
                · have hy0 : 0 < y := by omega
                  refine k_iload Ox dX5_chance_87 7 rfl ?_
                  refine k_iload Ox dX5_chance_89 8 rfl ?_
                  refine k_iremN Ox dX5_chance_91 (by omega) (by first | decide | omega) (by first | decide | omega) ?_
                  refine k_istore Ox [(9, _), (0, _), (1, _), (2, _), (3, _), (4, _), (5, _), (6, _), (7, _), (8, _)] dX5_chance_92 (by decide) rfl ?_
                  refine k_iload Ox dX5_chance_94 9 rfl ?_
                  refine k_istore Ox [(7, _), (9, _), (0, _), (1, _), (2, _), (3, _), (4, _), (5, _), (6, _), (8, _)] dX5_chance_96 (by decide) rfl ?_
                  refine k_iload Ox dX5_chance_98 1 rfl ?_
                  refine k_istore Ox [(8, _), (7, _), (9, _), (0, _), (1, _), (2, _), (3, _), (4, _), (5, _), (6, _)] dX5_chance_100 (by decide) rfl ?_
                  refine k_goto Ox 82 dX5_chance_102 rfl ?_
                  refine k_sub [3, 4, 5, 6, 7, 8, 9, 1, 0] [(0, _), (1, _), (2, _), (3, _), (4, _), (5, _), (6, _), (7, _), (8, _)] rfl ?_
                  exact ih _ _ (by have := Nat.mod_lt x1 hy0; omega) (by omega) (by have := Nat.mod_lt x1 hy0; omega) ((sd_g x1 y).trans hg)
            refine k_sub [3, 4, 5, 6, 7, 8, 2, 1, 0] [(0, _), (1, _), (2, _), (3, _), (4, _), (5, _), (6, _), (7, _), (8, _)] rfl ?_
            exact L82 (l + 1) u l (by omega) (by omega) (by omega) rfl
          refine k_iload Ox dX5_chance_54 5 rfl ?_
          refine k_if_eqB Ox 71 dX5_chance_56 rfl (fun c_56 => ?_) (fun c_56 => ?_)
          · refine k_iconst Ox (v := nI 1) dX5_chance_71 rfl ?_
            refine k_sub [1, 2, 3, 4, 5, 0] [(0, _), (1, _), (2, _), (3, _), (4, _), (5, _)] rfl ?_
            first | exact L72 1 (cl_n c_56) | exact L72 _ (cl_s hq)
          · obtain ⟨q, hq⟩ := es_some c_56
            have hin := sfS_in hS hq
            refine k_bipush Ox (v := nI 10) dX5_chance_59 rfl ?_
            refine k_aload_n Ox dX5_chance_61 rfl 1 rfl ?_
            refine k_get Ox 0 rfl rfl hin_X5_chance_X5 16 rfl lk_X5_chance_f119 rfl rfl dX5_chance_62 ?_
            refine k_top (nI q.2.1) (congrArg (fun z => smI z w3) hq) ?_
            refine k_callS Ox [] (c_X5_powerOf G _ _ (by decide) (Nat.le_of_lt hin.1) (by decide)) 2 rfl rfl rfl ⟨rfl, rfl⟩ rfl rfl gX5_chance_X5_powerOf ⟨(by decide +kernel), (by decide +kernel), (by decide +kernel)⟩ rfl dX5_chance_65 (Nat.le_of_ble_eq_true rfl) rfl ⟨Nat.le_of_ble_eq_true rfl, Nat.le_of_ble_eq_true rfl⟩ (fun r wa wb hp => ?_)
            obtain ⟨⟨rfl, rfl⟩, rfl⟩ := hp
            show V x G _ _ _ _ _ (.int _ :: _) [_, _, _, _]
            refine k_goto Ox 72 dX5_chance_68 rfl ?_
            refine k_sub [1, 2, 3, 4, 5, 0] [(0, _), (1, _), (2, _), (3, _), (4, _), (5, _)] rfl ?_
            first | exact L72 1 (cl_n c_56) | exact L72 _ (cl_s hq)
        refine k_iload Ox dX5_chance_39 0 rfl ?_
        refine k_if_eqB Ox 51 dX5_chance_41 rfl (fun c_41 => ?_) (fun c_41 => ?_)
        · refine k_iconst Ox (v := nI 0) dX5_chance_51 rfl ?_
          refine k_sub [1, 2, 3, 4, 0] [(0, _), (1, _), (2, _), (3, _), (4, _)] rfl ?_
          first | exact L52 0 (cu_n c_41) | exact L52 _ (cu_s hq)
        · obtain ⟨q, hq⟩ := es_some c_41
          have hin := sfS_in hS hq
          refine k_aload_n Ox dX5_chance_44 rfl 1 rfl ?_
          refine k_get Ox 0 rfl rfl hin_X5_chance_X5 19 rfl lk_X5_chance_f142 rfl rfl dX5_chance_45 ?_
          refine k_top (nI (q.1 / 10 ^ (5 - q.2.1))) (congrArg (fun z => suI z w6) hq) ?_
          refine k_goto Ox 52 dX5_chance_48 rfl ?_
          refine k_sub [1, 2, 3, 4, 0] [(0, _), (1, _), (2, _), (3, _), (4, _)] rfl ?_
          first | exact L52 0 (cu_n c_41) | exact L52 _ (cu_s hq)
      · refine k_ldc2 Ox (-1000000000000000002) dX5_chance_27 lk_X5_chance_k150 ?_
        refine k_lret0 Ox Rt dX5_chance_30 (Nat.le_of_ble_eq_true rfl) (Nat.le_of_ble_eq_true rfl) rfl ?_
        exact ⟨⟨by rw [caM, if_pos (and_tt c_4 c_11), if_neg (by rw [ch01 c_24]; decide)], _, _, _, rfl⟩, rfl⟩
    · have hf : (inR 0 5 x1 && inR 0 5 x2) = false := by rw [c_11]; simp
      refine k_ldc2 Ox (-1000000000000000001) dX5_chance_14 lk_X5_chance_k148 ?_
      refine k_lret0 Ox Rt dX5_chance_17 (Nat.le_of_ble_eq_true rfl) (Nat.le_of_ble_eq_true rfl) rfl ?_
      exact ⟨⟨by rw [caM, if_neg (by rw [hf]; decide)], _, _, _, rfl⟩, rfl⟩
