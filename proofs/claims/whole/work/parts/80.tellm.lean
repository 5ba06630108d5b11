theorem lk_X5_tellings_f119 : Cond.fieldLink RX5 119 "LieBridgesModel" "bestMany" "I" ∈ wsX5_tellings := List.mem_of_getElem? (i := 2) rfl
theorem hin_X5_tellings_X5 : ∀ w ∈ u_ws RX5 TX5 22, w ∈ wsX5_tellings := fun _ h => List.mem_cons_of_mem _ (List.mem_append_right _ h)
theorem lk_X5_tellings_f122 : Cond.fieldLink RX5 122 "LieBridgesModel" "bestCode" "I" ∈ wsX5_tellings := List.mem_of_getElem? (i := 3) rfl
theorem lk_X5_tellings_f116 : Cond.fieldLink RX5 116 "LieBridgesModel" "bestCost" "I" ∈ wsX5_tellings := List.mem_of_getElem? (i := 1) rfl
set_option maxHeartbeats 1000000 in
set_option maxRecDepth 4000 in
theorem c_X5_tellings (G : Gx) (m a1 a2 a3 a4 a5 a6 a7 a8 a9 a10 a11 a12 a13 : Nat) (fd sg mn : Nat) (w1 w2 w3 w4 w5 w6 : Int32) (L Gr O T K : Nat → Nat) (B : Nat → Nat → Nat) (g gc : Nat → Int32) (x1 x2 x3 x4 : Int32) (hL : okP L) (hG : okP Gr) (hO : okP O) (hT : okM T) (hK : okM K) (hB : okB B) : Ct G yX5_tellings wsX5_tellings { frames := 3, cells := 0, slots := 0, locals := 74 } [.ref m, .int x1, .int x2, .int x3, .int x4] [(m, cO 5 [.ref a1, .ref a2, .ref a3, .ref a4, .ref a5, .ref a6, .ref a7, .int (nI fd), .int (nI sg), .ref a8, .int (nI mn), .ref a9, .ref a10, .int w1, .int w2, .ref a11, .int w3, .int w4, .int w5, .int w6, .ref a12, .ref a13]), (a1, cI G 6 (rN L)), (a2, cI G 6 (rN Gr)), (a3, cI G 6 (rN O)), (a4, cI G 6 (rN T)), (a5, cI G 6 (rN K)), (a6, cI G 36 (rN (flM B))), (a10, cI G 36 g), (a11, cI G 6 gc)] (fun r wa => r = some (.int (tlM L Gr O T K B x1 x2 x3 x4)) ∧ ∃ g9 : Nat → Int32, ∃ g8 : Nat → Int32, ∃ w93 : Int32, ∃ w94 : Int32, ∃ w95 : Int32, wa = [(m, cO 5 [.ref a1, .ref a2, .ref a3, .ref a4, .ref a5, .ref a6, .ref a7, .int (nI fd), .int (nI sg), .ref a8, .int (nI mn), .ref a9, .ref a10, .int w1, .int w2, .ref a11, .int w93, .int w94, .int w95, .int w6, .ref a12, .ref a13]), (a1, cI G 6 (rN L)), (a2, cI G 6 (rN Gr)), (a3, cI G 6 (rN O)), (a4, cI G 6 (rN T)), (a5, cI G 6 (rN K)), (a6, cI G 36 (rN (flM B))), (a10, cI G 36 g9), (a11, cI G 6 g8)]) := by
  refine CtN.of [(0, .ref m), (1, .int x1), (2, .int x2), (3, .int x3), (4, .int x4)] (by decide +kernel) rfl rfl rfl rfl ?_
  intro x Ox Rt
  refine k_iload_n Ox dX5_tellings_0 rfl 1 rfl ?_
  refine k_callS Ox [] (c_X5_is6 G _ ) 1 rfl rfl rfl ⟨rfl, rfl⟩ rfl rfl gX5_tellings_X5_is6 ⟨(by decide +kernel), (by decide +kernel), (by decide +kernel)⟩ rfl dX5_tellings_1 (Nat.le_of_ble_eq_true rfl) rfl ⟨Nat.le_of_ble_eq_true rfl, Nat.le_of_ble_eq_true rfl⟩ (fun r wa wb hp => ?_)
  obtain ⟨⟨rfl, rfl⟩, rfl⟩ := hp
  show V x G _ _ _ _ _ (.int _ :: _) [_, _, _, _, _, _, _, _, _]
  refine k_if_eqB Ox 14 dX5_tellings_4 rfl (fun c_4 => ?_) (fun c_4 => ?_)
  · have hf : (inR 0 5 x1 && inR 0 5 x2) = false := by rw [c_4]; rfl
    refine k_iconst Ox (v := -1) dX5_tellings_14 (by decide) ?_
    refine k_iret0 Ox Rt dX5_tellings_15 (Nat.le_of_ble_eq_true rfl) (Nat.le_of_ble_eq_true rfl) rfl ?_
    exact ⟨⟨by rw [tlM, pick_f hf], _, _, _, _, _, rfl⟩, rfl⟩
  · refine k_iload_n Ox dX5_tellings_7 rfl 2 rfl ?_
    refine k_callS Ox [] (c_X5_is6 G _ ) 1 rfl rfl rfl ⟨rfl, rfl⟩ rfl rfl gX5_tellings_X5_is6 ⟨(by decide +kernel), (by decide +kernel), (by decide +kernel)⟩ rfl dX5_tellings_8 (Nat.le_of_ble_eq_true rfl) rfl ⟨Nat.le_of_ble_eq_true rfl, Nat.le_of_ble_eq_true rfl⟩ (fun r wa wb hp => ?_)
    obtain ⟨⟨rfl, rfl⟩, rfl⟩ := hp
    show V x G _ _ _ _ _ (.int _ :: _) [_, _, _, _, _, _, _, _, _]
    refine k_if_neB Ox 16 dX5_tellings_11 rfl (fun c_11 => ?_) (fun c_11 => ?_)
    · refine k_iload_n Ox dX5_tellings_16 rfl 3 rfl ?_
      refine k_iconst Ox (v := nI 1) dX5_tellings_17 rfl ?_
      refine k_bipush Ox (v := nI 6) dX5_tellings_18 rfl ?_
      refine k_callS Ox [] (c_X5_in G _ _ _ ) 3 rfl rfl rfl ⟨rfl, rfl⟩ rfl rfl gX5_tellings_X5_in ⟨(by decide +kernel), (by decide +kernel), (by decide +kernel)⟩ rfl dX5_tellings_20 (Nat.le_of_ble_eq_true rfl) rfl ⟨Nat.le_of_ble_eq_true rfl, Nat.le_of_ble_eq_true rfl⟩ (fun r wa wb hp => ?_)
      obtain ⟨⟨rfl, rfl⟩, rfl⟩ := hp
      show V x G _ _ _ _ _ (.int _ :: _) [_, _, _, _, _, _, _, _, _]
      change V x G _ _ _ _ _ (.int (bI (inR (1) (6) _)) :: _) _
      refine k_if_neB Ox 29 dX5_tellings_23 rfl (fun c_23 => ?_) (fun c_23 => ?_)
      · obtain ⟨j1, hj1, rfl⟩ := in6_of c_4
        obtain ⟨j2, hj2, rfl⟩ := in6_of c_11
        obtain ⟨j3, hj30, hj3, rfl⟩ := inR_of' (lo := 1) (k := 6) rfl rfl (by decide) c_23
        refine k_aload_n Ox dX5_tellings_29 rfl 0 rfl ?_
        refine k_callV Ox [0, 6, 7] (c_X5_asNow G _ _ _ _ _ _ _ _ _ _ _ _ _ _ _ _ _ _ _ _ _ _ _ _ _ ) 0 rfl rfl rfl ⟨rfl, rfl⟩ rfl rfl gX5_tellings_X5_asNow rfl 0 rfl ⟨rfl, (by decide +kernel), (by decide +kernel), (by decide +kernel)⟩ rfl dX5_tellings_30 (Nat.le_of_ble_eq_true rfl) rfl ⟨Nat.le_of_ble_eq_true rfl, Nat.le_of_ble_eq_true rfl⟩ (fun r wa wb hp => ?_)
        obtain ⟨⟨rfl, rfl⟩, rfl⟩ := hp
        show V x G _ _ _ _ _ _ [_, _, _, _, _, _, _, _, _]
        refine k_aload_n Ox dX5_tellings_33 rfl 0 rfl ?_
        refine k_iload_n Ox dX5_tellings_34 rfl 3 rfl ?_
        refine k_callV Ox [0, 3, 4, 5, 7, 8] (c_X5_layCosts G _ _ _ _ _ _ _ _ _ _ _ _ _ _ _ _ _ _ _ _ _ _ _ _ _ _ _ _ _ (hO) (hT) (hK) (hB) (hj3)) 1 rfl rfl rfl ⟨rfl, rfl⟩ rfl rfl gX5_tellings_X5_layCosts rfl 0 rfl ⟨rfl, (by decide +kernel), (by decide +kernel), (by decide +kernel)⟩ rfl dX5_tellings_35 (Nat.le_of_ble_eq_true rfl) rfl ⟨Nat.le_of_ble_eq_true rfl, Nat.le_of_ble_eq_true rfl⟩ (fun r wa wb hp => ?_)
        obtain ⟨⟨rfl, rfl⟩, rfl⟩ := hp
        show V x G _ _ _ _ _ _ [_, _, _, _, _, _, _, _, _]
        refine k_aload_n Ox dX5_tellings_38 rfl 0 rfl ?_
        refine k_iload_n Ox dX5_tellings_39 rfl 1 rfl ?_
        refine k_iload_n Ox dX5_tellings_40 rfl 2 rfl ?_
        refine k_callV Ox [0, 1, 2, 8] (c_X5_layWay G _ _ _ _ _ _ _ _ _ _ _ _ _ _ _ _ _ _ _ _ _ _ _ _ _ _ _ _ (hL) (hG) (fun p _ => lcO_le hj3 p) (hj1) (hj2)) 2 rfl rfl rfl ⟨rfl, rfl⟩ rfl rfl gX5_tellings_X5_layWay rfl 0 rfl ⟨rfl, (by decide +kernel), (by decide +kernel), (by decide +kernel)⟩ rfl dX5_tellings_41 (Nat.le_of_ble_eq_true rfl) rfl ⟨Nat.le_of_ble_eq_true rfl, Nat.le_of_ble_eq_true rfl⟩ (fun r wa wb hp => ?_)
        obtain ⟨⟨rfl, rfl⟩, rfl⟩ := hp
        show V x G _ _ _ _ _ (.int _ :: _) [_, _, _, _, _, _, _, _, _]
        have hbm := ly_bm L Gr (lcO O T K B j3) j2 j1
        refine k_if_neB Ox 50 dX5_tellings_44 rfl (fun c_44 => ?_) (fun c_44 => ?_)
        · refine k_iload Ox dX5_tellings_50 4 rfl ?_
          refine k_iconst Ox (v := -1) dX5_tellings_52 (by decide) ?_
          refine k_icmp_ne Ox 63 dX5_tellings_53 rfl (fun c_53 => ?_) (fun c_53 => ?_)
          · refine k_iload Ox dX5_tellings_63 4 rfl ?_
            refine k_iconst Ox (v := nI 0) dX5_tellings_65 rfl ?_
            refine k_aload_n Ox dX5_tellings_66 rfl 0 rfl ?_
            refine k_get Ox 0 rfl rfl hin_X5_tellings_X5 16 rfl lk_X5_tellings_f119 rfl rfl dX5_tellings_67 ?_
            refine k_iconst Ox (v := nI 1) dX5_tellings_70 rfl ?_
            refine k_isub Ox dX5_tellings_71 ?_
            refine k_callS Ox [] (c_X5_in G _ _ _ ) 3 rfl rfl rfl ⟨rfl, rfl⟩ rfl rfl gX5_tellings_X5_in ⟨(by decide +kernel), (by decide +kernel), (by decide +kernel)⟩ rfl dX5_tellings_72 (Nat.le_of_ble_eq_true rfl) rfl ⟨Nat.le_of_ble_eq_true rfl, Nat.le_of_ble_eq_true rfl⟩ (fun r wa wb hp => ?_)
            obtain ⟨⟨rfl, rfl⟩, rfl⟩ := hp
            show V x G _ _ _ _ _ (.int _ :: _) [_, _, _, _, _, _, _, _, _]
            refine k_if_eqB Ox 95 dX5_tellings_75 rfl (fun c_75 => ?_) (fun c_75 => ?_)
            · have hio := bm_out hbm.1 c_75
              refine k_bipush Ox (v := -6) dX5_tellings_95 (by decide) ?_
              refine k_iret0 Ox Rt dX5_tellings_97 (Nat.le_of_ble_eq_true rfl) (Nat.le_of_ble_eq_true rfl) rfl ?_
              first | exact ⟨⟨by rw [tlM, pick_t (and_tt c_4 c_11), pick_t c_23, nn_nI (by omega), nn_nI (by omega), nn_nI (by omega), tw_all c_44 c_53], _, _, _, _, _, rfl⟩, rfl⟩ | exact ⟨⟨by rw [tlM, pick_t (and_tt c_4 c_11), pick_t c_23, nn_nI (by omega), nn_nI (by omega), nn_nI (by omega), tw_o c_44 c_53 hio], _, _, _, _, _, rfl⟩, rfl⟩ | exact ⟨⟨by rw [tlM, pick_t (and_tt c_4 c_11), pick_t c_23, nn_nI (by omega), nn_nI (by omega), nn_nI (by omega), tw_i c_44 hi (by omega) c_53], _, _, _, _, _, rfl⟩, rfl⟩
            · obtain ⟨i, hi, rfl⟩ := bm_in hbm.1 c_75
              refine k_aload_n Ox dX5_tellings_78 rfl 0 rfl ?_
              refine k_aload_n Ox dX5_tellings_79 rfl 0 rfl ?_
              refine k_get Ox 0 rfl rfl hin_X5_tellings_X5 17 rfl lk_X5_tellings_f122 rfl rfl dX5_tellings_80 ?_
              refine k_aload_n Ox dX5_tellings_83 rfl 0 rfl ?_
              refine k_get Ox 0 rfl rfl hin_X5_tellings_X5 16 rfl lk_X5_tellings_f119 rfl rfl dX5_tellings_84 ?_
              refine k_iload Ox dX5_tellings_87 4 rfl ?_
              refine k_callV Ox [0] (c_X5_plankOf G _ _ _ _ _ _ _ _ _ _ _ _ _ _ _ _ _ _ _ _ _ _ _ _ _ _ (Nat.lt_trans hbm.2 (by decide)) (Nat.le_succ_of_le hbm.1) (hi)) 3 rfl rfl rfl ⟨rfl, rfl⟩ rfl rfl gX5_tellings_X5_plankOf rfl 0 rfl ⟨rfl, (by decide +kernel), (by decide +kernel), (by decide +kernel)⟩ rfl dX5_tellings_89 (Nat.le_of_ble_eq_true rfl) rfl ⟨Nat.le_of_ble_eq_true rfl, Nat.le_of_ble_eq_true rfl⟩ (fun r wa wb hp => ?_)
              obtain ⟨⟨rfl, rfl⟩, rfl⟩ := hp
              show V x G _ _ _ _ _ (.int _ :: _) [_, _, _, _, _, _, _, _, _]
              refine k_goto Ox 97 dX5_tellings_92 rfl ?_
              refine k_iret0 Ox Rt dX5_tellings_97 (Nat.le_of_ble_eq_true rfl) (Nat.le_of_ble_eq_true rfl) rfl ?_
              first | exact ⟨⟨by rw [tlM, pick_t (and_tt c_4 c_11), pick_t c_23, nn_nI (by omega), nn_nI (by omega), nn_nI (by omega), tw_all c_44 c_53], _, _, _, _, _, rfl⟩, rfl⟩ | exact ⟨⟨by rw [tlM, pick_t (and_tt c_4 c_11), pick_t c_23, nn_nI (by omega), nn_nI (by omega), nn_nI (by omega), tw_o c_44 c_53 hio], _, _, _, _, _, rfl⟩, rfl⟩ | exact ⟨⟨by rw [tlM, pick_t (and_tt c_4 c_11), pick_t c_23, nn_nI (by omega), nn_nI (by omega), nn_nI (by omega), tw_i c_44 hi (by omega) c_53], _, _, _, _, _, rfl⟩, rfl⟩
          · refine k_aload_n Ox dX5_tellings_56 rfl 0 rfl ?_
            refine k_get Ox 0 rfl rfl hin_X5_tellings_X5 18 rfl lk_X5_tellings_f116 rfl rfl dX5_tellings_57 ?_
            refine k_goto Ox 97 dX5_tellings_60 rfl ?_
            refine k_iret0 Ox Rt dX5_tellings_97 (Nat.le_of_ble_eq_true rfl) (Nat.le_of_ble_eq_true rfl) rfl ?_
            first | exact ⟨⟨by rw [tlM, pick_t (and_tt c_4 c_11), pick_t c_23, nn_nI (by omega), nn_nI (by omega), nn_nI (by omega), tw_all c_44 c_53], _, _, _, _, _, rfl⟩, rfl⟩ | exact ⟨⟨by rw [tlM, pick_t (and_tt c_4 c_11), pick_t c_23, nn_nI (by omega), nn_nI (by omega), nn_nI (by omega), tw_o c_44 c_53 hio], _, _, _, _, _, rfl⟩, rfl⟩ | exact ⟨⟨by rw [tlM, pick_t (and_tt c_4 c_11), pick_t c_23, nn_nI (by omega), nn_nI (by omega), nn_nI (by omega), tw_i c_44 hi (by omega) c_53], _, _, _, _, _, rfl⟩, rfl⟩
        · refine k_bipush Ox (v := -6) dX5_tellings_47 (by decide) ?_
          refine k_iret0 Ox Rt dX5_tellings_49 (Nat.le_of_ble_eq_true rfl) (Nat.le_of_ble_eq_true rfl) rfl ?_
          exact ⟨⟨by rw [tlM, pick_t (and_tt c_4 c_11), pick_t c_23, nn_nI (by omega), nn_nI (by omega), nn_nI (by omega), tw_no c_44], _, _, _, _, _, rfl⟩, rfl⟩
      · refine k_bipush Ox (v := -2) dX5_tellings_26 (by decide) ?_
        refine k_iret0 Ox Rt dX5_tellings_28 (Nat.le_of_ble_eq_true rfl) (Nat.le_of_ble_eq_true rfl) rfl ?_
        exact ⟨⟨by rw [tlM, pick_t (and_tt c_4 c_11), pick_f c_23], _, _, _, _, _, rfl⟩, rfl⟩
    · have hf : (inR 0 5 x1 && inR 0 5 x2) = false := by rw [c_11]; simp
      refine k_iconst Ox (v := -1) dX5_tellings_14 (by decide) ?_
      refine k_iret0 Ox Rt dX5_tellings_15 (Nat.le_of_ble_eq_true rfl) (Nat.le_of_ble_eq_true rfl) rfl ?_
      exact ⟨⟨by rw [tlM, pick_f hf], _, _, _, _, _, rfl⟩, rfl⟩
theorem lk_X5_stands_f44 : Cond.fieldLink RX5 44 "LieBridgesModel" "cost" "[I" ∈ wsX5_stands := List.mem_of_getElem? (i := 1) rfl
theorem hin_X5_stands_X5 : ∀ w ∈ u_ws RX5 TX5 22, w ∈ wsX5_stands := fun _ h => List.mem_cons_of_mem _ (List.mem_append_right _ h)
theorem lk_X5_stands_k115 : Cond.constant RX5 115 (1000000) ∈ wsX5_stands := List.mem_of_getElem? (i := 2) rfl
set_option maxHeartbeats 1000000 in
set_option maxRecDepth 4000 in
theorem c_X5_stands (G : Gx) (m a1 a2 a3 a4 a5 a6 a7 a8 a9 a10 a11 a12 a13 : Nat) (fd sg mn : Nat) (w1 w2 w3 w4 w5 w6 : Int32) (L Gr : Nat → Nat) (B : Nat → Nat → Nat) (g gc : Nat → Int32) (x1 x2 x3 : Int32) (hL : okP L) (hG : okP Gr) (hB : okB B) : Ct G yX5_stands wsX5_stands { frames := 3, cells := 0, slots := 0, locals := 74 } [.ref m, .int x1, .int x2, .int x3] [(m, cO 5 [.ref a1, .ref a2, .ref a3, .ref a4, .ref a5, .ref a6, .ref a7, .int (nI fd), .int (nI sg), .ref a8, .int (nI mn), .ref a9, .ref a10, .int w1, .int w2, .ref a11, .int w3, .int w4, .int w5, .int w6, .ref a12, .ref a13]), (a1, cI G 6 (rN L)), (a2, cI G 6 (rN Gr)), (a6, cI G 36 (rN (flM B))), (a10, cI G 36 g), (a11, cI G 6 gc)] (fun r wa => r = some (.int (sdM L Gr B x1 x2 x3)) ∧ ∃ g9 : Nat → Int32, ∃ g8 : Nat → Int32, ∃ w93 : Int32, ∃ w94 : Int32, ∃ w95 : Int32, wa = [(m, cO 5 [.ref a1, .ref a2, .ref a3, .ref a4, .ref a5, .ref a6, .ref a7, .int (nI fd), .int (nI sg), .ref a8, .int (nI mn), .ref a9, .ref a10, .int w1, .int w2, .ref a11, .int w93, .int w94, .int w95, .int w6, .ref a12, .ref a13]), (a1, cI G 6 (rN L)), (a2, cI G 6 (rN Gr)), (a6, cI G 36 (rN (flM B))), (a10, cI G 36 g9), (a11, cI G 6 g8)]) := by
  refine CtN.of [(0, .ref m), (1, .int x1), (2, .int x2), (3, .int x3)] (by decide +kernel) rfl rfl rfl rfl ?_
  intro x Ox Rt
  refine k_iload_n Ox dX5_stands_0 rfl 1 rfl ?_
  refine k_callS Ox [] (c_X5_is6 G _ ) 1 rfl rfl rfl ⟨rfl, rfl⟩ rfl rfl gX5_stands_X5_is6 ⟨(by decide +kernel), (by decide +kernel), (by decide +kernel)⟩ rfl dX5_stands_1 (Nat.le_of_ble_eq_true rfl) rfl ⟨Nat.le_of_ble_eq_true rfl, Nat.le_of_ble_eq_true rfl⟩ (fun r wa wb hp => ?_)
  obtain ⟨⟨rfl, rfl⟩, rfl⟩ := hp
  show V x G _ _ _ _ _ (.int _ :: _) [_, _, _, _, _, _]
  refine k_if_eqB Ox 14 dX5_stands_4 rfl (fun c_4 => ?_) (fun c_4 => ?_)
  · have hf : (inR 0 5 x1 && inR 0 5 x2) = false := by rw [c_4]; rfl
    refine k_iconst Ox (v := -1) dX5_stands_14 (by decide) ?_
    refine k_iret0 Ox Rt dX5_stands_15 (Nat.le_of_ble_eq_true rfl) (Nat.le_of_ble_eq_true rfl) rfl ?_
    exact ⟨⟨by rw [sdM, pick_f hf], _, _, _, _, _, rfl⟩, rfl⟩
  · refine k_iload_n Ox dX5_stands_7 rfl 2 rfl ?_
    refine k_callS Ox [] (c_X5_is6 G _ ) 1 rfl rfl rfl ⟨rfl, rfl⟩ rfl rfl gX5_stands_X5_is6 ⟨(by decide +kernel), (by decide +kernel), (by decide +kernel)⟩ rfl dX5_stands_8 (Nat.le_of_ble_eq_true rfl) rfl ⟨Nat.le_of_ble_eq_true rfl, Nat.le_of_ble_eq_true rfl⟩ (fun r wa wb hp => ?_)
    obtain ⟨⟨rfl, rfl⟩, rfl⟩ := hp
    show V x G _ _ _ _ _ (.int _ :: _) [_, _, _, _, _, _]
    refine k_if_neB Ox 16 dX5_stands_11 rfl (fun c_11 => ?_) (fun c_11 => ?_)
    · refine k_iload_n Ox dX5_stands_16 rfl 3 rfl ?_
      refine k_iconst Ox (v := nI 1) dX5_stands_17 rfl ?_
      refine k_bipush Ox (v := nI 6) dX5_stands_18 rfl ?_
      refine k_callS Ox [] (c_X5_in G _ _ _ ) 3 rfl rfl rfl ⟨rfl, rfl⟩ rfl rfl gX5_stands_X5_in ⟨(by decide +kernel), (by decide +kernel), (by decide +kernel)⟩ rfl dX5_stands_20 (Nat.le_of_ble_eq_true rfl) rfl ⟨Nat.le_of_ble_eq_true rfl, Nat.le_of_ble_eq_true rfl⟩ (fun r wa wb hp => ?_)
      obtain ⟨⟨rfl, rfl⟩, rfl⟩ := hp
      show V x G _ _ _ _ _ (.int _ :: _) [_, _, _, _, _, _]
      change V x G _ _ _ _ _ (.int (bI (inR (1) (6) _)) :: _) _
      refine k_if_neB Ox 29 dX5_stands_23 rfl (fun c_23 => ?_) (fun c_23 => ?_)
      · obtain ⟨j1, hj1, rfl⟩ := in6_of c_4
        obtain ⟨j2, hj2, rfl⟩ := in6_of c_11
        obtain ⟨j3, hj30, hj3, rfl⟩ := inR_of' (lo := 1) (k := 6) rfl rfl (by decide) c_23
        refine k_iload_n Ox dX5_stands_29 rfl 1 rfl ?_
        refine k_iload_n Ox dX5_stands_30 rfl 2 rfl ?_
        refine k_icmp_neN Ox 37 dX5_stands_31 rfl (by omega) (by omega) (fun c_31 => ?_) (fun c_31 => ?_)
        · refine k_aload_n Ox dX5_stands_37 rfl 0 rfl ?_
          refine k_callV Ox [0, 3, 4] (c_X5_asNow G _ _ _ _ _ _ _ _ _ _ _ _ _ _ _ _ _ _ _ _ _ _ _ _ _ ) 0 rfl rfl rfl ⟨rfl, rfl⟩ rfl rfl gX5_stands_X5_asNow rfl 0 rfl ⟨rfl, (by decide +kernel), (by decide +kernel), (by decide +kernel)⟩ rfl dX5_stands_38 (Nat.le_of_ble_eq_true rfl) rfl ⟨Nat.le_of_ble_eq_true rfl, Nat.le_of_ble_eq_true rfl⟩ (fun r wa wb hp => ?_)
          obtain ⟨⟨rfl, rfl⟩, rfl⟩ := hp
          show V x G _ _ _ _ _ _ [_, _, _, _, _, _]
          refine k_iconst Ox (v := nI 0) dX5_stands_41 rfl ?_
          refine k_istore Ox [(4, _), (0, _), (1, _), (2, _), (3, _)] dX5_stands_42 (by decide) rfl ?_
          refine k_iconst Ox (v := nI 1) dX5_stands_44 rfl ?_
          refine k_istore Ox [(5, _), (4, _), (0, _), (1, _), (2, _), (3, _)] dX5_stands_45 (by decide) rfl ?_
          have L47 : ∀ (fuel : Nat) (d : Nat) (iz : Bool) (gc : Nat → Int32) (w3 w4 w5 : Int32), d ≤ 9 → 11 ≤ d + fuel + (if iz then 0 else 1) → (∀ j, j < d → smP L Gr B j1 j2 j3 j = true) → (iz = false → smP L Gr B j1 j2 j3 d = false) → V x G 7 0 0 47 [(0, .ref m), (1, .int (nI j1)), (2, .int (nI j2)), (3, .int (nI j3)), (4, .int (nI d)), (5, .int (bI iz))] [] [(m, cO 5 [.ref a1, .ref a2, .ref a3, .ref a4, .ref a5, .ref a6, .ref a7, .int (nI fd), .int (nI sg), .ref a8, .int (nI mn), .ref a9, .ref a10, .int w1, .int w2, .ref a11, .int w3, .int w4, .int w5, .int w6, .ref a12, .ref a13]), (a1, cI G 6 (rN L)), (a2, cI G 6 (rN Gr)), (a6, cI G 36 (rN (flM B))), (a10, cI G 36 (rN (flM (fdN B d)))), (a11, cI G 6 gc)] := by
            intro fuel
            induction fuel with
            | zero => intro d iz gc w3 w4 w5 hd hfu hq hz; exfalso; cases iz <;> simp at hfu <;> omega
            | succ fuel ih =>
              intro d iz gc w3 w4 w5 hd hfu hq hz
              refine k_iload Ox dX5_stands_47 5 rfl ?_
              refine k_if_eqB Ox 114 dX5_stands_49 rfl (fun c_49 => ?_) (fun c_49 => ?_)
              · refine k_iload Ox dX5_stands_114 4 rfl ?_
                refine k_iret0 Ox Rt dX5_stands_116 (Nat.le_of_ble_eq_true rfl) (Nat.le_of_ble_eq_true rfl) rfl ?_
                exact ⟨⟨by rw [sdM, pick_t (and_tt c_4 c_11), pick_t c_23, if_neg (ne_nI (by omega) (by omega) c_31), nn_nI (by omega), nn_nI (by omega), nn_nI (by omega), sw_stop hd hq (hz c_49)], _, _, _, _, _, rfl⟩, rfl⟩
              · refine k_iconst Ox (v := nI 0) dX5_stands_52 rfl ?_
                refine k_istore Ox [(6, _), (0, _), (1, _), (2, _), (3, _), (4, _), (5, _)] dX5_stands_53 (by decide) rfl ?_
                have L55 : ∀ (fuel : Nat) (i : Nat) (gc : Nat → Int32), i ≤ 6 → 7 ≤ i + fuel → (∀ j, j < i → gc j = rN (stO B j3 d) j) → V x G 7 0 0 55 [(0, .ref m), (1, .int (nI j1)), (2, .int (nI j2)), (3, .int (nI j3)), (4, .int (nI d)), (5, .int (bI true)), (6, .int (nI i))] [] [(m, cO 5 [.ref a1, .ref a2, .ref a3, .ref a4, .ref a5, .ref a6, .ref a7, .int (nI fd), .int (nI sg), .ref a8, .int (nI mn), .ref a9, .ref a10, .int w1, .int w2, .ref a11, .int w3, .int w4, .int w5, .int w6, .ref a12, .ref a13]), (a1, cI G 6 (rN L)), (a2, cI G 6 (rN Gr)), (a6, cI G 36 (rN (flM B))), (a10, cI G 36 (rN (flM (fdN B d)))), (a11, cI G 6 gc)] := by
                  intro fuel
                  induction fuel with
                  | zero => intro i gc hi hfuel hg; exact absurd hi (by omega)
                  | succ fuel ih2 =>
                    intro i gc hi hfuel hg
                    refine k_iload Ox dX5_stands_55 6 rfl ?_
                    refine k_bipush Ox (v := nI 6) dX5_stands_57 rfl ?_
                    refine k_icmp_geN Ox 91 dX5_stands_59 rfl (by omega) (by omega) (fun c_59 => ?_) (fun c_59 => ?_)
                    · obtain rfl : i = 6 := by omega
                      refine k_cell 5 (rN (stO B j3 d)) rfl (fun j hj => hg j (by omega)) [_, _, _, _, _, _] rfl ?_
                      refine k_aload_n Ox dX5_stands_91 rfl 0 rfl ?_
                      refine k_iload_n Ox dX5_stands_92 rfl 1 rfl ?_
                      refine k_iload_n Ox dX5_stands_93 rfl 2 rfl ?_
                      refine k_callV Ox [0, 1, 2, 5] (c_X5_layWay G _ _ _ _ _ _ _ _ _ _ _ _ _ _ _ _ _ _ _ _ _ _ _ _ _ _ _ _ (hL) (hG) (fun p _ => stO_le B j3 d p) (hj1) (hj2)) 2 rfl rfl rfl ⟨rfl, rfl⟩ rfl rfl gX5_stands_X5_layWay rfl 0 rfl ⟨rfl, (by decide +kernel), (by decide +kernel), (by decide +kernel)⟩ rfl dX5_stands_94 (Nat.le_of_ble_eq_true rfl) rfl ⟨Nat.le_of_ble_eq_true rfl, Nat.le_of_ble_eq_true rfl⟩ (fun r wa wb hp => ?_)
                      obtain ⟨⟨rfl, rfl⟩, rfl⟩ := hp
                      show V x G _ _ _ _ _ (.int _ :: _) [_, _, _, _, _, _]
                      refine k_istore Ox [(5, _), (0, _), (1, _), (2, _), (3, _), (4, _), (6, _)] dX5_stands_97 (by decide) rfl ?_
                      refine k_iload Ox dX5_stands_99 0 rfl ?_
                      refine k_if_eqB Ox 47 dX5_stands_101 rfl (fun c_101 => ?_) (fun c_101 => ?_)
                      · have c_101 : smP L Gr B j1 j2 j3 d = false := c_101
                        refine k_sub [1, 2, 3, 4, 5, 0] [(0, _), (1, _), (2, _), (3, _), (4, _), (5, _)] rfl ?_
                        first | exact ih d _ _ _ _ _ hd (st_f0 c_49 c_101 hfu) hq (fun _ => c_101) | (rw [fdN_s]; exact ih (d + 1) _ _ _ _ _ hd9 (st_f1 c_49 c_101 hfu) (lt_next hq c_101) (fun z => absurd (z.symm.trans c_101) (by decide)))
                      · have c_101 : smP L Gr B j1 j2 j3 d = true := c_101
                        have hd9 : d + 1 ≤ 9 := by rcases Nat.lt_or_ge d 9 with z | z; exact z; rw [sm_nine hB (by omega) c_31 z] at c_101; cases c_101
                        refine k_aload_n Ox dX5_stands_104 rfl 1 rfl ?_
                        refine k_callV Ox [0, 4] (c_X5_pass G _ _ _ _ _ _ _ _ _ _ _ _ _ _ _ _ _ _ _ _ _ _ _ _ (fdN_ok hB d)) 0 rfl rfl rfl ⟨rfl, rfl⟩ rfl rfl gX5_stands_X5_pass rfl 0 rfl ⟨rfl, (by decide +kernel), (by decide +kernel), (by decide +kernel)⟩ rfl dX5_stands_105 (Nat.le_of_ble_eq_true rfl) rfl ⟨Nat.le_of_ble_eq_true rfl, Nat.le_of_ble_eq_true rfl⟩ (fun r wa wb hp => ?_)
                        obtain ⟨⟨rfl, rfl⟩, rfl⟩ := hp
                        show V x G _ _ _ _ _ _ [_, _, _, _, _, _]
                        refine k_iincN Ox (k := 5) (m := 1) [(4, _), (5, _), (0, _), (1, _), (2, _), (3, _), (6, _)] dX5_stands_108 rfl rfl (by decide) rfl ?_
                        refine k_goto Ox 47 dX5_stands_111 rfl ?_
                        refine k_sub [2, 3, 4, 5, 0, 1] [(0, _), (1, _), (2, _), (3, _), (4, _), (5, _)] rfl ?_
                        first | exact ih d _ _ _ _ _ hd (st_f0 c_49 c_101 hfu) hq (fun _ => c_101) | (rw [fdN_s]; exact ih (d + 1) _ _ _ _ _ hd9 (st_f1 c_49 c_101 hfu) (lt_next hq c_101) (fun z => absurd (z.symm.trans c_101) (by decide)))
                    · have hll := ld_le (fdN B d) i 0
                      refine k_aload_n Ox dX5_stands_62 rfl 0 rfl ?_
                      refine k_get Ox 0 rfl rfl hin_X5_stands_X5 15 rfl lk_X5_stands_f44 rfl rfl dX5_stands_63 ?_
                      refine k_iload Ox dX5_stands_66 6 rfl ?_
                      refine k_aload_n Ox dX5_stands_68 rfl 0 rfl ?_
                      refine k_iload Ox dX5_stands_69 6 rfl ?_
                      refine k_callV Ox [0, 4] (c_X5_bornBy G _ _ _ _ _ _ _ _ _ _ _ _ _ _ _ _ _ _ _ _ _ _ _ _ _ (fdN_ok hB d) (by omega)) 1 rfl rfl rfl ⟨rfl, rfl⟩ rfl rfl gX5_stands_X5_bornBy rfl 0 rfl ⟨rfl, (by decide +kernel), (by decide +kernel), (by decide +kernel)⟩ rfl dX5_stands_71 (Nat.le_of_ble_eq_true rfl) rfl ⟨Nat.le_of_ble_eq_true rfl, Nat.le_of_ble_eq_true rfl⟩ (fun r wa wb hp => ?_)
                      obtain ⟨⟨rfl, rfl⟩, rfl⟩ := hp
                      show V x G _ _ _ _ _ (.int _ :: _) [_, _, _, _, _, _]
                      refine k_iload_n Ox dX5_stands_74 rfl 3 rfl ?_
                      refine k_icmp_ltN Ox 82 dX5_stands_75 rfl (by omega) (by omega) (fun c_75 => ?_) (fun c_75 => ?_)
                      · refine k_ldc Ox (1000000) dX5_stands_82 lk_X5_stands_k115 ?_
                        refine k_top (nI 1000000) rfl ?_
                        first | refine k_top (rN (stO B j3 d) i) (st_a c_75) ?_ | refine k_top (rN (stO B j3 d) i) (st_b c_75) ?_
                        refine k_iast Ox 5 rfl (by omega) (by first | decide | omega) [_, _, _, _, _, _] rfl dX5_stands_84 ?_
                        refine k_iincN Ox (k := 6) (m := 1) [(6, _), (0, _), (1, _), (2, _), (3, _), (4, _), (5, _)] dX5_stands_85 rfl rfl (by decide) rfl ?_
                        refine k_goto Ox 55 dX5_stands_88 rfl ?_
                        refine k_sub [1, 2, 3, 4, 5, 6, 0] [(0, _), (1, _), (2, _), (3, _), (4, _), (5, _), (6, _)] rfl ?_
                        exact ih2 (i + 1) _ (by omega) (by omega) (fun j hj => cp_up hg hj)
                      · refine k_iconst Ox (v := nI 0) dX5_stands_78 rfl ?_
                        refine k_goto Ox 84 dX5_stands_79 rfl ?_
                        first | refine k_top (rN (stO B j3 d) i) (st_a c_75) ?_ | refine k_top (rN (stO B j3 d) i) (st_b c_75) ?_
                        refine k_iast Ox 5 rfl (by omega) (by first | decide | omega) [_, _, _, _, _, _] rfl dX5_stands_84 ?_
                        refine k_iincN Ox (k := 6) (m := 1) [(6, _), (0, _), (1, _), (2, _), (3, _), (4, _), (5, _)] dX5_stands_85 rfl rfl (by decide) rfl ?_
                        refine k_goto Ox 55 dX5_stands_88 rfl ?_
                        refine k_sub [1, 2, 3, 4, 5, 6, 0] [(0, _), (1, _), (2, _), (3, _), (4, _), (5, _), (6, _)] rfl ?_
                        exact ih2 (i + 1) _ (by omega) (by omega) (fun j hj => cp_up hg hj)
                refine k_sub [1, 2, 3, 4, 5, 6, 0] [(0, _), (1, _), (2, _), (3, _), (4, _), (5, _), (6, _)] rfl ?_
                subst c_49; exact L55 7 0 _ (by omega) (by omega) (fun j hj => absurd hj (by omega))
          refine k_sub [2, 3, 4, 5, 1, 0] [(0, _), (1, _), (2, _), (3, _), (4, _), (5, _)] rfl ?_
          exact L47 11 0 true _ _ _ _ (by omega) (by decide) (fun j hj => absurd hj (by omega)) (fun z => by cases z)
        · refine k_bipush Ox (v := -6) dX5_stands_34 (by decide) ?_
          refine k_iret0 Ox Rt dX5_stands_36 (Nat.le_of_ble_eq_true rfl) (Nat.le_of_ble_eq_true rfl) rfl ?_
          exact ⟨⟨by rw [sdM, pick_t (and_tt c_4 c_11), pick_t c_23, if_pos (congrArg nI c_31)], _, _, _, _, _, rfl⟩, rfl⟩
      · refine k_bipush Ox (v := -2) dX5_stands_26 (by decide) ?_
        refine k_iret0 Ox Rt dX5_stands_28 (Nat.le_of_ble_eq_true rfl) (Nat.le_of_ble_eq_true rfl) rfl ?_
        exact ⟨⟨by rw [sdM, pick_t (and_tt c_4 c_11), pick_f c_23], _, _, _, _, _, rfl⟩, rfl⟩
    · have hf : (inR 0 5 x1 && inR 0 5 x2) = false := by rw [c_11]; simp
      refine k_iconst Ox (v := -1) dX5_stands_14 (by decide) ?_
      refine k_iret0 Ox Rt dX5_stands_15 (Nat.le_of_ble_eq_true rfl) (Nat.le_of_ble_eq_true rfl) rfl ?_
      exact ⟨⟨by rw [sdM, pick_f hf], _, _, _, _, _, rfl⟩, rfl⟩
