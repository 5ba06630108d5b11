theorem lk_X5_vain_f82 : Cond.fieldLink RX5 82 "LieBridgesModel" "vainAt" "I" ∈ wsX5_vain := List.mem_of_getElem? (i := 1) rfl
theorem hin_X5_vain_X5 : ∀ w ∈ u_ws RX5 TX5 22, w ∈ wsX5_vain := fun _ h => List.mem_cons_of_mem _ (List.mem_append_right _ h)
set_option maxHeartbeats 400000 in
set_option maxRecDepth 4000 in
theorem c_X5_vain (G : Gx) (m a1 a2 a3 a4 a5 a6 a7 a8 a9 a10 a11 a12 a13 : Nat) (fd sg mn : Nat) (w1 w2 w3 w4 w5 w6 : Int32) (O T K GU : Nat → Nat) (B : Nat → Nat → Nat) (g : Nat → Int32) (PS : Nat → Nat) (P : Ps) (x1 : Int32) (hO : okP O) (hT : okM T) (hK : okM K) (hN : noSelf T) (hB : okB B) (hfd : fd < 10) (hmn : mn ≤ 60) (hPS : ∀ i, i < mn → PS i < 128) : Ct G yX5_vain wsX5_vain { frames := 3, cells := 0, slots := 0, locals := 75 } [.ref m, .int x1] [(m, cO 5 [.ref a1, .ref a2, .ref a3, .ref a4, .ref a5, .ref a6, .ref a7, .int (nI fd), .int (nI sg), .ref a8, .int (nI mn), .ref a9, .ref a10, .int w1, .int w2, .ref a11, .int w3, .int w4, .int w5, .int w6, .ref a12, .ref a13]), (a3, cI G 6 (rN O)), (a4, cI G 6 (rN T)), (a5, cI G 6 (rN K)), (a6, cI G 36 (rN (flM B))), (a10, cI G 36 g), (a9, cI G 60 (rN PS))] (fun r wa => r = some (.int (vnR O T K fd GU PS P mn B x1)) ∧ ∃ g9 : Nat → Int32, ∃ w91 : Int32, ∃ w92 : Int32, wa = [(m, cO 5 [.ref a1, .ref a2, .ref a3, .ref a4, .ref a5, .ref a6, .ref a7, .int (nI fd), .int (nI sg), .ref a8, .int (nI mn), .ref a9, .ref a10, .int w91, .int w92, .ref a11, .int w3, .int w4, .int w5, .int w6, .ref a12, .ref a13]), (a3, cI G 6 (rN O)), (a4, cI G 6 (rN T)), (a5, cI G 6 (rN K)), (a6, cI G 36 (rN (flM B))), (a10, cI G 36 g9), (a9, cI G 60 (rN PS))]) := by
  refine CtN.of [(0, .ref m), (1, .int x1)] (by decide +kernel) rfl rfl rfl rfl ?_
  intro x Ox Rt
  refine k_aload_n Ox dX5_vain_0 rfl 0 rfl ?_
  refine k_callV Ox [0, 6] (c_X5_barOfText G _ _ _ _ _ _ _ _ _ _ _ _ _ _ _ _ _ _ _ _ _ _ _ _ (by assumption) (by assumption)) 0 rfl rfl rfl ⟨rfl, rfl⟩ rfl rfl gX5_vain_X5_barOfText rfl 0 rfl ⟨rfl, (by decide +kernel), (by decide +kernel), (by decide +kernel)⟩ rfl dX5_vain_1 (Nat.le_of_ble_eq_true rfl) rfl ⟨Nat.le_of_ble_eq_true rfl, Nat.le_of_ble_eq_true rfl⟩ (fun r wa wb hp => ?_)
  obtain ⟨⟨rfl, rfl⟩, rfl⟩ := hp
  show V x G _ _ _ _ _ (.int _ :: _) [_, _, _, _, _, _, _]
  rw [bar_eq hmn P]
  refine k_istore_n Ox [(2, _), (0, _), (1, _)] dX5_vain_4 rfl (by decide) rfl ?_
  refine k_iload_n Ox dX5_vain_5 rfl 0 rfl ?_
  refine k_if_ge Ox 11 dX5_vain_6 rfl (fun c_6 => ?_) (fun c_6 => ?_)
  · have hr0 := rf_zero (rf_ge c_6)
    obtain ⟨hpn, hpa, hpts⟩ := rd_pts (GU := GU) hmn (fun j hj => by omega) hr0.1
    refine k_aload_n Ox dX5_vain_11 rfl 1 rfl ?_
    refine k_iconst Ox (v := nI 0) dX5_vain_12 rfl ?_
    refine k_iload_n Ox dX5_vain_13 rfl 2 rfl ?_
    refine k_callV Ox [0, 1, 2, 3, 4, 5, 6] (c_X5_goText G _ _ _ _ _ _ _ _ _ _ _ _ _ _ _ _ _ _ _ _ _ _ _ _ _ _ GU _ _ _ P _ _ (hO) (hT) (hK) (hN) (hB) (hfd) (hmn) (hPS) (hr0.1) (by decide) (fun j hj => absurd hj (by omega))) 2 rfl rfl rfl ⟨rfl, rfl⟩ rfl rfl gX5_vain_X5_goText rfl 0 rfl ⟨rfl, (by decide +kernel), (by decide +kernel), (by decide +kernel)⟩ rfl dX5_vain_14 (Nat.le_of_ble_eq_true rfl) rfl ⟨Nat.le_of_ble_eq_true rfl, Nat.le_of_ble_eq_true rfl⟩ (fun r wa wb hp => ?_)
    obtain ⟨⟨rfl, rfl⟩, rfl⟩ := hp
    show V x G _ _ _ _ _ (.int _ :: _) [_, _, _, _, _, _, _]
    refine k_istore_n Ox [(3, _), (2, _), (0, _), (1, _)] dX5_vain_17 rfl (by decide) rfl ?_
    refine k_iload_n Ox dX5_vain_18 rfl 3 rfl ?_
    refine k_iconst Ox (v := -1) dX5_vain_19 (by decide) ?_
    refine k_icmp_ne Ox 27 dX5_vain_20 rfl (fun c_20 => ?_) (fun c_20 => ?_)
    · refine k_aload_n Ox dX5_vain_27 rfl 2 rfl ?_
      refine k_get Ox 0 rfl rfl hin_X5_vain_X5 14 rfl lk_X5_vain_f82 rfl rfl dX5_vain_28 ?_
      refine k_iret0 Ox Rt dX5_vain_31 (Nat.le_of_ble_eq_true rfl) (Nat.le_of_ble_eq_true rfl) rfl ?_
      first | exact ⟨⟨by rw [vnR, if_pos (rf_ge c_6), if_pos c_20], _, _, _, rfl⟩, rfl⟩ | exact ⟨⟨by rw [vnR, if_pos (rf_ge c_6), if_neg c_20], _, _, _, rfl⟩, rfl⟩
    · refine k_iload_n Ox dX5_vain_23 rfl 0 rfl ?_
      refine k_goto Ox 31 dX5_vain_24 rfl ?_
      refine k_iret0 Ox Rt dX5_vain_31 (Nat.le_of_ble_eq_true rfl) (Nat.le_of_ble_eq_true rfl) rfl ?_
      first | exact ⟨⟨by rw [vnR, if_pos (rf_ge c_6), if_pos c_20], _, _, _, rfl⟩, rfl⟩ | exact ⟨⟨by rw [vnR, if_pos (rf_ge c_6), if_neg c_20], _, _, _, rfl⟩, rfl⟩
  · refine k_iload_n Ox dX5_vain_9 rfl 0 rfl ?_
    refine k_iret0 Ox Rt dX5_vain_10 (Nat.le_of_ble_eq_true rfl) (Nat.le_of_ble_eq_true rfl) rfl ?_
    exact ⟨⟨by rw [vnR, if_neg (rf_lt (by omega))], _, _, _, rfl⟩, rfl⟩
theorem lk_X5_done_f62 : Cond.fieldLink RX5 62 "LieBridgesModel" "signs" "I" ∈ wsX5_done := List.mem_of_getElem? (i := 3) rfl
theorem hin_X5_done_X5 : ∀ w ∈ u_ws RX5 TX5 22, w ∈ wsX5_done := fun _ h => List.mem_cons_of_mem _ (List.mem_append_right _ h)
theorem lk_X5_done_f79 : Cond.fieldLink RX5 79 "LieBridgesModel" "parts" "I" ∈ wsX5_done := List.mem_of_getElem? (i := 4) rfl
theorem lk_X5_done_f25 : Cond.fieldLink RX5 25 "LieBridgesModel" "days" "[I" ∈ wsX5_done := List.mem_of_getElem? (i := 1) rfl
theorem lk_X5_done_f41 : Cond.fieldLink RX5 41 "LieBridgesModel" "now" "[I" ∈ wsX5_done := List.mem_of_getElem? (i := 2) rfl
set_option maxHeartbeats 400000 in
set_option maxRecDepth 4000 in
theorem c_X5_done (G : Gx) (m a1 a2 a3 a4 a5 a6 a7 a8 a9 a10 a11 a12 a13 : Nat) (fd sg mn : Nat) (w1 w2 w3 w4 w5 w6 : Int32) (O T K GU : Nat → Nat) (B : Nat → Nat → Nat) (g : Nat → Int32) (PS : Nat → Nat) (P : Ps) (hO : okP O) (hT : okM T) (hK : okM K) (hN : noSelf T) (hB : okB B) (hfd : fd < 10) (hmn : mn ≤ 60) (hPS : ∀ i, i < mn → PS i < 128) : Ct G yX5_done wsX5_done { frames := 3, cells := 0, slots := 0, locals := 75 } [.ref m] [(m, cO 5 [.ref a1, .ref a2, .ref a3, .ref a4, .ref a5, .ref a6, .ref a7, .int (nI fd), .int (nI sg), .ref a8, .int (nI mn), .ref a9, .ref a10, .int w1, .int w2, .ref a11, .int w3, .int w4, .int w5, .int w6, .ref a12, .ref a13]), (a3, cI G 6 (rN O)), (a4, cI G 6 (rN T)), (a5, cI G 6 (rN K)), (a6, cI G 36 (rN (flM B))), (a10, cI G 36 g), (a9, cI G 60 (rN PS))] (fun r wa => r = some (.int (dnR PS P mn)) ∧ ∃ g9 : Nat → Int32, ∃ w91 : Int32, ∃ w92 : Int32, wa = [(m, cO 5 [.ref a1, .ref a2, .ref a3, .ref a4, .ref a5, .ref a6, .ref a7, .int (nI fd), .int (nI sg), .ref a8, .int (nI (if rfR PS P mn = 0 then 0 else mn)), .ref a9, .ref a10, .int w91, .int w92, .ref a11, .int w3, .int w4, .int w5, .int w6, .ref a12, .ref a13]), (a3, cI G 6 (rN O)), (a4, cI G 6 (rN T)), (a5, cI G 6 (rN K)), (a6, cI G 36 (rN (flM (dnB O T K fd GU PS P mn B)))), (a10, cI G 36 g9), (a9, cI G 60 (rN PS))]) := by
  refine CtN.of [(0, .ref m)] (by decide +kernel) rfl rfl rfl rfl ?_
  intro x Ox Rt
  refine k_aload_n Ox dX5_done_0 rfl 0 rfl ?_
  refine k_callV Ox [0, 6] (c_X5_barOfText G _ _ _ _ _ _ _ _ _ _ _ _ _ _ _ _ _ _ _ _ _ _ _ _ (by assumption) (by assumption)) 0 rfl rfl rfl ⟨rfl, rfl⟩ rfl rfl gX5_done_X5_barOfText rfl 0 rfl ⟨rfl, (by decide +kernel), (by decide +kernel), (by decide +kernel)⟩ rfl dX5_done_1 (Nat.le_of_ble_eq_true rfl) rfl ⟨Nat.le_of_ble_eq_true rfl, Nat.le_of_ble_eq_true rfl⟩ (fun r wa wb hp => ?_)
  obtain ⟨⟨rfl, rfl⟩, rfl⟩ := hp
  show V x G _ _ _ _ _ (.int _ :: _) [_, _, _, _, _, _, _]
  rw [bar_eq hmn P]
  refine k_istore_n Ox [(1, _), (0, _)] dX5_done_4 rfl (by decide) rfl ?_
  refine k_iload_n Ox dX5_done_5 rfl 0 rfl ?_
  refine k_if_ge Ox 11 dX5_done_6 rfl (fun c_6 => ?_) (fun c_6 => ?_)
  · have hr0 := rf_zero (rf_ge c_6)
    obtain ⟨hpn, hpa, hpts⟩ := rd_pts (GU := GU) hmn (fun j hj => by omega) hr0.1
    refine k_aload_n Ox dX5_done_11 rfl 1 rfl ?_
    refine k_iconst Ox (v := nI 0) dX5_done_12 rfl ?_
    refine k_bipush Ox (v := -6) dX5_done_13 (by decide) ?_
    refine k_callV Ox [0, 1, 2, 3, 4, 5, 6] (c_X5_goText G _ _ _ _ _ _ _ _ _ _ _ _ _ _ _ _ _ _ _ _ _ _ _ _ _ _ GU _ _ _ P _ _ (hO) (hT) (hK) (hN) (hB) (hfd) (hmn) (hPS) (hr0.1) (by decide) (fun j hj => absurd hj (by omega))) 2 rfl rfl rfl ⟨rfl, rfl⟩ rfl rfl gX5_done_X5_goText rfl 0 rfl ⟨rfl, (by decide +kernel), (by decide +kernel), (by decide +kernel)⟩ rfl dX5_done_15 (Nat.le_of_ble_eq_true rfl) rfl ⟨Nat.le_of_ble_eq_true rfl, Nat.le_of_ble_eq_true rfl⟩ (fun r wa wb hp => ?_)
    obtain ⟨⟨rfl, rfl⟩, rfl⟩ := hp
    show V x G _ _ _ _ _ (.int _ :: _) [_, _, _, _, _, _, _]
    have hvl := vnC_le O T K fd GU (rdp PS P mn) B (pN (rdp PS P mn))
    refine k_if_geN Ox 24 dX5_done_18 rfl (by omega) ?_
    refine k_iconst Ox (v := nI 0) dX5_done_24 rfl ?_
    refine k_istore_n Ox [(2, _), (1, _), (0, _)] dX5_done_25 rfl (by decide) rfl ?_
    have L26 : ∀ (fuel : Nat) (i : Nat) (g2 : Nat → Int32), i ≤ 36 → 37 ≤ i + fuel → (∀ j, j < i → g2 j = rN (flM (plyB O T K fd GU (rdp PS P mn) B (pN (rdp PS P mn)))) j) → V x G 3 0 0 26 [(0, .ref m), (1, .int (rfR PS P mn)), (2, .int (nI i))] [] [(m, cO 5 [.ref a1, .ref a2, .ref a3, .ref a4, .ref a5, .ref a6, .ref a7, .int (nI fd), .int (nI sg), .ref a8, .int (nI mn), .ref a9, .ref a10, .int (nI (pN (rdp PS P mn))), .int (vnF O T K fd GU (rdp PS P mn) B (-6) (pN (rdp PS P mn))), .ref a11, .int w3, .int w4, .int w5, .int w6, .ref a12, .ref a13]), (a3, cI G 6 (rN O)), (a4, cI G 6 (rN T)), (a5, cI G 6 (rN K)), (a6, cI G 36 g2), (a10, cI G 36 (rN (flM (plyB O T K fd GU (rdp PS P mn) B (pN (rdp PS P mn)))))), (a9, cI G 60 (rN PS))] := by
      intro fuel
      induction fuel with
      | zero => intro i g2 hi hfuel hg2; exact absurd hi (by omega)
      | succ fuel ih =>
        intro i g2 hi hfuel hg2
        refine k_iload_n Ox dX5_done_26 rfl 2 rfl ?_
        refine k_bipush Ox (v := nI 36) dX5_done_27 rfl ?_
        refine k_icmp_geN Ox 50 dX5_done_29 rfl (by omega) (by omega) (fun c_29 => ?_) (fun c_29 => ?_)
        · have hrf := rf_ge c_6
          refine k_cell 4 (rN (flM (dnB O T K fd GU PS P mn B))) rfl (fun j hj => by rw [dnB, if_pos hrf]; exact hg2 j (by omega)) [_, _, _, _, _, _, _] rfl ?_
          refine k_aload_n Ox dX5_done_50 rfl 0 rfl ?_
          refine k_iconst Ox (v := nI 0) dX5_done_51 rfl ?_
          refine k_put Ox 0 rfl rfl hin_X5_done_X5 10 rfl lk_X5_done_f62 rfl tyX5 tyX5_ok nmX5 rfl  rfl rfl rfl [_, _, _, _, _, _, _, _, _, _, _, _, _, _, _, _, _, _, _, _, _, _] rfl [_, _, _, _, _, _, _] rfl dX5_done_52 ?_
          refine k_aload_n Ox dX5_done_55 rfl 0 rfl ?_
          refine k_get Ox 0 rfl rfl hin_X5_done_X5 13 rfl lk_X5_done_f79 rfl rfl dX5_done_56 ?_
          refine k_iret0 Ox Rt dX5_done_59 (Nat.le_of_ble_eq_true rfl) (Nat.le_of_ble_eq_true rfl) rfl ?_
          exact ⟨⟨by rw [dnR, if_pos hrf], _, _, _, by rw [if_pos hrf]⟩, rfl⟩
        · refine k_aload_n Ox dX5_done_32 rfl 0 rfl ?_
          refine k_get Ox 0 rfl rfl hin_X5_done_X5 5 rfl lk_X5_done_f25 rfl rfl dX5_done_33 ?_
          refine k_iload_n Ox dX5_done_36 rfl 2 rfl ?_
          refine k_aload_n Ox dX5_done_37 rfl 0 rfl ?_
          refine k_get Ox 0 rfl rfl hin_X5_done_X5 12 rfl lk_X5_done_f41 rfl rfl dX5_done_38 ?_
          refine k_iload_n Ox dX5_done_41 rfl 2 rfl ?_
          refine k_iald Ox 5 rfl (by omega) (by first | decide | omega) dX5_done_42 ?_
          refine k_iast Ox 4 rfl (by omega) (by first | decide | omega) [_, _, _, _, _, _, _] rfl dX5_done_43 ?_
          refine k_iincN Ox (k := 2) (m := 1) [(2, _), (0, _), (1, _)] dX5_done_44 rfl rfl (by decide) rfl ?_
          refine k_goto Ox 26 dX5_done_47 rfl ?_
          refine k_sub [1, 2, 0] [(0, _), (1, _), (2, _)] rfl ?_
          exact ih (i + 1) _ (by omega) (by omega) (fun j hj => cp_up hg2 hj)
    refine k_sub [2, 1, 0] [(0, _), (1, _), (2, _)] rfl ?_
    exact L26 37 0 _ (by omega) (by omega) (fun j hj => absurd hj (by omega))
  · refine k_iload_n Ox dX5_done_9 rfl 0 rfl ?_
    refine k_iret0 Ox Rt dX5_done_10 (Nat.le_of_ble_eq_true rfl) (Nat.le_of_ble_eq_true rfl) rfl ?_
    exact ⟨⟨by rw [dnR, if_neg (rf_lt (by omega))], _, _, _, by rw [dnB, if_neg (rf_lt (by omega)), if_neg (rf_lt (by omega))]⟩, rfl⟩
set_option maxHeartbeats 400000 in
set_option maxRecDepth 4000 in
theorem c_X5_behind (G : Gx) (m a1 a2 a3 a4 a5 a6 a7 a8 a9 a10 a11 a12 a13 : Nat) (fd sg mn : Nat) (w1 w2 w3 w4 w5 w6 : Int32) (O T K GU : Nat → Nat) (B : Nat → Nat → Nat) (g : Nat → Int32) (PS : Nat → Nat) (P : Ps) (x1 x2 : Int32) (hO : okP O) (hT : okM T) (hK : okM K) (hN : noSelf T) (hB : okB B) (hfd : fd < 10) (hmn : mn ≤ 60) (hPS : ∀ i, i < mn → PS i < 128) : Ct G yX5_behind wsX5_behind { frames := 3, cells := 0, slots := 0, locals := 75 } [.ref m, .int x1, .int x2] [(m, cO 5 [.ref a1, .ref a2, .ref a3, .ref a4, .ref a5, .ref a6, .ref a7, .int (nI fd), .int (nI sg), .ref a8, .int (nI mn), .ref a9, .ref a10, .int w1, .int w2, .ref a11, .int w3, .int w4, .int w5, .int w6, .ref a12, .ref a13]), (a3, cI G 6 (rN O)), (a4, cI G 6 (rN T)), (a5, cI G 6 (rN K)), (a6, cI G 36 (rN (flM B))), (a10, cI G 36 g), (a9, cI G 60 (rN PS))] (fun r wa => r = some (.int (bhR O T K fd GU PS P mn B x1 x2)) ∧ ∃ g9 : Nat → Int32, ∃ w91 : Int32, ∃ w92 : Int32, wa = [(m, cO 5 [.ref a1, .ref a2, .ref a3, .ref a4, .ref a5, .ref a6, .ref a7, .int (nI fd), .int (nI sg), .ref a8, .int (nI mn), .ref a9, .ref a10, .int w91, .int w92, .ref a11, .int w3, .int w4, .int w5, .int w6, .ref a12, .ref a13]), (a3, cI G 6 (rN O)), (a4, cI G 6 (rN T)), (a5, cI G 6 (rN K)), (a6, cI G 36 (rN (flM B))), (a10, cI G 36 g9), (a9, cI G 60 (rN PS))]) := by
  refine CtN.of [(0, .ref m), (1, .int x1), (2, .int x2)] (by decide +kernel) rfl rfl rfl rfl ?_
  intro x Ox Rt
  refine k_iload_n Ox dX5_behind_0 rfl 1 rfl ?_
  refine k_callS Ox [] (c_X5_is6 G _ ) 1 rfl rfl rfl ⟨rfl, rfl⟩ rfl rfl gX5_behind_X5_is6 ⟨(by decide +kernel), (by decide +kernel), (by decide +kernel)⟩ rfl dX5_behind_1 (Nat.le_of_ble_eq_true rfl) rfl ⟨Nat.le_of_ble_eq_true rfl, Nat.le_of_ble_eq_true rfl⟩ (fun r wa wb hp => ?_)
  obtain ⟨⟨rfl, rfl⟩, rfl⟩ := hp
  show V x G _ _ _ _ _ (.int _ :: _) [_, _, _, _, _, _, _]
  refine k_if_eqB Ox 16 dX5_behind_4 rfl (fun c_4 => ?_) (fun c_4 => ?_)
  · have hf : (inR 0 5 x1 && isPA x2) = false := by simp [c_4]
    refine k_iconst Ox (v := -1) dX5_behind_16 (by decide) ?_
    refine k_iret0 Ox Rt dX5_behind_17 (Nat.le_of_ble_eq_true rfl) (Nat.le_of_ble_eq_true rfl) rfl ?_
    exact ⟨⟨by rw [bhR, pick_f hf], _, _, _, rfl⟩, rfl⟩
  · refine k_iload_n Ox dX5_behind_7 rfl 2 rfl ?_
    refine k_iconst Ox (v := -1) dX5_behind_8 (by decide) ?_
    refine k_iconst Ox (v := nI 5) dX5_behind_9 rfl ?_
    refine k_callS Ox [] (c_X5_in G _ _ _ ) 3 rfl rfl rfl ⟨rfl, rfl⟩ rfl rfl gX5_behind_X5_in ⟨(by decide +kernel), (by decide +kernel), (by decide +kernel)⟩ rfl dX5_behind_10 (Nat.le_of_ble_eq_true rfl) rfl ⟨Nat.le_of_ble_eq_true rfl, Nat.le_of_ble_eq_true rfl⟩ (fun r wa wb hp => ?_)
    obtain ⟨⟨rfl, rfl⟩, rfl⟩ := hp
    show V x G _ _ _ _ _ (.int _ :: _) [_, _, _, _, _, _, _]
    change V x G _ _ _ _ _ (.int (bI (inR (-1) (5) _)) :: _) _
    refine k_if_neB Ox 18 dX5_behind_13 rfl (fun c_13 => ?_) (fun c_13 => ?_)
    · have hpx := isPA_in' x2 c_13
      have hok : (inR 0 5 x1 && isPA x2) = true := by rw [c_4, hpx]; rfl
      refine k_aload_n Ox dX5_behind_18 rfl 0 rfl ?_
      refine k_callV Ox [0, 6] (c_X5_barOfText G _ _ _ _ _ _ _ _ _ _ _ _ _ _ _ _ _ _ _ _ _ _ _ _ (by assumption) (by assumption)) 0 rfl rfl rfl ⟨rfl, rfl⟩ rfl rfl gX5_behind_X5_barOfText rfl 0 rfl ⟨rfl, (by decide +kernel), (by decide +kernel), (by decide +kernel)⟩ rfl dX5_behind_19 (Nat.le_of_ble_eq_true rfl) rfl ⟨Nat.le_of_ble_eq_true rfl, Nat.le_of_ble_eq_true rfl⟩ (fun r wa wb hp => ?_)
      obtain ⟨⟨rfl, rfl⟩, rfl⟩ := hp
      show V x G _ _ _ _ _ (.int _ :: _) [_, _, _, _, _, _, _]
      rw [bar_eq hmn P]
      refine k_istore_n Ox [(3, _), (0, _), (1, _), (2, _)] dX5_behind_22 rfl (by decide) rfl ?_
      refine k_iload_n Ox dX5_behind_23 rfl 0 rfl ?_
      refine k_if_ge Ox 29 dX5_behind_24 rfl (fun c_24 => ?_) (fun c_24 => ?_)
      · have hr0 := rf_zero (rf_ge c_24)
        obtain ⟨hpn, hpa, hpts⟩ := rd_pts (GU := GU) hmn (fun j hj => by omega) hr0.1
        obtain ⟨j1, hj1, rfl⟩ := in6_of c_4
        have hpb := plyB_ok (O := O) (T := T) (K := K) (GU := GU) (P := rdp PS P mn) hB hfd (pN (rdp PS P mn))
        refine k_aload_n Ox dX5_behind_29 rfl 1 rfl ?_
        refine k_iconst Ox (v := nI 0) dX5_behind_30 rfl ?_
        refine k_bipush Ox (v := -6) dX5_behind_31 (by decide) ?_
        refine k_callV Ox [0, 1, 2, 3, 4, 5, 6] (c_X5_goText G _ _ _ _ _ _ _ _ _ _ _ _ _ _ _ _ _ _ _ _ _ _ _ _ _ _ GU _ _ _ P _ _ (hO) (hT) (hK) (hN) (hB) (hfd) (hmn) (hPS) (hr0.1) (by decide) (fun j hj => absurd hj (by omega))) 2 rfl rfl rfl ⟨rfl, rfl⟩ rfl rfl gX5_behind_X5_goText rfl 0 rfl ⟨rfl, (by decide +kernel), (by decide +kernel), (by decide +kernel)⟩ rfl dX5_behind_33 (Nat.le_of_ble_eq_true rfl) rfl ⟨Nat.le_of_ble_eq_true rfl, Nat.le_of_ble_eq_true rfl⟩ (fun r wa wb hp => ?_)
        obtain ⟨⟨rfl, rfl⟩, rfl⟩ := hp
        show V x G _ _ _ _ _ (.int _ :: _) [_, _, _, _, _, _, _]
        have hvl := vnC_le O T K fd GU (rdp PS P mn) B (pN (rdp PS P mn))
        refine k_if_geN Ox 44 dX5_behind_36 rfl (by omega) ?_
        refine k_aload_n Ox dX5_behind_44 rfl 1 rfl ?_
        refine k_iload_n Ox dX5_behind_45 rfl 2 rfl ?_
        refine k_iload_n Ox dX5_behind_46 rfl 3 rfl ?_
        refine k_iconst Ox (v := -1) dX5_behind_47 (by decide) ?_
        refine k_callV Ox [0, 5] (c_X5_beliefOf G _ _ _ _ _ _ _ _ _ _ _ _ _ _ _ _ _ _ _ _ _ _ _ _ _ _ (hpb) (hj1) (hpx)) 3 rfl rfl rfl ⟨rfl, rfl⟩ rfl rfl gX5_behind_X5_beliefOf rfl 0 rfl ⟨rfl, (by decide +kernel), (by decide +kernel), (by decide +kernel)⟩ rfl dX5_behind_48 (Nat.le_of_ble_eq_true rfl) rfl ⟨Nat.le_of_ble_eq_true rfl, Nat.le_of_ble_eq_true rfl⟩ (fun r wa wb hp => ?_)
        obtain ⟨⟨rfl, rfl⟩, rfl⟩ := hp
        show V x G _ _ _ _ _ (.int _ :: _) [_, _, _, _, _, _, _]
        refine k_iret0 Ox Rt dX5_behind_51 (Nat.le_of_ble_eq_true rfl) (Nat.le_of_ble_eq_true rfl) rfl ?_
        exact ⟨⟨by rw [bhR, pick_t hok, if_pos (rf_ge c_24), nn_nI (by omega)], _, _, _, rfl⟩, rfl⟩
      · refine k_iload_n Ox dX5_behind_27 rfl 0 rfl ?_
        refine k_iret0 Ox Rt dX5_behind_28 (Nat.le_of_ble_eq_true rfl) (Nat.le_of_ble_eq_true rfl) rfl ?_
        exact ⟨⟨by rw [bhR, pick_t hok, if_neg (rf_lt (by omega))], _, _, _, rfl⟩, rfl⟩
    · have hf : (inR 0 5 x1 && isPA x2) = false := by rw [isPA_in x2 c_13, Bool.and_false]
      refine k_iconst Ox (v := -1) dX5_behind_16 (by decide) ?_
      refine k_iret0 Ox Rt dX5_behind_17 (Nat.le_of_ble_eq_true rfl) (Nat.le_of_ble_eq_true rfl) rfl ?_
      exact ⟨⟨by rw [bhR, pick_f hf], _, _, _, rfl⟩, rfl⟩
