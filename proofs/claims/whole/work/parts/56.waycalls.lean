theorem lk_X4_tellingsFor_f37 : Cond.fieldLink RX4 37 "LieBridges" "trial" "LLieBridges$Beliefs;" ∈ wsX4_tellingsFor := List.mem_of_getElem? (i := 1) rfl
theorem hin_X4_tellingsFor_X4 : ∀ w ∈ u_ws RX4 TX4 7, w ∈ wsX4_tellingsFor := fun _ h => List.mem_cons_of_mem _ (List.mem_append_left _ (List.mem_append_left _ (List.mem_append_right _ h)))
theorem lk_X4_tellingsFor_f10 : Cond.fieldLink RX4 10 "LieBridges" "now" "LLieBridges$Delta;" ∈ wsX4_tellingsFor := List.mem_of_getElem? (i := 2) rfl
theorem lk_X4_tellingsFor_f72 : Cond.fieldLink RX4 72 "LieBridges$Delta" "beliefs" "LLieBridges$Beliefs;" ∈ wsX4_tellingsFor := List.mem_of_getElem? (i := 3) rfl
theorem hin_X4_tellingsFor_X1 : ∀ w ∈ u_ws RX1 TX1 11, w ∈ wsX4_tellingsFor := fun _ h => List.mem_cons_of_mem _ (List.mem_append_left _ (List.mem_append_right _ h))
set_option maxHeartbeats 400000 in
set_option maxRecDepth 4000 in
theorem c_X4_tellingsFor (G : Gx) (h d im pd wy tb gu ro ls gs ly hs tr kn sp sl be bd tbd : Nat) (O : Nat → Nat) (T : Nat → Nat) (K : Nat → Nat) (B : Nat → Nat → Nat) (fd : Nat) (sg : Nat) (g : Nat → Int32) (p n : Nat) (hO : okP O) (hT : okM T) (hK : okM K) (hB : okB B) (hfd : fd < 10) (hp : p < 6) (hn : n ≤ 6) : Ct G yX4_tellingsFor wsX4_tellingsFor { frames := 5, cells := 0, slots := 0, locals := 119 } [.ref h, .int (nI p), .int (nI n)] [(h, cO 4 [.ref d, .ref im, .ref pd, .ref wy, .ref tb, .ref gu, .ref ro]), (d, cO 1 [.ref ls, .ref gs, .ref ly, .ref hs, .ref tr, .ref kn, .ref sp, .ref sl, .ref be, .int (nI fd), .int (nI sg)]), (ly, cI G 6 (rN O)), (tr, cI G 6 (rN T)), (kn, cI G 6 (rN K)), (be, cO 0 [.ref bd]), (bd, cI G 36 (rN (flC B))), (tb, cO 0 [.ref tbd]), (tbd, cI G 36 g)] (fun r wa => r = some (.int (wI (tfO O T K fd B n p))) ∧ ∃ g9 : Nat → Int32, wa = [(h, cO 4 [.ref d, .ref im, .ref pd, .ref wy, .ref tb, .ref gu, .ref ro]), (d, cO 1 [.ref ls, .ref gs, .ref ly, .ref hs, .ref tr, .ref kn, .ref sp, .ref sl, .ref be, .int (nI fd), .int (nI sg)]), (ly, cI G 6 (rN O)), (tr, cI G 6 (rN T)), (kn, cI G 6 (rN K)), (be, cO 0 [.ref bd]), (bd, cI G 36 (rN (flC B))), (tb, cO 0 [.ref tbd]), (tbd, cI G 36 g9)]) := by
  refine CtN.of [(0, .ref h), (1, .int (nI p)), (2, .int (nI n))] (by decide +kernel) rfl rfl rfl rfl ?_
  intro x Ox Rt
  refine k_aload_n Ox dX4_tellingsFor_0 rfl 0 rfl ?_
  refine k_get Ox 0 rfl rfl hin_X4_tellingsFor_X4 4 rfl lk_X4_tellingsFor_f37 rfl rfl dX4_tellingsFor_1 ?_
  refine k_aload_n Ox dX4_tellingsFor_4 rfl 0 rfl ?_
  refine k_get Ox 0 rfl rfl hin_X4_tellingsFor_X4 0 rfl lk_X4_tellingsFor_f10 rfl rfl dX4_tellingsFor_5 ?_
  refine k_get Ox 1 rfl rfl hin_X4_tellingsFor_X1 8 rfl lk_X4_tellingsFor_f72 rfl rfl dX4_tellingsFor_8 ?_
  refine k_callV Ox [7, 8, 5, 6] (c_X0_become G _ _ _ _ _ _ ) 1 rfl rfl rfl ⟨rfl, rfl⟩ rfl rfl gX4_tellingsFor_X0_become rfl 7 rfl ⟨rfl, (by decide +kernel), (by decide +kernel), (by decide +kernel)⟩ rfl dX4_tellingsFor_11 (Nat.le_of_ble_eq_true rfl) rfl ⟨Nat.le_of_ble_eq_true rfl, Nat.le_of_ble_eq_true rfl⟩ (fun r wa wb hp => ?_)
  obtain ⟨⟨rfl, rfl⟩, rfl⟩ := hp
  show V x G _ _ _ _ _ _ [_, _, _, _, _, _, _, _, _]
  refine k_aload_n Ox dX4_tellingsFor_14 rfl 0 rfl ?_
  refine k_get Ox 0 rfl rfl hin_X4_tellingsFor_X4 4 rfl lk_X4_tellingsFor_f37 rfl rfl dX4_tellingsFor_15 ?_
  refine k_iload_n Ox dX4_tellingsFor_18 rfl 1 rfl ?_
  refine k_iconst Ox (v := nI 0) dX4_tellingsFor_19 rfl ?_
  refine k_callV Ox [7, 8] (c_X0_load G _ _ _ _ _ (hp) (by omega) (hB)) 2 rfl rfl rfl ⟨rfl, rfl⟩ rfl rfl gX4_tellingsFor_X0_load rfl 7 rfl ⟨rfl, (by decide +kernel), (by decide +kernel), (by decide +kernel)⟩ rfl dX4_tellingsFor_20 (Nat.le_of_ble_eq_true rfl) rfl ⟨Nat.le_of_ble_eq_true rfl, Nat.le_of_ble_eq_true rfl⟩ (fun r wa wb hp => ?_)
  obtain ⟨⟨rfl, rfl⟩, rfl⟩ := hp
  show V x G _ _ _ _ _ (.int _ :: _) [_, _, _, _, _, _, _, _, _]
  refine k_istore_n Ox [(3, _), (0, _), (1, _), (2, _)] dX4_tellingsFor_23 rfl (by decide) rfl ?_
  refine k_iconst Ox (v := nI 0) dX4_tellingsFor_24 rfl ?_
  refine k_istore Ox [(4, _), (3, _), (0, _), (1, _), (2, _)] dX4_tellingsFor_25 (by decide) rfl ?_
  have L27 : ∀ (fuel : Nat) (i : Nat), i ≤ 6 → 7 ≤ i + fuel → V x G 5 0 0 27 [(0, .ref h), (1, .int (nI p)), (2, .int (nI n)), (3, .int (nI (ld B p 0))), (4, .int (nI i))] [] [(h, cO 4 [.ref d, .ref im, .ref pd, .ref wy, .ref tb, .ref gu, .ref ro]), (d, cO 1 [.ref ls, .ref gs, .ref ly, .ref hs, .ref tr, .ref kn, .ref sp, .ref sl, .ref be, .int (nI fd), .int (nI sg)]), (ly, cI G 6 (rN O)), (tr, cI G 6 (rN T)), (kn, cI G 6 (rN K)), (be, cO 0 [.ref bd]), (bd, cI G 36 (rN (flC B))), (tb, cO 0 [.ref tbd]), (tbd, cI G 36 (rN (flC (spN O T K fd B p i))))] := by
    intro fuel
    induction fuel with
    | zero => intro i hi hfuel; exact absurd hi (by omega)
    | succ fuel ih =>
      intro i hi hfuel
      refine k_iload Ox dX4_tellingsFor_27 4 rfl ?_
      refine k_bipush Ox (v := nI 6) dX4_tellingsFor_29 rfl ?_
      refine k_icmp_geN Ox 49 dX4_tellingsFor_31 rfl (by omega) (by omega) (fun c_31 => ?_) (fun c_31 => ?_)
      · obtain rfl : i = 6 := by omega
        have hsn := spN_ok (O := O) (T := T) (K := K) hB hfd hp 6
        have hl1 := ld_le B p 0
        have hl2 := ld_le (spN O T K fd B p 6) p 0
        refine k_aload_n Ox dX4_tellingsFor_49 rfl 0 rfl ?_
        refine k_get Ox 0 rfl rfl hin_X4_tellingsFor_X4 4 rfl lk_X4_tellingsFor_f37 rfl rfl dX4_tellingsFor_50 ?_
        refine k_iload_n Ox dX4_tellingsFor_53 rfl 1 rfl ?_
        refine k_iconst Ox (v := nI 0) dX4_tellingsFor_54 rfl ?_
        refine k_callV Ox [7, 8] (c_X0_load G _ _ _ _ _ (hp) (by omega) (hsn)) 2 rfl rfl rfl ⟨rfl, rfl⟩ rfl rfl gX4_tellingsFor_X0_load rfl 7 rfl ⟨rfl, (by decide +kernel), (by decide +kernel), (by decide +kernel)⟩ rfl dX4_tellingsFor_55 (Nat.le_of_ble_eq_true rfl) rfl ⟨Nat.le_of_ble_eq_true rfl, Nat.le_of_ble_eq_true rfl⟩ (fun r wa wb hp => ?_)
        obtain ⟨⟨rfl, rfl⟩, rfl⟩ := hp
        show V x G _ _ _ _ _ (.int _ :: _) [_, _, _, _, _, _, _, _, _]
        refine k_iload_n Ox dX4_tellingsFor_58 rfl 2 rfl ?_
        refine k_icmp_geN Ox 64 dX4_tellingsFor_59 rfl (by omega) (by omega) (fun c_59 => ?_) (fun c_59 => ?_)
        · refine k_iload_n Ox dX4_tellingsFor_64 rfl 3 rfl ?_
          refine k_iload_n Ox dX4_tellingsFor_65 rfl 2 rfl ?_
          refine k_icmp_geN Ox 75 dX4_tellingsFor_66 rfl (by omega) (by omega) (fun c_66 => ?_) (fun c_66 => ?_)
          · refine k_iconst Ox (v := nI 0) dX4_tellingsFor_75 rfl ?_
            refine k_iret0 Ox Rt dX4_tellingsFor_76 (Nat.le_of_ble_eq_true rfl) (Nat.le_of_ble_eq_true rfl) rfl ?_
            first | exact ⟨⟨by rw [tfO, if_neg (by omega), show n - ld B p 0 = 0 by omega]; rfl, _, rfl⟩, rfl⟩ | exact ⟨⟨by rw [tfO, if_neg (by omega)]; rfl, _, rfl⟩, rfl⟩
          · refine k_iload_n Ox dX4_tellingsFor_69 rfl 2 rfl ?_
            refine k_iload_n Ox dX4_tellingsFor_70 rfl 3 rfl ?_
            refine k_isubN Ox dX4_tellingsFor_71 (by omega) ?_
            refine k_goto Ox 76 dX4_tellingsFor_72 rfl ?_
            refine k_iret0 Ox Rt dX4_tellingsFor_76 (Nat.le_of_ble_eq_true rfl) (Nat.le_of_ble_eq_true rfl) rfl ?_
            first | exact ⟨⟨by rw [tfO, if_neg (by omega), show n - ld B p 0 = 0 by omega]; rfl, _, rfl⟩, rfl⟩ | exact ⟨⟨by rw [tfO, if_neg (by omega)]; rfl, _, rfl⟩, rfl⟩
        · refine k_iconst Ox (v := -1) dX4_tellingsFor_62 (by decide) ?_
          refine k_iret0 Ox Rt dX4_tellingsFor_63 (Nat.le_of_ble_eq_true rfl) (Nat.le_of_ble_eq_true rfl) rfl ?_
          exact ⟨⟨by rw [tfO, if_pos c_59]; rfl, _, rfl⟩, rfl⟩
      · have hsn := spN_ok (O := O) (T := T) (K := K) hB hfd hp i
        refine k_aload_n Ox dX4_tellingsFor_34 rfl 0 rfl ?_
        refine k_aload_n Ox dX4_tellingsFor_35 rfl 0 rfl ?_
        refine k_get Ox 0 rfl rfl hin_X4_tellingsFor_X4 4 rfl lk_X4_tellingsFor_f37 rfl rfl dX4_tellingsFor_36 ?_
        refine k_iload_n Ox dX4_tellingsFor_39 rfl 1 rfl ?_
        refine k_callV Ox [0, 1, 2, 3, 4, 7, 8] (c_X4_spread G _ _ _ _ _ _ _ _ _ _ _ _ _ _ _ _ _ _ _ _ _ _ _ _ _ _ (hO) (hT) (hK) (hsn) (hfd) (hp)) 2 rfl rfl rfl ⟨rfl, rfl⟩ rfl rfl gX4_tellingsFor_X4_spread rfl 0 rfl ⟨rfl, (by decide +kernel), (by decide +kernel), (by decide +kernel)⟩ rfl dX4_tellingsFor_40 (Nat.le_of_ble_eq_true rfl) rfl ⟨Nat.le_of_ble_eq_true rfl, Nat.le_of_ble_eq_true rfl⟩ (fun r wa wb hp => ?_)
        obtain ⟨⟨rfl, rfl⟩, rfl⟩ := hp
        show V x G _ _ _ _ _ _ [_, _, _, _, _, _, _, _, _]
        refine k_iincN Ox (k := 4) (m := 1) [(4, _), (0, _), (1, _), (2, _), (3, _)] dX4_tellingsFor_43 rfl rfl (by decide) rfl ?_
        refine k_goto Ox 27 dX4_tellingsFor_46 rfl ?_
        refine k_sub [1, 2, 3, 4, 0] [(0, _), (1, _), (2, _), (3, _), (4, _)] rfl ?_
        exact ih (i + 1) (by omega) (by omega)
  refine k_sub [2, 3, 4, 1, 0] [(0, _), (1, _), (2, _), (3, _), (4, _)] rfl ?_
  exact L27 7 0 (by omega) (by omega)
theorem lk_X4_tellings_f30 : Cond.fieldLink RX4 30 "LieBridges" "ways" "LLieBridges$Ways;" ∈ wsX4_tellings := List.mem_of_getElem? (i := 1) rfl
theorem hin_X4_tellings_X4 : ∀ w ∈ u_ws RX4 TX4 7, w ∈ wsX4_tellings := fun _ h => List.mem_cons_of_mem _ (List.mem_append_left _ (List.mem_append_left _ (List.mem_append_left _ (List.mem_append_right _ h))))
theorem lk_X4_tellings_f10 : Cond.fieldLink RX4 10 "LieBridges" "now" "LLieBridges$Delta;" ∈ wsX4_tellings := List.mem_of_getElem? (i := 2) rfl
theorem lk_X4_tellings_f160 : Cond.fieldLink RX4 160 "LieBridges$Ways" "worth" "J" ∈ wsX4_tellings := List.mem_of_getElem? (i := 3) rfl
theorem hin_X4_tellings_X3 : ∀ w ∈ u_ws RX3 TX3 7, w ∈ wsX4_tellings := fun _ h => List.mem_cons_of_mem _ (List.mem_append_left _ (List.mem_append_left _ (List.mem_append_right _ h)))
set_option maxHeartbeats 1000000 in
set_option maxRecDepth 4000 in
theorem c_X4_tellings (G : Gx) (h d im pd wy tb gu ro ls gs ly hs tr kn sp sl be bd wt td bs tbd : Nat) (L : Nat → Nat) (Gr : Nat → Nat) (O : Nat → Nat) (T : Nat → Nat) (K : Nat → Nat) (B : Nat → Nat → Nat) (fd : Nat) (sg : Nat) (z1 : Int32) (z2 : Int32) (g : Nat → Int32) (W : Nat → Option Nat) (s : Ws) (x1 x2 x3 x4 : Int32) (hO : okP O) (hT : okM T) (hK : okM K) (hB : okB B) (hfd : fd < 10) (hL : okP L) (hG : okP Gr) (hws : okWs s) (hww : okWt W) : Ct G yX4_tellings wsX4_tellings { frames := 16, cells := 0, slots := 0, locals := 431 } [.ref h, .int x1, .int x2, .int x3, .int x4] [(h, cO 4 [.ref d, .ref im, .ref pd, .ref wy, .ref tb, .ref gu, .ref ro]), (d, cO 1 [.ref ls, .ref gs, .ref ly, .ref hs, .ref tr, .ref kn, .ref sp, .ref sl, .ref be, .int (nI fd), .int (nI sg)]), (ls, cI G 6 (rN L)), (gs, cI G 6 (rN Gr)), (ly, cI G 6 (rN O)), (tr, cI G 6 (rN T)), (kn, cI G 6 (rN K)), (be, cO 0 [.ref bd]), (bd, cI G 36 (rN (flC B))), (tb, cO 0 [.ref tbd]), (tbd, cI G 36 g), (wy, cO 3 [.ref wt, .ref td, .ref bs, .int z1, .int z2, .int (lnI (wL s)), .long (lI (wV s))]), (wt, cI G 6 (rW W)), (td, cI G 6 (rN (wT s))), (bs, cI G 6 (rN (wB s)))] (fun r wa => r = some (.int (tlR L Gr O T K fd B s x1 x2 x3 x4)) ∧ ∃ g9 : Nat → Int32, ∃ W9 : Nat → Option Nat, ∃ s9 : Ws, ∃ z91 : Int32, ∃ z92 : Int32, okWs s9 ∧ okWt W9 ∧ wa = [(h, cO 4 [.ref d, .ref im, .ref pd, .ref wy, .ref tb, .ref gu, .ref ro]), (d, cO 1 [.ref ls, .ref gs, .ref ly, .ref hs, .ref tr, .ref kn, .ref sp, .ref sl, .ref be, .int (nI fd), .int (nI sg)]), (ls, cI G 6 (rN L)), (gs, cI G 6 (rN Gr)), (ly, cI G 6 (rN O)), (tr, cI G 6 (rN T)), (kn, cI G 6 (rN K)), (be, cO 0 [.ref bd]), (bd, cI G 36 (rN (flC B))), (tb, cO 0 [.ref tbd]), (tbd, cI G 36 g9), (wy, cO 3 [.ref wt, .ref td, .ref bs, .int z91, .int z92, .int (lnI (wL s9)), .long (lI (wV s9))]), (wt, cI G 6 (rW W9)), (td, cI G 6 (rN (wT s9))), (bs, cI G 6 (rN (wB s9)))]) := by
  refine CtN.of [(0, .ref h), (1, .int x1), (2, .int x2), (3, .int x3), (4, .int x4)] (by decide +kernel) rfl rfl rfl rfl ?_
  intro x Ox Rt
  refine k_iload_n Ox dX4_tellings_0 rfl 1 rfl ?_
  refine k_callS Ox [] (c_X4_isIsland G _ ) 1 rfl rfl rfl ⟨rfl, rfl⟩ rfl rfl gX4_tellings_X4_isIsland ⟨(by decide +kernel), (by decide +kernel), (by decide +kernel)⟩ rfl dX4_tellings_1 (Nat.le_of_ble_eq_true rfl) rfl ⟨Nat.le_of_ble_eq_true rfl, Nat.le_of_ble_eq_true rfl⟩ (fun r wa wb hp => ?_)
  obtain ⟨⟨rfl, rfl⟩, rfl⟩ := hp
  show V x G _ _ _ _ _ (.int _ :: _) [_, _, _, _, _, _, _, _, _, _, _, _, _, _, _]
  refine k_if_eqB Ox 14 dX4_tellings_4 rfl (fun c_4 => ?_) (fun c_4 => ?_)
  · have hf : (inR 0 5 x1 && inR 0 5 x2) = false := by rw [c_4]; rfl
    refine k_iconst Ox (v := -1) dX4_tellings_14 (by decide) ?_
    refine k_iret0 Ox Rt dX4_tellings_15 (Nat.le_of_ble_eq_true rfl) (Nat.le_of_ble_eq_true rfl) rfl ?_
    exact ⟨⟨by rw [tlR, pick_f hf], _, _, _, _, _, hws, hww, rfl⟩, rfl⟩
  · refine k_iload_n Ox dX4_tellings_7 rfl 2 rfl ?_
    refine k_callS Ox [] (c_X4_isIsland G _ ) 1 rfl rfl rfl ⟨rfl, rfl⟩ rfl rfl gX4_tellings_X4_isIsland ⟨(by decide +kernel), (by decide +kernel), (by decide +kernel)⟩ rfl dX4_tellings_8 (Nat.le_of_ble_eq_true rfl) rfl ⟨Nat.le_of_ble_eq_true rfl, Nat.le_of_ble_eq_true rfl⟩ (fun r wa wb hp => ?_)
    obtain ⟨⟨rfl, rfl⟩, rfl⟩ := hp
    show V x G _ _ _ _ _ (.int _ :: _) [_, _, _, _, _, _, _, _, _, _, _, _, _, _, _]
    refine k_if_neB Ox 16 dX4_tellings_11 rfl (fun c_11 => ?_) (fun c_11 => ?_)
    · refine k_iload_n Ox dX4_tellings_16 rfl 3 rfl ?_
      refine k_callS Ox [] (c_X4_isParty G _ ) 1 rfl rfl rfl ⟨rfl, rfl⟩ rfl rfl gX4_tellings_X4_isParty ⟨(by decide +kernel), (by decide +kernel), (by decide +kernel)⟩ rfl dX4_tellings_17 (Nat.le_of_ble_eq_true rfl) rfl ⟨Nat.le_of_ble_eq_true rfl, Nat.le_of_ble_eq_true rfl⟩ (fun r wa wb hp => ?_)
      obtain ⟨⟨rfl, rfl⟩, rfl⟩ := hp
      show V x G _ _ _ _ _ (.int _ :: _) [_, _, _, _, _, _, _, _, _, _, _, _, _, _, _]
      refine k_if_neB Ox 26 dX4_tellings_20 rfl (fun c_20 => ?_) (fun c_20 => ?_)
      · obtain ⟨j1, hj1, rfl⟩ := in6_of c_4
        obtain ⟨j2, hj2, rfl⟩ := in6_of c_11
        obtain ⟨j3, hj30, hj3, rfl⟩ := inR_of' (lo := 1) (k := 6) rfl rfl (by decide) c_20
        refine k_iconst Ox (v := nI 0) dX4_tellings_26 rfl ?_
        refine k_istore Ox [(5, _), (0, _), (1, _), (2, _), (3, _), (4, _)] dX4_tellings_27 (by decide) rfl ?_
        have L29 : ∀ (fuel : Nat) (i : Nat) (W1 : Nat → Option Nat) (g : Nat → Int32), i ≤ 6 → 7 ≤ i + fuel → (∀ p, p < i → W1 p = tfO O T K fd B j3 p) → V x G 6 0 0 29 [(0, .ref h), (1, .int (nI j1)), (2, .int (nI j2)), (3, .int (nI j3)), (4, .int x4), (5, .int (nI i))] [] [(h, cO 4 [.ref d, .ref im, .ref pd, .ref wy, .ref tb, .ref gu, .ref ro]), (d, cO 1 [.ref ls, .ref gs, .ref ly, .ref hs, .ref tr, .ref kn, .ref sp, .ref sl, .ref be, .int (nI fd), .int (nI sg)]), (ls, cI G 6 (rN L)), (gs, cI G 6 (rN Gr)), (ly, cI G 6 (rN O)), (tr, cI G 6 (rN T)), (kn, cI G 6 (rN K)), (be, cO 0 [.ref bd]), (bd, cI G 36 (rN (flC B))), (tb, cO 0 [.ref tbd]), (tbd, cI G 36 g), (wy, cO 3 [.ref wt, .ref td, .ref bs, .int z1, .int z2, .int (lnI (wL s)), .long (lI (wV s))]), (wt, cI G 6 (rW W1)), (td, cI G 6 (rN (wT s))), (bs, cI G 6 (rN (wB s)))] := by
          intro fuel
          induction fuel with
          | zero => intro i W1 g hi hfuel hW1; exact absurd hi (by omega)
          | succ fuel ih =>
            intro i W1 g hi hfuel hW1
            refine k_iload Ox dX4_tellings_29 5 rfl ?_
            refine k_bipush Ox (v := nI 6) dX4_tellings_31 rfl ?_
            refine k_icmp_geN Ox 58 dX4_tellings_33 rfl (by omega) (by omega) (fun c_33 => ?_) (fun c_33 => ?_)
            · obtain rfl : i = 6 := by omega
              refine k_cell 12 (rW (tfO O T K fd B j3)) rfl (fun z hz => congrArg wI (hW1 z hz)) [_, _, _, _, _, _, _, _, _, _, _, _, _, _, _] rfl ?_
              have hwt := tf_ok O T K fd B (n := j3) (by omega)
              have hsz := wkF_ok (L := L) (Gr := Gr) (lk := false) (go := j2) hwt 5 (by omega) j1 (2 ^ j1) 0 (wT s, wB s, none, 0) vOK_f0 ⟨⟨by show (-1000 : Int) ≤ 0; omega, by show (0 : Int) ≤ 1000000; omega⟩, fun l hl => by cases hl⟩
              refine k_aload_n Ox dX4_tellings_58 rfl 0 rfl ?_
              refine k_get Ox 0 rfl rfl hin_X4_tellings_X4 3 rfl lk_X4_tellings_f30 rfl rfl dX4_tellings_59 ?_
              refine k_aload_n Ox dX4_tellings_62 rfl 0 rfl ?_
              refine k_get Ox 0 rfl rfl hin_X4_tellings_X4 0 rfl lk_X4_tellings_f10 rfl rfl dX4_tellings_63 ?_
              refine k_iload_n Ox dX4_tellings_66 rfl 1 rfl ?_
              refine k_iload_n Ox dX4_tellings_67 rfl 2 rfl ?_
              refine k_callV Ox [11, 12, 13, 14, 1, 2, 3] (c_X3_findCheapest G _ _ _ _ _ _ _ _ _ _ _ _ _ _ _ _ _ _ _ _ _ _ _ _ (hL) (hG) (hwt) (hj1) (hj2)) 3 rfl rfl rfl ⟨rfl, rfl⟩ rfl rfl gX4_tellings_X3_findCheapest rfl 11 rfl ⟨rfl, (by decide +kernel), (by decide +kernel), (by decide +kernel)⟩ rfl dX4_tellings_68 (Nat.le_of_ble_eq_true rfl) rfl ⟨Nat.le_of_ble_eq_true rfl, Nat.le_of_ble_eq_true rfl⟩ (fun r wa wb hp => ?_)
              obtain ⟨⟨rfl, rfl⟩, rfl⟩ := hp
              show V x G _ _ _ _ _ _ [_, _, _, _, _, _, _, _, _, _, _, _, _, _, _]
              refine k_iload Ox dX4_tellings_71 4 rfl ?_
              refine k_iconst Ox (v := -1) dX4_tellings_73 (by decide) ?_
              refine k_icmp_ne Ox 102 dX4_tellings_74 rfl (fun c_74 => ?_) (fun c_74 => ?_)
              · refine k_aload_n Ox dX4_tellings_102 rfl 0 rfl ?_
                refine k_get Ox 0 rfl rfl hin_X4_tellings_X4 3 rfl lk_X4_tellings_f30 rfl rfl dX4_tellings_103 ?_
                refine k_iload Ox dX4_tellings_106 4 rfl ?_
                refine k_callV Ox [11, 14] (c_X3_step G _ _ _ _ _ _ _ _ (hsz)) 1 rfl rfl rfl ⟨rfl, rfl⟩ rfl rfl gX4_tellings_X3_step rfl 11 rfl ⟨rfl, (by decide +kernel), (by decide +kernel), (by decide +kernel)⟩ rfl dX4_tellings_108 (Nat.le_of_ble_eq_true rfl) rfl ⟨Nat.le_of_ble_eq_true rfl, Nat.le_of_ble_eq_true rfl⟩ (fun r wa wb hp => ?_)
                obtain ⟨⟨rfl, rfl⟩, rfl⟩ := hp
                show V x G _ _ _ _ _ (.int _ :: _) [_, _, _, _, _, _, _, _, _, _, _, _, _, _, _]
                refine k_iret0 Ox Rt dX4_tellings_111 (Nat.le_of_ble_eq_true rfl) (Nat.le_of_ble_eq_true rfl) rfl ?_
                exact ⟨⟨by rw [tlR, pick_t (and_tt c_4 c_11), pick_t c_20, nn_nI (by omega), nn_nI (by omega), nn_nI (by omega), tl_i c_74], _, _, _, _, _, hsz, hwt, rfl⟩, rfl⟩
              · refine k_aload_n Ox dX4_tellings_77 rfl 0 rfl ?_
                refine k_get Ox 0 rfl rfl hin_X4_tellings_X4 3 rfl lk_X4_tellings_f30 rfl rfl dX4_tellings_78 ?_
                refine k_callV Ox [11] (c_X3_foundR G _ _ _ _ _ _ _ (hsz)) 0 rfl rfl rfl ⟨rfl, rfl⟩ rfl rfl gX4_tellings_X3_found rfl 11 rfl ⟨rfl, (by decide +kernel), (by decide +kernel), (by decide +kernel)⟩ rfl dX4_tellings_81 (Nat.le_of_ble_eq_true rfl) rfl ⟨Nat.le_of_ble_eq_true rfl, Nat.le_of_ble_eq_true rfl⟩ (fun r wa wb hp => ?_)
                obtain ⟨⟨rfl, rfl⟩, rfl⟩ := hp
                show V x G _ _ _ _ _ (.int _ :: _) [_, _, _, _, _, _, _, _, _, _, _, _, _, _, _]
                refine k_if_eqB Ox 99 dX4_tellings_84 rfl (fun c_84 => ?_) (fun c_84 => ?_)
                · refine k_bipush Ox (v := -6) dX4_tellings_99 (by decide) ?_
                  refine k_iret0 Ox Rt dX4_tellings_101 (Nat.le_of_ble_eq_true rfl) (Nat.le_of_ble_eq_true rfl) rfl ?_
                  first | exact ⟨⟨by rw [tlR, pick_t (and_tt c_4 c_11), pick_t c_20, nn_nI (by omega), nn_nI (by omega), nn_nI (by omega), tl_all c_74 c_84], _, _, _, _, _, hsz, hwt, rfl⟩, rfl⟩ | exact ⟨⟨by rw [tlR, pick_t (and_tt c_4 c_11), pick_t c_20, nn_nI (by omega), nn_nI (by omega), nn_nI (by omega), tl_no c_74 c_84], _, _, _, _, _, hsz, hwt, rfl⟩, rfl⟩
                · refine k_aload_n Ox dX4_tellings_87 rfl 0 rfl ?_
                  refine k_get Ox 0 rfl rfl hin_X4_tellings_X4 3 rfl lk_X4_tellings_f30 rfl rfl dX4_tellings_88 ?_
                  refine k_get Ox 11 rfl rfl hin_X4_tellings_X3 6 rfl lk_X4_tellings_f160 rfl rfl dX4_tellings_91 ?_
                  refine k_lneg Ox dX4_tellings_94 ?_
                  refine k_l2i Ox dX4_tellings_95 rfl ?_
                  refine k_goto Ox 101 dX4_tellings_96 rfl ?_
                  refine k_iret0 Ox Rt dX4_tellings_101 (Nat.le_of_ble_eq_true rfl) (Nat.le_of_ble_eq_true rfl) rfl ?_
                  first | exact ⟨⟨by rw [tlR, pick_t (and_tt c_4 c_11), pick_t c_20, nn_nI (by omega), nn_nI (by omega), nn_nI (by omega), tl_all c_74 c_84], _, _, _, _, _, hsz, hwt, rfl⟩, rfl⟩ | exact ⟨⟨by rw [tlR, pick_t (and_tt c_4 c_11), pick_t c_20, nn_nI (by omega), nn_nI (by omega), nn_nI (by omega), tl_no c_74 c_84], _, _, _, _, _, hsz, hwt, rfl⟩, rfl⟩
            · refine k_aload_n Ox dX4_tellings_36 rfl 0 rfl ?_
              refine k_get Ox 0 rfl rfl hin_X4_tellings_X4 3 rfl lk_X4_tellings_f30 rfl rfl dX4_tellings_37 ?_
              refine k_iload Ox dX4_tellings_40 5 rfl ?_
              refine k_aload_n Ox dX4_tellings_42 rfl 0 rfl ?_
              refine k_iload Ox dX4_tellings_43 5 rfl ?_
              refine k_iload_n Ox dX4_tellings_45 rfl 3 rfl ?_
              refine k_callV Ox [0, 1, 4, 5, 6, 7, 8, 9, 10] (c_X4_tellingsFor G _ _ _ _ _ _ _ _ _ _ _ _ _ _ _ _ _ _ _ _ _ _ _ _ _ _ _ _ (hO) (hT) (hK) (hB) (hfd) (by omega) (by omega)) 2 rfl rfl rfl ⟨rfl, rfl⟩ rfl rfl gX4_tellings_X4_tellingsFor rfl 0 rfl ⟨rfl, (by decide +kernel), (by decide +kernel), (by decide +kernel)⟩ rfl dX4_tellings_46 (Nat.le_of_ble_eq_true rfl) rfl ⟨Nat.le_of_ble_eq_true rfl, Nat.le_of_ble_eq_true rfl⟩ (fun r wa wb hp => ?_)
              obtain ⟨⟨rfl, g946, rfl⟩, rfl⟩ := hp
              show V x G _ _ _ _ _ (.int _ :: _) [_, _, _, _, _, _, _, _, _, _, _, _, _, _, _]
              refine k_callV Ox [11, 12] (c_X3_weigh G _ _ _ _ _ _ _ _ _ _ (by omega)) 2 rfl rfl rfl ⟨rfl, rfl⟩ rfl rfl gX4_tellings_X3_weigh rfl 11 rfl ⟨rfl, (by decide +kernel), (by decide +kernel), (by decide +kernel)⟩ rfl dX4_tellings_49 (Nat.le_of_ble_eq_true rfl) rfl ⟨Nat.le_of_ble_eq_true rfl, Nat.le_of_ble_eq_true rfl⟩ (fun r wa wb hp => ?_)
              obtain ⟨⟨rfl, rfl⟩, rfl⟩ := hp
              show V x G _ _ _ _ _ _ [_, _, _, _, _, _, _, _, _, _, _, _, _, _, _]
              rw [rW_upd]
              refine k_iincN Ox (k := 5) (m := 1) [(5, _), (0, _), (1, _), (2, _), (3, _), (4, _)] dX4_tellings_52 rfl rfl (by decide) rfl ?_
              refine k_goto Ox 29 dX4_tellings_55 rfl ?_
              refine k_sub [1, 2, 3, 4, 5, 0] [(0, _), (1, _), (2, _), (3, _), (4, _), (5, _)] rfl ?_
              exact ih (i + 1) _ _ (by omega) (by omega) (up_ltO hW1)
        refine k_sub [1, 2, 3, 4, 5, 0] [(0, _), (1, _), (2, _), (3, _), (4, _), (5, _)] rfl ?_
        exact L29 7 0 W g (by omega) (by omega) (fun p hp => absurd hp (by omega))
      · refine k_bipush Ox (v := -2) dX4_tellings_23 (by decide) ?_
        refine k_iret0 Ox Rt dX4_tellings_25 (Nat.le_of_ble_eq_true rfl) (Nat.le_of_ble_eq_true rfl) rfl ?_
        exact ⟨⟨by rw [tlR, pick_t (and_tt c_4 c_11), pick_f c_20], _, _, _, _, _, hws, hww, rfl⟩, rfl⟩
    · have hf : (inR 0 5 x1 && inR 0 5 x2) = false := by rw [c_11]; simp
      refine k_iconst Ox (v := -1) dX4_tellings_14 (by decide) ?_
      refine k_iret0 Ox Rt dX4_tellings_15 (Nat.le_of_ble_eq_true rfl) (Nat.le_of_ble_eq_true rfl) rfl ?_
      exact ⟨⟨by rw [tlR, pick_f hf], _, _, _, _, _, hws, hww, rfl⟩, rfl⟩
theorem lk_X4_standsBehind_f30 : Cond.fieldLink RX4 30 "LieBridges" "ways" "LLieBridges$Ways;" ∈ wsX4_standsBehind := List.mem_of_getElem? (i := 1) rfl
theorem hin_X4_standsBehind_X4 : ∀ w ∈ u_ws RX4 TX4 7, w ∈ wsX4_standsBehind := fun _ h => List.mem_cons_of_mem _ (List.mem_append_left _ (List.mem_append_left _ (List.mem_append_left _ (List.mem_append_right _ h))))
theorem lk_X4_standsBehind_f10 : Cond.fieldLink RX4 10 "LieBridges" "now" "LLieBridges$Delta;" ∈ wsX4_standsBehind := List.mem_of_getElem? (i := 2) rfl
theorem lk_X4_standsBehind_f72 : Cond.fieldLink RX4 72 "LieBridges$Delta" "beliefs" "LLieBridges$Beliefs;" ∈ wsX4_standsBehind := List.mem_of_getElem? (i := 3) rfl
theorem hin_X4_standsBehind_X1 : ∀ w ∈ u_ws RX1 TX1 11, w ∈ wsX4_standsBehind := fun _ h => List.mem_cons_of_mem _ (List.mem_append_left _ (List.mem_append_left _ (List.mem_append_right _ h)))
set_option maxHeartbeats 400000 in
set_option maxRecDepth 4000 in
theorem c_X4_standsBehind (G : Gx) (h d im pd wy tb gu ro ls gs ly hs tr kn sp sl be bd wt td bs : Nat) (L : Nat → Nat) (Gr : Nat → Nat) (B : Nat → Nat → Nat) (fd : Nat) (sg : Nat) (z1 : Int32) (z2 : Int32) (W : Nat → Option Nat) (s : Ws) (dd a b n : Nat) (hL : okP L) (hG : okP Gr) (hws : okWs s) (hww : okWt W) (hB : okB B) (hdd : dd < 100) (ha : a < 6) (hb : b < 6) (hn : n ≤ 6) : Ct G yX4_standsBehind wsX4_standsBehind { frames := 16, cells := 0, slots := 0, locals := 431 } [.ref h, .int (nI dd), .int (nI a), .int (nI b), .int (nI n)] [(h, cO 4 [.ref d, .ref im, .ref pd, .ref wy, .ref tb, .ref gu, .ref ro]), (d, cO 1 [.ref ls, .ref gs, .ref ly, .ref hs, .ref tr, .ref kn, .ref sp, .ref sl, .ref be, .int (nI fd), .int (nI sg)]), (ls, cI G 6 (rN L)), (gs, cI G 6 (rN Gr)), (be, cO 0 [.ref bd]), (bd, cI G 36 (rN (flC B))), (wy, cO 3 [.ref wt, .ref td, .ref bs, .int z1, .int z2, .int (lnI (wL s)), .long (lI (wV s))]), (wt, cI G 6 (rW W)), (td, cI G 6 (rN (wT s))), (bs, cI G 6 (rN (wB s)))] (fun r wa => r = some (.int (bI (sbQ L Gr B s a b n dd))) ∧ ∃ W9 : Nat → Option Nat, ∃ s9 : Ws, ∃ z91 : Int32, ∃ z92 : Int32, okWs s9 ∧ okWt W9 ∧ wT s9 = wT s9 ∧ wa = [(h, cO 4 [.ref d, .ref im, .ref pd, .ref wy, .ref tb, .ref gu, .ref ro]), (d, cO 1 [.ref ls, .ref gs, .ref ly, .ref hs, .ref tr, .ref kn, .ref sp, .ref sl, .ref be, .int (nI fd), .int (nI sg)]), (ls, cI G 6 (rN L)), (gs, cI G 6 (rN Gr)), (be, cO 0 [.ref bd]), (bd, cI G 36 (rN (flC B))), (wy, cO 3 [.ref wt, .ref td, .ref bs, .int z91, .int z92, .int (lnI (wL s9)), .long (lI (wV s9))]), (wt, cI G 6 (rW W9)), (td, cI G 6 (rN (wT s9))), (bs, cI G 6 (rN (wB s9)))]) := by
  refine CtN.of [(0, .ref h), (1, .int (nI dd)), (2, .int (nI a)), (3, .int (nI b)), (4, .int (nI n))] (by decide +kernel) rfl rfl rfl rfl ?_
  intro x Ox Rt
  refine k_iconst Ox (v := nI 0) dX4_standsBehind_0 rfl ?_
  refine k_istore Ox [(5, _), (0, _), (1, _), (2, _), (3, _), (4, _)] dX4_standsBehind_1 (by decide) rfl ?_
  have L3 : ∀ (fuel : Nat) (i : Nat) (W1 : Nat → Option Nat), i ≤ 6 → 7 ≤ i + fuel → (∀ p, p < i → W1 p = sbO B n dd p) → V x G 6 0 0 3 [(0, .ref h), (1, .int (nI dd)), (2, .int (nI a)), (3, .int (nI b)), (4, .int (nI n)), (5, .int (nI i))] [] [(h, cO 4 [.ref d, .ref im, .ref pd, .ref wy, .ref tb, .ref gu, .ref ro]), (d, cO 1 [.ref ls, .ref gs, .ref ly, .ref hs, .ref tr, .ref kn, .ref sp, .ref sl, .ref be, .int (nI fd), .int (nI sg)]), (ls, cI G 6 (rN L)), (gs, cI G 6 (rN Gr)), (be, cO 0 [.ref bd]), (bd, cI G 36 (rN (flC B))), (wy, cO 3 [.ref wt, .ref td, .ref bs, .int z1, .int z2, .int (lnI (wL s)), .long (lI (wV s))]), (wt, cI G 6 (rW W1)), (td, cI G 6 (rN (wT s))), (bs, cI G 6 (rN (wB s)))] := by
    intro fuel
    induction fuel with
    | zero => intro i W1 hi hfuel hW1; exact absurd hi (by omega)
    | succ fuel ih =>
      intro i W1 hi hfuel hW1
      refine k_iload Ox dX4_standsBehind_3 5 rfl ?_
      refine k_bipush Ox (v := nI 6) dX4_standsBehind_5 rfl ?_
      refine k_icmp_geN Ox 48 dX4_standsBehind_7 rfl (by omega) (by omega) (fun c_7 => ?_) (fun c_7 => ?_)
      · obtain rfl : i = 6 := by omega
        refine k_cell 7 (rW (sbO B n dd)) rfl (fun z hz => congrArg wI (hW1 z hz)) [_, _, _, _, _, _, _, _, _, _] rfl ?_
        have hwt := sb_ok B n dd
        have hsz := wkF_ok (L := L) (Gr := Gr) (lk := false) (go := b) hwt 5 (by omega) a (2 ^ a) 0 (wT s, wB s, none, 0) vOK_f0 ⟨⟨by show (-1000 : Int) ≤ 0; omega, by show (0 : Int) ≤ 1000000; omega⟩, fun l hl => by cases hl⟩
        refine k_aload_n Ox dX4_standsBehind_48 rfl 0 rfl ?_
        refine k_get Ox 0 rfl rfl hin_X4_standsBehind_X4 3 rfl lk_X4_standsBehind_f30 rfl rfl dX4_standsBehind_49 ?_
        refine k_aload_n Ox dX4_standsBehind_52 rfl 0 rfl ?_
        refine k_get Ox 0 rfl rfl hin_X4_standsBehind_X4 0 rfl lk_X4_standsBehind_f10 rfl rfl dX4_standsBehind_53 ?_
        refine k_iload_n Ox dX4_standsBehind_56 rfl 2 rfl ?_
        refine k_iload_n Ox dX4_standsBehind_57 rfl 3 rfl ?_
        refine k_callV Ox [6, 7, 8, 9, 1, 2, 3] (c_X3_findCheapest G _ _ _ _ _ _ _ _ _ _ _ _ _ _ _ _ _ _ _ _ _ _ _ _ (hL) (hG) (hwt) (ha) (hb)) 3 rfl rfl rfl ⟨rfl, rfl⟩ rfl rfl gX4_standsBehind_X3_findCheapest rfl 6 rfl ⟨rfl, (by decide +kernel), (by decide +kernel), (by decide +kernel)⟩ rfl dX4_standsBehind_58 (Nat.le_of_ble_eq_true rfl) rfl ⟨Nat.le_of_ble_eq_true rfl, Nat.le_of_ble_eq_true rfl⟩ (fun r wa wb hp => ?_)
        obtain ⟨⟨rfl, rfl⟩, rfl⟩ := hp
        show V x G _ _ _ _ _ _ [_, _, _, _, _, _, _, _, _, _]
        refine k_aload_n Ox dX4_standsBehind_61 rfl 0 rfl ?_
        refine k_get Ox 0 rfl rfl hin_X4_standsBehind_X4 3 rfl lk_X4_standsBehind_f30 rfl rfl dX4_standsBehind_62 ?_
        refine k_callV Ox [6] (c_X3_foundR G _ _ _ _ _ _ _ (hsz)) 0 rfl rfl rfl ⟨rfl, rfl⟩ rfl rfl gX4_standsBehind_X3_found rfl 6 rfl ⟨rfl, (by decide +kernel), (by decide +kernel), (by decide +kernel)⟩ rfl dX4_standsBehind_65 (Nat.le_of_ble_eq_true rfl) rfl ⟨Nat.le_of_ble_eq_true rfl, Nat.le_of_ble_eq_true rfl⟩ (fun r wa wb hp => ?_)
        obtain ⟨⟨rfl, rfl⟩, rfl⟩ := hp
        show V x G _ _ _ _ _ (.int _ :: _) [_, _, _, _, _, _, _, _, _, _]
        refine k_zret0 Ox Rt dX4_standsBehind_68 (by first | exact bI_nar _ | decide) (Nat.le_of_ble_eq_true rfl) (Nat.le_of_ble_eq_true rfl) rfl ?_
        exact ⟨⟨rfl, _, _, _, _, hsz, hwt, rfl, rfl⟩, rfl⟩
      · refine k_aload_n Ox dX4_standsBehind_10 rfl 0 rfl ?_
        refine k_get Ox 0 rfl rfl hin_X4_standsBehind_X4 3 rfl lk_X4_standsBehind_f30 rfl rfl dX4_standsBehind_11 ?_
        refine k_iload Ox dX4_standsBehind_14 5 rfl ?_
        refine k_aload_n Ox dX4_standsBehind_16 rfl 0 rfl ?_
        refine k_get Ox 0 rfl rfl hin_X4_standsBehind_X4 0 rfl lk_X4_standsBehind_f10 rfl rfl dX4_standsBehind_17 ?_
        refine k_get Ox 1 rfl rfl hin_X4_standsBehind_X1 8 rfl lk_X4_standsBehind_f72 rfl rfl dX4_standsBehind_20 ?_
        refine k_iload Ox dX4_standsBehind_23 5 rfl ?_
        refine k_iload_n Ox dX4_standsBehind_25 rfl 1 rfl ?_
        refine k_callV Ox [4, 5] (c_X0_load G _ _ _ _ _ (by omega) (hdd) (hB)) 2 rfl rfl rfl ⟨rfl, rfl⟩ rfl rfl gX4_standsBehind_X0_load rfl 4 rfl ⟨rfl, (by decide +kernel), (by decide +kernel), (by decide +kernel)⟩ rfl dX4_standsBehind_26 (Nat.le_of_ble_eq_true rfl) rfl ⟨Nat.le_of_ble_eq_true rfl, Nat.le_of_ble_eq_true rfl⟩ (fun r wa wb hp => ?_)
        obtain ⟨⟨rfl, rfl⟩, rfl⟩ := hp
        show V x G _ _ _ _ _ (.int _ :: _) [_, _, _, _, _, _, _, _, _, _]
        have hl1 := ld_le B i dd
        refine k_iload Ox dX4_standsBehind_29 4 rfl ?_
        refine k_icmp_ltN Ox 38 dX4_standsBehind_31 rfl (by omega) (by omega) (fun c_31 => ?_) (fun c_31 => ?_)
        · have e1 : wI (sbO B n dd i) = -1 := by rw [sbO, if_neg (by omega)]; rfl
          refine k_iconst Ox (v := -1) dX4_standsBehind_38 (by decide) ?_
          refine k_callV Ox [6, 7] (c_X3_weigh G _ _ _ _ _ _ _ _ _ _ (by omega)) 2 rfl rfl rfl ⟨rfl, rfl⟩ rfl rfl gX4_standsBehind_X3_weigh rfl 6 rfl ⟨rfl, (by decide +kernel), (by decide +kernel), (by decide +kernel)⟩ rfl dX4_standsBehind_39 (Nat.le_of_ble_eq_true rfl) rfl ⟨Nat.le_of_ble_eq_true rfl, Nat.le_of_ble_eq_true rfl⟩ (fun r wa wb hp => ?_)
          obtain ⟨⟨rfl, rfl⟩, rfl⟩ := hp
          show V x G _ _ _ _ _ _ [_, _, _, _, _, _, _, _, _, _]
          rw [← e1, rW_upd]
          refine k_iincN Ox (k := 5) (m := 1) [(5, _), (0, _), (1, _), (2, _), (3, _), (4, _)] dX4_standsBehind_42 rfl rfl (by decide) rfl ?_
          refine k_goto Ox 3 dX4_standsBehind_45 rfl ?_
          refine k_sub [1, 2, 3, 4, 5, 0] [(0, _), (1, _), (2, _), (3, _), (4, _), (5, _)] rfl ?_
          exact ih (i + 1) _ (by omega) (by omega) (up_ltO hW1)
        · have e1 : wI (sbO B n dd i) = nI 0 := by rw [sbO, if_pos (by omega)]; rfl
          refine k_iconst Ox (v := nI 0) dX4_standsBehind_34 rfl ?_
          refine k_goto Ox 39 dX4_standsBehind_35 rfl ?_
          refine k_callV Ox [6, 7] (c_X3_weigh G _ _ _ _ _ _ _ _ _ _ (by omega)) 2 rfl rfl rfl ⟨rfl, rfl⟩ rfl rfl gX4_standsBehind_X3_weigh rfl 6 rfl ⟨rfl, (by decide +kernel), (by decide +kernel), (by decide +kernel)⟩ rfl dX4_standsBehind_39 (Nat.le_of_ble_eq_true rfl) rfl ⟨Nat.le_of_ble_eq_true rfl, Nat.le_of_ble_eq_true rfl⟩ (fun r wa wb hp => ?_)
          obtain ⟨⟨rfl, rfl⟩, rfl⟩ := hp
          show V x G _ _ _ _ _ _ [_, _, _, _, _, _, _, _, _, _]
          rw [← e1, rW_upd]
          refine k_iincN Ox (k := 5) (m := 1) [(5, _), (0, _), (1, _), (2, _), (3, _), (4, _)] dX4_standsBehind_42 rfl rfl (by decide) rfl ?_
          refine k_goto Ox 3 dX4_standsBehind_45 rfl ?_
          refine k_sub [1, 2, 3, 4, 5, 0] [(0, _), (1, _), (2, _), (3, _), (4, _), (5, _)] rfl ?_
          exact ih (i + 1) _ (by omega) (by omega) (up_ltO hW1)
  refine k_sub [1, 2, 3, 4, 5, 0] [(0, _), (1, _), (2, _), (3, _), (4, _), (5, _)] rfl ?_
  exact L3 7 0 W (by omega) (by omega) (fun p hp => absurd hp (by omega))
set_option maxHeartbeats 1000000 in
set_option maxRecDepth 4000 in
theorem c_X4_stands (G : Gx) (h d im pd wy tb gu ro ls gs ly hs tr kn sp sl be bd wt td bs : Nat) (L : Nat → Nat) (Gr : Nat → Nat) (B : Nat → Nat → Nat) (fd : Nat) (sg : Nat) (z1 : Int32) (z2 : Int32) (W : Nat → Option Nat) (s : Ws) (x1 x2 x3 : Int32) (hL : okP L) (hG : okP Gr) (hws : okWs s) (hww : okWt W) (hB : okB B) : Ct G yX4_stands wsX4_stands { frames := 17, cells := 0, slots := 0, locals := 456 } [.ref h, .int x1, .int x2, .int x3] [(h, cO 4 [.ref d, .ref im, .ref pd, .ref wy, .ref tb, .ref gu, .ref ro]), (d, cO 1 [.ref ls, .ref gs, .ref ly, .ref hs, .ref tr, .ref kn, .ref sp, .ref sl, .ref be, .int (nI fd), .int (nI sg)]), (ls, cI G 6 (rN L)), (gs, cI G 6 (rN Gr)), (be, cO 0 [.ref bd]), (bd, cI G 36 (rN (flC B))), (wy, cO 3 [.ref wt, .ref td, .ref bs, .int z1, .int z2, .int (lnI (wL s)), .long (lI (wV s))]), (wt, cI G 6 (rW W)), (td, cI G 6 (rN (wT s))), (bs, cI G 6 (rN (wB s)))] (fun r wa => r = some (.int (sdR L Gr B x1 x2 x3)) ∧ ∃ W9 : Nat → Option Nat, ∃ s9 : Ws, ∃ z91 : Int32, ∃ z92 : Int32, okWs s9 ∧ okWt W9 ∧ wa = [(h, cO 4 [.ref d, .ref im, .ref pd, .ref wy, .ref tb, .ref gu, .ref ro]), (d, cO 1 [.ref ls, .ref gs, .ref ly, .ref hs, .ref tr, .ref kn, .ref sp, .ref sl, .ref be, .int (nI fd), .int (nI sg)]), (ls, cI G 6 (rN L)), (gs, cI G 6 (rN Gr)), (be, cO 0 [.ref bd]), (bd, cI G 36 (rN (flC B))), (wy, cO 3 [.ref wt, .ref td, .ref bs, .int z91, .int z92, .int (lnI (wL s9)), .long (lI (wV s9))]), (wt, cI G 6 (rW W9)), (td, cI G 6 (rN (wT s9))), (bs, cI G 6 (rN (wB s9)))]) := by
  refine CtN.of [(0, .ref h), (1, .int x1), (2, .int x2), (3, .int x3)] (by decide +kernel) rfl rfl rfl rfl ?_
  intro x Ox Rt
  refine k_iload_n Ox dX4_stands_0 rfl 1 rfl ?_
  refine k_callS Ox [] (c_X4_isIsland G _ ) 1 rfl rfl rfl ⟨rfl, rfl⟩ rfl rfl gX4_stands_X4_isIsland ⟨(by decide +kernel), (by decide +kernel), (by decide +kernel)⟩ rfl dX4_stands_1 (Nat.le_of_ble_eq_true rfl) rfl ⟨Nat.le_of_ble_eq_true rfl, Nat.le_of_ble_eq_true rfl⟩ (fun r wa wb hp => ?_)
  obtain ⟨⟨rfl, rfl⟩, rfl⟩ := hp
  show V x G _ _ _ _ _ (.int _ :: _) [_, _, _, _, _, _, _, _, _, _]
  refine k_if_eqB Ox 14 dX4_stands_4 rfl (fun c_4 => ?_) (fun c_4 => ?_)
  · have hf : (inR 0 5 x1 && inR 0 5 x2) = false := by rw [c_4]; rfl
    refine k_iconst Ox (v := -1) dX4_stands_14 (by decide) ?_
    refine k_iret0 Ox Rt dX4_stands_15 (Nat.le_of_ble_eq_true rfl) (Nat.le_of_ble_eq_true rfl) rfl ?_
    exact ⟨⟨by rw [sdR, pick_f hf], _, _, _, _, hws, hww, rfl⟩, rfl⟩
  · refine k_iload_n Ox dX4_stands_7 rfl 2 rfl ?_
    refine k_callS Ox [] (c_X4_isIsland G _ ) 1 rfl rfl rfl ⟨rfl, rfl⟩ rfl rfl gX4_stands_X4_isIsland ⟨(by decide +kernel), (by decide +kernel), (by decide +kernel)⟩ rfl dX4_stands_8 (Nat.le_of_ble_eq_true rfl) rfl ⟨Nat.le_of_ble_eq_true rfl, Nat.le_of_ble_eq_true rfl⟩ (fun r wa wb hp => ?_)
    obtain ⟨⟨rfl, rfl⟩, rfl⟩ := hp
    show V x G _ _ _ _ _ (.int _ :: _) [_, _, _, _, _, _, _, _, _, _]
    refine k_if_neB Ox 16 dX4_stands_11 rfl (fun c_11 => ?_) (fun c_11 => ?_)
    · refine k_iload_n Ox dX4_stands_16 rfl 3 rfl ?_
      refine k_callS Ox [] (c_X4_isParty G _ ) 1 rfl rfl rfl ⟨rfl, rfl⟩ rfl rfl gX4_stands_X4_isParty ⟨(by decide +kernel), (by decide +kernel), (by decide +kernel)⟩ rfl dX4_stands_17 (Nat.le_of_ble_eq_true rfl) rfl ⟨Nat.le_of_ble_eq_true rfl, Nat.le_of_ble_eq_true rfl⟩ (fun r wa wb hp => ?_)
      obtain ⟨⟨rfl, rfl⟩, rfl⟩ := hp
      show V x G _ _ _ _ _ (.int _ :: _) [_, _, _, _, _, _, _, _, _, _]
      refine k_if_neB Ox 26 dX4_stands_20 rfl (fun c_20 => ?_) (fun c_20 => ?_)
      · obtain ⟨j1, hj1, rfl⟩ := in6_of c_4
        obtain ⟨j2, hj2, rfl⟩ := in6_of c_11
        obtain ⟨j3, hj30, hj3, rfl⟩ := inR_of' (lo := 1) (k := 6) rfl rfl (by decide) c_20
        refine k_iload_n Ox dX4_stands_26 rfl 1 rfl ?_
        refine k_iload_n Ox dX4_stands_27 rfl 2 rfl ?_
        refine k_icmp_neN Ox 34 dX4_stands_28 rfl (by omega) (by omega) (fun c_28 => ?_) (fun c_28 => ?_)
        · refine k_iconst Ox (v := nI 0) dX4_stands_34 rfl ?_
          refine k_istore Ox [(4, _), (0, _), (1, _), (2, _), (3, _)] dX4_stands_35 (by decide) rfl ?_
          have L37 : ∀ (fuel : Nat) (i : Nat) (W : Nat → Option Nat) (s : Ws) (z1 z2 : Int32), i ≤ 9 → 10 ≤ i + fuel → okWs s → okWt W → (∀ j, j < i → sbP L Gr B j1 j2 j3 j = true) → V x G 5 0 0 37 [(0, .ref h), (1, .int (nI j1)), (2, .int (nI j2)), (3, .int (nI j3)), (4, .int (nI i))] [] [(h, cO 4 [.ref d, .ref im, .ref pd, .ref wy, .ref tb, .ref gu, .ref ro]), (d, cO 1 [.ref ls, .ref gs, .ref ly, .ref hs, .ref tr, .ref kn, .ref sp, .ref sl, .ref be, .int (nI fd), .int (nI sg)]), (ls, cI G 6 (rN L)), (gs, cI G 6 (rN Gr)), (be, cO 0 [.ref bd]), (bd, cI G 36 (rN (flC B))), (wy, cO 3 [.ref wt, .ref td, .ref bs, .int z1, .int z2, .int (lnI (wL s)), .long (lI (wV s))]), (wt, cI G 6 (rW W)), (td, cI G 6 (rN (wT s))), (bs, cI G 6 (rN (wB s)))] := by
            intro fuel
            induction fuel with
            | zero => intro i W s z1 z2 hi hfuel hws hww hq; exact absurd hi (by omega)
            | succ fuel ih =>
              intro i W s z1 z2 hi hfuel hws hww hq
              refine k_iload Ox dX4_stands_37 4 rfl ?_
              refine k_bipush Ox (v := nI 9) dX4_stands_39 rfl ?_
              refine k_icmp_geN Ox 62 dX4_stands_41 rfl (by omega) (by omega) (fun c_41 => ?_) (fun c_41 => ?_)
              · refine k_iload Ox dX4_stands_62 4 rfl ?_
                refine k_iret0 Ox Rt dX4_stands_64 (Nat.le_of_ble_eq_true rfl) (Nat.le_of_ble_eq_true rfl) rfl ?_
                first | exact ⟨⟨by rw [sdR, pick_t (and_tt c_4 c_11), pick_t c_20, if_neg (ne_nI (by omega) (by omega) c_28), nn_nI (by omega), nn_nI (by omega), nn_nI (by omega), sd_full hq (by omega)], _, _, _, _, hws, hww, rfl⟩, rfl⟩ | exact ⟨⟨by rw [sdR, pick_t (and_tt c_4 c_11), pick_t c_20, if_neg (ne_nI (by omega) (by omega) c_28), nn_nI (by omega), nn_nI (by omega), nn_nI (by omega), sd_stop hq (by omega) (by rw [← sbQ_P (s := s)]; exact c_53)], _, _, _, _, hs950, hw950, rfl⟩, rfl⟩
              · refine k_aload_n Ox dX4_stands_44 rfl 0 rfl ?_
                refine k_iload Ox dX4_stands_45 4 rfl ?_
                refine k_iload_n Ox dX4_stands_47 rfl 1 rfl ?_
                refine k_iload_n Ox dX4_stands_48 rfl 2 rfl ?_
                refine k_iload_n Ox dX4_stands_49 rfl 3 rfl ?_
                refine k_callV Ox [0, 1, 2, 3, 4, 5, 6, 7, 8, 9] (c_X4_standsBehind G _ _ _ _ _ _ _ _ _ _ _ _ _ _ _ _ _ _ _ _ _ _ _ _ _ _ _ _ _ _ _ _ _ _ (hL) (hG) (hws) (hww) (hB) (by omega) (hj1) (hj2) (by omega)) 4 rfl rfl rfl ⟨rfl, rfl⟩ rfl rfl gX4_stands_X4_standsBehind rfl 0 rfl ⟨rfl, (by decide +kernel), (by decide +kernel), (by decide +kernel)⟩ rfl dX4_stands_50 (Nat.le_of_ble_eq_true rfl) rfl ⟨Nat.le_of_ble_eq_true rfl, Nat.le_of_ble_eq_true rfl⟩ (fun r wa wb hp => ?_)
                obtain ⟨⟨rfl, W950, s950, z9150, z9250, hs950, hw950, -, rfl⟩, rfl⟩ := hp
                show V x G _ _ _ _ _ (.int _ :: _) [_, _, _, _, _, _, _, _, _, _]
                refine k_if_eqB Ox 62 dX4_stands_53 rfl (fun c_53 => ?_) (fun c_53 => ?_)
                · refine k_iload Ox dX4_stands_62 4 rfl ?_
                  refine k_iret0 Ox Rt dX4_stands_64 (Nat.le_of_ble_eq_true rfl) (Nat.le_of_ble_eq_true rfl) rfl ?_
                  first | exact ⟨⟨by rw [sdR, pick_t (and_tt c_4 c_11), pick_t c_20, if_neg (ne_nI (by omega) (by omega) c_28), nn_nI (by omega), nn_nI (by omega), nn_nI (by omega), sd_full hq (by omega)], _, _, _, _, hws, hww, rfl⟩, rfl⟩ | exact ⟨⟨by rw [sdR, pick_t (and_tt c_4 c_11), pick_t c_20, if_neg (ne_nI (by omega) (by omega) c_28), nn_nI (by omega), nn_nI (by omega), nn_nI (by omega), sd_stop hq (by omega) (by rw [← sbQ_P (s := s)]; exact c_53)], _, _, _, _, hs950, hw950, rfl⟩, rfl⟩
                · refine k_iincN Ox (k := 4) (m := 1) [(4, _), (0, _), (1, _), (2, _), (3, _)] dX4_stands_56 rfl rfl (by decide) rfl ?_
                  refine k_goto Ox 37 dX4_stands_59 rfl ?_
                  refine k_sub [1, 2, 3, 4, 0] [(0, _), (1, _), (2, _), (3, _), (4, _)] rfl ?_
                  exact ih (i + 1) _ _ _ _ (by omega) (by omega) hs950 hw950 (sb_next hq (by rw [← sbQ_P (s := s)]; exact c_53))
          refine k_sub [1, 2, 3, 4, 0] [(0, _), (1, _), (2, _), (3, _), (4, _)] rfl ?_
          exact L37 10 0 W s z1 z2 (by omega) (by omega) hws hww (fun j hj => absurd hj (by omega))
        · refine k_bipush Ox (v := -6) dX4_stands_31 (by decide) ?_
          refine k_iret0 Ox Rt dX4_stands_33 (Nat.le_of_ble_eq_true rfl) (Nat.le_of_ble_eq_true rfl) rfl ?_
          subst c_28
          exact ⟨⟨by rw [sdR, pick_t (and_tt c_4 c_11), pick_t c_20, if_pos rfl], _, _, _, _, hws, hww, rfl⟩, rfl⟩
      · refine k_bipush Ox (v := -2) dX4_stands_23 (by decide) ?_
        refine k_iret0 Ox Rt dX4_stands_25 (Nat.le_of_ble_eq_true rfl) (Nat.le_of_ble_eq_true rfl) rfl ?_
        exact ⟨⟨by rw [sdR, pick_t (and_tt c_4 c_11), pick_f c_20], _, _, _, _, hws, hww, rfl⟩, rfl⟩
    · have hf : (inR 0 5 x1 && inR 0 5 x2) = false := by rw [c_11]; simp
      refine k_iconst Ox (v := -1) dX4_stands_14 (by decide) ?_
      refine k_iret0 Ox Rt dX4_stands_15 (Nat.le_of_ble_eq_true rfl) (Nat.le_of_ble_eq_true rfl) rfl ?_
      exact ⟨⟨by rw [sdR, pick_f hf], _, _, _, _, hws, hww, rfl⟩, rfl⟩
theorem lk_X4_findSafest_f30 : Cond.fieldLink RX4 30 "LieBridges" "ways" "LLieBridges$Ways;" ∈ wsX4_findSafest := List.mem_of_getElem? (i := 1) rfl
theorem hin_X4_findSafest_X4 : ∀ w ∈ u_ws RX4 TX4 7, w ∈ wsX4_findSafest := fun _ h => List.mem_cons_of_mem _ (List.mem_append_left _ (List.mem_append_left _ (List.mem_append_right _ h)))
theorem lk_X4_findSafest_f10 : Cond.fieldLink RX4 10 "LieBridges" "now" "LLieBridges$Delta;" ∈ wsX4_findSafest := List.mem_of_getElem? (i := 2) rfl
theorem lk_X4_findSafest_f186 : Cond.fieldLink RX4 186 "LieBridges$Delta" "holds" "[I" ∈ wsX4_findSafest := List.mem_of_getElem? (i := 3) rfl
theorem hin_X4_findSafest_X1 : ∀ w ∈ u_ws RX1 TX1 11, w ∈ wsX4_findSafest := fun _ h => List.mem_cons_of_mem _ (List.mem_append_left _ (List.mem_append_right _ h))
set_option maxHeartbeats 400000 in
set_option maxRecDepth 4000 in
theorem c_X4_findSafest (G : Gx) (h d im pd wy tb gu ro ls gs ly hs tr kn sp sl be wt td bs : Nat) (L : Nat → Nat) (Gr : Nat → Nat) (S : Nat → Nat) (fd : Nat) (sg : Nat) (z1 : Int32) (z2 : Int32) (W : Nat → Option Nat) (s : Ws) (a b : Nat) (hL : okP L) (hG : okP Gr) (hS : okS S) (ha : a < 6) (hb : b < 6) : Ct G yX4_findSafest wsX4_findSafest { frames := 16, cells := 0, slots := 0, locals := 431 } [.ref h, .int (nI a), .int (nI b)] [(h, cO 4 [.ref d, .ref im, .ref pd, .ref wy, .ref tb, .ref gu, .ref ro]), (d, cO 1 [.ref ls, .ref gs, .ref ly, .ref hs, .ref tr, .ref kn, .ref sp, .ref sl, .ref be, .int (nI fd), .int (nI sg)]), (ls, cI G 6 (rN L)), (gs, cI G 6 (rN Gr)), (hs, cI G 6 (rN S)), (wy, cO 3 [.ref wt, .ref td, .ref bs, .int z1, .int z2, .int (lnI (wL s)), .long (lI (wV s))]), (wt, cI G 6 (rW W)), (td, cI G 6 (rN (wT s))), (bs, cI G 6 (rN (wB s)))] (fun r wa => r = none ∧ wa = [(h, cO 4 [.ref d, .ref im, .ref pd, .ref wy, .ref tb, .ref gu, .ref ro]), (d, cO 1 [.ref ls, .ref gs, .ref ly, .ref hs, .ref tr, .ref kn, .ref sp, .ref sl, .ref be, .int (nI fd), .int (nI sg)]), (ls, cI G 6 (rN L)), (gs, cI G 6 (rN Gr)), (hs, cI G 6 (rN S)), (wy, cO 3 [.ref wt, .ref td, .ref bs, .int (bI true), .int (nI b), .int (lnI (wL (wkF L Gr (fun p => some (S p)) true b 5 a (2 ^ a) 1000000 (wT s, wB s, none, 0)))), .long (lI (wV (wkF L Gr (fun p => some (S p)) true b 5 a (2 ^ a) 1000000 (wT s, wB s, none, 0))))]), (wt, cI G 6 (rW (fun p => some (S p)))), (td, cI G 6 (rN (wT (wkF L Gr (fun p => some (S p)) true b 5 a (2 ^ a) 1000000 (wT s, wB s, none, 0))))), (bs, cI G 6 (rN (wB (wkF L Gr (fun p => some (S p)) true b 5 a (2 ^ a) 1000000 (wT s, wB s, none, 0)))))]) := by
  refine CtN.of [(0, .ref h), (1, .int (nI a)), (2, .int (nI b))] (by decide +kernel) rfl rfl rfl rfl ?_
  intro x Ox Rt
  refine k_iconst Ox (v := nI 0) dX4_findSafest_0 rfl ?_
  refine k_istore_n Ox [(3, _), (0, _), (1, _), (2, _)] dX4_findSafest_1 rfl (by decide) rfl ?_
  have L2 : ∀ (fuel : Nat) (i : Nat) (W1 : Nat → Option Nat), i ≤ 6 → 7 ≤ i + fuel → (∀ p, p < i → W1 p = some (S p)) → V x G 4 0 0 2 [(0, .ref h), (1, .int (nI a)), (2, .int (nI b)), (3, .int (nI i))] [] [(h, cO 4 [.ref d, .ref im, .ref pd, .ref wy, .ref tb, .ref gu, .ref ro]), (d, cO 1 [.ref ls, .ref gs, .ref ly, .ref hs, .ref tr, .ref kn, .ref sp, .ref sl, .ref be, .int (nI fd), .int (nI sg)]), (ls, cI G 6 (rN L)), (gs, cI G 6 (rN Gr)), (hs, cI G 6 (rN S)), (wy, cO 3 [.ref wt, .ref td, .ref bs, .int z1, .int z2, .int (lnI (wL s)), .long (lI (wV s))]), (wt, cI G 6 (rW W1)), (td, cI G 6 (rN (wT s))), (bs, cI G 6 (rN (wB s)))] := by
    intro fuel
    induction fuel with
    | zero => intro i W1 hi hfuel hW1; exact absurd hi (by omega)
    | succ fuel ih =>
      intro i W1 hi hfuel hW1
      refine k_iload_n Ox dX4_findSafest_2 rfl 3 rfl ?_
      refine k_bipush Ox (v := nI 6) dX4_findSafest_3 rfl ?_
      refine k_icmp_geN Ox 33 dX4_findSafest_5 rfl (by omega) (by omega) (fun c_5 => ?_) (fun c_5 => ?_)
      · obtain rfl : i = 6 := by omega
        refine k_cell 6 (rW (fun p => some (S p))) rfl (fun z hz => congrArg wI (hW1 z hz)) [_, _, _, _, _, _, _, _, _] rfl ?_
        have hwt := sS_ok hS
        refine k_aload_n Ox dX4_findSafest_33 rfl 0 rfl ?_
        refine k_get Ox 0 rfl rfl hin_X4_findSafest_X4 3 rfl lk_X4_findSafest_f30 rfl rfl dX4_findSafest_34 ?_
        refine k_aload_n Ox dX4_findSafest_37 rfl 0 rfl ?_
        refine k_get Ox 0 rfl rfl hin_X4_findSafest_X4 0 rfl lk_X4_findSafest_f10 rfl rfl dX4_findSafest_38 ?_
        refine k_iload_n Ox dX4_findSafest_41 rfl 1 rfl ?_
        refine k_iload_n Ox dX4_findSafest_42 rfl 2 rfl ?_
        refine k_callV Ox [5, 6, 7, 8, 1, 2, 3] (c_X3_findLikeliest G _ _ _ _ _ _ _ _ _ _ _ _ _ _ _ _ _ _ _ _ _ _ _ _ (hL) (hG) (hwt) (ha) (hb)) 3 rfl rfl rfl ⟨rfl, rfl⟩ rfl rfl gX4_findSafest_X3_findLikeliest rfl 5 rfl ⟨rfl, (by decide +kernel), (by decide +kernel), (by decide +kernel)⟩ rfl dX4_findSafest_43 (Nat.le_of_ble_eq_true rfl) rfl ⟨Nat.le_of_ble_eq_true rfl, Nat.le_of_ble_eq_true rfl⟩ (fun r wa wb hp => ?_)
        obtain ⟨⟨rfl, rfl⟩, rfl⟩ := hp
        show V x G _ _ _ _ _ _ [_, _, _, _, _, _, _, _, _]
        refine k_vret0 Ox Rt dX4_findSafest_46 (Nat.le_of_ble_eq_true rfl) (Nat.le_of_ble_eq_true rfl) rfl ?_
        exact ⟨⟨rfl, rfl⟩, rfl⟩
      · refine k_aload_n Ox dX4_findSafest_8 rfl 0 rfl ?_
        refine k_get Ox 0 rfl rfl hin_X4_findSafest_X4 3 rfl lk_X4_findSafest_f30 rfl rfl dX4_findSafest_9 ?_
        refine k_iload_n Ox dX4_findSafest_12 rfl 3 rfl ?_
        refine k_aload_n Ox dX4_findSafest_13 rfl 0 rfl ?_
        refine k_get Ox 0 rfl rfl hin_X4_findSafest_X4 0 rfl lk_X4_findSafest_f10 rfl rfl dX4_findSafest_14 ?_
        refine k_get Ox 1 rfl rfl hin_X4_findSafest_X1 3 rfl lk_X4_findSafest_f186 rfl rfl dX4_findSafest_17 ?_
        refine k_iload_n Ox dX4_findSafest_20 rfl 3 rfl ?_
        refine k_callS Ox [4] (c_X4_at G _ _ _ _ (by omega) (by decide)) 2 rfl rfl rfl ⟨rfl, rfl⟩ rfl rfl gX4_findSafest_X4_at ⟨(by decide +kernel), (by decide +kernel), (by decide +kernel)⟩ rfl dX4_findSafest_21 (Nat.le_of_ble_eq_true rfl) rfl ⟨Nat.le_of_ble_eq_true rfl, Nat.le_of_ble_eq_true rfl⟩ (fun r wa wb hp => ?_)
        obtain ⟨⟨rfl, rfl⟩, rfl⟩ := hp
        show V x G _ _ _ _ _ (.int _ :: _) [_, _, _, _, _, _, _, _, _]
        refine k_callV Ox [5, 6] (c_X3_weigh G _ _ _ _ _ _ _ _ _ _ (by omega)) 2 rfl rfl rfl ⟨rfl, rfl⟩ rfl rfl gX4_findSafest_X3_weigh rfl 5 rfl ⟨rfl, (by decide +kernel), (by decide +kernel), (by decide +kernel)⟩ rfl dX4_findSafest_24 (Nat.le_of_ble_eq_true rfl) rfl ⟨Nat.le_of_ble_eq_true rfl, Nat.le_of_ble_eq_true rfl⟩ (fun r wa wb hp => ?_)
        obtain ⟨⟨rfl, rfl⟩, rfl⟩ := hp
        show V x G _ _ _ _ _ _ [_, _, _, _, _, _, _, _, _]
        rw [show rN S i = wI (some (S i)) from rfl, rW_upd]
        refine k_iincN Ox (k := 3) (m := 1) [(3, _), (0, _), (1, _), (2, _)] dX4_findSafest_27 rfl rfl (by decide) rfl ?_
        refine k_goto Ox 2 dX4_findSafest_30 rfl ?_
        refine k_sub [1, 2, 3, 0] [(0, _), (1, _), (2, _), (3, _)] rfl ?_
        exact ih (i + 1) _ (by omega) (by omega) (up_ltO (g := fun p => some (S p)) hW1)
  refine k_sub [1, 2, 3, 0] [(0, _), (1, _), (2, _), (3, _)] rfl ?_
  exact L2 7 0 W (by omega) (by omega) (fun p hp => absurd hp (by omega))
theorem lk_X4_safe_f30 : Cond.fieldLink RX4 30 "LieBridges" "ways" "LLieBridges$Ways;" ∈ wsX4_safe := List.mem_of_getElem? (i := 1) rfl
theorem hin_X4_safe_X4 : ∀ w ∈ u_ws RX4 TX4 7, w ∈ wsX4_safe := fun _ h => List.mem_cons_of_mem _ (List.mem_append_left _ (List.mem_append_left _ (List.mem_append_right _ h)))
set_option maxHeartbeats 400000 in
set_option maxRecDepth 4000 in
theorem c_X4_safe (G : Gx) (h d im pd wy tb gu ro ls gs ly hs tr kn sp sl be wt td bs : Nat) (L : Nat → Nat) (Gr : Nat → Nat) (S : Nat → Nat) (fd : Nat) (sg : Nat) (z1 : Int32) (z2 : Int32) (W : Nat → Option Nat) (s : Ws) (x1 x2 x3 : Int32) (hL : okP L) (hG : okP Gr) (hws : okWs s) (hww : okWt W) (hS : okS S) : Ct G yX4_safe wsX4_safe { frames := 17, cells := 0, slots := 0, locals := 454 } [.ref h, .int x1, .int x2, .int x3] [(h, cO 4 [.ref d, .ref im, .ref pd, .ref wy, .ref tb, .ref gu, .ref ro]), (d, cO 1 [.ref ls, .ref gs, .ref ly, .ref hs, .ref tr, .ref kn, .ref sp, .ref sl, .ref be, .int (nI fd), .int (nI sg)]), (ls, cI G 6 (rN L)), (gs, cI G 6 (rN Gr)), (hs, cI G 6 (rN S)), (wy, cO 3 [.ref wt, .ref td, .ref bs, .int z1, .int z2, .int (lnI (wL s)), .long (lI (wV s))]), (wt, cI G 6 (rW W)), (td, cI G 6 (rN (wT s))), (bs, cI G 6 (rN (wB s)))] (fun r wa => r = some (.int (sfR L Gr S s x1 x2 x3)) ∧ ∃ W9 : Nat → Option Nat, ∃ s9 : Ws, ∃ z91 : Int32, ∃ z92 : Int32, okWs s9 ∧ okWt W9 ∧ wa = [(h, cO 4 [.ref d, .ref im, .ref pd, .ref wy, .ref tb, .ref gu, .ref ro]), (d, cO 1 [.ref ls, .ref gs, .ref ly, .ref hs, .ref tr, .ref kn, .ref sp, .ref sl, .ref be, .int (nI fd), .int (nI sg)]), (ls, cI G 6 (rN L)), (gs, cI G 6 (rN Gr)), (hs, cI G 6 (rN S)), (wy, cO 3 [.ref wt, .ref td, .ref bs, .int z91, .int z92, .int (lnI (wL s9)), .long (lI (wV s9))]), (wt, cI G 6 (rW W9)), (td, cI G 6 (rN (wT s9))), (bs, cI G 6 (rN (wB s9)))]) := by
  refine CtN.of [(0, .ref h), (1, .int x1), (2, .int x2), (3, .int x3)] (by decide +kernel) rfl rfl rfl rfl ?_
  intro x Ox Rt
  refine k_iload_n Ox dX4_safe_0 rfl 1 rfl ?_
  refine k_callS Ox [] (c_X4_isIsland G _ ) 1 rfl rfl rfl ⟨rfl, rfl⟩ rfl rfl gX4_safe_X4_isIsland ⟨(by decide +kernel), (by decide +kernel), (by decide +kernel)⟩ rfl dX4_safe_1 (Nat.le_of_ble_eq_true rfl) rfl ⟨Nat.le_of_ble_eq_true rfl, Nat.le_of_ble_eq_true rfl⟩ (fun r wa wb hp => ?_)
  obtain ⟨⟨rfl, rfl⟩, rfl⟩ := hp
  show V x G _ _ _ _ _ (.int _ :: _) [_, _, _, _, _, _, _, _, _]
  refine k_if_eqB Ox 14 dX4_safe_4 rfl (fun c_4 => ?_) (fun c_4 => ?_)
  · have hf : (inR 0 5 x1 && inR 0 5 x2) = false := by rw [c_4]; rfl
    refine k_iconst Ox (v := -1) dX4_safe_14 (by decide) ?_
    refine k_iret0 Ox Rt dX4_safe_15 (Nat.le_of_ble_eq_true rfl) (Nat.le_of_ble_eq_true rfl) rfl ?_
    exact ⟨⟨by rw [sfR, pick_f hf], _, _, _, _, hws, hww, rfl⟩, rfl⟩
  · refine k_iload_n Ox dX4_safe_7 rfl 2 rfl ?_
    refine k_callS Ox [] (c_X4_isIsland G _ ) 1 rfl rfl rfl ⟨rfl, rfl⟩ rfl rfl gX4_safe_X4_isIsland ⟨(by decide +kernel), (by decide +kernel), (by decide +kernel)⟩ rfl dX4_safe_8 (Nat.le_of_ble_eq_true rfl) rfl ⟨Nat.le_of_ble_eq_true rfl, Nat.le_of_ble_eq_true rfl⟩ (fun r wa wb hp => ?_)
    obtain ⟨⟨rfl, rfl⟩, rfl⟩ := hp
    show V x G _ _ _ _ _ (.int _ :: _) [_, _, _, _, _, _, _, _, _]
    refine k_if_neB Ox 16 dX4_safe_11 rfl (fun c_11 => ?_) (fun c_11 => ?_)
    · obtain ⟨j1, hj1, rfl⟩ := in6_of c_4
      obtain ⟨j2, hj2, rfl⟩ := in6_of c_11
      have hwt := sS_ok hS
      have hsz := wkF_ok (L := L) (Gr := Gr) (lk := true) (go := j2) hwt 5 (by omega) j1 (2 ^ j1) 1000000 (wT s, wB s, none, 0) vOK_t0 ⟨⟨by show (-1000 : Int) ≤ 0; omega, by show (0 : Int) ≤ 1000000; omega⟩, fun l hl => by cases hl⟩
      refine k_aload_n Ox dX4_safe_16 rfl 0 rfl ?_
      refine k_iload_n Ox dX4_safe_17 rfl 1 rfl ?_
      refine k_iload_n Ox dX4_safe_18 rfl 2 rfl ?_
      refine k_callV Ox [0, 1, 2, 3, 4, 5, 6, 7, 8] (c_X4_findSafest G _ _ _ _ _ _ _ _ _ _ _ _ _ _ _ _ _ _ _ _ _ _ _ _ _ _ _ _ _ _ _ (hL) (hG) (hS) (hj1) (hj2)) 2 rfl rfl rfl ⟨rfl, rfl⟩ rfl rfl gX4_safe_X4_findSafest rfl 0 rfl ⟨rfl, (by decide +kernel), (by decide +kernel), (by decide +kernel)⟩ rfl dX4_safe_19 (Nat.le_of_ble_eq_true rfl) rfl ⟨Nat.le_of_ble_eq_true rfl, Nat.le_of_ble_eq_true rfl⟩ (fun r wa wb hp => ?_)
      obtain ⟨⟨rfl, rfl⟩, rfl⟩ := hp
      show V x G _ _ _ _ _ _ [_, _, _, _, _, _, _, _, _]
      refine k_aload_n Ox dX4_safe_22 rfl 0 rfl ?_
      refine k_get Ox 0 rfl rfl hin_X4_safe_X4 3 rfl lk_X4_safe_f30 rfl rfl dX4_safe_23 ?_
      refine k_iload_n Ox dX4_safe_26 rfl 3 rfl ?_
      refine k_callV Ox [5, 8] (c_X3_step G _ _ _ _ _ _ _ _ (hsz)) 1 rfl rfl rfl ⟨rfl, rfl⟩ rfl rfl gX4_safe_X3_step rfl 5 rfl ⟨rfl, (by decide +kernel), (by decide +kernel), (by decide +kernel)⟩ rfl dX4_safe_27 (Nat.le_of_ble_eq_true rfl) rfl ⟨Nat.le_of_ble_eq_true rfl, Nat.le_of_ble_eq_true rfl⟩ (fun r wa wb hp => ?_)
      obtain ⟨⟨rfl, rfl⟩, rfl⟩ := hp
      show V x G _ _ _ _ _ (.int _ :: _) [_, _, _, _, _, _, _, _, _]
      refine k_iret0 Ox Rt dX4_safe_30 (Nat.le_of_ble_eq_true rfl) (Nat.le_of_ble_eq_true rfl) rfl ?_
      exact ⟨⟨by rw [sfR, pick_t (and_tt c_4 c_11), nn_nI (by omega), nn_nI (by omega)], _, _, _, _, hsz, hwt, rfl⟩, rfl⟩
    · have hf : (inR 0 5 x1 && inR 0 5 x2) = false := by rw [c_11]; simp
      refine k_iconst Ox (v := -1) dX4_safe_14 (by decide) ?_
      refine k_iret0 Ox Rt dX4_safe_15 (Nat.le_of_ble_eq_true rfl) (Nat.le_of_ble_eq_true rfl) rfl ?_
      exact ⟨⟨by rw [sfR, pick_f hf], _, _, _, _, hws, hww, rfl⟩, rfl⟩
