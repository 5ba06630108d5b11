theorem lk_X4_guess_f23 : Cond.fieldLink RX4 23 "LieBridges" "pad" "LLieBridges$Pad;" ∈ wsX4_guess := List.mem_of_getElem? (i := 1) rfl
theorem hin_X4_guess_X4 : ∀ w ∈ u_ws RX4 TX4 7, w ∈ wsX4_guess := fun _ h => List.mem_cons_of_mem _ (List.mem_append_left _ (List.mem_append_right _ h))
theorem lk_X4_guess_f215 : Cond.fieldLink RX4 215 "LieBridges$Pad" "asked" "I" ∈ wsX4_guess := List.mem_of_getElem? (i := 2) rfl
theorem hin_X4_guess_X2 : ∀ w ∈ u_ws RX2 TX2 8, w ∈ wsX4_guess := fun _ h => List.mem_cons_of_mem _ (List.mem_append_right _ h)
theorem lk_X4_guess_f41 : Cond.fieldLink RX4 41 "LieBridges" "guesses" "[I" ∈ wsX4_guess := List.mem_of_getElem? (i := 3) rfl
set_option maxHeartbeats 400000 in
set_option maxRecDepth 4000 in
theorem c_X4_guess (G : Gx) (h d im pd wy tb gu ro s0 kd sk hr pk : Nat) (GU : Nat → Nat) (P : Ps) (mn : Nat) (f : Nat) (hA : pA P ≤ 3) (hf : f < 1000) : Ct G yX4_guess wsX4_guess { frames := 1, cells := 0, slots := 0, locals := 22 } [.ref h, .int (nI f)] [(h, cO 4 [.ref d, .ref im, .ref pd, .ref wy, .ref tb, .ref gu, .ref ro]), (pd, cO 2 [.ref s0, .int (nI mn), .ref kd, .ref sk, .ref hr, .ref pk, .int (nI (pN P)), .int (nI (pA P))]), (gu, cI G 3 (rN GU))] (fun r wa => r = none ∧ wa = [(h, cO 4 [.ref d, .ref im, .ref pd, .ref wy, .ref tb, .ref gu, .ref ro]), (pd, cO 2 [.ref s0, .int (nI mn), .ref kd, .ref sk, .ref hr, .ref pk, .int (nI (pN P)), .int (nI (pA P))]), (gu, cI G 3 (rN (gsF GU (pA P) f)))]) := by
  refine CtN.of [(0, .ref h), (1, .int (nI f))] (by decide +kernel) rfl rfl rfl rfl ?_
  intro x Ox Rt
  refine k_iload_n Ox dX4_guess_0 rfl 1 rfl ?_
  refine k_istore_n Ox [(2, _), (0, _), (1, _)] dX4_guess_1 rfl (by decide) rfl ?_
  refine k_aload_n Ox dX4_guess_2 rfl 1 rfl ?_
  refine k_get Ox 0 rfl rfl hin_X4_guess_X4 2 rfl lk_X4_guess_f23 rfl rfl dX4_guess_3 ?_
  refine k_get Ox 1 rfl rfl hin_X4_guess_X2 7 rfl lk_X4_guess_f215 rfl rfl dX4_guess_6 ?_
  refine k_iconst Ox (v := nI 1) dX4_guess_9 rfl ?_
  refine k_isub Ox dX4_guess_10 ?_
  refine k_istore_n Ox [(3, _), (2, _), (0, _), (1, _)] dX4_guess_11 rfl (by decide) rfl ?_
  have L12 : ∀ (fuel : Nat) (k : Nat) (R1 : Nat → Nat), k ≤ pA P → k < fuel → (∀ j, R1 j = if k ≤ j ∧ j < pA P then f / 6 ^ (pA P - 1 - j) % 6 else GU j) → V x G 4 0 0 12 [(0, .ref h), (1, .int (nI f)), (2, .int (nI (f / 6 ^ (pA P - k)))), (3, .int (nI k - nI 1))] [] [(h, cO 4 [.ref d, .ref im, .ref pd, .ref wy, .ref tb, .ref gu, .ref ro]), (pd, cO 2 [.ref s0, .int (nI mn), .ref kd, .ref sk, .ref hr, .ref pk, .int (nI (pN P)), .int (nI (pA P))]), (gu, cI G 3 (rN R1))] := by
    intro fuel
    induction fuel with
    | zero => intro k R1 hk hfuel hR; exact absurd hk (by omega)
    | succ fuel ih =>
      intro k R1 hk hfuel hR
      refine k_iload_n Ox dX4_guess_12 rfl 3 rfl ?_
      refine k_if_lt Ox 39 dX4_guess_13 rfl (fun c_13 => ?_) (fun c_13 => ?_)
      · obtain rfl := gs_zero (by omega) c_13
        refine k_cell 2 (rN (gsF GU (pA P) f)) rfl (fun j hj => congrArg nI (by rw [hR j, gsF]; by_cases q : j < pA P; rw [if_pos ⟨Nat.zero_le _, q⟩, if_pos q]; rw [if_neg (fun z => q z.2), if_neg q])) [_, _, _] rfl ?_
        refine k_vret0 Ox Rt dX4_guess_39 (Nat.le_of_ble_eq_true rfl) (Nat.le_of_ble_eq_true rfl) rfl ?_
        exact ⟨⟨rfl, rfl⟩, rfl⟩
      · have hk0 := gs_pos (by omega) c_13
        obtain ⟨k2, rfl⟩ : ∃ k2, k = k2 + 1 := ⟨k - 1, by omega⟩
        rw [gs_eq k2]
        have htd : f / 6 ^ (pA P - (k2 + 1)) < 2147483648 := Nat.lt_of_le_of_lt (Nat.div_le_self _ _) (by omega)
        refine k_aload_n Ox dX4_guess_16 rfl 0 rfl ?_
        refine k_get Ox 0 rfl rfl hin_X4_guess_X4 5 rfl lk_X4_guess_f41 rfl rfl dX4_guess_17 ?_
        refine k_iload_n Ox dX4_guess_20 rfl 3 rfl ?_
        refine k_iload_n Ox dX4_guess_21 rfl 2 rfl ?_
        refine k_bipush Ox (v := nI 6) dX4_guess_22 rfl ?_
        refine k_iremN Ox dX4_guess_24 (by omega) (by first | decide | omega) (by first | decide | omega) ?_
        refine k_callS Ox [2] (c_X4_put G _ _ _ _ _ (by omega) (by decide)) 3 rfl rfl rfl ⟨rfl, rfl⟩ rfl rfl gX4_guess_X4_put ⟨(by decide +kernel), (by decide +kernel), (by decide +kernel)⟩ rfl dX4_guess_25 (Nat.le_of_ble_eq_true rfl) rfl ⟨Nat.le_of_ble_eq_true rfl, Nat.le_of_ble_eq_true rfl⟩ (fun r wa wb hp => ?_)
        obtain ⟨⟨rfl, rfl⟩, rfl⟩ := hp
        show V x G _ _ _ _ _ _ [_, _, _]
        rw [rN_upd]
        refine k_iload_n Ox dX4_guess_28 rfl 2 rfl ?_
        refine k_bipush Ox (v := nI 6) dX4_guess_29 rfl ?_
        refine k_idivN Ox dX4_guess_31 (by omega) (by first | decide | omega) (by first | decide | omega) ?_
        refine k_istore_n Ox [(2, _), (0, _), (1, _), (3, _)] dX4_guess_32 rfl (by decide) rfl ?_
        refine k_iinc Ox (k := 3) [(3, _), (2, _), (0, _), (1, _)] dX4_guess_33 rfl (gs_dec k2) (by decide) rfl ?_
        refine k_goto Ox 12 dX4_guess_36 rfl ?_
        refine k_sub [2, 3, 1, 0] [(0, _), (1, _), (2, _), (3, _)] rfl ?_
        rw [gs_step (by omega)]
        exact ih k2 _ (by omega) (by omega) (gs_up hR (by omega))
  refine k_sub [2, 3, 1, 0] [(0, _), (1, _), (2, _), (3, _)] rfl ?_
  have h0 := L12 (pA P + 1) (pA P) GU (by omega) (by omega) (fun j => by rw [if_neg (by omega)])
  rw [show f / 6 ^ (pA P - pA P) = f by rw [Nat.sub_self]; simp] at h0
  exact h0
theorem lk_X4_fits_f37 : Cond.fieldLink RX4 37 "LieBridges" "trial" "LLieBridges$Beliefs;" ∈ wsX4_fits := List.mem_of_getElem? (i := 1) rfl
theorem hin_X4_fits_X4 : ∀ w ∈ u_ws RX4 TX4 7, w ∈ wsX4_fits := fun _ h => List.mem_cons_of_mem _ (List.mem_append_left _ (List.mem_append_left _ (List.mem_append_left _ (List.mem_append_right _ h))))
theorem lk_X4_fits_f10 : Cond.fieldLink RX4 10 "LieBridges" "now" "LLieBridges$Delta;" ∈ wsX4_fits := List.mem_of_getElem? (i := 2) rfl
theorem lk_X4_fits_f72 : Cond.fieldLink RX4 72 "LieBridges$Delta" "beliefs" "LLieBridges$Beliefs;" ∈ wsX4_fits := List.mem_of_getElem? (i := 3) rfl
theorem hin_X4_fits_X1 : ∀ w ∈ u_ws RX1 TX1 11, w ∈ wsX4_fits := fun _ h => List.mem_cons_of_mem _ (List.mem_append_left _ (List.mem_append_left _ (List.mem_append_right _ h)))
theorem lk_X4_fits_f23 : Cond.fieldLink RX4 23 "LieBridges" "pad" "LLieBridges$Pad;" ∈ wsX4_fits := List.mem_of_getElem? (i := 4) rfl
theorem lk_X4_fits_f107 : Cond.fieldLink RX4 107 "LieBridges$Pad" "parts" "I" ∈ wsX4_fits := List.mem_of_getElem? (i := 5) rfl
theorem hin_X4_fits_X2 : ∀ w ∈ u_ws RX2 TX2 8, w ∈ wsX4_fits := fun _ h => List.mem_cons_of_mem _ (List.mem_append_left _ (List.mem_append_right _ h))
theorem lk_X4_fits_f206 : Cond.fieldLink RX4 206 "LieBridges$Delta" "sights" "I" ∈ wsX4_fits := List.mem_of_getElem? (i := 6) rfl
theorem lk_X4_fits_f209 : Cond.fieldLink RX4 209 "LieBridges$Delta" "sightPlanks" "[I" ∈ wsX4_fits := List.mem_of_getElem? (i := 7) rfl
theorem lk_X4_fits_f212 : Cond.fieldLink RX4 212 "LieBridges$Delta" "sightLoads" "[I" ∈ wsX4_fits := List.mem_of_getElem? (i := 8) rfl
set_option maxHeartbeats 400000 in
set_option maxRecDepth 4000 in
theorem c_X4_fits (G : Gx) (h d im pd wy tb gu ro ls gs ly hs tr kn sp sl be bd s0 kd sk hr pk tbd : Nat) (O : Nat → Nat) (T : Nat → Nat) (K : Nat → Nat) (SP : Nat → Nat) (SL : Nat → Nat) (GU : Nat → Nat) (B : Nat → Nat → Nat) (P : Ps) (fd : Nat) (sg : Nat) (mn : Nat) (g : Nat → Int32) (hO : okP O) (hT : okM T) (hK : okM K) (hB : okB B) (hfd : fd < 10) (hpts : ∀ i, i < pN P → okPt GU P i) (hpn : pN P ≤ 60) (hsp : ∀ j, j < 6 → SP j < 6) (hsl : ∀ j, j < 6 → SL j ≤ 6) (hsg : sg ≤ 6) : Ct G yX4_fits wsX4_fits { frames := 4, cells := 0, slots := 0, locals := 97 } [.ref h] [(h, cO 4 [.ref d, .ref im, .ref pd, .ref wy, .ref tb, .ref gu, .ref ro]), (d, cO 1 [.ref ls, .ref gs, .ref ly, .ref hs, .ref tr, .ref kn, .ref sp, .ref sl, .ref be, .int (nI fd), .int (nI sg)]), (ly, cI G 6 (rN O)), (tr, cI G 6 (rN T)), (kn, cI G 6 (rN K)), (sp, cI G 6 (rN SP)), (sl, cI G 6 (rN SL)), (be, cO 0 [.ref bd]), (bd, cI G 36 (rN (flC B))), (pd, cO 2 [.ref s0, .int (nI mn), .ref kd, .ref sk, .ref hr, .ref pk, .int (nI (pN P)), .int (nI (pA P))]), (kd, cI G 60 (rN (pK P))), (sk, cI G 60 (rN (pS P))), (hr, cI G 60 (rN (pH P))), (pk, cI G 60 (rN (pP P))), (gu, cI G 3 (rN GU)), (tb, cO 0 [.ref tbd]), (tbd, cI G 36 g)] (fun r wa => r = some (.int (bI (ftOK O T K fd GU P B SP SL sg))) ∧ ∃ g9 : Nat → Int32, wa = [(h, cO 4 [.ref d, .ref im, .ref pd, .ref wy, .ref tb, .ref gu, .ref ro]), (d, cO 1 [.ref ls, .ref gs, .ref ly, .ref hs, .ref tr, .ref kn, .ref sp, .ref sl, .ref be, .int (nI fd), .int (nI sg)]), (ly, cI G 6 (rN O)), (tr, cI G 6 (rN T)), (kn, cI G 6 (rN K)), (sp, cI G 6 (rN SP)), (sl, cI G 6 (rN SL)), (be, cO 0 [.ref bd]), (bd, cI G 36 (rN (flC B))), (pd, cO 2 [.ref s0, .int (nI mn), .ref kd, .ref sk, .ref hr, .ref pk, .int (nI (pN P)), .int (nI (pA P))]), (kd, cI G 60 (rN (pK P))), (sk, cI G 60 (rN (pS P))), (hr, cI G 60 (rN (pH P))), (pk, cI G 60 (rN (pP P))), (gu, cI G 3 (rN GU)), (tb, cO 0 [.ref tbd]), (tbd, cI G 36 g9)]) := by
  refine CtN.of [(0, .ref h)] (by decide +kernel) rfl rfl rfl rfl ?_
  intro x Ox Rt
  refine k_aload_n Ox dX4_fits_0 rfl 0 rfl ?_
  refine k_get Ox 0 rfl rfl hin_X4_fits_X4 4 rfl lk_X4_fits_f37 rfl rfl dX4_fits_1 ?_
  refine k_aload_n Ox dX4_fits_4 rfl 0 rfl ?_
  refine k_get Ox 0 rfl rfl hin_X4_fits_X4 0 rfl lk_X4_fits_f10 rfl rfl dX4_fits_5 ?_
  refine k_get Ox 1 rfl rfl hin_X4_fits_X1 8 rfl lk_X4_fits_f72 rfl rfl dX4_fits_8 ?_
  refine k_callV Ox [15, 16, 7, 8] (c_X0_become G _ _ _ _ _ _ ) 1 rfl rfl rfl ⟨rfl, rfl⟩ rfl rfl gX4_fits_X0_become rfl 15 rfl ⟨rfl, (by decide +kernel), (by decide +kernel), (by decide +kernel)⟩ rfl dX4_fits_11 (Nat.le_of_ble_eq_true rfl) rfl ⟨Nat.le_of_ble_eq_true rfl, Nat.le_of_ble_eq_true rfl⟩ (fun r wa wb hp => ?_)
  obtain ⟨⟨rfl, rfl⟩, rfl⟩ := hp
  show V x G _ _ _ _ _ _ [_, _, _, _, _, _, _, _, _, _, _, _, _, _, _, _, _]
  refine k_iconst Ox (v := nI 0) dX4_fits_14 rfl ?_
  refine k_istore_n Ox [(1, _), (0, _)] dX4_fits_15 rfl (by decide) rfl ?_
  have L16 : ∀ (fuel : Nat) (i : Nat), i ≤ pN P → pN P + 1 ≤ i + fuel → (∀ j, j < i → efOK O T K GU P (plyB O T K fd GU P B j) j = true) → V x G 2 0 0 16 [(0, .ref h), (1, .int (nI i))] [] [(h, cO 4 [.ref d, .ref im, .ref pd, .ref wy, .ref tb, .ref gu, .ref ro]), (d, cO 1 [.ref ls, .ref gs, .ref ly, .ref hs, .ref tr, .ref kn, .ref sp, .ref sl, .ref be, .int (nI fd), .int (nI sg)]), (ly, cI G 6 (rN O)), (tr, cI G 6 (rN T)), (kn, cI G 6 (rN K)), (sp, cI G 6 (rN SP)), (sl, cI G 6 (rN SL)), (be, cO 0 [.ref bd]), (bd, cI G 36 (rN (flC B))), (pd, cO 2 [.ref s0, .int (nI mn), .ref kd, .ref sk, .ref hr, .ref pk, .int (nI (pN P)), .int (nI (pA P))]), (kd, cI G 60 (rN (pK P))), (sk, cI G 60 (rN (pS P))), (hr, cI G 60 (rN (pH P))), (pk, cI G 60 (rN (pP P))), (gu, cI G 3 (rN GU)), (tb, cO 0 [.ref tbd]), (tbd, cI G 36 (rN (flC (plyB O T K fd GU P B i))))] := by
    intro fuel
    induction fuel with
    | zero => intro i hi hfuel hq; exact absurd hi (by omega)
    | succ fuel ih =>
      intro i hi hfuel hq
      refine k_iload_n Ox dX4_fits_16 rfl 1 rfl ?_
      refine k_aload_n Ox dX4_fits_17 rfl 0 rfl ?_
      refine k_get Ox 0 rfl rfl hin_X4_fits_X4 2 rfl lk_X4_fits_f23 rfl rfl dX4_fits_18 ?_
      refine k_get Ox 9 rfl rfl hin_X4_fits_X2 6 rfl lk_X4_fits_f107 rfl rfl dX4_fits_21 ?_
      refine k_icmp_geN Ox 47 dX4_fits_24 rfl (by omega) (by omega) (fun c_24 => ?_) (fun c_24 => ?_)
      · obtain hie : i = pN P := by omega
        subst hie
        have hpb := plyB_ok (O := O) (T := T) (K := K) (GU := GU) (P := P) hB hfd (pN P)
        refine k_iconst Ox (v := nI 0) dX4_fits_47 rfl ?_
        refine k_istore_n Ox [(1, _), (0, _)] dX4_fits_48 rfl (by decide) rfl ?_
        have L49 : ∀ (fuel : Nat) (q : Nat), q ≤ sg → sg + 1 ≤ q + fuel → (∀ j, j < q → ld (plyB O T K fd GU P B (pN P)) (SP j) 0 = SL j) → V x G 2 0 0 49 [(0, .ref h), (1, .int (nI q))] [] [(h, cO 4 [.ref d, .ref im, .ref pd, .ref wy, .ref tb, .ref gu, .ref ro]), (d, cO 1 [.ref ls, .ref gs, .ref ly, .ref hs, .ref tr, .ref kn, .ref sp, .ref sl, .ref be, .int (nI fd), .int (nI sg)]), (ly, cI G 6 (rN O)), (tr, cI G 6 (rN T)), (kn, cI G 6 (rN K)), (sp, cI G 6 (rN SP)), (sl, cI G 6 (rN SL)), (be, cO 0 [.ref bd]), (bd, cI G 36 (rN (flC B))), (pd, cO 2 [.ref s0, .int (nI mn), .ref kd, .ref sk, .ref hr, .ref pk, .int (nI (pN P)), .int (nI (pA P))]), (kd, cI G 60 (rN (pK P))), (sk, cI G 60 (rN (pS P))), (hr, cI G 60 (rN (pH P))), (pk, cI G 60 (rN (pP P))), (gu, cI G 3 (rN GU)), (tb, cO 0 [.ref tbd]), (tbd, cI G 36 (rN (flC (plyB O T K fd GU P B (pN P)))))] := by
          intro fuel
          induction fuel with
          | zero => intro q hq2 hfuel hs2; exact absurd hq2 (by omega)
          | succ fuel ih2 =>
            intro q hq2 hfuel hs2
            refine k_iload_n Ox dX4_fits_49 rfl 1 rfl ?_
            refine k_aload_n Ox dX4_fits_50 rfl 0 rfl ?_
            refine k_get Ox 0 rfl rfl hin_X4_fits_X4 0 rfl lk_X4_fits_f10 rfl rfl dX4_fits_51 ?_
            refine k_get Ox 1 rfl rfl hin_X4_fits_X1 10 rfl lk_X4_fits_f206 rfl rfl dX4_fits_54 ?_
            refine k_icmp_geN Ox 101 dX4_fits_57 rfl (by omega) (by omega) (fun c_57 => ?_) (fun c_57 => ?_)
            · obtain rfl : q = sg := by omega
              refine k_iconst Ox (v := nI 1) dX4_fits_101 rfl ?_
              refine k_zret0 Ox Rt dX4_fits_102 (by first | exact bI_nar _ | decide) (Nat.le_of_ble_eq_true rfl) (Nat.le_of_ble_eq_true rfl) rfl ?_
              exact ⟨⟨by rw [ft_all hq, ft_yes hs2]; rfl, _, rfl⟩, rfl⟩
            · have hs6 := hsp q (by omega)
              have hl6 := hsl q (by omega)
              have hll := ld_le (plyB O T K fd GU P B (pN P)) (SP q) 0
              refine k_aload_n Ox dX4_fits_60 rfl 0 rfl ?_
              refine k_get Ox 0 rfl rfl hin_X4_fits_X4 4 rfl lk_X4_fits_f37 rfl rfl dX4_fits_61 ?_
              refine k_aload_n Ox dX4_fits_64 rfl 0 rfl ?_
              refine k_get Ox 0 rfl rfl hin_X4_fits_X4 0 rfl lk_X4_fits_f10 rfl rfl dX4_fits_65 ?_
              refine k_get Ox 1 rfl rfl hin_X4_fits_X1 6 rfl lk_X4_fits_f209 rfl rfl dX4_fits_68 ?_
              refine k_iload_n Ox dX4_fits_71 rfl 1 rfl ?_
              refine k_callS Ox [5] (c_X4_at G _ _ _ _ (by omega) (by decide)) 2 rfl rfl rfl ⟨rfl, rfl⟩ rfl rfl gX4_fits_X4_at ⟨(by decide +kernel), (by decide +kernel), (by decide +kernel)⟩ rfl dX4_fits_72 (Nat.le_of_ble_eq_true rfl) rfl ⟨Nat.le_of_ble_eq_true rfl, Nat.le_of_ble_eq_true rfl⟩ (fun r wa wb hp => ?_)
              obtain ⟨⟨rfl, rfl⟩, rfl⟩ := hp
              show V x G _ _ _ _ _ (.int _ :: _) [_, _, _, _, _, _, _, _, _, _, _, _, _, _, _, _, _]
              refine k_iconst Ox (v := nI 0) dX4_fits_75 rfl ?_
              refine k_callV Ox [15, 16] (c_X0_load G _ _ _ _ _ (hs6) (by omega) (hpb)) 2 rfl rfl rfl ⟨rfl, rfl⟩ rfl rfl gX4_fits_X0_load rfl 15 rfl ⟨rfl, (by decide +kernel), (by decide +kernel), (by decide +kernel)⟩ rfl dX4_fits_76 (Nat.le_of_ble_eq_true rfl) rfl ⟨Nat.le_of_ble_eq_true rfl, Nat.le_of_ble_eq_true rfl⟩ (fun r wa wb hp => ?_)
              obtain ⟨⟨rfl, rfl⟩, rfl⟩ := hp
              show V x G _ _ _ _ _ (.int _ :: _) [_, _, _, _, _, _, _, _, _, _, _, _, _, _, _, _, _]
              refine k_aload_n Ox dX4_fits_79 rfl 0 rfl ?_
              refine k_get Ox 0 rfl rfl hin_X4_fits_X4 0 rfl lk_X4_fits_f10 rfl rfl dX4_fits_80 ?_
              refine k_get Ox 1 rfl rfl hin_X4_fits_X1 7 rfl lk_X4_fits_f212 rfl rfl dX4_fits_83 ?_
              refine k_iload_n Ox dX4_fits_86 rfl 1 rfl ?_
              refine k_callS Ox [6] (c_X4_at G _ _ _ _ (by omega) (by decide)) 2 rfl rfl rfl ⟨rfl, rfl⟩ rfl rfl gX4_fits_X4_at ⟨(by decide +kernel), (by decide +kernel), (by decide +kernel)⟩ rfl dX4_fits_87 (Nat.le_of_ble_eq_true rfl) rfl ⟨Nat.le_of_ble_eq_true rfl, Nat.le_of_ble_eq_true rfl⟩ (fun r wa wb hp => ?_)
              obtain ⟨⟨rfl, rfl⟩, rfl⟩ := hp
              show V x G _ _ _ _ _ (.int _ :: _) [_, _, _, _, _, _, _, _, _, _, _, _, _, _, _, _, _]
              refine k_icmp_eqN Ox 95 dX4_fits_90 rfl (by omega) (by omega) (fun c_90 => ?_) (fun c_90 => ?_)
              · refine k_iincN Ox (k := 1) (m := 1) [(1, _), (0, _)] dX4_fits_95 rfl rfl (by decide) rfl ?_
                refine k_goto Ox 49 dX4_fits_98 rfl ?_
                refine k_sub [1, 0] [(0, _), (1, _)] rfl ?_
                exact ih2 (q + 1) (by omega) (by omega) (lt_next hs2 c_90)
              · refine k_iconst Ox (v := nI 0) dX4_fits_93 rfl ?_
                refine k_zret0 Ox Rt dX4_fits_94 (by first | exact bI_nar _ | decide) (Nat.le_of_ble_eq_true rfl) (Nat.le_of_ble_eq_true rfl) rfl ?_
                exact ⟨⟨by rw [ft_all hq, ft_no2 hs2 c_57 c_90]; rfl, _, rfl⟩, rfl⟩
        refine k_sub [1, 0] [(0, _), (1, _)] rfl ?_
        exact L49 (sg + 1) 0 (by omega) (by omega) (fun j hj => absurd hj (by omega))
      · refine k_aload_n Ox dX4_fits_27 rfl 0 rfl ?_
        refine k_iload_n Ox dX4_fits_28 rfl 1 rfl ?_
        refine k_aload_n Ox dX4_fits_29 rfl 0 rfl ?_
        refine k_get Ox 0 rfl rfl hin_X4_fits_X4 4 rfl lk_X4_fits_f37 rfl rfl dX4_fits_30 ?_
        refine k_callV Ox [0, 1, 2, 3, 4, 9, 10, 11, 12, 13, 14, 15, 16] (c_X4_takesEffect G _ _ _ _ _ _ _ _ _ _ _ _ _ _ _ _ _ _ _ _ _ _ _ _ _ _ _ _ _ _ _ _ _ _ (hO) (hT) (hK) (plyB_ok hB hfd i) (hfd) (hpts i c_24) (by omega)) 2 rfl rfl rfl ⟨rfl, rfl⟩ rfl rfl gX4_fits_X4_takesEffect rfl 0 rfl ⟨rfl, (by decide +kernel), (by decide +kernel), (by decide +kernel)⟩ rfl dX4_fits_33 (Nat.le_of_ble_eq_true rfl) rfl ⟨Nat.le_of_ble_eq_true rfl, Nat.le_of_ble_eq_true rfl⟩ (fun r wa wb hp => ?_)
        obtain ⟨⟨rfl, rfl⟩, rfl⟩ := hp
        show V x G _ _ _ _ _ (.int _ :: _) [_, _, _, _, _, _, _, _, _, _, _, _, _, _, _, _, _]
        refine k_if_neB Ox 41 dX4_fits_36 rfl (fun c_36 => ?_) (fun c_36 => ?_)
        · refine k_iincN Ox (k := 1) (m := 1) [(1, _), (0, _)] dX4_fits_41 rfl rfl (by decide) rfl ?_
          refine k_goto Ox 16 dX4_fits_44 rfl ?_
          refine k_sub [1, 0] [(0, _), (1, _)] rfl ?_
          exact ih (i + 1) (by omega) (by omega) (lt_next hq c_36)
        · refine k_iconst Ox (v := nI 0) dX4_fits_39 rfl ?_
          refine k_zret0 Ox Rt dX4_fits_40 (by first | exact bI_nar _ | decide) (Nat.le_of_ble_eq_true rfl) (Nat.le_of_ble_eq_true rfl) rfl ?_
          exact ⟨⟨by rw [ft_no1 hq c_24 c_36]; rfl, _, rfl⟩, rfl⟩
  refine k_sub [1, 0] [(0, _), (1, _)] rfl ?_
  exact L16 (pN P + 1) 0 (by omega) (by omega) (fun j hj => absurd hj (by omega))
theorem lk_X4_filled_f23 : Cond.fieldLink RX4 23 "LieBridges" "pad" "LLieBridges$Pad;" ∈ wsX4_filled := List.mem_of_getElem? (i := 1) rfl
theorem hin_X4_filled_X4 : ∀ w ∈ u_ws RX4 TX4 7, w ∈ wsX4_filled := fun _ h => List.mem_cons_of_mem _ (List.mem_append_left _ (List.mem_append_left _ (List.mem_append_left _ (List.mem_append_right _ h))))
theorem lk_X4_filled_f215 : Cond.fieldLink RX4 215 "LieBridges$Pad" "asked" "I" ∈ wsX4_filled := List.mem_of_getElem? (i := 2) rfl
theorem hin_X4_filled_X2 : ∀ w ∈ u_ws RX2 TX2 8, w ∈ wsX4_filled := fun _ h => List.mem_cons_of_mem _ (List.mem_append_left _ (List.mem_append_left _ (List.mem_append_right _ h)))
theorem lk_X4_filled_f41 : Cond.fieldLink RX4 41 "LieBridges" "guesses" "[I" ∈ wsX4_filled := List.mem_of_getElem? (i := 3) rfl
set_option maxHeartbeats 1000000 in
set_option maxRecDepth 4000 in
theorem c_X4_filled (G : Gx) (h d im pd wy tb gu ro ls gs ly hs tr kn sp sl be bd s0 kd sk hr pk tbd : Nat) (O : Nat → Nat) (T : Nat → Nat) (K : Nat → Nat) (SP : Nat → Nat) (SL : Nat → Nat) (GU : Nat → Nat) (PS : Nat → Nat) (B : Nat → Nat → Nat) (P : Ps) (fd : Nat) (sg : Nat) (mn : Nat) (g : Nat → Int32) (x1 : Int32) (hO : okP O) (hT : okM T) (hK : okM K) (hB : okB B) (hfd : fd < 10) (hmn : mn ≤ 60) (hPS : ∀ i, i < mn → PS i < 128) (hsp : ∀ j, j < 6 → SP j < 6) (hsl : ∀ j, j < 6 → SL j ≤ 6) (hsg : sg ≤ 6) : Ct G yX4_filled wsX4_filled { frames := 5, cells := 0, slots := 0, locals := 118 } [.ref h, .int x1] [(h, cO 4 [.ref d, .ref im, .ref pd, .ref wy, .ref tb, .ref gu, .ref ro]), (d, cO 1 [.ref ls, .ref gs, .ref ly, .ref hs, .ref tr, .ref kn, .ref sp, .ref sl, .ref be, .int (nI fd), .int (nI sg)]), (ly, cI G 6 (rN O)), (tr, cI G 6 (rN T)), (kn, cI G 6 (rN K)), (sp, cI G 6 (rN SP)), (sl, cI G 6 (rN SL)), (be, cO 0 [.ref bd]), (bd, cI G 36 (rN (flC B))), (pd, cO 2 [.ref s0, .int (nI mn), .ref kd, .ref sk, .ref hr, .ref pk, .int (nI (pN P)), .int (nI (pA P))]), (s0, cI G 60 (rN PS)), (kd, cI G 60 (rN (pK P))), (sk, cI G 60 (rN (pS P))), (hr, cI G 60 (rN (pH P))), (pk, cI G 60 (rN (pP P))), (gu, cI G 3 (rN GU)), (tb, cO 0 [.ref tbd]), (tbd, cI G 36 g)] (fun r wa => r = some (.int (filR O T K fd PS P mn B SP SL sg x1)) ∧ ∃ GU9 : Nat → Nat, ∃ g9 : Nat → Int32, wa = [(h, cO 4 [.ref d, .ref im, .ref pd, .ref wy, .ref tb, .ref gu, .ref ro]), (d, cO 1 [.ref ls, .ref gs, .ref ly, .ref hs, .ref tr, .ref kn, .ref sp, .ref sl, .ref be, .int (nI fd), .int (nI sg)]), (ly, cI G 6 (rN O)), (tr, cI G 6 (rN T)), (kn, cI G 6 (rN K)), (sp, cI G 6 (rN SP)), (sl, cI G 6 (rN SL)), (be, cO 0 [.ref bd]), (bd, cI G 36 (rN (flC B))), (pd, cO 2 [.ref s0, .int (nI mn), .ref kd, .ref sk, .ref hr, .ref pk, .int (nI (pN (rdp PS P mn))), .int (nI (pA (rdp PS P mn)))]), (s0, cI G 60 (rN PS)), (kd, cI G 60 (rN (pK (rdp PS P mn)))), (sk, cI G 60 (rN (pS (rdp PS P mn)))), (hr, cI G 60 (rN (pH (rdp PS P mn)))), (pk, cI G 60 (rN (pP (rdp PS P mn)))), (gu, cI G 3 (rN GU9)), (tb, cO 0 [.ref tbd]), (tbd, cI G 36 g9)]) := by
  refine CtN.of [(0, .ref h), (1, .int x1)] (by decide +kernel) rfl rfl rfl rfl ?_
  intro x Ox Rt
  refine k_aload_n Ox dX4_filled_0 rfl 0 rfl ?_
  refine k_get Ox 0 rfl rfl hin_X4_filled_X4 2 rfl lk_X4_filled_f23 rfl rfl dX4_filled_1 ?_
  refine k_callV Ox [9, 10, 11, 12, 13, 14] (c_X2_read G _ _ _ _ _ _ _ _ _ (by omega) (by assumption)) 0 rfl rfl rfl ⟨rfl, rfl⟩ rfl rfl gX4_filled_X2_read rfl 9 rfl ⟨rfl, (by decide +kernel), (by decide +kernel), (by decide +kernel)⟩ rfl dX4_filled_4 (Nat.le_of_ble_eq_true rfl) rfl ⟨Nat.le_of_ble_eq_true rfl, Nat.le_of_ble_eq_true rfl⟩ (fun r wa wb hp => ?_)
  obtain ⟨⟨rfl, rfl⟩, rfl⟩ := hp
  show V x G _ _ _ _ _ (.int _ :: _) [_, _, _, _, _, _, _, _, _, _, _, _, _, _, _, _, _, _]
  refine k_bipush Ox (v := -6) dX4_filled_7 (by decide) ?_
  refine k_icmp_eq Ox 15 dX4_filled_9 rfl (fun c_9 => ?_) (fun c_9 => ?_)
  · have hok := rd_ok hmn c_9
    obtain ⟨hrp, -, hsI, hpn, hpa⟩ := hok
    rw [← hrp] at hsI hpn hpa
    have h216 := pow6_le hpa
    have hpsA : ∀ i, i < pN (rdp PS P mn) → pK (rdp PS P mn) i = 0 ∨ pS (rdp PS P mn) i < 6 + pA (rdp PS P mn) := fun i hi => (hsI.1 i hi).elim Or.inl (fun z => Or.inr z.2.1)
    refine k_iconst Ox (v := nI 0) dX4_filled_15 rfl ?_
    refine k_istore_n Ox [(2, _), (0, _), (1, _)] dX4_filled_16 rfl (by decide) rfl ?_
    refine k_iconst Ox (v := nI 0) dX4_filled_17 rfl ?_
    refine k_istore_n Ox [(3, _), (2, _), (0, _), (1, _)] dX4_filled_18 rfl (by decide) rfl ?_
    refine k_iconst Ox (v := nI 1) dX4_filled_19 rfl ?_
    refine k_istore Ox [(4, _), (3, _), (2, _), (0, _), (1, _)] dX4_filled_20 (by decide) rfl ?_
    refine k_iconst Ox (v := nI 0) dX4_filled_22 rfl ?_
    refine k_istore Ox [(5, _), (4, _), (3, _), (2, _), (0, _), (1, _)] dX4_filled_23 (by decide) rfl ?_
    have L25 : ∀ (fuel : Nat) (i : Nat), i ≤ pA (rdp PS P mn) → pA (rdp PS P mn) + 1 ≤ i + fuel → V x G 6 0 0 25 [(0, .ref h), (1, .int x1), (2, .int (nI 0)), (3, .int (nI 0)), (4, .int (nI (6 ^ i))), (5, .int (nI i))] [] [(h, cO 4 [.ref d, .ref im, .ref pd, .ref wy, .ref tb, .ref gu, .ref ro]), (d, cO 1 [.ref ls, .ref gs, .ref ly, .ref hs, .ref tr, .ref kn, .ref sp, .ref sl, .ref be, .int (nI fd), .int (nI sg)]), (ly, cI G 6 (rN O)), (tr, cI G 6 (rN T)), (kn, cI G 6 (rN K)), (sp, cI G 6 (rN SP)), (sl, cI G 6 (rN SL)), (be, cO 0 [.ref bd]), (bd, cI G 36 (rN (flC B))), (pd, cO 2 [.ref s0, .int (nI mn), .ref kd, .ref sk, .ref hr, .ref pk, .int (nI (pN (rdp PS P mn))), .int (nI (pA (rdp PS P mn)))]), (s0, cI G 60 (rN PS)), (kd, cI G 60 (rN (pK (rdp PS P mn)))), (sk, cI G 60 (rN (pS (rdp PS P mn)))), (hr, cI G 60 (rN (pH (rdp PS P mn)))), (pk, cI G 60 (rN (pP (rdp PS P mn)))), (gu, cI G 3 (rN GU)), (tb, cO 0 [.ref tbd]), (tbd, cI G 36 g)] := by
      intro fuel
      induction fuel with
      | zero => intro i hi hfuel; exact absurd hi (by omega)
      | succ fuel ih =>
        intro i hi hfuel
        refine k_iload Ox dX4_filled_25 5 rfl ?_
        refine k_aload_n Ox dX4_filled_27 rfl 0 rfl ?_
        refine k_get Ox 0 rfl rfl hin_X4_filled_X4 2 rfl lk_X4_filled_f23 rfl rfl dX4_filled_28 ?_
        refine k_get Ox 9 rfl rfl hin_X4_filled_X2 7 rfl lk_X4_filled_f215 rfl rfl dX4_filled_31 ?_
        refine k_icmp_geN Ox 50 dX4_filled_34 rfl (by omega) (by omega) (fun c_34 => ?_) (fun c_34 => ?_)
        · obtain hie : i = pA (rdp PS P mn) := by omega
          subst hie
          refine k_iconst Ox (v := nI 0) dX4_filled_50 rfl ?_
          refine k_istore Ox [(5, _), (0, _), (1, _), (2, _), (3, _), (4, _)] dX4_filled_51 (by decide) rfl ?_
          have L53 : ∀ (fuel : Nat) (f cn fs : Nat) (G1 : Nat → Nat) (g : Nat → Int32), f ≤ 6 ^ pA (rdp PS P mn) → 6 ^ pA (rdp PS P mn) + 1 ≤ f + fuel → cn = cnt (flGd O T K fd (rdp PS P mn) B SP SL sg) f → fs = fsG (flGd O T K fd (rdp PS P mn) B SP SL sg) f → V x G 6 0 0 53 [(0, .ref h), (1, .int x1), (2, .int (nI cn)), (3, .int (nI fs)), (4, .int (nI (6 ^ pA (rdp PS P mn)))), (5, .int (nI f))] [] [(h, cO 4 [.ref d, .ref im, .ref pd, .ref wy, .ref tb, .ref gu, .ref ro]), (d, cO 1 [.ref ls, .ref gs, .ref ly, .ref hs, .ref tr, .ref kn, .ref sp, .ref sl, .ref be, .int (nI fd), .int (nI sg)]), (ly, cI G 6 (rN O)), (tr, cI G 6 (rN T)), (kn, cI G 6 (rN K)), (sp, cI G 6 (rN SP)), (sl, cI G 6 (rN SL)), (be, cO 0 [.ref bd]), (bd, cI G 36 (rN (flC B))), (pd, cO 2 [.ref s0, .int (nI mn), .ref kd, .ref sk, .ref hr, .ref pk, .int (nI (pN (rdp PS P mn))), .int (nI (pA (rdp PS P mn)))]), (s0, cI G 60 (rN PS)), (kd, cI G 60 (rN (pK (rdp PS P mn)))), (sk, cI G 60 (rN (pS (rdp PS P mn)))), (hr, cI G 60 (rN (pH (rdp PS P mn)))), (pk, cI G 60 (rN (pP (rdp PS P mn)))), (gu, cI G 3 (rN G1)), (tb, cO 0 [.ref tbd]), (tbd, cI G 36 g)] := by
            intro fuel
            induction fuel with
            | zero => intro f cn fs G1 g hf hfuel hc hfs; exact absurd hf (by omega)
            | succ fuel ih2 =>
              intro f cn fs G1 g hf hfuel hc hfs
              refine k_iload Ox dX4_filled_53 5 rfl ?_
              refine k_iload Ox dX4_filled_55 4 rfl ?_
              refine k_icmp_geN Ox 93 dX4_filled_57 rfl (by omega) (by omega) (fun c_57 => ?_) (fun c_57 => ?_)
              · obtain hfe : f = 6 ^ pA (rdp PS P mn) := by omega
                subst hfe
                subst hc
                subst hfs
                have hcl := cnt_le (flGd O T K fd (rdp PS P mn) B SP SL sg) (6 ^ pA (rdp PS P mn))
                have hfl := fsG_le (flGd O T K fd (rdp PS P mn) B SP SL sg) (6 ^ pA (rdp PS P mn))
                refine k_iload_n Ox dX4_filled_93 rfl 1 rfl ?_
                refine k_iconst Ox (v := -1) dX4_filled_94 (by decide) ?_
                refine k_icmp_ne Ox 100 dX4_filled_95 rfl (fun c_95 => ?_) (fun c_95 => ?_)
                · refine k_iload_n Ox dX4_filled_100 rfl 2 rfl ?_
                  refine k_if_eqN Ox 119 dX4_filled_101 rfl (by omega) (fun c_101 => ?_) (fun c_101 => ?_)
                  · refine k_bipush Ox (v := -6) dX4_filled_119 (by decide) ?_
                    refine k_iret0 Ox Rt dX4_filled_121 (Nat.le_of_ble_eq_true rfl) (Nat.le_of_ble_eq_true rfl) rfl ?_
                    first | exact ⟨⟨by rw [filR, if_pos c_9, flV, if_neg c_95, if_neg (fun z => hx z.2)], _, _, rfl⟩, rfl⟩ | exact ⟨⟨by rw [filR, if_pos c_9, flV, if_neg c_95, if_neg (fun z => by have := z.1; omega)], _, _, rfl⟩, rfl⟩
                  · refine k_iload_n Ox dX4_filled_104 rfl 1 rfl ?_
                    refine k_if_lt Ox 119 dX4_filled_105 rfl (fun c_105 => ?_) (fun c_105 => ?_)
                    · have hx : ¬ (0 ≤ x1.toInt ∧ x1.toInt < (pA (rdp PS P mn) : Int)) := by omega
                      refine k_bipush Ox (v := -6) dX4_filled_119 (by decide) ?_
                      refine k_iret0 Ox Rt dX4_filled_121 (Nat.le_of_ble_eq_true rfl) (Nat.le_of_ble_eq_true rfl) rfl ?_
                      first | exact ⟨⟨by rw [filR, if_pos c_9, flV, if_neg c_95, if_neg (fun z => hx z.2)], _, _, rfl⟩, rfl⟩ | exact ⟨⟨by rw [filR, if_pos c_9, flV, if_neg c_95, if_neg (fun z => by have := z.1; omega)], _, _, rfl⟩, rfl⟩
                    · refine k_iload_n Ox dX4_filled_108 rfl 1 rfl ?_
                      refine k_aload_n Ox dX4_filled_109 rfl 0 rfl ?_
                      refine k_get Ox 0 rfl rfl hin_X4_filled_X4 2 rfl lk_X4_filled_f23 rfl rfl dX4_filled_110 ?_
                      refine k_get Ox 9 rfl rfl hin_X4_filled_X2 7 rfl lk_X4_filled_f215 rfl rfl dX4_filled_113 ?_
                      refine k_icmp_lt Ox 122 dX4_filled_116 rfl (fun c_116 => ?_) (fun c_116 => ?_)
                      · rw [nI_tI (by omega)] at c_116
                        obtain ⟨t, ht, rfl⟩ := nat_of c_105
                        rw [nI_tI ht] at c_116
                        refine k_aload_n Ox dX4_filled_122 rfl 0 rfl ?_
                        refine k_iload_n Ox dX4_filled_123 rfl 3 rfl ?_
                        refine k_callV Ox [0, 9, 15] (c_X4_guess G _ _ _ _ _ _ _ _ _ _ _ _ _ _ _ _ _ (by omega) (by omega)) 1 rfl rfl rfl ⟨rfl, rfl⟩ rfl rfl gX4_filled_X4_guess rfl 0 rfl ⟨rfl, (by decide +kernel), (by decide +kernel), (by decide +kernel)⟩ rfl dX4_filled_124 (Nat.le_of_ble_eq_true rfl) rfl ⟨Nat.le_of_ble_eq_true rfl, Nat.le_of_ble_eq_true rfl⟩ (fun r wa wb hp => ?_)
                        obtain ⟨⟨rfl, rfl⟩, rfl⟩ := hp
                        show V x G _ _ _ _ _ _ [_, _, _, _, _, _, _, _, _, _, _, _, _, _, _, _, _, _]
                        refine k_aload_n Ox dX4_filled_127 rfl 0 rfl ?_
                        refine k_get Ox 0 rfl rfl hin_X4_filled_X4 5 rfl lk_X4_filled_f41 rfl rfl dX4_filled_128 ?_
                        refine k_iload_n Ox dX4_filled_131 rfl 1 rfl ?_
                        refine k_callS Ox [15] (c_X4_at G _ _ _ _ (by omega) (by decide)) 2 rfl rfl rfl ⟨rfl, rfl⟩ rfl rfl gX4_filled_X4_at ⟨(by decide +kernel), (by decide +kernel), (by decide +kernel)⟩ rfl dX4_filled_132 (Nat.le_of_ble_eq_true rfl) rfl ⟨Nat.le_of_ble_eq_true rfl, Nat.le_of_ble_eq_true rfl⟩ (fun r wa wb hp => ?_)
                        obtain ⟨⟨rfl, rfl⟩, rfl⟩ := hp
                        show V x G _ _ _ _ _ (.int _ :: _) [_, _, _, _, _, _, _, _, _, _, _, _, _, _, _, _, _, _]
                        refine k_iret0 Ox Rt dX4_filled_135 (Nat.le_of_ble_eq_true rfl) (Nat.le_of_ble_eq_true rfl) rfl ?_
                        exact ⟨⟨by rw [filR, if_pos c_9, flV, if_neg c_95, if_pos ⟨c_101, c_105, by rw [nI_tI ht]; omega⟩, nn_big ht, ← gsF_lt (GU := G1) (by omega)], _, _, rfl⟩, rfl⟩
                      · have hx : ¬ (0 ≤ x1.toInt ∧ x1.toInt < (pA (rdp PS P mn) : Int)) := by rw [nI_tI (by omega)] at c_116; omega
                        refine k_bipush Ox (v := -6) dX4_filled_119 (by decide) ?_
                        refine k_iret0 Ox Rt dX4_filled_121 (Nat.le_of_ble_eq_true rfl) (Nat.le_of_ble_eq_true rfl) rfl ?_
                        first | exact ⟨⟨by rw [filR, if_pos c_9, flV, if_neg c_95, if_neg (fun z => hx z.2)], _, _, rfl⟩, rfl⟩ | exact ⟨⟨by rw [filR, if_pos c_9, flV, if_neg c_95, if_neg (fun z => by have := z.1; omega)], _, _, rfl⟩, rfl⟩
                · refine k_iload_n Ox dX4_filled_98 rfl 2 rfl ?_
                  refine k_iret0 Ox Rt dX4_filled_99 (Nat.le_of_ble_eq_true rfl) (Nat.le_of_ble_eq_true rfl) rfl ?_
                  exact ⟨⟨by rw [filR, if_pos c_9, flV, if_pos c_95], _, _, rfl⟩, rfl⟩
              · have hgg : ∀ j, j < pA (rdp PS P mn) → gsF G1 (pA (rdp PS P mn)) f j < 6 := fun j hj => by rw [gsF_lt hj]; exact gq_lt _ _ _
                obtain ⟨-, -, hpts⟩ := rd_pts (GU := gsF G1 (pA (rdp PS P mn)) f) hmn hgg c_9
                have hcn : flGd O T K fd (rdp PS P mn) B SP SL sg f = ftOK O T K fd (gsF G1 (pA (rdp PS P mn)) f) (rdp PS P mn) B SP SL sg := (ft_c (fun j hj => gsF_lt hj) hpsA).symm
                have hcl := cnt_le (flGd O T K fd (rdp PS P mn) B SP SL sg) f
                have hfl := fsG_le (flGd O T K fd (rdp PS P mn) B SP SL sg) f
                refine k_aload_n Ox dX4_filled_60 rfl 0 rfl ?_
                refine k_iload Ox dX4_filled_61 5 rfl ?_
                refine k_callV Ox [0, 9, 15] (c_X4_guess G _ _ _ _ _ _ _ _ _ _ _ _ _ _ _ _ _ (by omega) (by omega)) 1 rfl rfl rfl ⟨rfl, rfl⟩ rfl rfl gX4_filled_X4_guess rfl 0 rfl ⟨rfl, (by decide +kernel), (by decide +kernel), (by decide +kernel)⟩ rfl dX4_filled_63 (Nat.le_of_ble_eq_true rfl) rfl ⟨Nat.le_of_ble_eq_true rfl, Nat.le_of_ble_eq_true rfl⟩ (fun r wa wb hp => ?_)
                obtain ⟨⟨rfl, rfl⟩, rfl⟩ := hp
                show V x G _ _ _ _ _ _ [_, _, _, _, _, _, _, _, _, _, _, _, _, _, _, _, _, _]
                refine k_aload_n Ox dX4_filled_66 rfl 0 rfl ?_
                refine k_callV Ox [0, 1, 2, 3, 4, 5, 6, 7, 8, 9, 11, 12, 13, 14, 15, 16, 17] (c_X4_fits G _ _ _ _ _ _ _ _ _ _ _ _ _ _ _ _ _ _ _ _ _ _ _ _ _ _ _ _ _ _ _ _ _ _ _ _ (hO) (hT) (hK) (hB) (hfd) (hpts) (hpn) (hsp) (hsl) (hsg)) 0 rfl rfl rfl ⟨rfl, rfl⟩ rfl rfl gX4_filled_X4_fits rfl 0 rfl ⟨rfl, (by decide +kernel), (by decide +kernel), (by decide +kernel)⟩ rfl dX4_filled_67 (Nat.le_of_ble_eq_true rfl) rfl ⟨Nat.le_of_ble_eq_true rfl, Nat.le_of_ble_eq_true rfl⟩ (fun r wa wb hp => ?_)
                obtain ⟨⟨rfl, g967, rfl⟩, rfl⟩ := hp
                show V x G _ _ _ _ _ (.int _ :: _) [_, _, _, _, _, _, _, _, _, _, _, _, _, _, _, _, _, _]
                refine k_if_eqB Ox 87 dX4_filled_70 rfl (fun c_70 => ?_) (fun c_70 => ?_)
                · refine k_iincN Ox (k := 5) (m := 1) [(5, _), (0, _), (1, _), (2, _), (3, _), (4, _)] dX4_filled_87 rfl rfl (by decide) rfl ?_
                  refine k_goto Ox 53 dX4_filled_90 rfl ?_
                  refine k_sub [1, 2, 3, 4, 5, 0] [(0, _), (1, _), (2, _), (3, _), (4, _), (5, _)] rfl ?_
                  first | exact ih2 (f + 1) _ _ _ _ (by omega) (by omega) (hc.trans (fl_f (hcn.trans c_70)).1) (hfs.trans (fl_f (hcn.trans c_70)).2) | exact ih2 (f + 1) _ _ _ _ (by omega) (by omega) ((congrArg (fun z => z + 1) hc).trans (fl_t1 (hcn.trans c_70) (hc.symm.trans c_74)).1) (fl_t1 (hcn.trans c_70) (hc.symm.trans c_74)).2 | exact ih2 (f + 1) _ _ _ _ (by omega) (by omega) ((congrArg (fun z => z + 1) hc).trans (fl_t2 (hcn.trans c_70) (hc ▸ c_74)).1) (hfs.trans (fl_t2 (hcn.trans c_70) (hc ▸ c_74)).2)
                · refine k_iload_n Ox dX4_filled_73 rfl 2 rfl ?_
                  refine k_if_neN Ox 82 dX4_filled_74 rfl (by omega) (fun c_74 => ?_) (fun c_74 => ?_)
                  · refine k_iload_n Ox dX4_filled_82 rfl 3 rfl ?_
                    refine k_istore_n Ox [(3, _), (0, _), (1, _), (2, _), (4, _), (5, _)] dX4_filled_83 rfl (by decide) rfl ?_
                    refine k_iincN Ox (k := 3) (m := 1) [(2, _), (3, _), (0, _), (1, _), (4, _), (5, _)] dX4_filled_84 rfl rfl (by decide) rfl ?_
                    refine k_iincN Ox (k := 5) (m := 1) [(5, _), (2, _), (3, _), (0, _), (1, _), (4, _)] dX4_filled_87 rfl rfl (by decide) rfl ?_
                    refine k_goto Ox 53 dX4_filled_90 rfl ?_
                    refine k_sub [3, 4, 1, 2, 5, 0] [(0, _), (1, _), (2, _), (3, _), (4, _), (5, _)] rfl ?_
                    first | exact ih2 (f + 1) _ _ _ _ (by omega) (by omega) (hc.trans (fl_f (hcn.trans c_70)).1) (hfs.trans (fl_f (hcn.trans c_70)).2) | exact ih2 (f + 1) _ _ _ _ (by omega) (by omega) ((congrArg (fun z => z + 1) hc).trans (fl_t1 (hcn.trans c_70) (hc.symm.trans c_74)).1) (fl_t1 (hcn.trans c_70) (hc.symm.trans c_74)).2 | exact ih2 (f + 1) _ _ _ _ (by omega) (by omega) ((congrArg (fun z => z + 1) hc).trans (fl_t2 (hcn.trans c_70) (hc ▸ c_74)).1) (hfs.trans (fl_t2 (hcn.trans c_70) (hc ▸ c_74)).2)
                  · refine k_iload Ox dX4_filled_77 5 rfl ?_
                    refine k_goto Ox 83 dX4_filled_79 rfl ?_
                    refine k_istore_n Ox [(3, _), (0, _), (1, _), (2, _), (4, _), (5, _)] dX4_filled_83 rfl (by decide) rfl ?_
                    refine k_iincN Ox (k := 3) (m := 1) [(2, _), (3, _), (0, _), (1, _), (4, _), (5, _)] dX4_filled_84 rfl rfl (by decide) rfl ?_
                    refine k_iincN Ox (k := 5) (m := 1) [(5, _), (2, _), (3, _), (0, _), (1, _), (4, _)] dX4_filled_87 rfl rfl (by decide) rfl ?_
                    refine k_goto Ox 53 dX4_filled_90 rfl ?_
                    refine k_sub [3, 4, 1, 2, 5, 0] [(0, _), (1, _), (2, _), (3, _), (4, _), (5, _)] rfl ?_
                    first | exact ih2 (f + 1) _ _ _ _ (by omega) (by omega) (hc.trans (fl_f (hcn.trans c_70)).1) (hfs.trans (fl_f (hcn.trans c_70)).2) | exact ih2 (f + 1) _ _ _ _ (by omega) (by omega) ((congrArg (fun z => z + 1) hc).trans (fl_t1 (hcn.trans c_70) (hc.symm.trans c_74)).1) (fl_t1 (hcn.trans c_70) (hc.symm.trans c_74)).2 | exact ih2 (f + 1) _ _ _ _ (by omega) (by omega) ((congrArg (fun z => z + 1) hc).trans (fl_t2 (hcn.trans c_70) (hc ▸ c_74)).1) (hfs.trans (fl_t2 (hcn.trans c_70) (hc ▸ c_74)).2)
          refine k_sub [1, 2, 3, 4, 5, 0] [(0, _), (1, _), (2, _), (3, _), (4, _), (5, _)] rfl ?_
          exact L53 (6 ^ pA (rdp PS P mn) + 1) 0 0 0 _ _ (Nat.zero_le _) (Nat.le_of_eq (by rw [Nat.zero_add])) rfl rfl
        · have h6i : 6 ^ i ≤ 216 := pow6_le (by omega)
          refine k_iload Ox dX4_filled_37 4 rfl ?_
          refine k_bipush Ox (v := nI 6) dX4_filled_39 rfl ?_
          refine k_imulN Ox dX4_filled_41 ?_
          refine k_istore Ox [(4, _), (0, _), (1, _), (2, _), (3, _), (5, _)] dX4_filled_42 (by decide) rfl ?_
          refine k_iincN Ox (k := 5) (m := 1) [(5, _), (4, _), (0, _), (1, _), (2, _), (3, _)] dX4_filled_44 rfl rfl (by decide) rfl ?_
          refine k_goto Ox 25 dX4_filled_47 rfl ?_
          refine k_sub [2, 3, 4, 5, 1, 0] [(0, _), (1, _), (2, _), (3, _), (4, _), (5, _)] rfl ?_
          exact ih (i + 1) (by omega) (by omega)
    refine k_sub [4, 5, 3, 2, 1, 0] [(0, _), (1, _), (2, _), (3, _), (4, _), (5, _)] rfl ?_
    exact L25 (pA (rdp PS P mn) + 1) 0 (by omega) (by omega)
  · refine k_bipush Ox (v := -5) dX4_filled_12 (by decide) ?_
    refine k_iret0 Ox Rt dX4_filled_14 (Nat.le_of_ble_eq_true rfl) (Nat.le_of_ble_eq_true rfl) rfl ?_
    exact ⟨⟨by rw [filR, if_neg c_9], _, _, rfl⟩, rfl⟩
