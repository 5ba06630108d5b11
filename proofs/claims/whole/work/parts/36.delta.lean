theorem lk_X1_mayTell_f18 : Cond.fieldLink RX1 18 "LieBridges$Delta" "layers" "[I" ∈ wsX1_mayTell := List.mem_of_getElem? (i := 1) rfl
theorem hin_X1_mayTell_X1 : ∀ w ∈ u_ws RX1 TX1 11, w ∈ wsX1_mayTell := fun _ h => List.mem_cons_of_mem _ (List.mem_append_left _ (List.mem_append_right _ h))
theorem lk_X1_mayTell_sX4_at : Cond.static yX4_at ∈ wsX1_mayTell := List.mem_of_getElem? (i := 2) rfl
theorem lk_X1_mayTell_tX4 : Cond.initialized RX4 ∈ wsX1_mayTell := List.mem_of_getElem? (i := 3) rfl
set_option maxHeartbeats 400000 in
set_option maxRecDepth 4000 in
theorem c_X1_mayTell (G : Gx) (d ls gs ly hs tr kn sp sl be : Nat) (fd sg : Nat) (h hd : Nat) (O : Nat → Nat) (B : Nat → Nat → Nat) (a p : Nat) (hO : okP O) (hB : okB B) (ha : a < 6) (hp : p < 6) : Ct G yX1_mayTell wsX1_mayTell { frames := 1, cells := 0, slots := 0, locals := 23 } [.ref d, .ref h, .int (nI a), .int (nI p)] [(d, cO 1 [.ref ls, .ref gs, .ref ly, .ref hs, .ref tr, .ref kn, .ref sp, .ref sl, .ref be, .int (nI fd), .int (nI sg)]), (ly, cI G 6 (rN O)), (h, cO 0 [.ref hd]), (hd, cI G 36 (rN (flC B)))] (fun r wa => r = some (.int (bI (mayT O B a p))) ∧ wa = [(d, cO 1 [.ref ls, .ref gs, .ref ly, .ref hs, .ref tr, .ref kn, .ref sp, .ref sl, .ref be, .int (nI fd), .int (nI sg)]), (ly, cI G 6 (rN O)), (h, cO 0 [.ref hd]), (hd, cI G 36 (rN (flC B)))]) := by
  refine CtN.of [(0, .ref d), (1, .ref h), (2, .int (nI a)), (3, .int (nI p))] (by decide +kernel) rfl rfl rfl rfl ?_
  intro x Ox Rt
  refine k_aload_n Ox dX1_mayTell_0 rfl 0 rfl ?_
  refine k_get Ox 0 rfl rfl hin_X1_mayTell_X1 2 rfl lk_X1_mayTell_f18 rfl rfl dX1_mayTell_1 ?_
  refine k_iload_n Ox dX1_mayTell_4 rfl 3 rfl ?_
  refine k_callSN Ox [1] (c_X4_at G _ _ _ _ (by omega) (by decide)) 2 rfl rfl rfl ⟨rfl, rfl⟩ rfl rfl gX1_mayTell_X4_at_n63 (by decide +kernel) lk_X1_mayTell_sX4_at lk_X1_mayTell_tX4 ⟨(by decide +kernel), (by decide +kernel), (by decide +kernel)⟩ rfl dX1_mayTell_5 (Nat.le_of_ble_eq_true rfl) rfl ⟨Nat.le_of_ble_eq_true rfl, Nat.le_of_ble_eq_true rfl⟩ (fun r wa wb hp => ?_)
  obtain ⟨⟨rfl, rfl⟩, rfl⟩ := hp
  show V x G _ _ _ _ _ (.int _ :: _) [_, _, _, _]
  refine k_iload_n Ox dX1_mayTell_8 rfl 2 rfl ?_
  have ho1 := hO p hp
  have hb1 := hB a p ha hp
  refine k_icmp_eqN Ox 21 dX1_mayTell_9 rfl (by omega) (by omega) (fun c_9 => ?_) (fun c_9 => ?_)
  · refine k_iconst Ox (v := nI 1) dX1_mayTell_21 rfl ?_
    refine k_goto Ox 26 dX1_mayTell_22 rfl ?_
    refine k_zret0 Ox Rt dX1_mayTell_26 (by first | exact bI_nar _ | decide) (Nat.le_of_ble_eq_true rfl) (Nat.le_of_ble_eq_true rfl) rfl ?_
    exact ⟨⟨congrArg (fun z => some (Value.int z)) (by first | (rw [show mayT O B a p = true by simp [mayT]; omega]; rfl) | (rw [show mayT O B a p = false by simp [mayT]; omega]; rfl)), rfl⟩, rfl⟩
  · refine k_aload_n Ox dX1_mayTell_12 rfl 1 rfl ?_
    refine k_iload_n Ox dX1_mayTell_13 rfl 3 rfl ?_
    refine k_iload_n Ox dX1_mayTell_14 rfl 2 rfl ?_
    refine k_callV Ox [2, 3] (c_X0_of G _ _ _ _ _ (by omega) (by omega)) 2 rfl rfl rfl ⟨rfl, rfl⟩ rfl rfl gX1_mayTell_X0_of rfl 2 rfl ⟨rfl, (by decide +kernel), (by decide +kernel), (by decide +kernel)⟩ rfl dX1_mayTell_15 (Nat.le_of_ble_eq_true rfl) rfl ⟨Nat.le_of_ble_eq_true rfl, Nat.le_of_ble_eq_true rfl⟩ (fun r wa wb hp => ?_)
    obtain ⟨⟨rfl, rfl⟩, rfl⟩ := hp
    show V x G _ _ _ _ _ (.int _ :: _) [_, _, _, _]
    refine k_if_leN Ox 25 dX1_mayTell_18 rfl (by omega) (fun c_18 => ?_) (fun c_18 => ?_)
    · refine k_iconst Ox (v := nI 0) dX1_mayTell_25 rfl ?_
      refine k_zret0 Ox Rt dX1_mayTell_26 (by first | exact bI_nar _ | decide) (Nat.le_of_ble_eq_true rfl) (Nat.le_of_ble_eq_true rfl) rfl ?_
      exact ⟨⟨congrArg (fun z => some (Value.int z)) (by first | (rw [show mayT O B a p = true by simp [mayT]; omega]; rfl) | (rw [show mayT O B a p = false by simp [mayT]; omega]; rfl)), rfl⟩, rfl⟩
    · refine k_iconst Ox (v := nI 1) dX1_mayTell_21 rfl ?_
      refine k_goto Ox 26 dX1_mayTell_22 rfl ?_
      refine k_zret0 Ox Rt dX1_mayTell_26 (by first | exact bI_nar _ | decide) (Nat.le_of_ble_eq_true rfl) (Nat.le_of_ble_eq_true rfl) rfl ?_
      exact ⟨⟨congrArg (fun z => some (Value.int z)) (by first | (rw [show mayT O B a p = true by simp [mayT]; omega]; rfl) | (rw [show mayT O B a p = false by simp [mayT]; omega]; rfl)), rfl⟩, rfl⟩
theorem lk_X1_tell_f24 : Cond.fieldLink RX1 24 "LieBridges$Delta" "trusted" "[I" ∈ wsX1_tell := List.mem_of_getElem? (i := 1) rfl
theorem hin_X1_tell_X1 : ∀ w ∈ u_ws RX1 TX1 11, w ∈ wsX1_tell := fun _ h => List.mem_cons_of_mem _ (List.mem_append_left _ (List.mem_append_right _ h))
theorem lk_X1_tell_sX4_hasBit : Cond.static yX4_hasBit ∈ wsX1_tell := List.mem_of_getElem? (i := 19) rfl
theorem lk_X1_tell_tX4 : Cond.initialized RX4 ∈ wsX1_tell := List.mem_of_getElem? (i := 11) rfl
theorem lk_X1_tell_f18 : Cond.fieldLink RX1 18 "LieBridges$Delta" "layers" "[I" ∈ wsX1_tell := List.mem_of_getElem? (i := 2) rfl
theorem lk_X1_tell_sX4_at : Cond.static yX4_at ∈ wsX1_tell := List.mem_of_getElem? (i := 10) rfl
theorem lk_X1_tell_f27 : Cond.fieldLink RX1 27 "LieBridges$Delta" "known" "[I" ∈ wsX1_tell := List.mem_of_getElem? (i := 3) rfl
theorem lk_X1_tell_f43 : Cond.fieldLink RX1 43 "LieBridges$Delta" "fadeDays" "I" ∈ wsX1_tell := List.mem_of_getElem? (i := 4) rfl
set_option maxHeartbeats 400000 in
set_option maxRecDepth 4000 in
theorem c_X1_tell (G : Gx) (d ls gs ly hs tr kn sp sl be : Nat) (fd sg : Nat) (h hd : Nat) (O T K : Nat → Nat) (B : Nat → Nat → Nat) (a b p : Nat) (hO : okP O) (hT : okM T) (hK : okM K) (hB : okB B) (hfd : fd < 10) (ha : a < 6) (hb : b < 6) (hp : p < 6) : Ct G yX1_tell wsX1_tell { frames := 2, cells := 0, slots := 0, locals := 46 } [.ref d, .ref h, .int (nI a), .int (nI b), .int (nI p)] [(d, cO 1 [.ref ls, .ref gs, .ref ly, .ref hs, .ref tr, .ref kn, .ref sp, .ref sl, .ref be, .int (nI fd), .int (nI sg)]), (ly, cI G 6 (rN O)), (tr, cI G 6 (rN T)), (kn, cI G 6 (rN K)), (h, cO 0 [.ref hd]), (hd, cI G 36 (rN (flC B)))] (fun r wa => r = some (.int (bI (tellOK O T K B a b p))) ∧ wa = [(d, cO 1 [.ref ls, .ref gs, .ref ly, .ref hs, .ref tr, .ref kn, .ref sp, .ref sl, .ref be, .int (nI fd), .int (nI sg)]), (ly, cI G 6 (rN O)), (tr, cI G 6 (rN T)), (kn, cI G 6 (rN K)), (h, cO 0 [.ref hd]), (hd, cI G 36 (rN (flC (tellB O T K fd B a b p))))]) := by
  refine CtN.of [(0, .ref d), (1, .ref h), (2, .int (nI a)), (3, .int (nI b)), (4, .int (nI p))] (by decide +kernel) rfl rfl rfl rfl ?_
  intro x Ox Rt
  refine k_aload_n Ox dX1_tell_0 rfl 0 rfl ?_
  refine k_aload_n Ox dX1_tell_1 rfl 1 rfl ?_
  refine k_iload_n Ox dX1_tell_2 rfl 2 rfl ?_
  refine k_iload Ox dX1_tell_3 4 rfl ?_
  refine k_callV Ox [0, 1, 4, 5] (c_X1_mayTell G _ _ _ _ _ _ _ _ _ _ _ _ _ _ _ _ _ _ (hO) (hB) (ha) (hp)) 3 rfl rfl rfl ⟨rfl, rfl⟩ rfl rfl gX1_tell_X1_mayTell rfl 0 rfl ⟨rfl, (by decide +kernel), (by decide +kernel), (by decide +kernel)⟩ rfl dX1_tell_5 (Nat.le_of_ble_eq_true rfl) rfl ⟨Nat.le_of_ble_eq_true rfl, Nat.le_of_ble_eq_true rfl⟩ (fun r wa wb hp => ?_)
  obtain ⟨⟨rfl, rfl⟩, rfl⟩ := hp
  show V x G _ _ _ _ _ (.int _ :: _) [_, _, _, _, _, _]
  refine k_if_eqB Ox 63 dX1_tell_8 rfl (fun c_8 => ?_) (fun c_8 => ?_)
  · have hf : tellOK O T K B a b p = false := by simp [tellOK, c_8]
    refine k_iconst Ox (v := nI 0) dX1_tell_63 rfl ?_
    refine k_istore Ox [(5, _), (0, _), (1, _), (2, _), (3, _), (4, _)] dX1_tell_64 (by decide) rfl ?_
    refine k_iload Ox dX1_tell_66 0 rfl ?_
    refine k_if_eqN Ox 82 dX1_tell_68 rfl (by decide) (fun _ => ?_) (fun h => absurd h (by decide))
    refine k_iload Ox dX1_tell_82 0 rfl ?_
    refine k_zret0 Ox Rt dX1_tell_84 (by first | exact bI_nar _ | decide) (Nat.le_of_ble_eq_true rfl) (Nat.le_of_ble_eq_true rfl) rfl ?_
    first | (refine ⟨⟨by rw [hf]; rfl, ?_⟩, rfl⟩; rw [tellB, hf]; rfl)
  · refine k_aload_n Ox dX1_tell_11 rfl 0 rfl ?_
    refine k_get Ox 0 rfl rfl hin_X1_tell_X1 4 rfl lk_X1_tell_f24 rfl rfl dX1_tell_12 ?_
    refine k_iload_n Ox dX1_tell_15 rfl 3 rfl ?_
    refine k_iload_n Ox dX1_tell_16 rfl 2 rfl ?_
    refine k_callSN Ox [2] (c_X4_hasBit G _ _ _ _ _ (by omega) (by decide) (hT b hb) (ha)) 3 rfl rfl rfl ⟨rfl, rfl⟩ rfl rfl gX1_tell_X4_hasBit_n75 (by decide +kernel) lk_X1_tell_sX4_hasBit lk_X1_tell_tX4 ⟨(by decide +kernel), (by decide +kernel), (by decide +kernel)⟩ rfl dX1_tell_17 (Nat.le_of_ble_eq_true rfl) rfl ⟨Nat.le_of_ble_eq_true rfl, Nat.le_of_ble_eq_true rfl⟩ (fun r wa wb hp => ?_)
    obtain ⟨⟨rfl, rfl⟩, rfl⟩ := hp
    show V x G _ _ _ _ _ (.int _ :: _) [_, _, _, _, _, _]
    refine k_if_eqB Ox 63 dX1_tell_20 rfl (fun c_20 => ?_) (fun c_20 => ?_)
    · have hf : tellOK O T K B a b p = false := by simp [tellOK, c_20]
      refine k_iconst Ox (v := nI 0) dX1_tell_63 rfl ?_
      refine k_istore Ox [(5, _), (0, _), (1, _), (2, _), (3, _), (4, _)] dX1_tell_64 (by decide) rfl ?_
      refine k_iload Ox dX1_tell_66 0 rfl ?_
      refine k_if_eqN Ox 82 dX1_tell_68 rfl (by decide) (fun _ => ?_) (fun h => absurd h (by decide))
      refine k_iload Ox dX1_tell_82 0 rfl ?_
      refine k_zret0 Ox Rt dX1_tell_84 (by first | exact bI_nar _ | decide) (Nat.le_of_ble_eq_true rfl) (Nat.le_of_ble_eq_true rfl) rfl ?_
      first | (refine ⟨⟨by rw [hf]; rfl, ?_⟩, rfl⟩; rw [tellB, hf]; rfl)
    · refine k_aload_n Ox dX1_tell_23 rfl 0 rfl ?_
      refine k_get Ox 0 rfl rfl hin_X1_tell_X1 2 rfl lk_X1_tell_f18 rfl rfl dX1_tell_24 ?_
      refine k_iload Ox dX1_tell_27 4 rfl ?_
      refine k_callSN Ox [1] (c_X4_at G _ _ _ _ (by omega) (by decide)) 2 rfl rfl rfl ⟨rfl, rfl⟩ rfl rfl gX1_tell_X4_at_n63 (by decide +kernel) lk_X1_tell_sX4_at lk_X1_tell_tX4 ⟨(by decide +kernel), (by decide +kernel), (by decide +kernel)⟩ rfl dX1_tell_29 (Nat.le_of_ble_eq_true rfl) rfl ⟨Nat.le_of_ble_eq_true rfl, Nat.le_of_ble_eq_true rfl⟩ (fun r wa wb hp => ?_)
      obtain ⟨⟨rfl, rfl⟩, rfl⟩ := hp
      show V x G _ _ _ _ _ (.int _ :: _) [_, _, _, _, _, _]
      refine k_iload_n Ox dX1_tell_32 rfl 3 rfl ?_
      have ho1 := hO p hp
      have hb1 := hB b p hb hp
      refine k_icmp_eqN Ox 63 dX1_tell_33 rfl (by omega) (by omega) (fun c_33 => ?_) (fun c_33 => ?_)
      · have hf : tellOK O T K B a b p = false := by simp [tellOK, c_33]
        refine k_iconst Ox (v := nI 0) dX1_tell_63 rfl ?_
        refine k_istore Ox [(5, _), (0, _), (1, _), (2, _), (3, _), (4, _)] dX1_tell_64 (by decide) rfl ?_
        refine k_iload Ox dX1_tell_66 0 rfl ?_
        refine k_if_eqN Ox 82 dX1_tell_68 rfl (by decide) (fun _ => ?_) (fun h => absurd h (by decide))
        refine k_iload Ox dX1_tell_82 0 rfl ?_
        refine k_zret0 Ox Rt dX1_tell_84 (by first | exact bI_nar _ | decide) (Nat.le_of_ble_eq_true rfl) (Nat.le_of_ble_eq_true rfl) rfl ?_
        first | (refine ⟨⟨by rw [hf]; rfl, ?_⟩, rfl⟩; rw [tellB, hf]; rfl)
      · refine k_aload_n Ox dX1_tell_36 rfl 0 rfl ?_
        refine k_get Ox 0 rfl rfl hin_X1_tell_X1 5 rfl lk_X1_tell_f27 rfl rfl dX1_tell_37 ?_
        refine k_iload_n Ox dX1_tell_40 rfl 3 rfl ?_
        refine k_iload Ox dX1_tell_41 4 rfl ?_
        refine k_callSN Ox [3] (c_X4_hasBit G _ _ _ _ _ (by omega) (by decide) (hK b hb) (hp)) 3 rfl rfl rfl ⟨rfl, rfl⟩ rfl rfl gX1_tell_X4_hasBit_n75 (by decide +kernel) lk_X1_tell_sX4_hasBit lk_X1_tell_tX4 ⟨(by decide +kernel), (by decide +kernel), (by decide +kernel)⟩ rfl dX1_tell_43 (Nat.le_of_ble_eq_true rfl) rfl ⟨Nat.le_of_ble_eq_true rfl, Nat.le_of_ble_eq_true rfl⟩ (fun r wa wb hp => ?_)
        obtain ⟨⟨rfl, rfl⟩, rfl⟩ := hp
        show V x G _ _ _ _ _ (.int _ :: _) [_, _, _, _, _, _]
        refine k_if_neB Ox 63 dX1_tell_46 rfl (fun c_46 => ?_) (fun c_46 => ?_)
        · have hf : tellOK O T K B a b p = false := by simp [tellOK, c_46]
          refine k_iconst Ox (v := nI 0) dX1_tell_63 rfl ?_
          refine k_istore Ox [(5, _), (0, _), (1, _), (2, _), (3, _), (4, _)] dX1_tell_64 (by decide) rfl ?_
          refine k_iload Ox dX1_tell_66 0 rfl ?_
          refine k_if_eqN Ox 82 dX1_tell_68 rfl (by decide) (fun _ => ?_) (fun h => absurd h (by decide))
          refine k_iload Ox dX1_tell_82 0 rfl ?_
          refine k_zret0 Ox Rt dX1_tell_84 (by first | exact bI_nar _ | decide) (Nat.le_of_ble_eq_true rfl) (Nat.le_of_ble_eq_true rfl) rfl ?_
          first | (refine ⟨⟨by rw [hf]; rfl, ?_⟩, rfl⟩; rw [tellB, hf]; rfl)
        · refine k_aload_n Ox dX1_tell_49 rfl 1 rfl ?_
          refine k_iload Ox dX1_tell_50 4 rfl ?_
          refine k_iload_n Ox dX1_tell_52 rfl 3 rfl ?_
          refine k_callV Ox [4, 5] (c_X0_of G _ _ _ _ _ (by omega) (by omega)) 2 rfl rfl rfl ⟨rfl, rfl⟩ rfl rfl gX1_tell_X0_of rfl 4 rfl ⟨rfl, (by decide +kernel), (by decide +kernel), (by decide +kernel)⟩ rfl dX1_tell_53 (Nat.le_of_ble_eq_true rfl) rfl ⟨Nat.le_of_ble_eq_true rfl, Nat.le_of_ble_eq_true rfl⟩ (fun r wa wb hp => ?_)
          obtain ⟨⟨rfl, rfl⟩, rfl⟩ := hp
          show V x G _ _ _ _ _ (.int _ :: _) [_, _, _, _, _, _]
          refine k_if_neN Ox 63 dX1_tell_56 rfl (by omega) (fun c_56 => ?_) (fun c_56 => ?_)
          · have hf : tellOK O T K B a b p = false := by simp [tellOK]; omega
            refine k_iconst Ox (v := nI 0) dX1_tell_63 rfl ?_
            refine k_istore Ox [(5, _), (0, _), (1, _), (2, _), (3, _), (4, _)] dX1_tell_64 (by decide) rfl ?_
            refine k_iload Ox dX1_tell_66 0 rfl ?_
            refine k_if_eqN Ox 82 dX1_tell_68 rfl (by decide) (fun _ => ?_) (fun h => absurd h (by decide))
            refine k_iload Ox dX1_tell_82 0 rfl ?_
            refine k_zret0 Ox Rt dX1_tell_84 (by first | exact bI_nar _ | decide) (Nat.le_of_ble_eq_true rfl) (Nat.le_of_ble_eq_true rfl) rfl ?_
            first | (refine ⟨⟨by rw [hf]; rfl, ?_⟩, rfl⟩; rw [tellB, hf]; rfl)
          · have hf : tellOK O T K B a b p = true := by simp [tellOK, c_8, c_20, c_46, c_56]; exact c_33
            refine k_iconst Ox (v := nI 1) dX1_tell_59 rfl ?_
            refine k_goto Ox 64 dX1_tell_60 rfl ?_
            refine k_istore Ox [(5, _), (0, _), (1, _), (2, _), (3, _), (4, _)] dX1_tell_64 (by decide) rfl ?_
            refine k_iload Ox dX1_tell_66 0 rfl ?_
            refine k_if_eqN Ox 82 dX1_tell_68 rfl (by decide) (fun h => absurd h (by decide)) (fun _ => ?_)
            refine k_aload_n Ox dX1_tell_71 rfl 2 rfl ?_
            refine k_iload Ox dX1_tell_72 5 rfl ?_
            refine k_iload_n Ox dX1_tell_74 rfl 4 rfl ?_
            refine k_aload_n Ox dX1_tell_75 rfl 1 rfl ?_
            refine k_get Ox 0 rfl rfl hin_X1_tell_X1 9 rfl lk_X1_tell_f43 rfl rfl dX1_tell_76 ?_
            refine k_callV Ox [4, 5] (c_X0_set G _ _ _ _ _ _ (by omega) (by omega)) 3 rfl rfl rfl ⟨rfl, rfl⟩ rfl rfl gX1_tell_X0_set rfl 4 rfl ⟨rfl, (by decide +kernel), (by decide +kernel), (by decide +kernel)⟩ rfl dX1_tell_79 (Nat.le_of_ble_eq_true rfl) rfl ⟨Nat.le_of_ble_eq_true rfl, Nat.le_of_ble_eq_true rfl⟩ (fun r wa wb hp => ?_)
            obtain ⟨⟨rfl, rfl⟩, rfl⟩ := hp
            show V x G _ _ _ _ _ _ [_, _, _, _, _, _]
            refine k_iload Ox dX1_tell_82 0 rfl ?_
            refine k_zret0 Ox Rt dX1_tell_84 (by first | exact bI_nar _ | decide) (Nat.le_of_ble_eq_true rfl) (Nat.le_of_ble_eq_true rfl) rfl ?_
            first | (refine ⟨⟨by rw [hf]; rfl, ?_⟩, rfl⟩; rw [tellB, hf]; rfl)
theorem lk_X1_deny_f24 : Cond.fieldLink RX1 24 "LieBridges$Delta" "trusted" "[I" ∈ wsX1_deny := List.mem_of_getElem? (i := 1) rfl
theorem hin_X1_deny_X1 : ∀ w ∈ u_ws RX1 TX1 11, w ∈ wsX1_deny := fun _ h => List.mem_cons_of_mem _ (List.mem_append_left _ (List.mem_append_right _ h))
theorem lk_X1_deny_sX4_hasBit : Cond.static yX4_hasBit ∈ wsX1_deny := List.mem_of_getElem? (i := 2) rfl
theorem lk_X1_deny_tX4 : Cond.initialized RX4 ∈ wsX1_deny := List.mem_of_getElem? (i := 3) rfl
set_option maxHeartbeats 400000 in
set_option maxRecDepth 4000 in
theorem c_X1_deny (G : Gx) (d ls gs ly hs tr kn sp sl be : Nat) (fd sg : Nat) (h hd : Nat) (T : Nat → Nat) (B : Nat → Nat → Nat) (a b p : Nat) (hT : okM T) (hB : okB B) (ha : a < 6) (hb : b < 6) (hp : p < 6) : Ct G yX1_deny wsX1_deny { frames := 2, cells := 0, slots := 0, locals := 45 } [.ref d, .ref h, .int (nI a), .int (nI b), .int (nI p)] [(d, cO 1 [.ref ls, .ref gs, .ref ly, .ref hs, .ref tr, .ref kn, .ref sp, .ref sl, .ref be, .int (nI fd), .int (nI sg)]), (tr, cI G 6 (rN T)), (h, cO 0 [.ref hd]), (hd, cI G 36 (rN (flC B)))] (fun r wa => r = some (.int (bI (denyOK T B a b p))) ∧ wa = [(d, cO 1 [.ref ls, .ref gs, .ref ly, .ref hs, .ref tr, .ref kn, .ref sp, .ref sl, .ref be, .int (nI fd), .int (nI sg)]), (tr, cI G 6 (rN T)), (h, cO 0 [.ref hd]), (hd, cI G 36 (rN (flC (denyB T B a b p))))]) := by
  refine CtN.of [(0, .ref d), (1, .ref h), (2, .int (nI a)), (3, .int (nI b)), (4, .int (nI p))] (by decide +kernel) rfl rfl rfl rfl ?_
  intro x Ox Rt
  refine k_aload_n Ox dX1_deny_0 rfl 0 rfl ?_
  refine k_get Ox 0 rfl rfl hin_X1_deny_X1 4 rfl lk_X1_deny_f24 rfl rfl dX1_deny_1 ?_
  refine k_iload_n Ox dX1_deny_4 rfl 3 rfl ?_
  refine k_iload_n Ox dX1_deny_5 rfl 2 rfl ?_
  refine k_callSN Ox [1] (c_X4_hasBit G _ _ _ _ _ (by omega) (by decide) (hT b hb) (ha)) 3 rfl rfl rfl ⟨rfl, rfl⟩ rfl rfl gX1_deny_X4_hasBit_n75 (by decide +kernel) lk_X1_deny_sX4_hasBit lk_X1_deny_tX4 ⟨(by decide +kernel), (by decide +kernel), (by decide +kernel)⟩ rfl dX1_deny_6 (Nat.le_of_ble_eq_true rfl) rfl ⟨Nat.le_of_ble_eq_true rfl, Nat.le_of_ble_eq_true rfl⟩ (fun r wa wb hp => ?_)
  obtain ⟨⟨rfl, rfl⟩, rfl⟩ := hp
  show V x G _ _ _ _ _ (.int _ :: _) [_, _, _, _]
  refine k_if_eqB Ox 26 dX1_deny_9 rfl (fun c_9 => ?_) (fun c_9 => ?_)
  · have hf : denyOK T B a b p = false := by simp [denyOK, c_9]
    refine k_iconst Ox (v := nI 0) dX1_deny_26 rfl ?_
    refine k_istore Ox [(5, _), (0, _), (1, _), (2, _), (3, _), (4, _)] dX1_deny_27 (by decide) rfl ?_
    refine k_iload Ox dX1_deny_29 0 rfl ?_
    refine k_if_eqN Ox 42 dX1_deny_31 rfl (by decide) (fun _ => ?_) (fun h => absurd h (by decide))
    refine k_iload Ox dX1_deny_42 0 rfl ?_
    refine k_zret0 Ox Rt dX1_deny_44 (by first | exact bI_nar _ | decide) (Nat.le_of_ble_eq_true rfl) (Nat.le_of_ble_eq_true rfl) rfl ?_
    first | (refine ⟨⟨by rw [hf]; rfl, ?_⟩, rfl⟩; rw [denyB, hf]; rfl)
  · refine k_aload_n Ox dX1_deny_12 rfl 1 rfl ?_
    refine k_iload Ox dX1_deny_13 4 rfl ?_
    refine k_iload_n Ox dX1_deny_15 rfl 3 rfl ?_
    refine k_callV Ox [2, 3] (c_X0_of G _ _ _ _ _ (by omega) (by omega)) 2 rfl rfl rfl ⟨rfl, rfl⟩ rfl rfl gX1_deny_X0_of rfl 2 rfl ⟨rfl, (by decide +kernel), (by decide +kernel), (by decide +kernel)⟩ rfl dX1_deny_16 (Nat.le_of_ble_eq_true rfl) rfl ⟨Nat.le_of_ble_eq_true rfl, Nat.le_of_ble_eq_true rfl⟩ (fun r wa wb hp => ?_)
    obtain ⟨⟨rfl, rfl⟩, rfl⟩ := hp
    show V x G _ _ _ _ _ (.int _ :: _) [_, _, _, _]
    have hb1 := hB b p hb hp
    refine k_if_leN Ox 26 dX1_deny_19 rfl (by omega) (fun c_19 => ?_) (fun c_19 => ?_)
    · have hf : denyOK T B a b p = false := by simp [denyOK]; omega
      refine k_iconst Ox (v := nI 0) dX1_deny_26 rfl ?_
      refine k_istore Ox [(5, _), (0, _), (1, _), (2, _), (3, _), (4, _)] dX1_deny_27 (by decide) rfl ?_
      refine k_iload Ox dX1_deny_29 0 rfl ?_
      refine k_if_eqN Ox 42 dX1_deny_31 rfl (by decide) (fun _ => ?_) (fun h => absurd h (by decide))
      refine k_iload Ox dX1_deny_42 0 rfl ?_
      refine k_zret0 Ox Rt dX1_deny_44 (by first | exact bI_nar _ | decide) (Nat.le_of_ble_eq_true rfl) (Nat.le_of_ble_eq_true rfl) rfl ?_
      first | (refine ⟨⟨by rw [hf]; rfl, ?_⟩, rfl⟩; rw [denyB, hf]; rfl)
    · have hf : denyOK T B a b p = true := by simp [denyOK, c_9]; omega
      refine k_iconst Ox (v := nI 1) dX1_deny_22 rfl ?_
      refine k_goto Ox 27 dX1_deny_23 rfl ?_
      refine k_istore Ox [(5, _), (0, _), (1, _), (2, _), (3, _), (4, _)] dX1_deny_27 (by decide) rfl ?_
      refine k_iload Ox dX1_deny_29 0 rfl ?_
      refine k_if_eqN Ox 42 dX1_deny_31 rfl (by decide) (fun h => absurd h (by decide)) (fun _ => ?_)
      refine k_aload_n Ox dX1_deny_34 rfl 2 rfl ?_
      refine k_iload Ox dX1_deny_35 5 rfl ?_
      refine k_iload_n Ox dX1_deny_37 rfl 4 rfl ?_
      refine k_iconst Ox (v := nI 0) dX1_deny_38 rfl ?_
      refine k_callV Ox [2, 3] (c_X0_set G _ _ _ _ _ _ (by omega) (by omega)) 3 rfl rfl rfl ⟨rfl, rfl⟩ rfl rfl gX1_deny_X0_set rfl 2 rfl ⟨rfl, (by decide +kernel), (by decide +kernel), (by decide +kernel)⟩ rfl dX1_deny_39 (Nat.le_of_ble_eq_true rfl) rfl ⟨Nat.le_of_ble_eq_true rfl, Nat.le_of_ble_eq_true rfl⟩ (fun r wa wb hp => ?_)
      obtain ⟨⟨rfl, rfl⟩, rfl⟩ := hp
      show V x G _ _ _ _ _ _ [_, _, _, _]
      refine k_iload Ox dX1_deny_42 0 rfl ?_
      refine k_zret0 Ox Rt dX1_deny_44 (by first | exact bI_nar _ | decide) (Nat.le_of_ble_eq_true rfl) (Nat.le_of_ble_eq_true rfl) rfl ?_
      first | (refine ⟨⟨by rw [hf]; rfl, ?_⟩, rfl⟩; rw [denyB, hf]; rfl)
theorem lk_X1_across_sX4_within : Cond.static yX4_within ∈ wsX1_across := List.mem_of_getElem? (i := 3) rfl
theorem lk_X1_across_tX4 : Cond.initialized RX4 ∈ wsX1_across := List.mem_of_getElem? (i := 4) rfl
theorem lk_X1_across_f9 : Cond.fieldLink RX1 9 "LieBridges$Delta" "lessers" "[I" ∈ wsX1_across := List.mem_of_getElem? (i := 1) rfl
theorem hin_X1_across_X1 : ∀ w ∈ u_ws RX1 TX1 11, w ∈ wsX1_across := fun _ h => List.mem_cons_of_mem _ (List.mem_append_right _ h)
theorem lk_X1_across_sX4_at : Cond.static yX4_at ∈ wsX1_across := List.mem_of_getElem? (i := 6) rfl
theorem lk_X1_across_f15 : Cond.fieldLink RX1 15 "LieBridges$Delta" "greaters" "[I" ∈ wsX1_across := List.mem_of_getElem? (i := 2) rfl
set_option maxHeartbeats 400000 in
set_option maxRecDepth 4000 in
theorem c_X1_across (G : Gx) (d ls gs ly hs tr kn sp sl be : Nat) (fd sg : Nat) (L Gr : Nat → Nat) (p i : Nat) (hL : okP L) (hG : okP Gr) (hp : p < 100) (hi : i < 6) : Ct G yX1_across wsX1_across { frames := 1, cells := 0, slots := 0, locals := 22 } [.ref d, .int (nI p), .int (nI i)] [(d, cO 1 [.ref ls, .ref gs, .ref ly, .ref hs, .ref tr, .ref kn, .ref sp, .ref sl, .ref be, .int (nI fd), .int (nI sg)]), (ls, cI G 6 (rN L)), (gs, cI G 6 (rN Gr))] (fun r wa => r = some (.int (acr L Gr p i)) ∧ wa = [(d, cO 1 [.ref ls, .ref gs, .ref ly, .ref hs, .ref tr, .ref kn, .ref sp, .ref sl, .ref be, .int (nI fd), .int (nI sg)]), (ls, cI G 6 (rN L)), (gs, cI G 6 (rN Gr))]) := by
  refine CtN.of [(0, .ref d), (1, .int (nI p)), (2, .int (nI i))] (by decide +kernel) rfl rfl rfl rfl ?_
  intro x Ox Rt
  refine k_iload_n Ox dX1_across_0 rfl 1 rfl ?_
  refine k_iconst Ox (v := nI 0) dX1_across_1 rfl ?_
  refine k_iconst Ox (v := nI 5) dX1_across_2 rfl ?_
  refine k_callSN Ox [] (c_X4_within G _ _ _ ) 3 rfl rfl rfl ⟨rfl, rfl⟩ rfl rfl gX1_across_X4_within_n79 (by decide +kernel) lk_X1_across_sX4_within lk_X1_across_tX4 ⟨(by decide +kernel), (by decide +kernel), (by decide +kernel)⟩ rfl dX1_across_3 (Nat.le_of_ble_eq_true rfl) rfl ⟨Nat.le_of_ble_eq_true rfl, Nat.le_of_ble_eq_true rfl⟩ (fun r wa wb hp => ?_)
  obtain ⟨⟨rfl, rfl⟩, rfl⟩ := hp
  show V x G _ _ _ _ _ (.int _ :: _) [_, _, _]
  change V x G _ _ _ _ _ (.int (bI (inR (0) (5) _)) :: _) _
  refine k_if_neB Ox 11 dX1_across_6 rfl (fun c_6 => ?_) (fun c_6 => ?_)
  · have hp6 : p < 6 := (in6_lt c_6 (by omega))
    refine k_aload_n Ox dX1_across_11 rfl 0 rfl ?_
    refine k_get Ox 0 rfl rfl hin_X1_across_X1 0 rfl lk_X1_across_f9 rfl rfl dX1_across_12 ?_
    refine k_iload_n Ox dX1_across_15 rfl 1 rfl ?_
    refine k_callSN Ox [1] (c_X4_at G _ _ _ _ (by omega) (by decide)) 2 rfl rfl rfl ⟨rfl, rfl⟩ rfl rfl gX1_across_X4_at_n63 (by decide +kernel) lk_X1_across_sX4_at lk_X1_across_tX4 ⟨(by decide +kernel), (by decide +kernel), (by decide +kernel)⟩ rfl dX1_across_16 (Nat.le_of_ble_eq_true rfl) rfl ⟨Nat.le_of_ble_eq_true rfl, Nat.le_of_ble_eq_true rfl⟩ (fun r wa wb hp => ?_)
    obtain ⟨⟨rfl, rfl⟩, rfl⟩ := hp
    show V x G _ _ _ _ _ (.int _ :: _) [_, _, _]
    have hl1 := hL p hp6
    have hg1 := hG p hp6
    refine k_iload_n Ox dX1_across_19 rfl 2 rfl ?_
    refine k_icmp_neN Ox 32 dX1_across_20 rfl (by omega) (by omega) (fun c_20 => ?_) (fun c_20 => ?_)
    · refine k_aload_n Ox dX1_across_32 rfl 0 rfl ?_
      refine k_get Ox 0 rfl rfl hin_X1_across_X1 1 rfl lk_X1_across_f15 rfl rfl dX1_across_33 ?_
      refine k_iload_n Ox dX1_across_36 rfl 1 rfl ?_
      refine k_callSN Ox [2] (c_X4_at G _ _ _ _ (by omega) (by decide)) 2 rfl rfl rfl ⟨rfl, rfl⟩ rfl rfl gX1_across_X4_at_n63 (by decide +kernel) lk_X1_across_sX4_at lk_X1_across_tX4 ⟨(by decide +kernel), (by decide +kernel), (by decide +kernel)⟩ rfl dX1_across_37 (Nat.le_of_ble_eq_true rfl) rfl ⟨Nat.le_of_ble_eq_true rfl, Nat.le_of_ble_eq_true rfl⟩ (fun r wa wb hp => ?_)
      obtain ⟨⟨rfl, rfl⟩, rfl⟩ := hp
      show V x G _ _ _ _ _ (.int _ :: _) [_, _, _]
      refine k_iload_n Ox dX1_across_40 rfl 2 rfl ?_
      refine k_icmp_neN Ox 55 dX1_across_41 rfl (by omega) (by omega) (fun c_41 => ?_) (fun c_41 => ?_)
      · refine k_iconst Ox (v := -1) dX1_across_55 (by decide) ?_
        refine k_iret0 Ox Rt dX1_across_56 (Nat.le_of_ble_eq_true rfl) (Nat.le_of_ble_eq_true rfl) rfl ?_
        exact ⟨⟨congrArg (fun z => some (Value.int z)) (by unfold acr; first | (rw [if_pos hp6, if_pos c_20]; done) | (rw [if_pos hp6, if_neg c_20, if_pos c_41]; done) | (rw [if_pos hp6, if_neg c_20, if_neg c_41]; done) | (rw [if_neg hp6]; done)), rfl⟩, rfl⟩
      · refine k_aload_n Ox dX1_across_44 rfl 0 rfl ?_
        refine k_get Ox 0 rfl rfl hin_X1_across_X1 0 rfl lk_X1_across_f9 rfl rfl dX1_across_45 ?_
        refine k_iload_n Ox dX1_across_48 rfl 1 rfl ?_
        refine k_callSN Ox [1] (c_X4_at G _ _ _ _ (by omega) (by decide)) 2 rfl rfl rfl ⟨rfl, rfl⟩ rfl rfl gX1_across_X4_at_n63 (by decide +kernel) lk_X1_across_sX4_at lk_X1_across_tX4 ⟨(by decide +kernel), (by decide +kernel), (by decide +kernel)⟩ rfl dX1_across_49 (Nat.le_of_ble_eq_true rfl) rfl ⟨Nat.le_of_ble_eq_true rfl, Nat.le_of_ble_eq_true rfl⟩ (fun r wa wb hp => ?_)
        obtain ⟨⟨rfl, rfl⟩, rfl⟩ := hp
        show V x G _ _ _ _ _ (.int _ :: _) [_, _, _]
        refine k_goto Ox 56 dX1_across_52 rfl ?_
        refine k_iret0 Ox Rt dX1_across_56 (Nat.le_of_ble_eq_true rfl) (Nat.le_of_ble_eq_true rfl) rfl ?_
        exact ⟨⟨congrArg (fun z => some (Value.int z)) (by unfold acr; first | (rw [if_pos hp6, if_pos c_20]; done) | (rw [if_pos hp6, if_neg c_20, if_pos c_41]; done) | (rw [if_pos hp6, if_neg c_20, if_neg c_41]; done) | (rw [if_neg hp6]; done)), rfl⟩, rfl⟩
    · refine k_aload_n Ox dX1_across_23 rfl 0 rfl ?_
      refine k_get Ox 0 rfl rfl hin_X1_across_X1 1 rfl lk_X1_across_f15 rfl rfl dX1_across_24 ?_
      refine k_iload_n Ox dX1_across_27 rfl 1 rfl ?_
      refine k_callSN Ox [2] (c_X4_at G _ _ _ _ (by omega) (by decide)) 2 rfl rfl rfl ⟨rfl, rfl⟩ rfl rfl gX1_across_X4_at_n63 (by decide +kernel) lk_X1_across_sX4_at lk_X1_across_tX4 ⟨(by decide +kernel), (by decide +kernel), (by decide +kernel)⟩ rfl dX1_across_28 (Nat.le_of_ble_eq_true rfl) rfl ⟨Nat.le_of_ble_eq_true rfl, Nat.le_of_ble_eq_true rfl⟩ (fun r wa wb hp => ?_)
      obtain ⟨⟨rfl, rfl⟩, rfl⟩ := hp
      show V x G _ _ _ _ _ (.int _ :: _) [_, _, _]
      refine k_iret0 Ox Rt dX1_across_31 (Nat.le_of_ble_eq_true rfl) (Nat.le_of_ble_eq_true rfl) rfl ?_
      exact ⟨⟨congrArg (fun z => some (Value.int z)) (by unfold acr; first | (rw [if_pos hp6, if_pos c_20]; done) | (rw [if_pos hp6, if_neg c_20, if_pos c_41]; done) | (rw [if_pos hp6, if_neg c_20, if_neg c_41]; done) | (rw [if_neg hp6]; done)), rfl⟩, rfl⟩
  · have hp6 : ¬ p < 6 := fun z => absurd (in6_nI z) (by rw [c_6]; decide)
    refine k_iconst Ox (v := -1) dX1_across_9 (by decide) ?_
    refine k_iret0 Ox Rt dX1_across_10 (Nat.le_of_ble_eq_true rfl) (Nat.le_of_ble_eq_true rfl) rfl ?_
    exact ⟨⟨congrArg (fun z => some (Value.int z)) (by unfold acr; first | (rw [if_pos hp6, if_pos c_20]; done) | (rw [if_pos hp6, if_neg c_20, if_pos c_41]; done) | (rw [if_pos hp6, if_neg c_20, if_neg c_41]; done) | (rw [if_neg hp6]; done)), rfl⟩, rfl⟩
theorem lk_X1_lay_sX4_put : Cond.static yX4_put ∈ wsX1_lay := List.mem_of_getElem? (i := 6) rfl
theorem lk_X1_lay_tX4 : Cond.initialized RX4 ∈ wsX1_lay := List.mem_of_getElem? (i := 7) rfl
theorem lk_X1_lay_f18 : Cond.fieldLink RX1 18 "LieBridges$Delta" "layers" "[I" ∈ wsX1_lay := List.mem_of_getElem? (i := 3) rfl
theorem hin_X1_lay_X1 : ∀ w ∈ u_ws RX1 TX1 11, w ∈ wsX1_lay := fun _ h => List.mem_cons_of_mem _ (List.mem_append_left _ (List.mem_append_right _ h))
theorem lk_X1_lay_f39 : Cond.fieldLink RX1 39 "LieBridges$Delta" "beliefs" "LLieBridges$Beliefs;" ∈ wsX1_lay := List.mem_of_getElem? (i := 4) rfl
theorem lk_X1_lay_f27 : Cond.fieldLink RX1 27 "LieBridges$Delta" "known" "[I" ∈ wsX1_lay := List.mem_of_getElem? (i := 5) rfl
theorem lk_X1_lay_sX4_putBit : Cond.static yX4_putBit ∈ wsX1_lay := List.mem_of_getElem? (i := 15) rfl
theorem lk_X1_lay_f15 : Cond.fieldLink RX1 15 "LieBridges$Delta" "greaters" "[I" ∈ wsX1_lay := List.mem_of_getElem? (i := 2) rfl
theorem lk_X1_lay_f9 : Cond.fieldLink RX1 9 "LieBridges$Delta" "lessers" "[I" ∈ wsX1_lay := List.mem_of_getElem? (i := 1) rfl
set_option maxHeartbeats 400000 in
set_option maxRecDepth 4000 in
theorem c_X1_lay (G : Gx) (d ls gs ly hs tr kn sp sl be : Nat) (fd sg : Nat) (bd : Nat) (L Gr O K : Nat → Nat) (B : Nat → Nat → Nat) (p i j w : Nat) (hK : okM K) (hp : p < 6) (hi : i < 6) (hj : j < 6) (hw : w < 6) : Ct G yX1_lay wsX1_lay { frames := 2, cells := 0, slots := 0, locals := 46 } [.ref d, .int (nI p), .int (nI i), .int (nI j), .int (nI w)] [(d, cO 1 [.ref ls, .ref gs, .ref ly, .ref hs, .ref tr, .ref kn, .ref sp, .ref sl, .ref be, .int (nI fd), .int (nI sg)]), (ls, cI G 6 (rN L)), (gs, cI G 6 (rN Gr)), (ly, cI G 6 (rN O)), (kn, cI G 6 (rN K)), (be, cO 0 [.ref bd]), (bd, cI G 36 (rN (flC B)))] (fun r wa => r = none ∧ wa = [(d, cO 1 [.ref ls, .ref gs, .ref ly, .ref hs, .ref tr, .ref kn, .ref sp, .ref sl, .ref be, .int (nI fd), .int (nI sg)]), (ls, cI G 6 (rN (va_up L p (if i < j then i else j)))), (gs, cI G 6 (rN (va_up Gr p (if i < j then j else i)))), (ly, cI G 6 (rN (va_up O p w))), (kn, cI G 6 (rN (clrK K p))), (be, cO 0 [.ref bd]), (bd, cI G 36 (rN (flC (wipeB B p))))]) := by
  refine CtN.of [(0, .ref d), (1, .int (nI p)), (2, .int (nI i)), (3, .int (nI j)), (4, .int (nI w))] (by decide +kernel) rfl rfl rfl rfl ?_
  intro x Ox Rt
  have L15 : ∀ (v : Nat), v = (if i < j then i else j) → V x G 6 0 0 15 [(0, .ref d), (1, .int (nI p)), (2, .int (nI i)), (3, .int (nI j)), (4, .int (nI w))] [.int (nI v), .int (nI p), .ref ls] [(d, cO 1 [.ref ls, .ref gs, .ref ly, .ref hs, .ref tr, .ref kn, .ref sp, .ref sl, .ref be, .int (nI fd), .int (nI sg)]), (ls, cI G 6 (rN L)), (gs, cI G 6 (rN Gr)), (ly, cI G 6 (rN O)), (kn, cI G 6 (rN K)), (be, cO 0 [.ref bd]), (bd, cI G 36 (rN (flC B)))] := by
    intro v hv
    refine k_callSN Ox [1] (c_X4_put G _ _ _ _ _ (by omega) (by decide)) 3 rfl rfl rfl ⟨rfl, rfl⟩ rfl rfl gX1_lay_X4_put_n51 (by decide +kernel) lk_X1_lay_sX4_put lk_X1_lay_tX4 ⟨(by decide +kernel), (by decide +kernel), (by decide +kernel)⟩ rfl dX1_lay_15 (Nat.le_of_ble_eq_true rfl) rfl ⟨Nat.le_of_ble_eq_true rfl, Nat.le_of_ble_eq_true rfl⟩ (fun r wa wb hp => ?_)
    obtain ⟨⟨rfl, rfl⟩, rfl⟩ := hp
    show V x G _ _ _ _ _ _ [_, _, _, _, _, _, _]
    rw [rN_upd]
    have L33 : ∀ (u : Nat), u = (if i < j then j else i) → V x G 6 0 0 33 [(0, .ref d), (1, .int (nI p)), (2, .int (nI i)), (3, .int (nI j)), (4, .int (nI w))] [.int (nI u), .int (nI p), .ref gs] [(d, cO 1 [.ref ls, .ref gs, .ref ly, .ref hs, .ref tr, .ref kn, .ref sp, .ref sl, .ref be, .int (nI fd), .int (nI sg)]), (ls, cI G 6 (rN (va_up L p v))), (gs, cI G 6 (rN Gr)), (ly, cI G 6 (rN O)), (kn, cI G 6 (rN K)), (be, cO 0 [.ref bd]), (bd, cI G 36 (rN (flC B)))] := by
      intro u hu
      refine k_callSN Ox [2] (c_X4_put G _ _ _ _ _ (by omega) (by decide)) 3 rfl rfl rfl ⟨rfl, rfl⟩ rfl rfl gX1_lay_X4_put_n51 (by decide +kernel) lk_X1_lay_sX4_put lk_X1_lay_tX4 ⟨(by decide +kernel), (by decide +kernel), (by decide +kernel)⟩ rfl dX1_lay_33 (Nat.le_of_ble_eq_true rfl) rfl ⟨Nat.le_of_ble_eq_true rfl, Nat.le_of_ble_eq_true rfl⟩ (fun r wa wb hp => ?_)
      obtain ⟨⟨rfl, rfl⟩, rfl⟩ := hp
      show V x G _ _ _ _ _ _ [_, _, _, _, _, _, _]
      rw [rN_upd]
      refine k_aload_n Ox dX1_lay_36 rfl 0 rfl ?_
      refine k_get Ox 0 rfl rfl hin_X1_lay_X1 2 rfl lk_X1_lay_f18 rfl rfl dX1_lay_37 ?_
      refine k_iload_n Ox dX1_lay_40 rfl 1 rfl ?_
      refine k_iload Ox dX1_lay_41 4 rfl ?_
      refine k_callSN Ox [3] (c_X4_put G _ _ _ _ _ (by omega) (by decide)) 3 rfl rfl rfl ⟨rfl, rfl⟩ rfl rfl gX1_lay_X4_put_n51 (by decide +kernel) lk_X1_lay_sX4_put lk_X1_lay_tX4 ⟨(by decide +kernel), (by decide +kernel), (by decide +kernel)⟩ rfl dX1_lay_43 (Nat.le_of_ble_eq_true rfl) rfl ⟨Nat.le_of_ble_eq_true rfl, Nat.le_of_ble_eq_true rfl⟩ (fun r wa wb hp => ?_)
      obtain ⟨⟨rfl, rfl⟩, rfl⟩ := hp
      show V x G _ _ _ _ _ _ [_, _, _, _, _, _, _]
      rw [rN_upd]
      refine k_iconst Ox (v := nI 0) dX1_lay_46 rfl ?_
      refine k_istore Ox [(5, _), (0, _), (1, _), (2, _), (3, _), (4, _)] dX1_lay_47 (by decide) rfl ?_
      have L49 : ∀ (fuel : Nat) (e : Nat) (K1 : Nat → Nat) (B1 : Nat → Nat → Nat), e ≤ 6 → 7 ≤ e + fuel → (∀ a, K1 a = if a < e then setb (K a) p false else K a) → (∀ a q, B1 a q = if q = p ∧ a < e then 0 else B a q) → V x G 6 0 0 49 [(0, .ref d), (1, .int (nI p)), (2, .int (nI i)), (3, .int (nI j)), (4, .int (nI w)), (5, .int (nI e))] [] [(d, cO 1 [.ref ls, .ref gs, .ref ly, .ref hs, .ref tr, .ref kn, .ref sp, .ref sl, .ref be, .int (nI fd), .int (nI sg)]), (ls, cI G 6 (rN (va_up L p v))), (gs, cI G 6 (rN (va_up Gr p u))), (ly, cI G 6 (rN (va_up O p w))), (kn, cI G 6 (rN K1)), (be, cO 0 [.ref bd]), (bd, cI G 36 (rN (flC B1)))] := by
        intro fuel
        induction fuel with
        | zero => intro e K1 B1 he hfuel h1 h2; exact absurd he (by omega)
        | succ fuel ih =>
          intro e K1 B1 he hfuel h1 h2
          refine k_iload Ox dX1_lay_49 5 rfl ?_
          refine k_bipush Ox (v := nI 6) dX1_lay_51 rfl ?_
          refine k_icmp_geN Ox 84 dX1_lay_53 rfl (by omega) (by omega) (fun c_53 => ?_) (fun c_53 => ?_)
          · subst hv
            subst hu
            refine k_cell 4 (rN (clrK K p)) rfl (fun z hz => congrArg nI (by rw [h1 z, if_pos (by omega)]; rfl)) [_, _, _, _, _, _, _] rfl ?_
            refine k_cell 6 (rN (flC (wipeB B p))) rfl (fun z hz => congrArg nI (lay_W h2 (by omega) hz)) [_, _, _, _, _, _, _] rfl ?_
            refine k_vret0 Ox Rt dX1_lay_84 (Nat.le_of_ble_eq_true rfl) (Nat.le_of_ble_eq_true rfl) rfl ?_
            exact ⟨⟨rfl, rfl⟩, rfl⟩
          · refine k_aload_n Ox dX1_lay_56 rfl 0 rfl ?_
            refine k_get Ox 0 rfl rfl hin_X1_lay_X1 8 rfl lk_X1_lay_f39 rfl rfl dX1_lay_57 ?_
            refine k_iload_n Ox dX1_lay_60 rfl 1 rfl ?_
            refine k_iload Ox dX1_lay_61 5 rfl ?_
            refine k_iconst Ox (v := nI 0) dX1_lay_63 rfl ?_
            refine k_callV Ox [5, 6] (c_X0_set G _ _ _ _ _ _ (by omega) (by omega)) 3 rfl rfl rfl ⟨rfl, rfl⟩ rfl rfl gX1_lay_X0_set rfl 5 rfl ⟨rfl, (by decide +kernel), (by decide +kernel), (by decide +kernel)⟩ rfl dX1_lay_64 (Nat.le_of_ble_eq_true rfl) rfl ⟨Nat.le_of_ble_eq_true rfl, Nat.le_of_ble_eq_true rfl⟩ (fun r wa wb hp => ?_)
            obtain ⟨⟨rfl, rfl⟩, rfl⟩ := hp
            show V x G _ _ _ _ _ _ [_, _, _, _, _, _, _]
            refine k_aload_n Ox dX1_lay_67 rfl 0 rfl ?_
            refine k_get Ox 0 rfl rfl hin_X1_lay_X1 5 rfl lk_X1_lay_f27 rfl rfl dX1_lay_68 ?_
            refine k_iload Ox dX1_lay_71 5 rfl ?_
            refine k_iload_n Ox dX1_lay_73 rfl 1 rfl ?_
            refine k_iconst Ox (v := nI 0) dX1_lay_74 rfl ?_
            refine k_callSN Ox [4] (c_X4_putBit G _ _ _ _ _ false (by omega) (by decide) (by rw [h1 e, if_neg (by omega)]; exact hK e (by omega)) (hp)) 4 rfl rfl rfl ⟨rfl, rfl⟩ rfl rfl gX1_lay_X4_putBit_n59 (by decide +kernel) lk_X1_lay_sX4_putBit lk_X1_lay_tX4 ⟨(by decide +kernel), (by decide +kernel), (by decide +kernel)⟩ rfl dX1_lay_75 (Nat.le_of_ble_eq_true rfl) rfl ⟨Nat.le_of_ble_eq_true rfl, Nat.le_of_ble_eq_true rfl⟩ (fun r wa wb hp => ?_)
            obtain ⟨⟨rfl, rfl⟩, rfl⟩ := hp
            show V x G _ _ _ _ _ _ [_, _, _, _, _, _, _]
            refine k_iincN Ox (k := 5) (m := 1) [(5, _), (0, _), (1, _), (2, _), (3, _), (4, _)] dX1_lay_78 rfl rfl (by decide) rfl ?_
            refine k_goto Ox 49 dX1_lay_81 rfl ?_
            refine k_sub [1, 2, 3, 4, 5, 0] [(0, _), (1, _), (2, _), (3, _), (4, _), (5, _)] rfl ?_
            exact ih (e + 1) _ _ (by omega) (by omega) (lay_K h1) (lay_B h2)
      refine k_sub [1, 2, 3, 4, 5, 0] [(0, _), (1, _), (2, _), (3, _), (4, _), (5, _)] rfl ?_
      exact L49 7 0 K B (by omega) (by omega) (fun a => by rw [if_neg (by omega)]) (fun a q => by rw [if_neg (by omega)])
    refine k_aload_n Ox dX1_lay_18 rfl 0 rfl ?_
    refine k_get Ox 0 rfl rfl hin_X1_lay_X1 1 rfl lk_X1_lay_f15 rfl rfl dX1_lay_19 ?_
    refine k_iload_n Ox dX1_lay_22 rfl 1 rfl ?_
    refine k_iload_n Ox dX1_lay_23 rfl 2 rfl ?_
    refine k_iload_n Ox dX1_lay_24 rfl 3 rfl ?_
    refine k_icmp_geN Ox 32 dX1_lay_25 rfl (by omega) (by omega) (fun c_25 => ?_) (fun c_25 => ?_)
    · refine k_iload_n Ox dX1_lay_32 rfl 2 rfl ?_
      exact L33 _ (by split <;> omega)
    · refine k_iload_n Ox dX1_lay_28 rfl 3 rfl ?_
      refine k_goto Ox 33 dX1_lay_29 rfl ?_
      exact L33 _ (by split <;> omega)
  refine k_aload_n Ox dX1_lay_0 rfl 0 rfl ?_
  refine k_get Ox 0 rfl rfl hin_X1_lay_X1 0 rfl lk_X1_lay_f9 rfl rfl dX1_lay_1 ?_
  refine k_iload_n Ox dX1_lay_4 rfl 1 rfl ?_
  refine k_iload_n Ox dX1_lay_5 rfl 2 rfl ?_
  refine k_iload_n Ox dX1_lay_6 rfl 3 rfl ?_
  refine k_icmp_geN Ox 14 dX1_lay_7 rfl (by omega) (by omega) (fun c_7 => ?_) (fun c_7 => ?_)
  · refine k_iload_n Ox dX1_lay_14 rfl 3 rfl ?_
    exact L15 _ (by split <;> omega)
  · refine k_iload_n Ox dX1_lay_10 rfl 2 rfl ?_
    refine k_goto Ox 15 dX1_lay_11 rfl ?_
    exact L15 _ (by split <;> omega)
theorem lk_X1_become_f9 : Cond.fieldLink RX1 9 "LieBridges$Delta" "lessers" "[I" ∈ wsX1_become := List.mem_of_getElem? (i := 1) rfl
theorem hin_X1_become_X1 : ∀ w ∈ u_ws RX1 TX1 11, w ∈ wsX1_become := fun _ h => List.mem_cons_of_mem _ (List.mem_append_left _ (List.mem_append_right _ h))
theorem lk_X1_become_sX4_copy : Cond.static yX4_copy ∈ wsX1_become := List.mem_of_getElem? (i := 12) rfl
theorem lk_X1_become_tX4 : Cond.initialized RX4 ∈ wsX1_become := List.mem_of_getElem? (i := 13) rfl
theorem lk_X1_become_f15 : Cond.fieldLink RX1 15 "LieBridges$Delta" "greaters" "[I" ∈ wsX1_become := List.mem_of_getElem? (i := 2) rfl
theorem lk_X1_become_f18 : Cond.fieldLink RX1 18 "LieBridges$Delta" "layers" "[I" ∈ wsX1_become := List.mem_of_getElem? (i := 3) rfl
theorem lk_X1_become_f21 : Cond.fieldLink RX1 21 "LieBridges$Delta" "holds" "[I" ∈ wsX1_become := List.mem_of_getElem? (i := 4) rfl
theorem lk_X1_become_f24 : Cond.fieldLink RX1 24 "LieBridges$Delta" "trusted" "[I" ∈ wsX1_become := List.mem_of_getElem? (i := 5) rfl
theorem lk_X1_become_f27 : Cond.fieldLink RX1 27 "LieBridges$Delta" "known" "[I" ∈ wsX1_become := List.mem_of_getElem? (i := 6) rfl
theorem lk_X1_become_f30 : Cond.fieldLink RX1 30 "LieBridges$Delta" "sightPlanks" "[I" ∈ wsX1_become := List.mem_of_getElem? (i := 7) rfl
theorem lk_X1_become_f33 : Cond.fieldLink RX1 33 "LieBridges$Delta" "sightLoads" "[I" ∈ wsX1_become := List.mem_of_getElem? (i := 8) rfl
theorem lk_X1_become_f39 : Cond.fieldLink RX1 39 "LieBridges$Delta" "beliefs" "LLieBridges$Beliefs;" ∈ wsX1_become := List.mem_of_getElem? (i := 9) rfl
theorem lk_X1_become_f43 : Cond.fieldLink RX1 43 "LieBridges$Delta" "fadeDays" "I" ∈ wsX1_become := List.mem_of_getElem? (i := 10) rfl
theorem lk_X1_become_f91 : Cond.fieldLink RX1 91 "LieBridges$Delta" "sights" "I" ∈ wsX1_become := List.mem_of_getElem? (i := 11) rfl
set_option maxHeartbeats 400000 in
set_option maxRecDepth 4000 in
theorem c_X1_become (G : Gx) (d ls gs ly hs tr kn sp sl be bd : Nat) (d2 ls2 gs2 ly2 hs2 tr2 kn2 sp2 sl2 be2 bd2 : Nat) (L Gr O S T K SP SL : Nat → Nat) (B : Nat → Nat → Nat) (fd sg : Nat) (f1 f2 f3 f4 f5 f6 f7 f8 f9 : Nat → Int32) (fd0 sg0 : Int32) : Ct G yX1_become wsX1_become { frames := 3, cells := 0, slots := 0, locals := 64 } [.ref d, .ref d2] [(d, cO 1 [.ref ls, .ref gs, .ref ly, .ref hs, .ref tr, .ref kn, .ref sp, .ref sl, .ref be, .int fd0, .int sg0]), (ls, cI G 6 f1), (gs, cI G 6 f2), (ly, cI G 6 f3), (hs, cI G 6 f4), (tr, cI G 6 f5), (kn, cI G 6 f6), (sp, cI G 6 f7), (sl, cI G 6 f8), (be, cO 0 [.ref bd]), (bd, cI G 36 f9), (d2, cO 1 [.ref ls2, .ref gs2, .ref ly2, .ref hs2, .ref tr2, .ref kn2, .ref sp2, .ref sl2, .ref be2, .int (nI fd), .int (nI sg)]), (ls2, cI G 6 (rN L)), (gs2, cI G 6 (rN Gr)), (ly2, cI G 6 (rN O)), (hs2, cI G 6 (rN S)), (tr2, cI G 6 (rN T)), (kn2, cI G 6 (rN K)), (sp2, cI G 6 (rN SP)), (sl2, cI G 6 (rN SL)), (be2, cO 0 [.ref bd2]), (bd2, cI G 36 (rN (flC B)))] (fun r wa => r = none ∧ wa = [(d, cO 1 [.ref ls, .ref gs, .ref ly, .ref hs, .ref tr, .ref kn, .ref sp, .ref sl, .ref be, .int (nI fd), .int (nI sg)]), (ls, cI G 6 (rN L)), (gs, cI G 6 (rN Gr)), (ly, cI G 6 (rN O)), (hs, cI G 6 (rN S)), (tr, cI G 6 (rN T)), (kn, cI G 6 (rN K)), (sp, cI G 6 (rN SP)), (sl, cI G 6 (rN SL)), (be, cO 0 [.ref bd]), (bd, cI G 36 (rN (flC B))), (d2, cO 1 [.ref ls2, .ref gs2, .ref ly2, .ref hs2, .ref tr2, .ref kn2, .ref sp2, .ref sl2, .ref be2, .int (nI fd), .int (nI sg)]), (ls2, cI G 6 (rN L)), (gs2, cI G 6 (rN Gr)), (ly2, cI G 6 (rN O)), (hs2, cI G 6 (rN S)), (tr2, cI G 6 (rN T)), (kn2, cI G 6 (rN K)), (sp2, cI G 6 (rN SP)), (sl2, cI G 6 (rN SL)), (be2, cO 0 [.ref bd2]), (bd2, cI G 36 (rN (flC B)))]) := by
  refine CtN.of [(0, .ref d), (1, .ref d2)] (by decide +kernel) rfl rfl rfl rfl ?_
  intro x Ox Rt
  refine k_aload_n Ox dX1_become_0 rfl 1 rfl ?_
  refine k_get Ox 11 rfl rfl hin_X1_become_X1 0 rfl lk_X1_become_f9 rfl rfl dX1_become_1 ?_
  refine k_aload_n Ox dX1_become_4 rfl 0 rfl ?_
  refine k_get Ox 0 rfl rfl hin_X1_become_X1 0 rfl lk_X1_become_f9 rfl rfl dX1_become_5 ?_
  refine k_callSN Ox [12, 1] (c_X4_copy G _ _ _ _ _ (by decide)) 2 rfl rfl rfl ⟨rfl, rfl⟩ rfl rfl gX1_become_X4_copy_n83 (by decide +kernel) lk_X1_become_sX4_copy lk_X1_become_tX4 ⟨(by decide +kernel), (by decide +kernel), (by decide +kernel)⟩ rfl dX1_become_8 (Nat.le_of_ble_eq_true rfl) rfl ⟨Nat.le_of_ble_eq_true rfl, Nat.le_of_ble_eq_true rfl⟩ (fun r wa wb hp => ?_)
  obtain ⟨⟨rfl, rfl⟩, rfl⟩ := hp
  show V x G _ _ _ _ _ _ [_, _, _, _, _, _, _, _, _, _, _, _, _, _, _, _, _, _, _, _, _, _]
  refine k_aload_n Ox dX1_become_11 rfl 1 rfl ?_
  refine k_get Ox 11 rfl rfl hin_X1_become_X1 1 rfl lk_X1_become_f15 rfl rfl dX1_become_12 ?_
  refine k_aload_n Ox dX1_become_15 rfl 0 rfl ?_
  refine k_get Ox 0 rfl rfl hin_X1_become_X1 1 rfl lk_X1_become_f15 rfl rfl dX1_become_16 ?_
  refine k_callSN Ox [13, 2] (c_X4_copy G _ _ _ _ _ (by decide)) 2 rfl rfl rfl ⟨rfl, rfl⟩ rfl rfl gX1_become_X4_copy_n83 (by decide +kernel) lk_X1_become_sX4_copy lk_X1_become_tX4 ⟨(by decide +kernel), (by decide +kernel), (by decide +kernel)⟩ rfl dX1_become_19 (Nat.le_of_ble_eq_true rfl) rfl ⟨Nat.le_of_ble_eq_true rfl, Nat.le_of_ble_eq_true rfl⟩ (fun r wa wb hp => ?_)
  obtain ⟨⟨rfl, rfl⟩, rfl⟩ := hp
  show V x G _ _ _ _ _ _ [_, _, _, _, _, _, _, _, _, _, _, _, _, _, _, _, _, _, _, _, _, _]
  refine k_aload_n Ox dX1_become_22 rfl 1 rfl ?_
  refine k_get Ox 11 rfl rfl hin_X1_become_X1 2 rfl lk_X1_become_f18 rfl rfl dX1_become_23 ?_
  refine k_aload_n Ox dX1_become_26 rfl 0 rfl ?_
  refine k_get Ox 0 rfl rfl hin_X1_become_X1 2 rfl lk_X1_become_f18 rfl rfl dX1_become_27 ?_
  refine k_callSN Ox [14, 3] (c_X4_copy G _ _ _ _ _ (by decide)) 2 rfl rfl rfl ⟨rfl, rfl⟩ rfl rfl gX1_become_X4_copy_n83 (by decide +kernel) lk_X1_become_sX4_copy lk_X1_become_tX4 ⟨(by decide +kernel), (by decide +kernel), (by decide +kernel)⟩ rfl dX1_become_30 (Nat.le_of_ble_eq_true rfl) rfl ⟨Nat.le_of_ble_eq_true rfl, Nat.le_of_ble_eq_true rfl⟩ (fun r wa wb hp => ?_)
  obtain ⟨⟨rfl, rfl⟩, rfl⟩ := hp
  show V x G _ _ _ _ _ _ [_, _, _, _, _, _, _, _, _, _, _, _, _, _, _, _, _, _, _, _, _, _]
  refine k_aload_n Ox dX1_become_33 rfl 1 rfl ?_
  refine k_get Ox 11 rfl rfl hin_X1_become_X1 3 rfl lk_X1_become_f21 rfl rfl dX1_become_34 ?_
  refine k_aload_n Ox dX1_become_37 rfl 0 rfl ?_
  refine k_get Ox 0 rfl rfl hin_X1_become_X1 3 rfl lk_X1_become_f21 rfl rfl dX1_become_38 ?_
  refine k_callSN Ox [15, 4] (c_X4_copy G _ _ _ _ _ (by decide)) 2 rfl rfl rfl ⟨rfl, rfl⟩ rfl rfl gX1_become_X4_copy_n83 (by decide +kernel) lk_X1_become_sX4_copy lk_X1_become_tX4 ⟨(by decide +kernel), (by decide +kernel), (by decide +kernel)⟩ rfl dX1_become_41 (Nat.le_of_ble_eq_true rfl) rfl ⟨Nat.le_of_ble_eq_true rfl, Nat.le_of_ble_eq_true rfl⟩ (fun r wa wb hp => ?_)
  obtain ⟨⟨rfl, rfl⟩, rfl⟩ := hp
  show V x G _ _ _ _ _ _ [_, _, _, _, _, _, _, _, _, _, _, _, _, _, _, _, _, _, _, _, _, _]
  refine k_aload_n Ox dX1_become_44 rfl 1 rfl ?_
  refine k_get Ox 11 rfl rfl hin_X1_become_X1 4 rfl lk_X1_become_f24 rfl rfl dX1_become_45 ?_
  refine k_aload_n Ox dX1_become_48 rfl 0 rfl ?_
  refine k_get Ox 0 rfl rfl hin_X1_become_X1 4 rfl lk_X1_become_f24 rfl rfl dX1_become_49 ?_
  refine k_callSN Ox [16, 5] (c_X4_copy G _ _ _ _ _ (by decide)) 2 rfl rfl rfl ⟨rfl, rfl⟩ rfl rfl gX1_become_X4_copy_n83 (by decide +kernel) lk_X1_become_sX4_copy lk_X1_become_tX4 ⟨(by decide +kernel), (by decide +kernel), (by decide +kernel)⟩ rfl dX1_become_52 (Nat.le_of_ble_eq_true rfl) rfl ⟨Nat.le_of_ble_eq_true rfl, Nat.le_of_ble_eq_true rfl⟩ (fun r wa wb hp => ?_)
  obtain ⟨⟨rfl, rfl⟩, rfl⟩ := hp
  show V x G _ _ _ _ _ _ [_, _, _, _, _, _, _, _, _, _, _, _, _, _, _, _, _, _, _, _, _, _]
  refine k_aload_n Ox dX1_become_55 rfl 1 rfl ?_
  refine k_get Ox 11 rfl rfl hin_X1_become_X1 5 rfl lk_X1_become_f27 rfl rfl dX1_become_56 ?_
  refine k_aload_n Ox dX1_become_59 rfl 0 rfl ?_
  refine k_get Ox 0 rfl rfl hin_X1_become_X1 5 rfl lk_X1_become_f27 rfl rfl dX1_become_60 ?_
  refine k_callSN Ox [17, 6] (c_X4_copy G _ _ _ _ _ (by decide)) 2 rfl rfl rfl ⟨rfl, rfl⟩ rfl rfl gX1_become_X4_copy_n83 (by decide +kernel) lk_X1_become_sX4_copy lk_X1_become_tX4 ⟨(by decide +kernel), (by decide +kernel), (by decide +kernel)⟩ rfl dX1_become_63 (Nat.le_of_ble_eq_true rfl) rfl ⟨Nat.le_of_ble_eq_true rfl, Nat.le_of_ble_eq_true rfl⟩ (fun r wa wb hp => ?_)
  obtain ⟨⟨rfl, rfl⟩, rfl⟩ := hp
  show V x G _ _ _ _ _ _ [_, _, _, _, _, _, _, _, _, _, _, _, _, _, _, _, _, _, _, _, _, _]
  refine k_aload_n Ox dX1_become_66 rfl 1 rfl ?_
  refine k_get Ox 11 rfl rfl hin_X1_become_X1 6 rfl lk_X1_become_f30 rfl rfl dX1_become_67 ?_
  refine k_aload_n Ox dX1_become_70 rfl 0 rfl ?_
  refine k_get Ox 0 rfl rfl hin_X1_become_X1 6 rfl lk_X1_become_f30 rfl rfl dX1_become_71 ?_
  refine k_callSN Ox [18, 7] (c_X4_copy G _ _ _ _ _ (by decide)) 2 rfl rfl rfl ⟨rfl, rfl⟩ rfl rfl gX1_become_X4_copy_n83 (by decide +kernel) lk_X1_become_sX4_copy lk_X1_become_tX4 ⟨(by decide +kernel), (by decide +kernel), (by decide +kernel)⟩ rfl dX1_become_74 (Nat.le_of_ble_eq_true rfl) rfl ⟨Nat.le_of_ble_eq_true rfl, Nat.le_of_ble_eq_true rfl⟩ (fun r wa wb hp => ?_)
  obtain ⟨⟨rfl, rfl⟩, rfl⟩ := hp
  show V x G _ _ _ _ _ _ [_, _, _, _, _, _, _, _, _, _, _, _, _, _, _, _, _, _, _, _, _, _]
  refine k_aload_n Ox dX1_become_77 rfl 1 rfl ?_
  refine k_get Ox 11 rfl rfl hin_X1_become_X1 7 rfl lk_X1_become_f33 rfl rfl dX1_become_78 ?_
  refine k_aload_n Ox dX1_become_81 rfl 0 rfl ?_
  refine k_get Ox 0 rfl rfl hin_X1_become_X1 7 rfl lk_X1_become_f33 rfl rfl dX1_become_82 ?_
  refine k_callSN Ox [19, 8] (c_X4_copy G _ _ _ _ _ (by decide)) 2 rfl rfl rfl ⟨rfl, rfl⟩ rfl rfl gX1_become_X4_copy_n83 (by decide +kernel) lk_X1_become_sX4_copy lk_X1_become_tX4 ⟨(by decide +kernel), (by decide +kernel), (by decide +kernel)⟩ rfl dX1_become_85 (Nat.le_of_ble_eq_true rfl) rfl ⟨Nat.le_of_ble_eq_true rfl, Nat.le_of_ble_eq_true rfl⟩ (fun r wa wb hp => ?_)
  obtain ⟨⟨rfl, rfl⟩, rfl⟩ := hp
  show V x G _ _ _ _ _ _ [_, _, _, _, _, _, _, _, _, _, _, _, _, _, _, _, _, _, _, _, _, _]
  refine k_aload_n Ox dX1_become_88 rfl 0 rfl ?_
  refine k_get Ox 0 rfl rfl hin_X1_become_X1 8 rfl lk_X1_become_f39 rfl rfl dX1_become_89 ?_
  refine k_aload_n Ox dX1_become_92 rfl 1 rfl ?_
  refine k_get Ox 11 rfl rfl hin_X1_become_X1 8 rfl lk_X1_become_f39 rfl rfl dX1_become_93 ?_
  refine k_callV Ox [9, 10, 20, 21] (c_X0_become G _ _ _ _ _ _ ) 1 rfl rfl rfl ⟨rfl, rfl⟩ rfl rfl gX1_become_X0_become rfl 9 rfl ⟨rfl, (by decide +kernel), (by decide +kernel), (by decide +kernel)⟩ rfl dX1_become_96 (Nat.le_of_ble_eq_true rfl) rfl ⟨Nat.le_of_ble_eq_true rfl, Nat.le_of_ble_eq_true rfl⟩ (fun r wa wb hp => ?_)
  obtain ⟨⟨rfl, rfl⟩, rfl⟩ := hp
  show V x G _ _ _ _ _ _ [_, _, _, _, _, _, _, _, _, _, _, _, _, _, _, _, _, _, _, _, _, _]
  refine k_aload_n Ox dX1_become_99 rfl 0 rfl ?_
  refine k_aload_n Ox dX1_become_100 rfl 1 rfl ?_
  refine k_get Ox 11 rfl rfl hin_X1_become_X1 9 rfl lk_X1_become_f43 rfl rfl dX1_become_101 ?_
  refine k_put Ox 0 rfl rfl hin_X1_become_X1 9 rfl lk_X1_become_f43 rfl tyX1 tyX1_ok nmX1 rfl  rfl rfl rfl [_, _, _, _, _, _, _, _, _, _, _] rfl [_, _, _, _, _, _, _, _, _, _, _, _, _, _, _, _, _, _, _, _, _, _] rfl dX1_become_104 ?_
  refine k_aload_n Ox dX1_become_107 rfl 0 rfl ?_
  refine k_aload_n Ox dX1_become_108 rfl 1 rfl ?_
  refine k_get Ox 11 rfl rfl hin_X1_become_X1 10 rfl lk_X1_become_f91 rfl rfl dX1_become_109 ?_
  refine k_put Ox 0 rfl rfl hin_X1_become_X1 10 rfl lk_X1_become_f91 rfl tyX1 tyX1_ok nmX1 rfl  rfl rfl rfl [_, _, _, _, _, _, _, _, _, _, _] rfl [_, _, _, _, _, _, _, _, _, _, _, _, _, _, _, _, _, _, _, _, _, _] rfl dX1_become_112 ?_
  refine k_vret0 Ox Rt dX1_become_115 (Nat.le_of_ble_eq_true rfl) (Nat.le_of_ble_eq_true rfl) rfl ?_
  exact ⟨⟨rfl, rfl⟩, rfl⟩
